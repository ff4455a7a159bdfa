theorem dX3_init_0 : decode cX3_init 0 = .ok (.aload_n 0, 1) := by decide +kernel
theorem dX3_init_1 : decode cX3_init 1 = .ok (.invokespecial 1, 3) := by decide +kernel
theorem dX3_init_4 : decode cX3_init 4 = .ok (.aload_n 0, 1) := by decide +kernel
theorem dX3_init_5 : decode cX3_init 5 = .ok (.new 7, 3) := by decide +kernel
theorem dX3_init_8 : decode cX3_init 8 = .ok (.dup, 1) := by decide +kernel
theorem dX3_init_9 : decode cX3_init 9 = .ok (.invokespecial 9, 3) := by decide +kernel
theorem dX3_init_12 : decode cX3_init 12 = .ok (.putfield 10, 3) := by decide +kernel
theorem dX3_init_15 : decode cX3_init 15 = .ok (.aload_n 0, 1) := by decide +kernel
theorem dX3_init_16 : decode cX3_init 16 = .ok (.bipush 6, 2) := by decide +kernel
theorem dX3_init_18 : decode cX3_init 18 = .ok (.anewarray 7, 3) := by decide +kernel
theorem dX3_init_21 : decode cX3_init 21 = .ok (.putfield 16, 3) := by decide +kernel
theorem dX3_init_24 : decode cX3_init 24 = .ok (.iconst 0, 1) := by decide +kernel
theorem dX3_init_25 : decode cX3_init 25 = .ok (.istore_n 1, 1) := by decide +kernel
theorem dX3_init_26 : decode cX3_init 26 = .ok (.iload_n 1, 1) := by decide +kernel
theorem dX3_init_27 : decode cX3_init 27 = .ok (.aload_n 0, 1) := by decide +kernel
theorem dX3_init_28 : decode cX3_init 28 = .ok (.getfield 16, 3) := by decide +kernel
theorem dX3_init_31 : decode cX3_init 31 = .ok (.arraylength, 1) := by decide +kernel
theorem dX3_init_32 : decode cX3_init 32 = .ok (.if_icmp .ge 22, 3) := by decide +kernel
theorem dX3_init_35 : decode cX3_init 35 = .ok (.aload_n 0, 1) := by decide +kernel
theorem dX3_init_36 : decode cX3_init 36 = .ok (.getfield 16, 3) := by decide +kernel
theorem dX3_init_39 : decode cX3_init 39 = .ok (.iload_n 1, 1) := by decide +kernel
theorem dX3_init_40 : decode cX3_init 40 = .ok (.new 7, 3) := by decide +kernel
theorem dX3_init_43 : decode cX3_init 43 = .ok (.dup, 1) := by decide +kernel
theorem dX3_init_44 : decode cX3_init 44 = .ok (.invokespecial 9, 3) := by decide +kernel
theorem dX3_init_47 : decode cX3_init 47 = .ok (.aastore, 1) := by decide +kernel
theorem dX3_init_48 : decode cX3_init 48 = .ok (.iinc 1 1, 3) := by decide +kernel
theorem dX3_init_51 : decode cX3_init 51 = .ok (.goto (-25), 3) := by decide +kernel
theorem dX3_init_54 : decode cX3_init 54 = .ok (.aload_n 0, 1) := by decide +kernel
theorem dX3_init_55 : decode cX3_init 55 = .ok (.iconst 0, 1) := by decide +kernel
theorem dX3_init_56 : decode cX3_init 56 = .ok (.putfield 20, 3) := by decide +kernel
theorem dX3_init_59 : decode cX3_init 59 = .ok (.aload_n 0, 1) := by decide +kernel
theorem dX3_init_60 : decode cX3_init 60 = .ok (.iconst 3, 1) := by decide +kernel
theorem dX3_init_61 : decode cX3_init 61 = .ok (.newarray .int, 2) := by decide +kernel
theorem dX3_init_63 : decode cX3_init 63 = .ok (.putfield 24, 3) := by decide +kernel
theorem dX3_init_66 : decode cX3_init 66 = .ok (.aload_n 0, 1) := by decide +kernel
theorem dX3_init_67 : decode cX3_init 67 = .ok (.new 28, 3) := by decide +kernel
theorem dX3_init_70 : decode cX3_init 70 = .ok (.dup, 1) := by decide +kernel
theorem dX3_init_71 : decode cX3_init 71 = .ok (.invokespecial 30, 3) := by decide +kernel
theorem dX3_init_74 : decode cX3_init 74 = .ok (.putfield 31, 3) := by decide +kernel
theorem dX3_init_77 : decode cX3_init 77 = .ok (.aload_n 0, 1) := by decide +kernel
theorem dX3_init_78 : decode cX3_init 78 = .ok (.new 35, 3) := by decide +kernel
theorem dX3_init_81 : decode cX3_init 81 = .ok (.dup, 1) := by decide +kernel
theorem dX3_init_82 : decode cX3_init 82 = .ok (.invokespecial 37, 3) := by decide +kernel
theorem dX3_init_85 : decode cX3_init 85 = .ok (.putfield 38, 3) := by decide +kernel
theorem dX3_init_88 : decode cX3_init 88 = .ok (.return_, 1) := by decide +kernel
theorem dX3_colour_0 : decode cX3_colour 0 = .ok (.aload_n 0, 1) := by decide +kernel
theorem dX3_colour_1 : decode cX3_colour 1 = .ok (.iload_n 1, 1) := by decide +kernel
theorem dX3_colour_2 : decode cX3_colour 2 = .ok (.iload_n 2, 1) := by decide +kernel
theorem dX3_colour_3 : decode cX3_colour 3 = .ok (.iload_n 3, 1) := by decide +kernel
theorem dX3_colour_4 : decode cX3_colour 4 = .ok (.invokevirtual 42, 3) := by decide +kernel
theorem dX3_colour_7 : decode cX3_colour 7 = .ok (.istore 4, 2) := by decide +kernel
theorem dX3_colour_9 : decode cX3_colour 9 = .ok (.iload 4, 2) := by decide +kernel
theorem dX3_colour_11 : decode cX3_colour 11 = .ok (.ifCond .eq 10, 3) := by decide +kernel
theorem dX3_colour_14 : decode cX3_colour 14 = .ok (.aload_n 0, 1) := by decide +kernel
theorem dX3_colour_15 : decode cX3_colour 15 = .ok (.iload 4, 2) := by decide +kernel
theorem dX3_colour_17 : decode cX3_colour 17 = .ok (.invokevirtual 46, 3) := by decide +kernel
theorem dX3_colour_20 : decode cX3_colour 20 = .ok (.ireturn, 1) := by decide +kernel
theorem dX3_colour_21 : decode cX3_colour 21 = .ok (.aload_n 0, 1) := by decide +kernel
theorem dX3_colour_22 : decode cX3_colour 22 = .ok (.invokevirtual 50, 3) := by decide +kernel
theorem dX3_colour_25 : decode cX3_colour 25 = .ok (.aload_n 0, 1) := by decide +kernel
theorem dX3_colour_26 : decode cX3_colour 26 = .ok (.getfield 10, 3) := by decide +kernel
theorem dX3_colour_29 : decode cX3_colour 29 = .ok (.iload_n 1, 1) := by decide +kernel
theorem dX3_colour_30 : decode cX3_colour 30 = .ok (.iload_n 2, 1) := by decide +kernel
theorem dX3_colour_31 : decode cX3_colour 31 = .ok (.iload_n 3, 1) := by decide +kernel
theorem dX3_colour_32 : decode cX3_colour 32 = .ok (.invokevirtual 53, 3) := by decide +kernel
theorem dX3_colour_35 : decode cX3_colour 35 = .ok (.ireturn, 1) := by decide +kernel
theorem dX3_paints_0 : decode cX3_paints 0 = .ok (.aload_n 0, 1) := by decide +kernel
theorem dX3_paints_1 : decode cX3_paints 1 = .ok (.iload_n 1, 1) := by decide +kernel
theorem dX3_paints_2 : decode cX3_paints 2 = .ok (.invokevirtual 56, 3) := by decide +kernel
theorem dX3_paints_5 : decode cX3_paints 5 = .ok (.ifCond .eq 13, 3) := by decide +kernel
theorem dX3_paints_8 : decode cX3_paints 8 = .ok (.iload_n 2, 1) := by decide +kernel
theorem dX3_paints_9 : decode cX3_paints 9 = .ok (.iload_n 3, 1) := by decide +kernel
theorem dX3_paints_10 : decode cX3_paints 10 = .ok (.iload 4, 2) := by decide +kernel
theorem dX3_paints_12 : decode cX3_paints 12 = .ok (.invokestatic 60, 3) := by decide +kernel
theorem dX3_paints_15 : decode cX3_paints 15 = .ok (.ifCond .ne 10, 3) := by decide +kernel
theorem dX3_paints_18 : decode cX3_paints 18 = .ok (.aload_n 0, 1) := by decide +kernel
theorem dX3_paints_19 : decode cX3_paints 19 = .ok (.bipush (-2), 2) := by decide +kernel
theorem dX3_paints_21 : decode cX3_paints 21 = .ok (.invokevirtual 46, 3) := by decide +kernel
theorem dX3_paints_24 : decode cX3_paints 24 = .ok (.ireturn, 1) := by decide +kernel
theorem dX3_paints_25 : decode cX3_paints 25 = .ok (.aload_n 0, 1) := by decide +kernel
theorem dX3_paints_26 : decode cX3_paints 26 = .ok (.invokevirtual 50, 3) := by decide +kernel
theorem dX3_paints_29 : decode cX3_paints 29 = .ok (.aload_n 0, 1) := by decide +kernel
theorem dX3_paints_30 : decode cX3_paints 30 = .ok (.getfield 10, 3) := by decide +kernel
theorem dX3_paints_33 : decode cX3_paints 33 = .ok (.getfield 64, 3) := by decide +kernel
theorem dX3_paints_36 : decode cX3_paints 36 = .ok (.iconst 3, 1) := by decide +kernel
theorem dX3_paints_37 : decode cX3_paints 37 = .ok (.iload_n 1, 1) := by decide +kernel
theorem dX3_paints_38 : decode cX3_paints 38 = .ok (.imul, 1) := by decide +kernel
theorem dX3_paints_39 : decode cX3_paints 39 = .ok (.iload_n 2, 1) := by decide +kernel
theorem dX3_paints_40 : decode cX3_paints 40 = .ok (.iload_n 3, 1) := by decide +kernel
theorem dX3_paints_41 : decode cX3_paints 41 = .ok (.iload 4, 2) := by decide +kernel
theorem dX3_paints_43 : decode cX3_paints 43 = .ok (.invokestatic 67, 3) := by decide +kernel
theorem dX3_paints_46 : decode cX3_paints 46 = .ok (.ireturn, 1) := by decide +kernel
theorem dX3_ground_0 : decode cX3_ground 0 = .ok (.iload_n 1, 1) := by decide +kernel
theorem dX3_ground_1 : decode cX3_ground 1 = .ok (.iload_n 2, 1) := by decide +kernel
theorem dX3_ground_2 : decode cX3_ground 2 = .ok (.iload_n 3, 1) := by decide +kernel
theorem dX3_ground_3 : decode cX3_ground 3 = .ok (.invokestatic 60, 3) := by decide +kernel
theorem dX3_ground_6 : decode cX3_ground 6 = .ok (.ifCond .ne 10, 3) := by decide +kernel
theorem dX3_ground_9 : decode cX3_ground 9 = .ok (.aload_n 0, 1) := by decide +kernel
theorem dX3_ground_10 : decode cX3_ground 10 = .ok (.bipush (-2), 2) := by decide +kernel
theorem dX3_ground_12 : decode cX3_ground 12 = .ok (.invokevirtual 46, 3) := by decide +kernel
theorem dX3_ground_15 : decode cX3_ground 15 = .ok (.ireturn, 1) := by decide +kernel
theorem dX3_ground_16 : decode cX3_ground 16 = .ok (.aload_n 0, 1) := by decide +kernel
theorem dX3_ground_17 : decode cX3_ground 17 = .ok (.invokevirtual 50, 3) := by decide +kernel
theorem dX3_ground_20 : decode cX3_ground 20 = .ok (.aload_n 0, 1) := by decide +kernel
theorem dX3_ground_21 : decode cX3_ground 21 = .ok (.getfield 10, 3) := by decide +kernel
theorem dX3_ground_24 : decode cX3_ground 24 = .ok (.getfield 71, 3) := by decide +kernel
theorem dX3_ground_27 : decode cX3_ground 27 = .ok (.iconst 0, 1) := by decide +kernel
theorem dX3_ground_28 : decode cX3_ground 28 = .ok (.iload_n 1, 1) := by decide +kernel
theorem dX3_ground_29 : decode cX3_ground 29 = .ok (.iload_n 2, 1) := by decide +kernel
theorem dX3_ground_30 : decode cX3_ground 30 = .ok (.iload_n 3, 1) := by decide +kernel
theorem dX3_ground_31 : decode cX3_ground 31 = .ok (.invokestatic 67, 3) := by decide +kernel
theorem dX3_ground_34 : decode cX3_ground 34 = .ok (.ireturn, 1) := by decide +kernel
theorem dX3_eye_0 : decode cX3_eye 0 = .ok (.iload_n 1, 1) := by decide +kernel
theorem dX3_eye_1 : decode cX3_eye 1 = .ok (.invokestatic 74, 3) := by decide +kernel
theorem dX3_eye_4 : decode cX3_eye 4 = .ok (.ifCond .eq 11, 3) := by decide +kernel
theorem dX3_eye_7 : decode cX3_eye 7 = .ok (.iload_n 2, 1) := by decide +kernel
theorem dX3_eye_8 : decode cX3_eye 8 = .ok (.iload_n 3, 1) := by decide +kernel
theorem dX3_eye_9 : decode cX3_eye 9 = .ok (.invokestatic 77, 3) := by decide +kernel
theorem dX3_eye_12 : decode cX3_eye 12 = .ok (.ifCond .ne 10, 3) := by decide +kernel
theorem dX3_eye_15 : decode cX3_eye 15 = .ok (.aload_n 0, 1) := by decide +kernel
theorem dX3_eye_16 : decode cX3_eye 16 = .ok (.bipush (-2), 2) := by decide +kernel
theorem dX3_eye_18 : decode cX3_eye 18 = .ok (.invokevirtual 46, 3) := by decide +kernel
theorem dX3_eye_21 : decode cX3_eye 21 = .ok (.ireturn, 1) := by decide +kernel
theorem dX3_eye_22 : decode cX3_eye 22 = .ok (.aload_n 0, 1) := by decide +kernel
theorem dX3_eye_23 : decode cX3_eye 23 = .ok (.invokevirtual 50, 3) := by decide +kernel
theorem dX3_eye_26 : decode cX3_eye 26 = .ok (.bipush 13, 2) := by decide +kernel
theorem dX3_eye_28 : decode cX3_eye 28 = .ok (.iload_n 1, 1) := by decide +kernel
theorem dX3_eye_29 : decode cX3_eye 29 = .ok (.imul, 1) := by decide +kernel
theorem dX3_eye_30 : decode cX3_eye 30 = .ok (.iload_n 2, 1) := by decide +kernel
theorem dX3_eye_31 : decode cX3_eye 31 = .ok (.iadd, 1) := by decide +kernel
theorem dX3_eye_32 : decode cX3_eye 32 = .ok (.istore 4, 2) := by decide +kernel
theorem dX3_eye_34 : decode cX3_eye 34 = .ok (.aload_n 0, 1) := by decide +kernel
theorem dX3_eye_35 : decode cX3_eye 35 = .ok (.getfield 10, 3) := by decide +kernel
theorem dX3_eye_38 : decode cX3_eye 38 = .ok (.getfield 81, 3) := by decide +kernel
theorem dX3_eye_41 : decode cX3_eye 41 = .ok (.iload 4, 2) := by decide +kernel
theorem dX3_eye_43 : decode cX3_eye 43 = .ok (.iaload, 1) := by decide +kernel
theorem dX3_eye_44 : decode cX3_eye 44 = .ok (.istore 5, 2) := by decide +kernel
theorem dX3_eye_46 : decode cX3_eye 46 = .ok (.aload_n 0, 1) := by decide +kernel
theorem dX3_eye_47 : decode cX3_eye 47 = .ok (.getfield 10, 3) := by decide +kernel
theorem dX3_eye_50 : decode cX3_eye 50 = .ok (.getfield 81, 3) := by decide +kernel
theorem dX3_eye_53 : decode cX3_eye 53 = .ok (.iload 4, 2) := by decide +kernel
theorem dX3_eye_55 : decode cX3_eye 55 = .ok (.iload_n 3, 1) := by decide +kernel
theorem dX3_eye_56 : decode cX3_eye 56 = .ok (.iastore, 1) := by decide +kernel
theorem dX3_eye_57 : decode cX3_eye 57 = .ok (.iload 5, 2) := by decide +kernel
theorem dX3_eye_59 : decode cX3_eye 59 = .ok (.ireturn, 1) := by decide +kernel
theorem dX3_sets_0 : decode cX3_sets 0 = .ok (.aload_n 0, 1) := by decide +kernel
theorem dX3_sets_1 : decode cX3_sets 1 = .ok (.iload_n 1, 1) := by decide +kernel
theorem dX3_sets_2 : decode cX3_sets 2 = .ok (.iload_n 2, 1) := by decide +kernel
theorem dX3_sets_3 : decode cX3_sets 3 = .ok (.invokevirtual 84, 3) := by decide +kernel
theorem dX3_sets_6 : decode cX3_sets 6 = .ok (.istore_n 3, 1) := by decide +kernel
theorem dX3_sets_7 : decode cX3_sets 7 = .ok (.iload_n 3, 1) := by decide +kernel
theorem dX3_sets_8 : decode cX3_sets 8 = .ok (.ifCond .eq 9, 3) := by decide +kernel
theorem dX3_sets_11 : decode cX3_sets 11 = .ok (.aload_n 0, 1) := by decide +kernel
theorem dX3_sets_12 : decode cX3_sets 12 = .ok (.iload_n 3, 1) := by decide +kernel
theorem dX3_sets_13 : decode cX3_sets 13 = .ok (.invokevirtual 46, 3) := by decide +kernel
theorem dX3_sets_16 : decode cX3_sets 16 = .ok (.ireturn, 1) := by decide +kernel
theorem dX3_sets_17 : decode cX3_sets 17 = .ok (.aload_n 0, 1) := by decide +kernel
theorem dX3_sets_18 : decode cX3_sets 18 = .ok (.invokevirtual 50, 3) := by decide +kernel
theorem dX3_sets_21 : decode cX3_sets 21 = .ok (.aload_n 0, 1) := by decide +kernel
theorem dX3_sets_22 : decode cX3_sets 22 = .ok (.getfield 10, 3) := by decide +kernel
theorem dX3_sets_25 : decode cX3_sets 25 = .ok (.iload_n 1, 1) := by decide +kernel
theorem dX3_sets_26 : decode cX3_sets 26 = .ok (.iload_n 2, 1) := by decide +kernel
theorem dX3_sets_27 : decode cX3_sets 27 = .ok (.invokevirtual 88, 3) := by decide +kernel
theorem dX3_sets_30 : decode cX3_sets 30 = .ok (.ireturn, 1) := by decide +kernel
theorem dX3_fixes_0 : decode cX3_fixes 0 = .ok (.aload_n 0, 1) := by decide +kernel
theorem dX3_fixes_1 : decode cX3_fixes 1 = .ok (.iload_n 1, 1) := by decide +kernel
theorem dX3_fixes_2 : decode cX3_fixes 2 = .ok (.iload_n 2, 1) := by decide +kernel
theorem dX3_fixes_3 : decode cX3_fixes 3 = .ok (.invokevirtual 91, 3) := by decide +kernel
theorem dX3_fixes_6 : decode cX3_fixes 6 = .ok (.istore_n 3, 1) := by decide +kernel
theorem dX3_fixes_7 : decode cX3_fixes 7 = .ok (.iload_n 3, 1) := by decide +kernel
theorem dX3_fixes_8 : decode cX3_fixes 8 = .ok (.ifCond .eq 9, 3) := by decide +kernel
theorem dX3_fixes_11 : decode cX3_fixes 11 = .ok (.aload_n 0, 1) := by decide +kernel
theorem dX3_fixes_12 : decode cX3_fixes 12 = .ok (.iload_n 3, 1) := by decide +kernel
theorem dX3_fixes_13 : decode cX3_fixes 13 = .ok (.invokevirtual 46, 3) := by decide +kernel
theorem dX3_fixes_16 : decode cX3_fixes 16 = .ok (.ireturn, 1) := by decide +kernel
theorem dX3_fixes_17 : decode cX3_fixes 17 = .ok (.aload_n 0, 1) := by decide +kernel
theorem dX3_fixes_18 : decode cX3_fixes 18 = .ok (.invokevirtual 50, 3) := by decide +kernel
theorem dX3_fixes_21 : decode cX3_fixes 21 = .ok (.aload_n 0, 1) := by decide +kernel
theorem dX3_fixes_22 : decode cX3_fixes 22 = .ok (.getfield 10, 3) := by decide +kernel
theorem dX3_fixes_25 : decode cX3_fixes 25 = .ok (.iload_n 1, 1) := by decide +kernel
theorem dX3_fixes_26 : decode cX3_fixes 26 = .ok (.iload_n 2, 1) := by decide +kernel
theorem dX3_fixes_27 : decode cX3_fixes 27 = .ok (.invokevirtual 94, 3) := by decide +kernel
theorem dX3_fixes_30 : decode cX3_fixes 30 = .ok (.ireturn, 1) := by decide +kernel
theorem dX3_of_0 : decode cX3_of 0 = .ok (.aload_n 0, 1) := by decide +kernel
theorem dX3_of_1 : decode cX3_of 1 = .ok (.iload_n 1, 1) := by decide +kernel
theorem dX3_of_2 : decode cX3_of 2 = .ok (.invokevirtual 56, 3) := by decide +kernel
theorem dX3_of_5 : decode cX3_of 5 = .ok (.ifCond .eq 12, 3) := by decide +kernel
theorem dX3_of_8 : decode cX3_of 8 = .ok (.iload_n 2, 1) := by decide +kernel
theorem dX3_of_9 : decode cX3_of 9 = .ok (.iconst 0, 1) := by decide +kernel
theorem dX3_of_10 : decode cX3_of 10 = .ok (.iconst 5, 1) := by decide +kernel
theorem dX3_of_11 : decode cX3_of 11 = .ok (.invokestatic 97, 3) := by decide +kernel
theorem dX3_of_14 : decode cX3_of 14 = .ok (.ifCond .ne 10, 3) := by decide +kernel
theorem dX3_of_17 : decode cX3_of 17 = .ok (.aload_n 0, 1) := by decide +kernel
theorem dX3_of_18 : decode cX3_of 18 = .ok (.bipush (-2), 2) := by decide +kernel
theorem dX3_of_20 : decode cX3_of 20 = .ok (.invokevirtual 46, 3) := by decide +kernel
theorem dX3_of_23 : decode cX3_of 23 = .ok (.ireturn, 1) := by decide +kernel
theorem dX3_of_24 : decode cX3_of 24 = .ok (.iload_n 2, 1) := by decide +kernel
theorem dX3_of_25 : decode cX3_of 25 = .ok (.tableswitch 70 3 5 #[27, 44, 61], 27) := by decide +kernel
theorem dX3_of_52 : decode cX3_of 52 = .ok (.aload_n 0, 1) := by decide +kernel
theorem dX3_of_53 : decode cX3_of 53 = .ok (.getfield 10, 3) := by decide +kernel
theorem dX3_of_56 : decode cX3_of 56 = .ok (.iload_n 1, 1) := by decide +kernel
theorem dX3_of_57 : decode cX3_of 57 = .ok (.invokevirtual 100, 3) := by decide +kernel
theorem dX3_of_60 : decode cX3_of 60 = .ok (.ifCond .eq 7, 3) := by decide +kernel
theorem dX3_of_63 : decode cX3_of 63 = .ok (.iconst 1, 1) := by decide +kernel
theorem dX3_of_64 : decode cX3_of 64 = .ok (.goto 4, 3) := by decide +kernel
theorem dX3_of_67 : decode cX3_of 67 = .ok (.iconst 0, 1) := by decide +kernel
theorem dX3_of_68 : decode cX3_of 68 = .ok (.ireturn, 1) := by decide +kernel
theorem dX3_of_69 : decode cX3_of 69 = .ok (.aload_n 0, 1) := by decide +kernel
theorem dX3_of_70 : decode cX3_of 70 = .ok (.getfield 10, 3) := by decide +kernel
theorem dX3_of_73 : decode cX3_of 73 = .ok (.iload_n 1, 1) := by decide +kernel
theorem dX3_of_74 : decode cX3_of 74 = .ok (.invokevirtual 103, 3) := by decide +kernel
theorem dX3_of_77 : decode cX3_of 77 = .ok (.ifCond .eq 7, 3) := by decide +kernel
theorem dX3_of_80 : decode cX3_of 80 = .ok (.iconst 1, 1) := by decide +kernel
theorem dX3_of_81 : decode cX3_of 81 = .ok (.goto 4, 3) := by decide +kernel
theorem dX3_of_84 : decode cX3_of 84 = .ok (.iconst 0, 1) := by decide +kernel
theorem dX3_of_85 : decode cX3_of 85 = .ok (.ireturn, 1) := by decide +kernel
theorem dX3_of_86 : decode cX3_of 86 = .ok (.aload_n 0, 1) := by decide +kernel
theorem dX3_of_87 : decode cX3_of 87 = .ok (.getfield 10, 3) := by decide +kernel
theorem dX3_of_90 : decode cX3_of 90 = .ok (.iload_n 1, 1) := by decide +kernel
theorem dX3_of_91 : decode cX3_of 91 = .ok (.invokevirtual 106, 3) := by decide +kernel
theorem dX3_of_94 : decode cX3_of 94 = .ok (.ireturn, 1) := by decide +kernel
theorem dX3_of_95 : decode cX3_of 95 = .ok (.aload_n 0, 1) := by decide +kernel
theorem dX3_of_96 : decode cX3_of 96 = .ok (.getfield 10, 3) := by decide +kernel
theorem dX3_of_99 : decode cX3_of 99 = .ok (.getfield 64, 3) := by decide +kernel
theorem dX3_of_102 : decode cX3_of 102 = .ok (.iconst 3, 1) := by decide +kernel
theorem dX3_of_103 : decode cX3_of 103 = .ok (.iload_n 1, 1) := by decide +kernel
theorem dX3_of_104 : decode cX3_of 104 = .ok (.imul, 1) := by decide +kernel
theorem dX3_of_105 : decode cX3_of 105 = .ok (.iload_n 2, 1) := by decide +kernel
theorem dX3_of_106 : decode cX3_of 106 = .ok (.iadd, 1) := by decide +kernel
theorem dX3_of_107 : decode cX3_of 107 = .ok (.iaload, 1) := by decide +kernel
theorem dX3_of_108 : decode cX3_of 108 = .ok (.ireturn, 1) := by decide +kernel
theorem dX3_look_0 : decode cX3_look 0 = .ok (.iload_n 1, 1) := by decide +kernel
theorem dX3_look_1 : decode cX3_look 1 = .ok (.invokestatic 74, 3) := by decide +kernel
theorem dX3_look_4 : decode cX3_look 4 = .ok (.ifCond .eq 13, 3) := by decide +kernel
theorem dX3_look_7 : decode cX3_look 7 = .ok (.iload_n 2, 1) := by decide +kernel
theorem dX3_look_8 : decode cX3_look 8 = .ok (.iconst 0, 1) := by decide +kernel
theorem dX3_look_9 : decode cX3_look 9 = .ok (.bipush 12, 2) := by decide +kernel
theorem dX3_look_11 : decode cX3_look 11 = .ok (.invokestatic 97, 3) := by decide +kernel
theorem dX3_look_14 : decode cX3_look 14 = .ok (.ifCond .ne 10, 3) := by decide +kernel
theorem dX3_look_17 : decode cX3_look 17 = .ok (.aload_n 0, 1) := by decide +kernel
theorem dX3_look_18 : decode cX3_look 18 = .ok (.bipush (-2), 2) := by decide +kernel
theorem dX3_look_20 : decode cX3_look 20 = .ok (.invokevirtual 46, 3) := by decide +kernel
theorem dX3_look_23 : decode cX3_look 23 = .ok (.ireturn, 1) := by decide +kernel
theorem dX3_look_24 : decode cX3_look 24 = .ok (.aload_n 0, 1) := by decide +kernel
theorem dX3_look_25 : decode cX3_look 25 = .ok (.getfield 10, 3) := by decide +kernel
theorem dX3_look_28 : decode cX3_look 28 = .ok (.getfield 81, 3) := by decide +kernel
theorem dX3_look_31 : decode cX3_look 31 = .ok (.bipush 13, 2) := by decide +kernel
theorem dX3_look_33 : decode cX3_look 33 = .ok (.iload_n 1, 1) := by decide +kernel
theorem dX3_look_34 : decode cX3_look 34 = .ok (.imul, 1) := by decide +kernel
theorem dX3_look_35 : decode cX3_look 35 = .ok (.iload_n 2, 1) := by decide +kernel
theorem dX3_look_36 : decode cX3_look 36 = .ok (.iadd, 1) := by decide +kernel
theorem dX3_look_37 : decode cX3_look 37 = .ok (.iaload, 1) := by decide +kernel
theorem dX3_look_38 : decode cX3_look 38 = .ok (.ireturn, 1) := by decide +kernel
theorem dX3_light_0 : decode cX3_light 0 = .ok (.aload_n 0, 1) := by decide +kernel
theorem dX3_light_1 : decode cX3_light 1 = .ok (.iload_n 1, 1) := by decide +kernel
theorem dX3_light_2 : decode cX3_light 2 = .ok (.invokevirtual 56, 3) := by decide +kernel
theorem dX3_light_5 : decode cX3_light 5 = .ok (.ifCond .ne 10, 3) := by decide +kernel
theorem dX3_light_8 : decode cX3_light 8 = .ok (.aload_n 0, 1) := by decide +kernel
theorem dX3_light_9 : decode cX3_light 9 = .ok (.bipush (-2), 2) := by decide +kernel
theorem dX3_light_11 : decode cX3_light 11 = .ok (.invokevirtual 46, 3) := by decide +kernel
theorem dX3_light_14 : decode cX3_light 14 = .ok (.ireturn, 1) := by decide +kernel
theorem dX3_light_15 : decode cX3_light 15 = .ok (.aload_n 0, 1) := by decide +kernel
theorem dX3_light_16 : decode cX3_light 16 = .ok (.getfield 10, 3) := by decide +kernel
theorem dX3_light_19 : decode cX3_light 19 = .ok (.iload_n 1, 1) := by decide +kernel
theorem dX3_light_20 : decode cX3_light 20 = .ok (.invokevirtual 109, 3) := by decide +kernel
theorem dX3_light_23 : decode cX3_light 23 = .ok (.invokestatic 113, 3) := by decide +kernel
theorem dX3_light_26 : decode cX3_light 26 = .ok (.ireturn, 1) := by decide +kernel
theorem dX3_seen_0 : decode cX3_seen 0 = .ok (.iload_n 1, 1) := by decide +kernel
theorem dX3_seen_1 : decode cX3_seen 1 = .ok (.invokestatic 74, 3) := by decide +kernel
theorem dX3_seen_4 : decode cX3_seen 4 = .ok (.ifCond .eq 20, 3) := by decide +kernel
theorem dX3_seen_7 : decode cX3_seen 7 = .ok (.aload_n 0, 1) := by decide +kernel
theorem dX3_seen_8 : decode cX3_seen 8 = .ok (.iload_n 2, 1) := by decide +kernel
theorem dX3_seen_9 : decode cX3_seen 9 = .ok (.invokevirtual 56, 3) := by decide +kernel
theorem dX3_seen_12 : decode cX3_seen 12 = .ok (.ifCond .eq 12, 3) := by decide +kernel
theorem dX3_seen_15 : decode cX3_seen 15 = .ok (.iload_n 3, 1) := by decide +kernel
theorem dX3_seen_16 : decode cX3_seen 16 = .ok (.iconst 0, 1) := by decide +kernel
theorem dX3_seen_17 : decode cX3_seen 17 = .ok (.iconst 2, 1) := by decide +kernel
theorem dX3_seen_18 : decode cX3_seen 18 = .ok (.invokestatic 97, 3) := by decide +kernel
theorem dX3_seen_21 : decode cX3_seen 21 = .ok (.ifCond .ne 10, 3) := by decide +kernel
theorem dX3_seen_24 : decode cX3_seen 24 = .ok (.aload_n 0, 1) := by decide +kernel
theorem dX3_seen_25 : decode cX3_seen 25 = .ok (.bipush (-2), 2) := by decide +kernel
theorem dX3_seen_27 : decode cX3_seen 27 = .ok (.invokevirtual 46, 3) := by decide +kernel
theorem dX3_seen_30 : decode cX3_seen 30 = .ok (.ireturn, 1) := by decide +kernel
theorem dX3_seen_31 : decode cX3_seen 31 = .ok (.aload_n 0, 1) := by decide +kernel
theorem dX3_seen_32 : decode cX3_seen 32 = .ok (.getfield 10, 3) := by decide +kernel
theorem dX3_seen_35 : decode cX3_seen 35 = .ok (.iload_n 1, 1) := by decide +kernel
theorem dX3_seen_36 : decode cX3_seen 36 = .ok (.iload_n 2, 1) := by decide +kernel
theorem dX3_seen_37 : decode cX3_seen 37 = .ok (.iload_n 3, 1) := by decide +kernel
theorem dX3_seen_38 : decode cX3_seen 38 = .ok (.invokevirtual 117, 3) := by decide +kernel
theorem dX3_seen_41 : decode cX3_seen 41 = .ok (.ifCond .eq 8, 3) := by decide +kernel
theorem dX3_seen_44 : decode cX3_seen 44 = .ok (.ldc 120, 2) := by decide +kernel
theorem dX3_seen_46 : decode cX3_seen 46 = .ok (.goto 16, 3) := by decide +kernel
theorem dX3_seen_49 : decode cX3_seen 49 = .ok (.aload_n 0, 1) := by decide +kernel
theorem dX3_seen_50 : decode cX3_seen 50 = .ok (.getfield 10, 3) := by decide +kernel
theorem dX3_seen_53 : decode cX3_seen 53 = .ok (.iload_n 1, 1) := by decide +kernel
theorem dX3_seen_54 : decode cX3_seen 54 = .ok (.iload_n 2, 1) := by decide +kernel
theorem dX3_seen_55 : decode cX3_seen 55 = .ok (.iload_n 3, 1) := by decide +kernel
theorem dX3_seen_56 : decode cX3_seen 56 = .ok (.invokevirtual 121, 3) := by decide +kernel
theorem dX3_seen_59 : decode cX3_seen 59 = .ok (.invokestatic 113, 3) := by decide +kernel
theorem dX3_seen_62 : decode cX3_seen 62 = .ok (.ireturn, 1) := by decide +kernel
theorem dX3_distance_0 : decode cX3_distance 0 = .ok (.iload_n 1, 1) := by decide +kernel
theorem dX3_distance_1 : decode cX3_distance 1 = .ok (.invokestatic 74, 3) := by decide +kernel
theorem dX3_distance_4 : decode cX3_distance 4 = .ok (.ifCond .eq 19, 3) := by decide +kernel
theorem dX3_distance_7 : decode cX3_distance 7 = .ok (.aload_n 0, 1) := by decide +kernel
theorem dX3_distance_8 : decode cX3_distance 8 = .ok (.iload_n 2, 1) := by decide +kernel
theorem dX3_distance_9 : decode cX3_distance 9 = .ok (.invokevirtual 56, 3) := by decide +kernel
theorem dX3_distance_12 : decode cX3_distance 12 = .ok (.ifCond .eq 11, 3) := by decide +kernel
theorem dX3_distance_15 : decode cX3_distance 15 = .ok (.aload_n 0, 1) := by decide +kernel
theorem dX3_distance_16 : decode cX3_distance 16 = .ok (.iload_n 3, 1) := by decide +kernel
theorem dX3_distance_17 : decode cX3_distance 17 = .ok (.invokevirtual 56, 3) := by decide +kernel
theorem dX3_distance_20 : decode cX3_distance 20 = .ok (.ifCond .ne 10, 3) := by decide +kernel
theorem dX3_distance_23 : decode cX3_distance 23 = .ok (.aload_n 0, 1) := by decide +kernel
theorem dX3_distance_24 : decode cX3_distance 24 = .ok (.bipush (-2), 2) := by decide +kernel
theorem dX3_distance_26 : decode cX3_distance 26 = .ok (.invokevirtual 46, 3) := by decide +kernel
theorem dX3_distance_29 : decode cX3_distance 29 = .ok (.ireturn, 1) := by decide +kernel
theorem dX3_distance_30 : decode cX3_distance 30 = .ok (.aload_n 0, 1) := by decide +kernel
theorem dX3_distance_31 : decode cX3_distance 31 = .ok (.getfield 10, 3) := by decide +kernel
theorem dX3_distance_34 : decode cX3_distance 34 = .ok (.iload_n 1, 1) := by decide +kernel
theorem dX3_distance_35 : decode cX3_distance 35 = .ok (.iload_n 2, 1) := by decide +kernel
theorem dX3_distance_36 : decode cX3_distance 36 = .ok (.iload_n 3, 1) := by decide +kernel
theorem dX3_distance_37 : decode cX3_distance 37 = .ok (.invokevirtual 125, 3) := by decide +kernel
theorem dX3_distance_40 : decode cX3_distance 40 = .ok (.invokestatic 113, 3) := by decide +kernel
theorem dX3_distance_43 : decode cX3_distance 43 = .ok (.ireturn, 1) := by decide +kernel
theorem dX3_apart_0 : decode cX3_apart 0 = .ok (.aload_n 0, 1) := by decide +kernel
theorem dX3_apart_1 : decode cX3_apart 1 = .ok (.iload_n 1, 1) := by decide +kernel
theorem dX3_apart_2 : decode cX3_apart 2 = .ok (.invokevirtual 56, 3) := by decide +kernel
theorem dX3_apart_5 : decode cX3_apart 5 = .ok (.ifCond .eq 11, 3) := by decide +kernel
theorem dX3_apart_8 : decode cX3_apart 8 = .ok (.aload_n 0, 1) := by decide +kernel
theorem dX3_apart_9 : decode cX3_apart 9 = .ok (.iload_n 2, 1) := by decide +kernel
theorem dX3_apart_10 : decode cX3_apart 10 = .ok (.invokevirtual 56, 3) := by decide +kernel
theorem dX3_apart_13 : decode cX3_apart 13 = .ok (.ifCond .ne 10, 3) := by decide +kernel
theorem dX3_apart_16 : decode cX3_apart 16 = .ok (.aload_n 0, 1) := by decide +kernel
theorem dX3_apart_17 : decode cX3_apart 17 = .ok (.bipush (-2), 2) := by decide +kernel
theorem dX3_apart_19 : decode cX3_apart 19 = .ok (.invokevirtual 46, 3) := by decide +kernel
theorem dX3_apart_22 : decode cX3_apart 22 = .ok (.ireturn, 1) := by decide +kernel
theorem dX3_apart_23 : decode cX3_apart 23 = .ok (.aload_n 0, 1) := by decide +kernel
theorem dX3_apart_24 : decode cX3_apart 24 = .ok (.getfield 10, 3) := by decide +kernel
theorem dX3_apart_27 : decode cX3_apart 27 = .ok (.iload_n 1, 1) := by decide +kernel
theorem dX3_apart_28 : decode cX3_apart 28 = .ok (.iload_n 2, 1) := by decide +kernel
theorem dX3_apart_29 : decode cX3_apart 29 = .ok (.invokevirtual 128, 3) := by decide +kernel
theorem dX3_apart_32 : decode cX3_apart 32 = .ok (.invokestatic 113, 3) := by decide +kernel
theorem dX3_apart_35 : decode cX3_apart 35 = .ok (.ireturn, 1) := by decide +kernel
theorem dX3_fills_0 : decode cX3_fills 0 = .ok (.aload_n 0, 1) := by decide +kernel
theorem dX3_fills_1 : decode cX3_fills 1 = .ok (.iload_n 1, 1) := by decide +kernel
theorem dX3_fills_2 : decode cX3_fills 2 = .ok (.invokevirtual 132, 3) := by decide +kernel
theorem dX3_fills_5 : decode cX3_fills 5 = .ok (.istore_n 2, 1) := by decide +kernel
theorem dX3_fills_6 : decode cX3_fills 6 = .ok (.iload_n 2, 1) := by decide +kernel
theorem dX3_fills_7 : decode cX3_fills 7 = .ok (.ifCond .eq 9, 3) := by decide +kernel
theorem dX3_fills_10 : decode cX3_fills 10 = .ok (.aload_n 0, 1) := by decide +kernel
theorem dX3_fills_11 : decode cX3_fills 11 = .ok (.iload_n 2, 1) := by decide +kernel
theorem dX3_fills_12 : decode cX3_fills 12 = .ok (.invokevirtual 46, 3) := by decide +kernel
theorem dX3_fills_15 : decode cX3_fills 15 = .ok (.ireturn, 1) := by decide +kernel
theorem dX3_fills_16 : decode cX3_fills 16 = .ok (.aload_n 0, 1) := by decide +kernel
theorem dX3_fills_17 : decode cX3_fills 17 = .ok (.invokevirtual 50, 3) := by decide +kernel
theorem dX3_fills_20 : decode cX3_fills 20 = .ok (.aload_n 0, 1) := by decide +kernel
theorem dX3_fills_21 : decode cX3_fills 21 = .ok (.getfield 38, 3) := by decide +kernel
theorem dX3_fills_24 : decode cX3_fills 24 = .ok (.aload_n 0, 1) := by decide +kernel
theorem dX3_fills_25 : decode cX3_fills 25 = .ok (.getfield 10, 3) := by decide +kernel
theorem dX3_fills_28 : decode cX3_fills 28 = .ok (.iload_n 1, 1) := by decide +kernel
theorem dX3_fills_29 : decode cX3_fills 29 = .ok (.invokevirtual 135, 3) := by decide +kernel
theorem dX3_fills_32 : decode cX3_fills 32 = .ok (.aload_n 0, 1) := by decide +kernel
theorem dX3_fills_33 : decode cX3_fills 33 = .ok (.getfield 10, 3) := by decide +kernel
theorem dX3_fills_36 : decode cX3_fills 36 = .ok (.getfield 139, 3) := by decide +kernel
theorem dX3_fills_39 : decode cX3_fills 39 = .ok (.ireturn, 1) := by decide +kernel
theorem dX3_swaps_0 : decode cX3_swaps 0 = .ok (.aload_n 0, 1) := by decide +kernel
theorem dX3_swaps_1 : decode cX3_swaps 1 = .ok (.invokevirtual 50, 3) := by decide +kernel
theorem dX3_swaps_4 : decode cX3_swaps 4 = .ok (.aload_n 0, 1) := by decide +kernel
theorem dX3_swaps_5 : decode cX3_swaps 5 = .ok (.getfield 38, 3) := by decide +kernel
theorem dX3_swaps_8 : decode cX3_swaps 8 = .ok (.aload_n 0, 1) := by decide +kernel
theorem dX3_swaps_9 : decode cX3_swaps 9 = .ok (.getfield 10, 3) := by decide +kernel
theorem dX3_swaps_12 : decode cX3_swaps 12 = .ok (.invokevirtual 142, 3) := by decide +kernel
theorem dX3_swaps_15 : decode cX3_swaps 15 = .ok (.ireturn, 1) := by decide +kernel
theorem dX3_palette_0 : decode cX3_palette 0 = .ok (.iload_n 1, 1) := by decide +kernel
theorem dX3_palette_1 : decode cX3_palette 1 = .ok (.ifCond .ge 10, 3) := by decide +kernel
theorem dX3_palette_4 : decode cX3_palette 4 = .ok (.aload_n 0, 1) := by decide +kernel
theorem dX3_palette_5 : decode cX3_palette 5 = .ok (.bipush (-2), 2) := by decide +kernel
theorem dX3_palette_7 : decode cX3_palette 7 = .ok (.invokevirtual 46, 3) := by decide +kernel
theorem dX3_palette_10 : decode cX3_palette 10 = .ok (.ireturn, 1) := by decide +kernel
theorem dX3_palette_11 : decode cX3_palette 11 = .ok (.iload_n 1, 1) := by decide +kernel
theorem dX3_palette_12 : decode cX3_palette 12 = .ok (.aload_n 0, 1) := by decide +kernel
theorem dX3_palette_13 : decode cX3_palette 13 = .ok (.getfield 10, 3) := by decide +kernel
theorem dX3_palette_16 : decode cX3_palette 16 = .ok (.getfield 139, 3) := by decide +kernel
theorem dX3_palette_19 : decode cX3_palette 19 = .ok (.if_icmp .ge 15, 3) := by decide +kernel
theorem dX3_palette_22 : decode cX3_palette 22 = .ok (.aload_n 0, 1) := by decide +kernel
theorem dX3_palette_23 : decode cX3_palette 23 = .ok (.getfield 10, 3) := by decide +kernel
theorem dX3_palette_26 : decode cX3_palette 26 = .ok (.getfield 146, 3) := by decide +kernel
theorem dX3_palette_29 : decode cX3_palette 29 = .ok (.iload_n 1, 1) := by decide +kernel
theorem dX3_palette_30 : decode cX3_palette 30 = .ok (.iaload, 1) := by decide +kernel
theorem dX3_palette_31 : decode cX3_palette 31 = .ok (.goto 4, 3) := by decide +kernel
theorem dX3_palette_34 : decode cX3_palette 34 = .ok (.iconst (-1), 1) := by decide +kernel
theorem dX3_palette_35 : decode cX3_palette 35 = .ok (.ireturn, 1) := by decide +kernel
theorem dX3_least_0 : decode cX3_least 0 = .ok (.aload_n 0, 1) := by decide +kernel
theorem dX3_least_1 : decode cX3_least 1 = .ok (.getfield 38, 3) := by decide +kernel
theorem dX3_least_4 : decode cX3_least 4 = .ok (.aload_n 0, 1) := by decide +kernel
theorem dX3_least_5 : decode cX3_least 5 = .ok (.getfield 10, 3) := by decide +kernel
theorem dX3_least_8 : decode cX3_least 8 = .ok (.invokevirtual 149, 3) := by decide +kernel
theorem dX3_least_11 : decode cX3_least 11 = .ok (.aload_n 0, 1) := by decide +kernel
theorem dX3_least_12 : decode cX3_least 12 = .ok (.getfield 38, 3) := by decide +kernel
theorem dX3_least_15 : decode cX3_least 15 = .ok (.aload_n 0, 1) := by decide +kernel
theorem dX3_least_16 : decode cX3_least 16 = .ok (.getfield 10, 3) := by decide +kernel
theorem dX3_least_19 : decode cX3_least 19 = .ok (.getfield 146, 3) := by decide +kernel
theorem dX3_least_22 : decode cX3_least 22 = .ok (.aload_n 0, 1) := by decide +kernel
theorem dX3_least_23 : decode cX3_least 23 = .ok (.getfield 10, 3) := by decide +kernel
theorem dX3_least_26 : decode cX3_least 26 = .ok (.getfield 139, 3) := by decide +kernel
theorem dX3_least_29 : decode cX3_least 29 = .ok (.invokevirtual 153, 3) := by decide +kernel
theorem dX3_least_32 : decode cX3_least 32 = .ok (.invokestatic 113, 3) := by decide +kernel
theorem dX3_least_35 : decode cX3_least 35 = .ok (.ireturn, 1) := by decide +kernel
theorem dX3_nearest_0 : decode cX3_nearest 0 = .ok (.aload_n 0, 1) := by decide +kernel
theorem dX3_nearest_1 : decode cX3_nearest 1 = .ok (.getfield 38, 3) := by decide +kernel
theorem dX3_nearest_4 : decode cX3_nearest 4 = .ok (.aload_n 0, 1) := by decide +kernel
theorem dX3_nearest_5 : decode cX3_nearest 5 = .ok (.getfield 10, 3) := by decide +kernel
theorem dX3_nearest_8 : decode cX3_nearest 8 = .ok (.invokevirtual 149, 3) := by decide +kernel
theorem dX3_nearest_11 : decode cX3_nearest 11 = .ok (.aload_n 0, 1) := by decide +kernel
theorem dX3_nearest_12 : decode cX3_nearest 12 = .ok (.getfield 38, 3) := by decide +kernel
theorem dX3_nearest_15 : decode cX3_nearest 15 = .ok (.aload_n 0, 1) := by decide +kernel
theorem dX3_nearest_16 : decode cX3_nearest 16 = .ok (.getfield 10, 3) := by decide +kernel
theorem dX3_nearest_19 : decode cX3_nearest 19 = .ok (.invokevirtual 157, 3) := by decide +kernel
theorem dX3_nearest_22 : decode cX3_nearest 22 = .ok (.ireturn, 1) := by decide +kernel
theorem dX3_best_0 : decode cX3_best 0 = .ok (.iload_n 1, 1) := by decide +kernel
theorem dX3_best_1 : decode cX3_best 1 = .ok (.iconst 1, 1) := by decide +kernel
theorem dX3_best_2 : decode cX3_best 2 = .ok (.iconst 4, 1) := by decide +kernel
theorem dX3_best_3 : decode cX3_best 3 = .ok (.invokestatic 97, 3) := by decide +kernel
theorem dX3_best_6 : decode cX3_best 6 = .ok (.ifCond .ne 10, 3) := by decide +kernel
theorem dX3_best_9 : decode cX3_best 9 = .ok (.aload_n 0, 1) := by decide +kernel
theorem dX3_best_10 : decode cX3_best 10 = .ok (.bipush (-2), 2) := by decide +kernel
theorem dX3_best_12 : decode cX3_best 12 = .ok (.invokevirtual 46, 3) := by decide +kernel
theorem dX3_best_15 : decode cX3_best 15 = .ok (.ireturn, 1) := by decide +kernel
theorem dX3_best_16 : decode cX3_best 16 = .ok (.aload_n 0, 1) := by decide +kernel
theorem dX3_best_17 : decode cX3_best 17 = .ok (.getfield 38, 3) := by decide +kernel
theorem dX3_best_20 : decode cX3_best 20 = .ok (.aload_n 0, 1) := by decide +kernel
theorem dX3_best_21 : decode cX3_best 21 = .ok (.getfield 10, 3) := by decide +kernel
theorem dX3_best_24 : decode cX3_best 24 = .ok (.iload_n 1, 1) := by decide +kernel
theorem dX3_best_25 : decode cX3_best 25 = .ok (.invokevirtual 160, 3) := by decide +kernel
theorem dX3_best_28 : decode cX3_best 28 = .ok (.ireturn, 1) := by decide +kernel
theorem dX3_mistaken_0 : decode cX3_mistaken 0 = .ok (.iload_n 1, 1) := by decide +kernel
theorem dX3_mistaken_1 : decode cX3_mistaken 1 = .ok (.invokestatic 74, 3) := by decide +kernel
theorem dX3_mistaken_4 : decode cX3_mistaken 4 = .ok (.ifCond .eq 14, 3) := by decide +kernel
theorem dX3_mistaken_7 : decode cX3_mistaken 7 = .ok (.iload_n 2, 1) := by decide +kernel
theorem dX3_mistaken_8 : decode cX3_mistaken 8 = .ok (.iconst 0, 1) := by decide +kernel
theorem dX3_mistaken_9 : decode cX3_mistaken 9 = .ok (.sipush 9999, 3) := by decide +kernel
theorem dX3_mistaken_12 : decode cX3_mistaken 12 = .ok (.invokestatic 97, 3) := by decide +kernel
theorem dX3_mistaken_15 : decode cX3_mistaken 15 = .ok (.ifCond .ne 10, 3) := by decide +kernel
theorem dX3_mistaken_18 : decode cX3_mistaken 18 = .ok (.aload_n 0, 1) := by decide +kernel
theorem dX3_mistaken_19 : decode cX3_mistaken 19 = .ok (.bipush (-2), 2) := by decide +kernel
theorem dX3_mistaken_21 : decode cX3_mistaken 21 = .ok (.invokevirtual 46, 3) := by decide +kernel
theorem dX3_mistaken_24 : decode cX3_mistaken 24 = .ok (.ireturn, 1) := by decide +kernel
theorem dX3_mistaken_25 : decode cX3_mistaken 25 = .ok (.aload_n 0, 1) := by decide +kernel
theorem dX3_mistaken_26 : decode cX3_mistaken 26 = .ok (.getfield 10, 3) := by decide +kernel
theorem dX3_mistaken_29 : decode cX3_mistaken 29 = .ok (.iload_n 1, 1) := by decide +kernel
theorem dX3_mistaken_30 : decode cX3_mistaken 30 = .ok (.iload_n 2, 1) := by decide +kernel
theorem dX3_mistaken_31 : decode cX3_mistaken 31 = .ok (.invokevirtual 164, 3) := by decide +kernel
theorem dX3_mistaken_34 : decode cX3_mistaken 34 = .ok (.ireturn, 1) := by decide +kernel
theorem dX3_count_0 : decode cX3_count 0 = .ok (.iload_n 1, 1) := by decide +kernel
theorem dX3_count_1 : decode cX3_count 1 = .ok (.iconst 0, 1) := by decide +kernel
theorem dX3_count_2 : decode cX3_count 2 = .ok (.bipush 7, 2) := by decide +kernel
theorem dX3_count_4 : decode cX3_count 4 = .ok (.invokestatic 97, 3) := by decide +kernel
theorem dX3_count_7 : decode cX3_count 7 = .ok (.ifCond .ne 10, 3) := by decide +kernel
theorem dX3_count_10 : decode cX3_count 10 = .ok (.aload_n 0, 1) := by decide +kernel
theorem dX3_count_11 : decode cX3_count 11 = .ok (.bipush (-2), 2) := by decide +kernel
theorem dX3_count_13 : decode cX3_count 13 = .ok (.invokevirtual 46, 3) := by decide +kernel
theorem dX3_count_16 : decode cX3_count 16 = .ok (.ireturn, 1) := by decide +kernel
theorem dX3_count_17 : decode cX3_count 17 = .ok (.iload_n 1, 1) := by decide +kernel
theorem dX3_count_18 : decode cX3_count 18 = .ok (.tableswitch 77 0 4 #[34, 42, 53, 61, 69], 34) := by decide +kernel
theorem dX3_count_52 : decode cX3_count 52 = .ok (.aload_n 0, 1) := by decide +kernel
theorem dX3_count_53 : decode cX3_count 53 = .ok (.getfield 10, 3) := by decide +kernel
theorem dX3_count_56 : decode cX3_count 56 = .ok (.getfield 167, 3) := by decide +kernel
theorem dX3_count_59 : decode cX3_count 59 = .ok (.ireturn, 1) := by decide +kernel
theorem dX3_count_60 : decode cX3_count 60 = .ok (.aload_n 0, 1) := by decide +kernel
theorem dX3_count_61 : decode cX3_count 61 = .ok (.getfield 10, 3) := by decide +kernel
theorem dX3_count_64 : decode cX3_count 64 = .ok (.invokevirtual 170, 3) := by decide +kernel
theorem dX3_count_67 : decode cX3_count 67 = .ok (.invokestatic 174, 3) := by decide +kernel
theorem dX3_count_70 : decode cX3_count 70 = .ok (.ireturn, 1) := by decide +kernel
theorem dX3_count_71 : decode cX3_count 71 = .ok (.aload_n 0, 1) := by decide +kernel
theorem dX3_count_72 : decode cX3_count 72 = .ok (.getfield 10, 3) := by decide +kernel
theorem dX3_count_75 : decode cX3_count 75 = .ok (.getfield 179, 3) := by decide +kernel
theorem dX3_count_78 : decode cX3_count 78 = .ok (.ireturn, 1) := by decide +kernel
theorem dX3_count_79 : decode cX3_count 79 = .ok (.aload_n 0, 1) := by decide +kernel
theorem dX3_count_80 : decode cX3_count 80 = .ok (.getfield 10, 3) := by decide +kernel
theorem dX3_count_83 : decode cX3_count 83 = .ok (.getfield 139, 3) := by decide +kernel
theorem dX3_count_86 : decode cX3_count 86 = .ok (.ireturn, 1) := by decide +kernel
theorem dX3_count_87 : decode cX3_count 87 = .ok (.aload_n 0, 1) := by decide +kernel
theorem dX3_count_88 : decode cX3_count 88 = .ok (.getfield 10, 3) := by decide +kernel
theorem dX3_count_91 : decode cX3_count 91 = .ok (.invokevirtual 182, 3) := by decide +kernel
theorem dX3_count_94 : decode cX3_count 94 = .ok (.ireturn, 1) := by decide +kernel
theorem dX3_count_95 : decode cX3_count 95 = .ok (.aload_n 0, 1) := by decide +kernel
theorem dX3_count_96 : decode cX3_count 96 = .ok (.getfield 10, 3) := by decide +kernel
theorem dX3_count_99 : decode cX3_count 99 = .ok (.getfield 71, 3) := by decide +kernel
theorem dX3_count_102 : decode cX3_count 102 = .ok (.iload_n 1, 1) := by decide +kernel
theorem dX3_count_103 : decode cX3_count 103 = .ok (.iconst 5, 1) := by decide +kernel
theorem dX3_count_104 : decode cX3_count 104 = .ok (.isub, 1) := by decide +kernel
theorem dX3_count_105 : decode cX3_count 105 = .ok (.iaload, 1) := by decide +kernel
theorem dX3_count_106 : decode cX3_count 106 = .ok (.ireturn, 1) := by decide +kernel
theorem dX3_type_0 : decode cX3_type 0 = .ok (.iload_n 1, 1) := by decide +kernel
theorem dX3_type_1 : decode cX3_type 1 = .ok (.iconst 0, 1) := by decide +kernel
theorem dX3_type_2 : decode cX3_type 2 = .ok (.bipush 127, 2) := by decide +kernel
theorem dX3_type_4 : decode cX3_type 4 = .ok (.invokestatic 97, 3) := by decide +kernel
theorem dX3_type_7 : decode cX3_type 7 = .ok (.ifCond .ne 10, 3) := by decide +kernel
theorem dX3_type_10 : decode cX3_type 10 = .ok (.aload_n 0, 1) := by decide +kernel
theorem dX3_type_11 : decode cX3_type 11 = .ok (.bipush (-2), 2) := by decide +kernel
theorem dX3_type_13 : decode cX3_type 13 = .ok (.invokevirtual 46, 3) := by decide +kernel
theorem dX3_type_16 : decode cX3_type 16 = .ok (.ireturn, 1) := by decide +kernel
theorem dX3_type_17 : decode cX3_type 17 = .ok (.aload_n 0, 1) := by decide +kernel
theorem dX3_type_18 : decode cX3_type 18 = .ok (.getfield 31, 3) := by decide +kernel
theorem dX3_type_21 : decode cX3_type 21 = .ok (.getfield 185, 3) := by decide +kernel
theorem dX3_type_24 : decode cX3_type 24 = .ok (.bipush 120, 2) := by decide +kernel
theorem dX3_type_26 : decode cX3_type 26 = .ok (.if_icmp .lt 10, 3) := by decide +kernel
theorem dX3_type_29 : decode cX3_type 29 = .ok (.aload_n 0, 1) := by decide +kernel
theorem dX3_type_30 : decode cX3_type 30 = .ok (.bipush (-4), 2) := by decide +kernel
theorem dX3_type_32 : decode cX3_type 32 = .ok (.invokevirtual 46, 3) := by decide +kernel
theorem dX3_type_35 : decode cX3_type 35 = .ok (.ireturn, 1) := by decide +kernel
theorem dX3_type_36 : decode cX3_type 36 = .ok (.aload_n 0, 1) := by decide +kernel
theorem dX3_type_37 : decode cX3_type 37 = .ok (.getfield 31, 3) := by decide +kernel
theorem dX3_type_40 : decode cX3_type 40 = .ok (.iload_n 1, 1) := by decide +kernel
theorem dX3_type_41 : decode cX3_type 41 = .ok (.invokevirtual 188, 3) := by decide +kernel
theorem dX3_type_44 : decode cX3_type 44 = .ok (.ireturn, 1) := by decide +kernel
theorem dX3_clear_0 : decode cX3_clear 0 = .ok (.aload_n 0, 1) := by decide +kernel
theorem dX3_clear_1 : decode cX3_clear 1 = .ok (.getfield 31, 3) := by decide +kernel
theorem dX3_clear_4 : decode cX3_clear 4 = .ok (.getfield 185, 3) := by decide +kernel
theorem dX3_clear_7 : decode cX3_clear 7 = .ok (.istore_n 1, 1) := by decide +kernel
theorem dX3_clear_8 : decode cX3_clear 8 = .ok (.aload_n 0, 1) := by decide +kernel
theorem dX3_clear_9 : decode cX3_clear 9 = .ok (.getfield 31, 3) := by decide +kernel
theorem dX3_clear_12 : decode cX3_clear 12 = .ok (.iconst 0, 1) := by decide +kernel
theorem dX3_clear_13 : decode cX3_clear 13 = .ok (.putfield 185, 3) := by decide +kernel
theorem dX3_clear_16 : decode cX3_clear 16 = .ok (.iload_n 1, 1) := by decide +kernel
theorem dX3_clear_17 : decode cX3_clear 17 = .ok (.ireturn, 1) := by decide +kernel
theorem dX3_does_0 : decode cX3_does 0 = .ok (.aload_n 0, 1) := by decide +kernel
theorem dX3_does_1 : decode cX3_does 1 = .ok (.getfield 31, 3) := by decide +kernel
theorem dX3_does_4 : decode cX3_does 4 = .ok (.invokevirtual 191, 3) := by decide +kernel
theorem dX3_does_7 : decode cX3_does 7 = .ok (.istore_n 1, 1) := by decide +kernel
theorem dX3_does_8 : decode cX3_does 8 = .ok (.iload_n 1, 1) := by decide +kernel
theorem dX3_does_9 : decode cX3_does 9 = .ok (.iconst (-1), 1) := by decide +kernel
theorem dX3_does_10 : decode cX3_does 10 = .ok (.if_icmp .eq 8, 3) := by decide +kernel
theorem dX3_does_13 : decode cX3_does 13 = .ok (.bipush (-10), 2) := by decide +kernel
theorem dX3_does_15 : decode cX3_does 15 = .ok (.iload_n 1, 1) := by decide +kernel
theorem dX3_does_16 : decode cX3_does 16 = .ok (.isub, 1) := by decide +kernel
theorem dX3_does_17 : decode cX3_does 17 = .ok (.ireturn, 1) := by decide +kernel
theorem dX3_does_18 : decode cX3_does 18 = .ok (.aload_n 0, 1) := by decide +kernel
theorem dX3_does_19 : decode cX3_does 19 = .ok (.invokevirtual 194, 3) := by decide +kernel
theorem dX3_does_22 : decode cX3_does 22 = .ok (.iconst 0, 1) := by decide +kernel
theorem dX3_does_23 : decode cX3_does 23 = .ok (.istore_n 2, 1) := by decide +kernel
theorem dX3_does_24 : decode cX3_does 24 = .ok (.iload_n 2, 1) := by decide +kernel
theorem dX3_does_25 : decode cX3_does 25 = .ok (.aload_n 0, 1) := by decide +kernel
theorem dX3_does_26 : decode cX3_does 26 = .ok (.getfield 31, 3) := by decide +kernel
theorem dX3_does_29 : decode cX3_does 29 = .ok (.getfield 197, 3) := by decide +kernel
theorem dX3_does_32 : decode cX3_does 32 = .ok (.if_icmp .ge 84, 3) := by decide +kernel
theorem dX3_does_35 : decode cX3_does 35 = .ok (.aload_n 0, 1) := by decide +kernel
theorem dX3_does_36 : decode cX3_does 36 = .ok (.getfield 31, 3) := by decide +kernel
theorem dX3_does_39 : decode cX3_does 39 = .ok (.getfield 200, 3) := by decide +kernel
theorem dX3_does_42 : decode cX3_does 42 = .ok (.iload_n 2, 1) := by decide +kernel
theorem dX3_does_43 : decode cX3_does 43 = .ok (.iaload, 1) := by decide +kernel
theorem dX3_does_44 : decode cX3_does 44 = .ok (.istore_n 3, 1) := by decide +kernel
theorem dX3_does_45 : decode cX3_does 45 = .ok (.aload_n 0, 1) := by decide +kernel
theorem dX3_does_46 : decode cX3_does 46 = .ok (.getfield 31, 3) := by decide +kernel
theorem dX3_does_49 : decode cX3_does 49 = .ok (.getfield 203, 3) := by decide +kernel
theorem dX3_does_52 : decode cX3_does 52 = .ok (.iload_n 2, 1) := by decide +kernel
theorem dX3_does_53 : decode cX3_does 53 = .ok (.iaload, 1) := by decide +kernel
theorem dX3_does_54 : decode cX3_does 54 = .ok (.istore 4, 2) := by decide +kernel
theorem dX3_does_56 : decode cX3_does 56 = .ok (.aload_n 0, 1) := by decide +kernel
theorem dX3_does_57 : decode cX3_does 57 = .ok (.getfield 31, 3) := by decide +kernel
theorem dX3_does_60 : decode cX3_does 60 = .ok (.getfield 206, 3) := by decide +kernel
theorem dX3_does_63 : decode cX3_does 63 = .ok (.iload_n 2, 1) := by decide +kernel
theorem dX3_does_64 : decode cX3_does 64 = .ok (.iaload, 1) := by decide +kernel
theorem dX3_does_65 : decode cX3_does 65 = .ok (.istore 5, 2) := by decide +kernel
theorem dX3_does_67 : decode cX3_does 67 = .ok (.aload_n 0, 1) := by decide +kernel
theorem dX3_does_68 : decode cX3_does 68 = .ok (.iload_n 3, 1) := by decide +kernel
theorem dX3_does_69 : decode cX3_does 69 = .ok (.iload 4, 2) := by decide +kernel
theorem dX3_does_71 : decode cX3_does 71 = .ok (.iload 5, 2) := by decide +kernel
theorem dX3_does_73 : decode cX3_does 73 = .ok (.invokevirtual 209, 3) := by decide +kernel
theorem dX3_does_76 : decode cX3_does 76 = .ok (.ifCond .eq 25, 3) := by decide +kernel
theorem dX3_does_79 : decode cX3_does 79 = .ok (.aload_n 0, 1) := by decide +kernel
theorem dX3_does_80 : decode cX3_does 80 = .ok (.getfield 10, 3) := by decide +kernel
theorem dX3_does_83 : decode cX3_does 83 = .ok (.aload_n 0, 1) := by decide +kernel
theorem dX3_does_84 : decode cX3_does 84 = .ok (.getfield 16, 3) := by decide +kernel
theorem dX3_does_87 : decode cX3_does 87 = .ok (.aload_n 0, 1) := by decide +kernel
theorem dX3_does_88 : decode cX3_does 88 = .ok (.getfield 20, 3) := by decide +kernel
theorem dX3_does_91 : decode cX3_does 91 = .ok (.aaload, 1) := by decide +kernel
theorem dX3_does_92 : decode cX3_does 92 = .ok (.invokevirtual 212, 3) := by decide +kernel
theorem dX3_does_95 : decode cX3_does 95 = .ok (.sipush (-1000), 3) := by decide +kernel
theorem dX3_does_98 : decode cX3_does 98 = .ok (.iload_n 2, 1) := by decide +kernel
theorem dX3_does_99 : decode cX3_does 99 = .ok (.isub, 1) := by decide +kernel
theorem dX3_does_100 : decode cX3_does 100 = .ok (.ireturn, 1) := by decide +kernel
theorem dX3_does_101 : decode cX3_does 101 = .ok (.aload_n 0, 1) := by decide +kernel
theorem dX3_does_102 : decode cX3_does 102 = .ok (.iload_n 3, 1) := by decide +kernel
theorem dX3_does_103 : decode cX3_does 103 = .ok (.iload 4, 2) := by decide +kernel
theorem dX3_does_105 : decode cX3_does 105 = .ok (.iload 5, 2) := by decide +kernel
theorem dX3_does_107 : decode cX3_does 107 = .ok (.invokevirtual 215, 3) := by decide +kernel
theorem dX3_does_110 : decode cX3_does 110 = .ok (.iinc 2 1, 3) := by decide +kernel
theorem dX3_does_113 : decode cX3_does 113 = .ok (.goto (-89), 3) := by decide +kernel
theorem dX3_does_116 : decode cX3_does 116 = .ok (.aload_n 0, 1) := by decide +kernel
theorem dX3_does_117 : decode cX3_does 117 = .ok (.invokevirtual 219, 3) := by decide +kernel
theorem dX3_does_120 : decode cX3_does 120 = .ok (.aload_n 0, 1) := by decide +kernel
theorem dX3_does_121 : decode cX3_does 121 = .ok (.getfield 31, 3) := by decide +kernel
theorem dX3_does_124 : decode cX3_does 124 = .ok (.getfield 197, 3) := by decide +kernel
theorem dX3_does_127 : decode cX3_does 127 = .ok (.ireturn, 1) := by decide +kernel
theorem dX3_back_0 : decode cX3_back 0 = .ok (.aload_n 0, 1) := by decide +kernel
theorem dX3_back_1 : decode cX3_back 1 = .ok (.getfield 20, 3) := by decide +kernel
theorem dX3_back_4 : decode cX3_back 4 = .ok (.ifCond .ne 10, 3) := by decide +kernel
theorem dX3_back_7 : decode cX3_back 7 = .ok (.aload_n 0, 1) := by decide +kernel
theorem dX3_back_8 : decode cX3_back 8 = .ok (.bipush (-3), 2) := by decide +kernel
theorem dX3_back_10 : decode cX3_back 10 = .ok (.invokevirtual 46, 3) := by decide +kernel
theorem dX3_back_13 : decode cX3_back 13 = .ok (.ireturn, 1) := by decide +kernel
theorem dX3_back_14 : decode cX3_back 14 = .ok (.aload_n 0, 1) := by decide +kernel
theorem dX3_back_15 : decode cX3_back 15 = .ok (.dup, 1) := by decide +kernel
theorem dX3_back_16 : decode cX3_back 16 = .ok (.getfield 20, 3) := by decide +kernel
theorem dX3_back_19 : decode cX3_back 19 = .ok (.iconst 1, 1) := by decide +kernel
theorem dX3_back_20 : decode cX3_back 20 = .ok (.isub, 1) := by decide +kernel
theorem dX3_back_21 : decode cX3_back 21 = .ok (.putfield 20, 3) := by decide +kernel
theorem dX3_back_24 : decode cX3_back 24 = .ok (.aload_n 0, 1) := by decide +kernel
theorem dX3_back_25 : decode cX3_back 25 = .ok (.getfield 10, 3) := by decide +kernel
theorem dX3_back_28 : decode cX3_back 28 = .ok (.aload_n 0, 1) := by decide +kernel
theorem dX3_back_29 : decode cX3_back 29 = .ok (.getfield 16, 3) := by decide +kernel
theorem dX3_back_32 : decode cX3_back 32 = .ok (.aload_n 0, 1) := by decide +kernel
theorem dX3_back_33 : decode cX3_back 33 = .ok (.getfield 20, 3) := by decide +kernel
theorem dX3_back_36 : decode cX3_back 36 = .ok (.aaload, 1) := by decide +kernel
theorem dX3_back_37 : decode cX3_back 37 = .ok (.invokevirtual 212, 3) := by decide +kernel
theorem dX3_back_40 : decode cX3_back 40 = .ok (.aload_n 0, 1) := by decide +kernel
theorem dX3_back_41 : decode cX3_back 41 = .ok (.getfield 20, 3) := by decide +kernel
theorem dX3_back_44 : decode cX3_back 44 = .ok (.ireturn, 1) := by decide +kernel
theorem dX3_told_0 : decode cX3_told 0 = .ok (.iload_n 1, 1) := by decide +kernel
theorem dX3_told_1 : decode cX3_told 1 = .ok (.iconst 0, 1) := by decide +kernel
theorem dX3_told_2 : decode cX3_told 2 = .ok (.bipush 7, 2) := by decide +kernel
theorem dX3_told_4 : decode cX3_told 4 = .ok (.invokestatic 97, 3) := by decide +kernel
theorem dX3_told_7 : decode cX3_told 7 = .ok (.ifCond .ne 10, 3) := by decide +kernel
theorem dX3_told_10 : decode cX3_told 10 = .ok (.aload_n 0, 1) := by decide +kernel
theorem dX3_told_11 : decode cX3_told 11 = .ok (.bipush (-2), 2) := by decide +kernel
theorem dX3_told_13 : decode cX3_told 13 = .ok (.invokevirtual 46, 3) := by decide +kernel
theorem dX3_told_16 : decode cX3_told 16 = .ok (.ireturn, 1) := by decide +kernel
theorem dX3_told_17 : decode cX3_told 17 = .ok (.iload_n 1, 1) := by decide +kernel
theorem dX3_told_18 : decode cX3_told 18 = .ok (.iconst 3, 1) := by decide +kernel
theorem dX3_told_19 : decode cX3_told 19 = .ok (.if_icmp .ge 10, 3) := by decide +kernel
theorem dX3_told_22 : decode cX3_told 22 = .ok (.aload_n 0, 1) := by decide +kernel
theorem dX3_told_23 : decode cX3_told 23 = .ok (.getfield 24, 3) := by decide +kernel
theorem dX3_told_26 : decode cX3_told 26 = .ok (.iload_n 1, 1) := by decide +kernel
theorem dX3_told_27 : decode cX3_told 27 = .ok (.iaload, 1) := by decide +kernel
theorem dX3_told_28 : decode cX3_told 28 = .ok (.ireturn, 1) := by decide +kernel
theorem dX3_told_29 : decode cX3_told 29 = .ok (.iload_n 1, 1) := by decide +kernel
theorem dX3_told_30 : decode cX3_told 30 = .ok (.bipush 6, 2) := by decide +kernel
theorem dX3_told_32 : decode cX3_told 32 = .ok (.if_icmp .ge 15, 3) := by decide +kernel
theorem dX3_told_35 : decode cX3_told 35 = .ok (.aload_n 0, 1) := by decide +kernel
theorem dX3_told_36 : decode cX3_told 36 = .ok (.getfield 10, 3) := by decide +kernel
theorem dX3_told_39 : decode cX3_told 39 = .ok (.getfield 222, 3) := by decide +kernel
theorem dX3_told_42 : decode cX3_told 42 = .ok (.iload_n 1, 1) := by decide +kernel
theorem dX3_told_43 : decode cX3_told 43 = .ok (.iconst 3, 1) := by decide +kernel
theorem dX3_told_44 : decode cX3_told 44 = .ok (.isub, 1) := by decide +kernel
theorem dX3_told_45 : decode cX3_told 45 = .ok (.iaload, 1) := by decide +kernel
theorem dX3_told_46 : decode cX3_told 46 = .ok (.ireturn, 1) := by decide +kernel
theorem dX3_told_47 : decode cX3_told 47 = .ok (.iload_n 1, 1) := by decide +kernel
theorem dX3_told_48 : decode cX3_told 48 = .ok (.bipush 6, 2) := by decide +kernel
theorem dX3_told_50 : decode cX3_told 50 = .ok (.if_icmp .ne 13, 3) := by decide +kernel
theorem dX3_told_53 : decode cX3_told 53 = .ok (.aload_n 0, 1) := by decide +kernel
theorem dX3_told_54 : decode cX3_told 54 = .ok (.getfield 31, 3) := by decide +kernel
theorem dX3_told_57 : decode cX3_told 57 = .ok (.getfield 185, 3) := by decide +kernel
theorem dX3_told_60 : decode cX3_told 60 = .ok (.goto 7, 3) := by decide +kernel
theorem dX3_told_63 : decode cX3_told 63 = .ok (.aload_n 0, 1) := by decide +kernel
theorem dX3_told_64 : decode cX3_told 64 = .ok (.getfield 20, 3) := by decide +kernel
theorem dX3_told_67 : decode cX3_told 67 = .ok (.ireturn, 1) := by decide +kernel
theorem dX3_digest_0 : decode cX3_digest 0 = .ok (.ldc2_w 225, 3) := by decide +kernel
theorem dX3_digest_3 : decode cX3_digest 3 = .ok (.lstore_n 1, 1) := by decide +kernel
theorem dX3_digest_4 : decode cX3_digest 4 = .ok (.iconst 0, 1) := by decide +kernel
theorem dX3_digest_5 : decode cX3_digest 5 = .ok (.istore_n 3, 1) := by decide +kernel
theorem dX3_digest_6 : decode cX3_digest 6 = .ok (.iload_n 3, 1) := by decide +kernel
theorem dX3_digest_7 : decode cX3_digest 7 = .ok (.bipush 8, 2) := by decide +kernel
theorem dX3_digest_9 : decode cX3_digest 9 = .ok (.if_icmp .ge 22, 3) := by decide +kernel
theorem dX3_digest_12 : decode cX3_digest 12 = .ok (.ldc2_w 227, 3) := by decide +kernel
theorem dX3_digest_15 : decode cX3_digest 15 = .ok (.lload_n 1, 1) := by decide +kernel
theorem dX3_digest_16 : decode cX3_digest 16 = .ok (.lmul, 1) := by decide +kernel
theorem dX3_digest_17 : decode cX3_digest 17 = .ok (.aload_n 0, 1) := by decide +kernel
theorem dX3_digest_18 : decode cX3_digest 18 = .ok (.iload_n 3, 1) := by decide +kernel
theorem dX3_digest_19 : decode cX3_digest 19 = .ok (.invokevirtual 229, 3) := by decide +kernel
theorem dX3_digest_22 : decode cX3_digest 22 = .ok (.i2l, 1) := by decide +kernel
theorem dX3_digest_23 : decode cX3_digest 23 = .ok (.ladd, 1) := by decide +kernel
theorem dX3_digest_24 : decode cX3_digest 24 = .ok (.lstore_n 1, 1) := by decide +kernel
theorem dX3_digest_25 : decode cX3_digest 25 = .ok (.iinc 3 1, 3) := by decide +kernel
theorem dX3_digest_28 : decode cX3_digest 28 = .ok (.goto (-22), 3) := by decide +kernel
theorem dX3_digest_31 : decode cX3_digest 31 = .ok (.iconst 0, 1) := by decide +kernel
theorem dX3_digest_32 : decode cX3_digest 32 = .ok (.istore_n 3, 1) := by decide +kernel
theorem dX3_digest_33 : decode cX3_digest 33 = .ok (.iload_n 3, 1) := by decide +kernel
theorem dX3_digest_34 : decode cX3_digest 34 = .ok (.bipush 8, 2) := by decide +kernel
theorem dX3_digest_36 : decode cX3_digest 36 = .ok (.if_icmp .ge 22, 3) := by decide +kernel
theorem dX3_digest_39 : decode cX3_digest 39 = .ok (.ldc2_w 227, 3) := by decide +kernel
theorem dX3_digest_42 : decode cX3_digest 42 = .ok (.lload_n 1, 1) := by decide +kernel
theorem dX3_digest_43 : decode cX3_digest 43 = .ok (.lmul, 1) := by decide +kernel
theorem dX3_digest_44 : decode cX3_digest 44 = .ok (.aload_n 0, 1) := by decide +kernel
theorem dX3_digest_45 : decode cX3_digest 45 = .ok (.iload_n 3, 1) := by decide +kernel
theorem dX3_digest_46 : decode cX3_digest 46 = .ok (.invokevirtual 232, 3) := by decide +kernel
theorem dX3_digest_49 : decode cX3_digest 49 = .ok (.i2l, 1) := by decide +kernel
theorem dX3_digest_50 : decode cX3_digest 50 = .ok (.ladd, 1) := by decide +kernel
theorem dX3_digest_51 : decode cX3_digest 51 = .ok (.lstore_n 1, 1) := by decide +kernel
theorem dX3_digest_52 : decode cX3_digest 52 = .ok (.iinc 3 1, 3) := by decide +kernel
theorem dX3_digest_55 : decode cX3_digest 55 = .ok (.goto (-22), 3) := by decide +kernel
theorem dX3_digest_58 : decode cX3_digest 58 = .ok (.iconst 0, 1) := by decide +kernel
theorem dX3_digest_59 : decode cX3_digest 59 = .ok (.istore_n 3, 1) := by decide +kernel
theorem dX3_digest_60 : decode cX3_digest 60 = .ok (.iload_n 3, 1) := by decide +kernel
theorem dX3_digest_61 : decode cX3_digest 61 = .ok (.aload_n 0, 1) := by decide +kernel
theorem dX3_digest_62 : decode cX3_digest 62 = .ok (.getfield 10, 3) := by decide +kernel
theorem dX3_digest_65 : decode cX3_digest 65 = .ok (.getfield 167, 3) := by decide +kernel
theorem dX3_digest_68 : decode cX3_digest 68 = .ok (.if_icmp .ge 53, 3) := by decide +kernel
theorem dX3_digest_71 : decode cX3_digest 71 = .ok (.iconst 0, 1) := by decide +kernel
theorem dX3_digest_72 : decode cX3_digest 72 = .ok (.istore 4, 2) := by decide +kernel
theorem dX3_digest_74 : decode cX3_digest 74 = .ok (.iload 4, 2) := by decide +kernel
theorem dX3_digest_76 : decode cX3_digest 76 = .ok (.bipush 6, 2) := by decide +kernel
theorem dX3_digest_78 : decode cX3_digest 78 = .ok (.if_icmp .ge 24, 3) := by decide +kernel
theorem dX3_digest_81 : decode cX3_digest 81 = .ok (.ldc2_w 227, 3) := by decide +kernel
theorem dX3_digest_84 : decode cX3_digest 84 = .ok (.lload_n 1, 1) := by decide +kernel
theorem dX3_digest_85 : decode cX3_digest 85 = .ok (.lmul, 1) := by decide +kernel
theorem dX3_digest_86 : decode cX3_digest 86 = .ok (.aload_n 0, 1) := by decide +kernel
theorem dX3_digest_87 : decode cX3_digest 87 = .ok (.iload_n 3, 1) := by decide +kernel
theorem dX3_digest_88 : decode cX3_digest 88 = .ok (.iload 4, 2) := by decide +kernel
theorem dX3_digest_90 : decode cX3_digest 90 = .ok (.invokevirtual 235, 3) := by decide +kernel
theorem dX3_digest_93 : decode cX3_digest 93 = .ok (.i2l, 1) := by decide +kernel
theorem dX3_digest_94 : decode cX3_digest 94 = .ok (.ladd, 1) := by decide +kernel
theorem dX3_digest_95 : decode cX3_digest 95 = .ok (.lstore_n 1, 1) := by decide +kernel
theorem dX3_digest_96 : decode cX3_digest 96 = .ok (.iinc 4 1, 3) := by decide +kernel
theorem dX3_digest_99 : decode cX3_digest 99 = .ok (.goto (-25), 3) := by decide +kernel
theorem dX3_digest_102 : decode cX3_digest 102 = .ok (.ldc2_w 227, 3) := by decide +kernel
theorem dX3_digest_105 : decode cX3_digest 105 = .ok (.lload_n 1, 1) := by decide +kernel
theorem dX3_digest_106 : decode cX3_digest 106 = .ok (.lmul, 1) := by decide +kernel
theorem dX3_digest_107 : decode cX3_digest 107 = .ok (.aload_n 0, 1) := by decide +kernel
theorem dX3_digest_108 : decode cX3_digest 108 = .ok (.iload_n 3, 1) := by decide +kernel
theorem dX3_digest_109 : decode cX3_digest 109 = .ok (.invokevirtual 238, 3) := by decide +kernel
theorem dX3_digest_112 : decode cX3_digest 112 = .ok (.i2l, 1) := by decide +kernel
theorem dX3_digest_113 : decode cX3_digest 113 = .ok (.ladd, 1) := by decide +kernel
theorem dX3_digest_114 : decode cX3_digest 114 = .ok (.lstore_n 1, 1) := by decide +kernel
theorem dX3_digest_115 : decode cX3_digest 115 = .ok (.iinc 3 1, 3) := by decide +kernel
theorem dX3_digest_118 : decode cX3_digest 118 = .ok (.goto (-58), 3) := by decide +kernel
theorem dX3_digest_121 : decode cX3_digest 121 = .ok (.iconst 0, 1) := by decide +kernel
theorem dX3_digest_122 : decode cX3_digest 122 = .ok (.istore_n 3, 1) := by decide +kernel
theorem dX3_digest_123 : decode cX3_digest 123 = .ok (.iload_n 3, 1) := by decide +kernel
theorem dX3_digest_124 : decode cX3_digest 124 = .ok (.aload_n 0, 1) := by decide +kernel
theorem dX3_digest_125 : decode cX3_digest 125 = .ok (.getfield 10, 3) := by decide +kernel
theorem dX3_digest_128 : decode cX3_digest 128 = .ok (.getfield 81, 3) := by decide +kernel
theorem dX3_digest_131 : decode cX3_digest 131 = .ok (.arraylength, 1) := by decide +kernel
theorem dX3_digest_132 : decode cX3_digest 132 = .ok (.if_icmp .ge 26, 3) := by decide +kernel
theorem dX3_digest_135 : decode cX3_digest 135 = .ok (.ldc2_w 227, 3) := by decide +kernel
theorem dX3_digest_138 : decode cX3_digest 138 = .ok (.lload_n 1, 1) := by decide +kernel
theorem dX3_digest_139 : decode cX3_digest 139 = .ok (.lmul, 1) := by decide +kernel
theorem dX3_digest_140 : decode cX3_digest 140 = .ok (.aload_n 0, 1) := by decide +kernel
theorem dX3_digest_141 : decode cX3_digest 141 = .ok (.getfield 10, 3) := by decide +kernel
theorem dX3_digest_144 : decode cX3_digest 144 = .ok (.getfield 81, 3) := by decide +kernel
theorem dX3_digest_147 : decode cX3_digest 147 = .ok (.iload_n 3, 1) := by decide +kernel
theorem dX3_digest_148 : decode cX3_digest 148 = .ok (.iaload, 1) := by decide +kernel
theorem dX3_digest_149 : decode cX3_digest 149 = .ok (.i2l, 1) := by decide +kernel
theorem dX3_digest_150 : decode cX3_digest 150 = .ok (.ladd, 1) := by decide +kernel
theorem dX3_digest_151 : decode cX3_digest 151 = .ok (.lstore_n 1, 1) := by decide +kernel
theorem dX3_digest_152 : decode cX3_digest 152 = .ok (.iinc 3 1, 3) := by decide +kernel
theorem dX3_digest_155 : decode cX3_digest 155 = .ok (.goto (-32), 3) := by decide +kernel
theorem dX3_digest_158 : decode cX3_digest 158 = .ok (.iconst 0, 1) := by decide +kernel
theorem dX3_digest_159 : decode cX3_digest 159 = .ok (.istore_n 3, 1) := by decide +kernel
theorem dX3_digest_160 : decode cX3_digest 160 = .ok (.iload_n 3, 1) := by decide +kernel
theorem dX3_digest_161 : decode cX3_digest 161 = .ok (.aload_n 0, 1) := by decide +kernel
theorem dX3_digest_162 : decode cX3_digest 162 = .ok (.getfield 10, 3) := by decide +kernel
theorem dX3_digest_165 : decode cX3_digest 165 = .ok (.getfield 139, 3) := by decide +kernel
theorem dX3_digest_168 : decode cX3_digest 168 = .ok (.if_icmp .ge 26, 3) := by decide +kernel
theorem dX3_digest_171 : decode cX3_digest 171 = .ok (.ldc2_w 227, 3) := by decide +kernel
theorem dX3_digest_174 : decode cX3_digest 174 = .ok (.lload_n 1, 1) := by decide +kernel
theorem dX3_digest_175 : decode cX3_digest 175 = .ok (.lmul, 1) := by decide +kernel
theorem dX3_digest_176 : decode cX3_digest 176 = .ok (.aload_n 0, 1) := by decide +kernel
theorem dX3_digest_177 : decode cX3_digest 177 = .ok (.getfield 10, 3) := by decide +kernel
theorem dX3_digest_180 : decode cX3_digest 180 = .ok (.getfield 146, 3) := by decide +kernel
theorem dX3_digest_183 : decode cX3_digest 183 = .ok (.iload_n 3, 1) := by decide +kernel
theorem dX3_digest_184 : decode cX3_digest 184 = .ok (.iaload, 1) := by decide +kernel
theorem dX3_digest_185 : decode cX3_digest 185 = .ok (.i2l, 1) := by decide +kernel
theorem dX3_digest_186 : decode cX3_digest 186 = .ok (.ladd, 1) := by decide +kernel
theorem dX3_digest_187 : decode cX3_digest 187 = .ok (.lstore_n 1, 1) := by decide +kernel
theorem dX3_digest_188 : decode cX3_digest 188 = .ok (.iinc 3 1, 3) := by decide +kernel
theorem dX3_digest_191 : decode cX3_digest 191 = .ok (.goto (-31), 3) := by decide +kernel
theorem dX3_digest_194 : decode cX3_digest 194 = .ok (.ldc2_w 227, 3) := by decide +kernel
theorem dX3_digest_197 : decode cX3_digest 197 = .ok (.lload_n 1, 1) := by decide +kernel
theorem dX3_digest_198 : decode cX3_digest 198 = .ok (.lmul, 1) := by decide +kernel
theorem dX3_digest_199 : decode cX3_digest 199 = .ok (.aload_n 0, 1) := by decide +kernel
theorem dX3_digest_200 : decode cX3_digest 200 = .ok (.invokevirtual 241, 3) := by decide +kernel
theorem dX3_digest_203 : decode cX3_digest 203 = .ok (.i2l, 1) := by decide +kernel
theorem dX3_digest_204 : decode cX3_digest 204 = .ok (.ladd, 1) := by decide +kernel
theorem dX3_digest_205 : decode cX3_digest 205 = .ok (.lstore_n 1, 1) := by decide +kernel
theorem dX3_digest_206 : decode cX3_digest 206 = .ok (.ldc2_w 227, 3) := by decide +kernel
theorem dX3_digest_209 : decode cX3_digest 209 = .ok (.lload_n 1, 1) := by decide +kernel
theorem dX3_digest_210 : decode cX3_digest 210 = .ok (.lmul, 1) := by decide +kernel
theorem dX3_digest_211 : decode cX3_digest 211 = .ok (.aload_n 0, 1) := by decide +kernel
theorem dX3_digest_212 : decode cX3_digest 212 = .ok (.invokevirtual 244, 3) := by decide +kernel
theorem dX3_digest_215 : decode cX3_digest 215 = .ok (.i2l, 1) := by decide +kernel
theorem dX3_digest_216 : decode cX3_digest 216 = .ok (.ladd, 1) := by decide +kernel
theorem dX3_digest_217 : decode cX3_digest 217 = .ok (.lreturn, 1) := by decide +kernel
theorem dX3_whyNoColour_0 : decode cX3_whyNoColour 0 = .ok (.iload_n 1, 1) := by decide +kernel
theorem dX3_whyNoColour_1 : decode cX3_whyNoColour 1 = .ok (.iload_n 2, 1) := by decide +kernel
theorem dX3_whyNoColour_2 : decode cX3_whyNoColour 2 = .ok (.iload_n 3, 1) := by decide +kernel
theorem dX3_whyNoColour_3 : decode cX3_whyNoColour 3 = .ok (.invokestatic 60, 3) := by decide +kernel
theorem dX3_whyNoColour_6 : decode cX3_whyNoColour 6 = .ok (.ifCond .ne 6, 3) := by decide +kernel
theorem dX3_whyNoColour_9 : decode cX3_whyNoColour 9 = .ok (.bipush (-2), 2) := by decide +kernel
theorem dX3_whyNoColour_11 : decode cX3_whyNoColour 11 = .ok (.ireturn, 1) := by decide +kernel
theorem dX3_whyNoColour_12 : decode cX3_whyNoColour 12 = .ok (.aload_n 0, 1) := by decide +kernel
theorem dX3_whyNoColour_13 : decode cX3_whyNoColour 13 = .ok (.getfield 10, 3) := by decide +kernel
theorem dX3_whyNoColour_16 : decode cX3_whyNoColour 16 = .ok (.getfield 167, 3) := by decide +kernel
theorem dX3_whyNoColour_19 : decode cX3_whyNoColour 19 = .ok (.bipush 20, 2) := by decide +kernel
theorem dX3_whyNoColour_21 : decode cX3_whyNoColour 21 = .ok (.if_icmp .lt 8, 3) := by decide +kernel
theorem dX3_whyNoColour_24 : decode cX3_whyNoColour 24 = .ok (.bipush (-4), 2) := by decide +kernel
theorem dX3_whyNoColour_26 : decode cX3_whyNoColour 26 = .ok (.goto 4, 3) := by decide +kernel
theorem dX3_whyNoColour_29 : decode cX3_whyNoColour 29 = .ok (.iconst 0, 1) := by decide +kernel
theorem dX3_whyNoColour_30 : decode cX3_whyNoColour 30 = .ok (.ireturn, 1) := by decide +kernel
theorem dX3_whyNoLimit_0 : decode cX3_whyNoLimit 0 = .ok (.iload_n 1, 1) := by decide +kernel
theorem dX3_whyNoLimit_1 : decode cX3_whyNoLimit 1 = .ok (.iconst 0, 1) := by decide +kernel
theorem dX3_whyNoLimit_2 : decode cX3_whyNoLimit 2 = .ok (.iconst 2, 1) := by decide +kernel
theorem dX3_whyNoLimit_3 : decode cX3_whyNoLimit 3 = .ok (.invokestatic 97, 3) := by decide +kernel
theorem dX3_whyNoLimit_6 : decode cX3_whyNoLimit 6 = .ok (.ifCond .eq 18, 3) := by decide +kernel
theorem dX3_whyNoLimit_9 : decode cX3_whyNoLimit 9 = .ok (.iload_n 2, 1) := by decide +kernel
theorem dX3_whyNoLimit_10 : decode cX3_whyNoLimit 10 = .ok (.iconst 0, 1) := by decide +kernel
theorem dX3_whyNoLimit_11 : decode cX3_whyNoLimit 11 = .ok (.sipush 255, 3) := by decide +kernel
theorem dX3_whyNoLimit_14 : decode cX3_whyNoLimit 14 = .ok (.invokestatic 97, 3) := by decide +kernel
theorem dX3_whyNoLimit_17 : decode cX3_whyNoLimit 17 = .ok (.ifCond .eq 7, 3) := by decide +kernel
theorem dX3_whyNoLimit_20 : decode cX3_whyNoLimit 20 = .ok (.iconst 0, 1) := by decide +kernel
theorem dX3_whyNoLimit_21 : decode cX3_whyNoLimit 21 = .ok (.goto 5, 3) := by decide +kernel
theorem dX3_whyNoLimit_24 : decode cX3_whyNoLimit 24 = .ok (.bipush (-2), 2) := by decide +kernel
theorem dX3_whyNoLimit_26 : decode cX3_whyNoLimit 26 = .ok (.ireturn, 1) := by decide +kernel
theorem dX3_whyNotFixed_0 : decode cX3_whyNotFixed 0 = .ok (.aload_n 0, 1) := by decide +kernel
theorem dX3_whyNotFixed_1 : decode cX3_whyNotFixed 1 = .ok (.iload_n 1, 1) := by decide +kernel
theorem dX3_whyNotFixed_2 : decode cX3_whyNotFixed 2 = .ok (.invokevirtual 56, 3) := by decide +kernel
theorem dX3_whyNotFixed_5 : decode cX3_whyNotFixed 5 = .ok (.ifCond .eq 16, 3) := by decide +kernel
theorem dX3_whyNotFixed_8 : decode cX3_whyNotFixed 8 = .ok (.iload_n 2, 1) := by decide +kernel
theorem dX3_whyNotFixed_9 : decode cX3_whyNotFixed 9 = .ok (.iconst 0, 1) := by decide +kernel
theorem dX3_whyNotFixed_10 : decode cX3_whyNotFixed 10 = .ok (.iconst 1, 1) := by decide +kernel
theorem dX3_whyNotFixed_11 : decode cX3_whyNotFixed 11 = .ok (.invokestatic 97, 3) := by decide +kernel
theorem dX3_whyNotFixed_14 : decode cX3_whyNotFixed 14 = .ok (.ifCond .eq 7, 3) := by decide +kernel
theorem dX3_whyNotFixed_17 : decode cX3_whyNotFixed 17 = .ok (.iconst 0, 1) := by decide +kernel
theorem dX3_whyNotFixed_18 : decode cX3_whyNotFixed 18 = .ok (.goto 5, 3) := by decide +kernel
theorem dX3_whyNotFixed_21 : decode cX3_whyNotFixed 21 = .ok (.bipush (-2), 2) := by decide +kernel
theorem dX3_whyNotFixed_23 : decode cX3_whyNotFixed 23 = .ok (.ireturn, 1) := by decide +kernel
theorem dX3_whyNoFilling_0 : decode cX3_whyNoFilling 0 = .ok (.iload_n 1, 1) := by decide +kernel
theorem dX3_whyNoFilling_1 : decode cX3_whyNoFilling 1 = .ok (.iconst 1, 1) := by decide +kernel
theorem dX3_whyNoFilling_2 : decode cX3_whyNoFilling 2 = .ok (.bipush 8, 2) := by decide +kernel
theorem dX3_whyNoFilling_4 : decode cX3_whyNoFilling 4 = .ok (.invokestatic 97, 3) := by decide +kernel
theorem dX3_whyNoFilling_7 : decode cX3_whyNoFilling 7 = .ok (.ifCond .ne 6, 3) := by decide +kernel
theorem dX3_whyNoFilling_10 : decode cX3_whyNoFilling 10 = .ok (.bipush (-2), 2) := by decide +kernel
theorem dX3_whyNoFilling_12 : decode cX3_whyNoFilling 12 = .ok (.ireturn, 1) := by decide +kernel
theorem dX3_whyNoFilling_13 : decode cX3_whyNoFilling 13 = .ok (.aload_n 0, 1) := by decide +kernel
theorem dX3_whyNoFilling_14 : decode cX3_whyNoFilling 14 = .ok (.getfield 10, 3) := by decide +kernel
theorem dX3_whyNoFilling_17 : decode cX3_whyNoFilling 17 = .ok (.getfield 179, 3) := by decide +kernel
theorem dX3_whyNoFilling_20 : decode cX3_whyNoFilling 20 = .ok (.invokestatic 174, 3) := by decide +kernel
theorem dX3_whyNoFilling_23 : decode cX3_whyNoFilling 23 = .ok (.iload_n 1, 1) := by decide +kernel
theorem dX3_whyNoFilling_24 : decode cX3_whyNoFilling 24 = .ok (.if_icmp .le 8, 3) := by decide +kernel
theorem dX3_whyNoFilling_27 : decode cX3_whyNoFilling 27 = .ok (.bipush (-3), 2) := by decide +kernel
theorem dX3_whyNoFilling_29 : decode cX3_whyNoFilling 29 = .ok (.goto 4, 3) := by decide +kernel
theorem dX3_whyNoFilling_32 : decode cX3_whyNoFilling 32 = .ok (.iconst 0, 1) := by decide +kernel
theorem dX3_whyNoFilling_33 : decode cX3_whyNoFilling 33 = .ok (.ireturn, 1) := by decide +kernel
theorem dX3_refuse_0 : decode cX3_refuse 0 = .ok (.bipush (-2), 2) := by decide +kernel
theorem dX3_refuse_2 : decode cX3_refuse 2 = .ok (.iload_n 1, 1) := by decide +kernel
theorem dX3_refuse_3 : decode cX3_refuse 3 = .ok (.isub, 1) := by decide +kernel
theorem dX3_refuse_4 : decode cX3_refuse 4 = .ok (.istore_n 2, 1) := by decide +kernel
theorem dX3_refuse_5 : decode cX3_refuse 5 = .ok (.iload_n 2, 1) := by decide +kernel
theorem dX3_refuse_6 : decode cX3_refuse 6 = .ok (.ifCond .lt 22, 3) := by decide +kernel
theorem dX3_refuse_9 : decode cX3_refuse 9 = .ok (.iload_n 2, 1) := by decide +kernel
theorem dX3_refuse_10 : decode cX3_refuse 10 = .ok (.aload_n 0, 1) := by decide +kernel
theorem dX3_refuse_11 : decode cX3_refuse 11 = .ok (.getfield 24, 3) := by decide +kernel
theorem dX3_refuse_14 : decode cX3_refuse 14 = .ok (.arraylength, 1) := by decide +kernel
theorem dX3_refuse_15 : decode cX3_refuse 15 = .ok (.if_icmp .ge 13, 3) := by decide +kernel
theorem dX3_refuse_18 : decode cX3_refuse 18 = .ok (.aload_n 0, 1) := by decide +kernel
theorem dX3_refuse_19 : decode cX3_refuse 19 = .ok (.getfield 24, 3) := by decide +kernel
theorem dX3_refuse_22 : decode cX3_refuse 22 = .ok (.iload_n 2, 1) := by decide +kernel
theorem dX3_refuse_23 : decode cX3_refuse 23 = .ok (.dup2, 1) := by decide +kernel
theorem dX3_refuse_24 : decode cX3_refuse 24 = .ok (.iaload, 1) := by decide +kernel
theorem dX3_refuse_25 : decode cX3_refuse 25 = .ok (.iconst 1, 1) := by decide +kernel
theorem dX3_refuse_26 : decode cX3_refuse 26 = .ok (.iadd, 1) := by decide +kernel
theorem dX3_refuse_27 : decode cX3_refuse 27 = .ok (.iastore, 1) := by decide +kernel
theorem dX3_refuse_28 : decode cX3_refuse 28 = .ok (.iload_n 1, 1) := by decide +kernel
theorem dX3_refuse_29 : decode cX3_refuse 29 = .ok (.ireturn, 1) := by decide +kernel
theorem dX3_isColour_0 : decode cX3_isColour 0 = .ok (.iload_n 1, 1) := by decide +kernel
theorem dX3_isColour_1 : decode cX3_isColour 1 = .ok (.ifCond .lt 18, 3) := by decide +kernel
theorem dX3_isColour_4 : decode cX3_isColour 4 = .ok (.iload_n 1, 1) := by decide +kernel
theorem dX3_isColour_5 : decode cX3_isColour 5 = .ok (.aload_n 0, 1) := by decide +kernel
theorem dX3_isColour_6 : decode cX3_isColour 6 = .ok (.getfield 10, 3) := by decide +kernel
theorem dX3_isColour_9 : decode cX3_isColour 9 = .ok (.getfield 167, 3) := by decide +kernel
theorem dX3_isColour_12 : decode cX3_isColour 12 = .ok (.if_icmp .ge 7, 3) := by decide +kernel
theorem dX3_isColour_15 : decode cX3_isColour 15 = .ok (.iconst 1, 1) := by decide +kernel
theorem dX3_isColour_16 : decode cX3_isColour 16 = .ok (.goto 4, 3) := by decide +kernel
theorem dX3_isColour_19 : decode cX3_isColour 19 = .ok (.iconst 0, 1) := by decide +kernel
theorem dX3_isColour_20 : decode cX3_isColour 20 = .ok (.ireturn, 1) := by decide +kernel
theorem dX3_isEye_0 : decode cX3_isEye 0 = .ok (.iload_n 0, 1) := by decide +kernel
theorem dX3_isEye_1 : decode cX3_isEye 1 = .ok (.iconst 0, 1) := by decide +kernel
theorem dX3_isEye_2 : decode cX3_isEye 2 = .ok (.iconst 3, 1) := by decide +kernel
theorem dX3_isEye_3 : decode cX3_isEye 3 = .ok (.invokestatic 97, 3) := by decide +kernel
theorem dX3_isEye_6 : decode cX3_isEye 6 = .ok (.ireturn, 1) := by decide +kernel
theorem dX3_isEyeNumber_0 : decode cX3_isEyeNumber 0 = .ok (.iload_n 0, 1) := by decide +kernel
theorem dX3_isEyeNumber_1 : decode cX3_isEyeNumber 1 = .ok (.iconst 0, 1) := by decide +kernel
theorem dX3_isEyeNumber_2 : decode cX3_isEyeNumber 2 = .ok (.bipush 12, 2) := by decide +kernel
theorem dX3_isEyeNumber_4 : decode cX3_isEyeNumber 4 = .ok (.invokestatic 97, 3) := by decide +kernel
theorem dX3_isEyeNumber_7 : decode cX3_isEyeNumber 7 = .ok (.ifCond .ne 5, 3) := by decide +kernel
theorem dX3_isEyeNumber_10 : decode cX3_isEyeNumber 10 = .ok (.iconst 0, 1) := by decide +kernel
theorem dX3_isEyeNumber_11 : decode cX3_isEyeNumber 11 = .ok (.ireturn, 1) := by decide +kernel
theorem dX3_isEyeNumber_12 : decode cX3_isEyeNumber 12 = .ok (.iload_n 0, 1) := by decide +kernel
theorem dX3_isEyeNumber_13 : decode cX3_isEyeNumber 13 = .ok (.bipush 12, 2) := by decide +kernel
theorem dX3_isEyeNumber_15 : decode cX3_isEyeNumber 15 = .ok (.if_icmp .ne 10, 3) := by decide +kernel
theorem dX3_isEyeNumber_18 : decode cX3_isEyeNumber 18 = .ok (.iload_n 1, 1) := by decide +kernel
theorem dX3_isEyeNumber_19 : decode cX3_isEyeNumber 19 = .ok (.iconst 0, 1) := by decide +kernel
theorem dX3_isEyeNumber_20 : decode cX3_isEyeNumber 20 = .ok (.iconst 1, 1) := by decide +kernel
theorem dX3_isEyeNumber_21 : decode cX3_isEyeNumber 21 = .ok (.invokestatic 97, 3) := by decide +kernel
theorem dX3_isEyeNumber_24 : decode cX3_isEyeNumber 24 = .ok (.ireturn, 1) := by decide +kernel
theorem dX3_isEyeNumber_25 : decode cX3_isEyeNumber 25 = .ok (.iload_n 0, 1) := by decide +kernel
theorem dX3_isEyeNumber_26 : decode cX3_isEyeNumber 26 = .ok (.bipush 9, 2) := by decide +kernel
theorem dX3_isEyeNumber_28 : decode cX3_isEyeNumber 28 = .ok (.if_icmp .lt 13, 3) := by decide +kernel
theorem dX3_isEyeNumber_31 : decode cX3_isEyeNumber 31 = .ok (.iload_n 1, 1) := by decide +kernel
theorem dX3_isEyeNumber_32 : decode cX3_isEyeNumber 32 = .ok (.iconst 0, 1) := by decide +kernel
theorem dX3_isEyeNumber_33 : decode cX3_isEyeNumber 33 = .ok (.bipush 9, 2) := by decide +kernel
theorem dX3_isEyeNumber_35 : decode cX3_isEyeNumber 35 = .ok (.invokestatic 97, 3) := by decide +kernel
theorem dX3_isEyeNumber_38 : decode cX3_isEyeNumber 38 = .ok (.goto 13, 3) := by decide +kernel
theorem dX3_isEyeNumber_41 : decode cX3_isEyeNumber 41 = .ok (.iload_n 1, 1) := by decide +kernel
theorem dX3_isEyeNumber_42 : decode cX3_isEyeNumber 42 = .ok (.sipush (-300), 3) := by decide +kernel
theorem dX3_isEyeNumber_45 : decode cX3_isEyeNumber 45 = .ok (.sipush 300, 3) := by decide +kernel
theorem dX3_isEyeNumber_48 : decode cX3_isEyeNumber 48 = .ok (.invokestatic 97, 3) := by decide +kernel
theorem dX3_isEyeNumber_51 : decode cX3_isEyeNumber 51 = .ok (.ireturn, 1) := by decide +kernel
theorem dX3_isRgb_0 : decode cX3_isRgb 0 = .ok (.iload_n 0, 1) := by decide +kernel
theorem dX3_isRgb_1 : decode cX3_isRgb 1 = .ok (.iconst 0, 1) := by decide +kernel
theorem dX3_isRgb_2 : decode cX3_isRgb 2 = .ok (.sipush 255, 3) := by decide +kernel
theorem dX3_isRgb_5 : decode cX3_isRgb 5 = .ok (.invokestatic 97, 3) := by decide +kernel
theorem dX3_isRgb_8 : decode cX3_isRgb 8 = .ok (.ifCond .eq 29, 3) := by decide +kernel
theorem dX3_isRgb_11 : decode cX3_isRgb 11 = .ok (.iload_n 1, 1) := by decide +kernel
theorem dX3_isRgb_12 : decode cX3_isRgb 12 = .ok (.iconst 0, 1) := by decide +kernel
theorem dX3_isRgb_13 : decode cX3_isRgb 13 = .ok (.sipush 255, 3) := by decide +kernel
theorem dX3_isRgb_16 : decode cX3_isRgb 16 = .ok (.invokestatic 97, 3) := by decide +kernel
theorem dX3_isRgb_19 : decode cX3_isRgb 19 = .ok (.ifCond .eq 18, 3) := by decide +kernel
theorem dX3_isRgb_22 : decode cX3_isRgb 22 = .ok (.iload_n 2, 1) := by decide +kernel
theorem dX3_isRgb_23 : decode cX3_isRgb 23 = .ok (.iconst 0, 1) := by decide +kernel
theorem dX3_isRgb_24 : decode cX3_isRgb 24 = .ok (.sipush 255, 3) := by decide +kernel
theorem dX3_isRgb_27 : decode cX3_isRgb 27 = .ok (.invokestatic 97, 3) := by decide +kernel
theorem dX3_isRgb_30 : decode cX3_isRgb 30 = .ok (.ifCond .eq 7, 3) := by decide +kernel
theorem dX3_isRgb_33 : decode cX3_isRgb 33 = .ok (.iconst 1, 1) := by decide +kernel
theorem dX3_isRgb_34 : decode cX3_isRgb 34 = .ok (.goto 4, 3) := by decide +kernel
theorem dX3_isRgb_37 : decode cX3_isRgb 37 = .ok (.iconst 0, 1) := by decide +kernel
theorem dX3_isRgb_38 : decode cX3_isRgb 38 = .ok (.ireturn, 1) := by decide +kernel
theorem dX3_isWithin_0 : decode cX3_isWithin 0 = .ok (.iload_n 0, 1) := by decide +kernel
theorem dX3_isWithin_1 : decode cX3_isWithin 1 = .ok (.iload_n 1, 1) := by decide +kernel
theorem dX3_isWithin_2 : decode cX3_isWithin 2 = .ok (.if_icmp .lt 12, 3) := by decide +kernel
theorem dX3_isWithin_5 : decode cX3_isWithin 5 = .ok (.iload_n 0, 1) := by decide +kernel
theorem dX3_isWithin_6 : decode cX3_isWithin 6 = .ok (.iload_n 2, 1) := by decide +kernel
theorem dX3_isWithin_7 : decode cX3_isWithin 7 = .ok (.if_icmp .gt 7, 3) := by decide +kernel
theorem dX3_isWithin_10 : decode cX3_isWithin 10 = .ok (.iconst 1, 1) := by decide +kernel
theorem dX3_isWithin_11 : decode cX3_isWithin 11 = .ok (.goto 4, 3) := by decide +kernel
theorem dX3_isWithin_14 : decode cX3_isWithin 14 = .ok (.iconst 0, 1) := by decide +kernel
theorem dX3_isWithin_15 : decode cX3_isWithin 15 = .ok (.ireturn, 1) := by decide +kernel
theorem dX3_whyNoOrder_0 : decode cX3_whyNoOrder 0 = .ok (.iload_n 1, 1) := by decide +kernel
theorem dX3_whyNoOrder_1 : decode cX3_whyNoOrder 1 = .ok (.lookupswitch 94 #[(99, 43), (102, 60), (108, 67), (112, 88)], 43) := by decide +kernel
theorem dX3_whyNoOrder_44 : decode cX3_whyNoOrder 44 = .ok (.aload_n 0, 1) := by decide +kernel
theorem dX3_whyNoOrder_45 : decode cX3_whyNoOrder 45 = .ok (.iload_n 2, 1) := by decide +kernel
theorem dX3_whyNoOrder_46 : decode cX3_whyNoOrder 46 = .ok (.invokestatic 247, 3) := by decide +kernel
theorem dX3_whyNoOrder_49 : decode cX3_whyNoOrder 49 = .ok (.iload_n 2, 1) := by decide +kernel
theorem dX3_whyNoOrder_50 : decode cX3_whyNoOrder 50 = .ok (.invokestatic 250, 3) := by decide +kernel
theorem dX3_whyNoOrder_53 : decode cX3_whyNoOrder 53 = .ok (.iload_n 2, 1) := by decide +kernel
theorem dX3_whyNoOrder_54 : decode cX3_whyNoOrder 54 = .ok (.invokestatic 253, 3) := by decide +kernel
theorem dX3_whyNoOrder_57 : decode cX3_whyNoOrder 57 = .ok (.invokevirtual 42, 3) := by decide +kernel
theorem dX3_whyNoOrder_60 : decode cX3_whyNoOrder 60 = .ok (.ireturn, 1) := by decide +kernel
theorem dX3_whyNoOrder_61 : decode cX3_whyNoOrder 61 = .ok (.aload_n 0, 1) := by decide +kernel
theorem dX3_whyNoOrder_62 : decode cX3_whyNoOrder 62 = .ok (.iload_n 2, 1) := by decide +kernel
theorem dX3_whyNoOrder_63 : decode cX3_whyNoOrder 63 = .ok (.iload_n 3, 1) := by decide +kernel
theorem dX3_whyNoOrder_64 : decode cX3_whyNoOrder 64 = .ok (.invokevirtual 91, 3) := by decide +kernel
theorem dX3_whyNoOrder_67 : decode cX3_whyNoOrder 67 = .ok (.ireturn, 1) := by decide +kernel
theorem dX3_whyNoOrder_68 : decode cX3_whyNoOrder 68 = .ok (.aload_n 0, 1) := by decide +kernel
theorem dX3_whyNoOrder_69 : decode cX3_whyNoOrder 69 = .ok (.iconst 0, 1) := by decide +kernel
theorem dX3_whyNoOrder_70 : decode cX3_whyNoOrder 70 = .ok (.iload_n 2, 1) := by decide +kernel
theorem dX3_whyNoOrder_71 : decode cX3_whyNoOrder 71 = .ok (.invokevirtual 84, 3) := by decide +kernel
theorem dX3_whyNoOrder_74 : decode cX3_whyNoOrder 74 = .ok (.ifCond .eq 8, 3) := by decide +kernel
theorem dX3_whyNoOrder_77 : decode cX3_whyNoOrder 77 = .ok (.bipush (-2), 2) := by decide +kernel
theorem dX3_whyNoOrder_79 : decode cX3_whyNoOrder 79 = .ok (.goto 9, 3) := by decide +kernel
theorem dX3_whyNoOrder_82 : decode cX3_whyNoOrder 82 = .ok (.aload_n 0, 1) := by decide +kernel
theorem dX3_whyNoOrder_83 : decode cX3_whyNoOrder 83 = .ok (.iconst 1, 1) := by decide +kernel
theorem dX3_whyNoOrder_84 : decode cX3_whyNoOrder 84 = .ok (.iload_n 3, 1) := by decide +kernel
theorem dX3_whyNoOrder_85 : decode cX3_whyNoOrder 85 = .ok (.invokevirtual 84, 3) := by decide +kernel
theorem dX3_whyNoOrder_88 : decode cX3_whyNoOrder 88 = .ok (.ireturn, 1) := by decide +kernel
theorem dX3_whyNoOrder_89 : decode cX3_whyNoOrder 89 = .ok (.aload_n 0, 1) := by decide +kernel
theorem dX3_whyNoOrder_90 : decode cX3_whyNoOrder 90 = .ok (.iload_n 2, 1) := by decide +kernel
theorem dX3_whyNoOrder_91 : decode cX3_whyNoOrder 91 = .ok (.invokevirtual 132, 3) := by decide +kernel
theorem dX3_whyNoOrder_94 : decode cX3_whyNoOrder 94 = .ok (.ireturn, 1) := by decide +kernel
theorem dX3_whyNoOrder_95 : decode cX3_whyNoOrder 95 = .ok (.iconst 0, 1) := by decide +kernel
theorem dX3_whyNoOrder_96 : decode cX3_whyNoOrder 96 = .ok (.ireturn, 1) := by decide +kernel
theorem dX3_obey_0 : decode cX3_obey 0 = .ok (.iload_n 1, 1) := by decide +kernel
theorem dX3_obey_1 : decode cX3_obey 1 = .ok (.lookupswitch 117 #[(99, 43), (102, 66), (108, 79), (112, 102)], 43) := by decide +kernel
theorem dX3_obey_44 : decode cX3_obey 44 = .ok (.aload_n 0, 1) := by decide +kernel
theorem dX3_obey_45 : decode cX3_obey 45 = .ok (.getfield 10, 3) := by decide +kernel
theorem dX3_obey_48 : decode cX3_obey 48 = .ok (.iload_n 2, 1) := by decide +kernel
theorem dX3_obey_49 : decode cX3_obey 49 = .ok (.invokestatic 247, 3) := by decide +kernel
theorem dX3_obey_52 : decode cX3_obey 52 = .ok (.iload_n 2, 1) := by decide +kernel
theorem dX3_obey_53 : decode cX3_obey 53 = .ok (.invokestatic 250, 3) := by decide +kernel
theorem dX3_obey_56 : decode cX3_obey 56 = .ok (.iload_n 2, 1) := by decide +kernel
theorem dX3_obey_57 : decode cX3_obey 57 = .ok (.invokestatic 253, 3) := by decide +kernel
theorem dX3_obey_60 : decode cX3_obey 60 = .ok (.invokevirtual 53, 3) := by decide +kernel
theorem dX3_obey_63 : decode cX3_obey 63 = .ok (.pop, 1) := by decide +kernel
theorem dX3_obey_64 : decode cX3_obey 64 = .ok (.goto 66, 3) := by decide +kernel
theorem dX3_obey_67 : decode cX3_obey 67 = .ok (.aload_n 0, 1) := by decide +kernel
theorem dX3_obey_68 : decode cX3_obey 68 = .ok (.getfield 10, 3) := by decide +kernel
theorem dX3_obey_71 : decode cX3_obey 71 = .ok (.iload_n 2, 1) := by decide +kernel
theorem dX3_obey_72 : decode cX3_obey 72 = .ok (.iload_n 3, 1) := by decide +kernel
theorem dX3_obey_73 : decode cX3_obey 73 = .ok (.invokevirtual 94, 3) := by decide +kernel
theorem dX3_obey_76 : decode cX3_obey 76 = .ok (.pop, 1) := by decide +kernel
theorem dX3_obey_77 : decode cX3_obey 77 = .ok (.goto 53, 3) := by decide +kernel
theorem dX3_obey_80 : decode cX3_obey 80 = .ok (.aload_n 0, 1) := by decide +kernel
theorem dX3_obey_81 : decode cX3_obey 81 = .ok (.getfield 10, 3) := by decide +kernel
theorem dX3_obey_84 : decode cX3_obey 84 = .ok (.iconst 0, 1) := by decide +kernel
theorem dX3_obey_85 : decode cX3_obey 85 = .ok (.iload_n 2, 1) := by decide +kernel
theorem dX3_obey_86 : decode cX3_obey 86 = .ok (.invokevirtual 88, 3) := by decide +kernel
theorem dX3_obey_89 : decode cX3_obey 89 = .ok (.pop, 1) := by decide +kernel
theorem dX3_obey_90 : decode cX3_obey 90 = .ok (.aload_n 0, 1) := by decide +kernel
theorem dX3_obey_91 : decode cX3_obey 91 = .ok (.getfield 10, 3) := by decide +kernel
theorem dX3_obey_94 : decode cX3_obey 94 = .ok (.iconst 1, 1) := by decide +kernel
theorem dX3_obey_95 : decode cX3_obey 95 = .ok (.iload_n 3, 1) := by decide +kernel
theorem dX3_obey_96 : decode cX3_obey 96 = .ok (.invokevirtual 88, 3) := by decide +kernel
theorem dX3_obey_99 : decode cX3_obey 99 = .ok (.pop, 1) := by decide +kernel
theorem dX3_obey_100 : decode cX3_obey 100 = .ok (.goto 30, 3) := by decide +kernel
theorem dX3_obey_103 : decode cX3_obey 103 = .ok (.aload_n 0, 1) := by decide +kernel
theorem dX3_obey_104 : decode cX3_obey 104 = .ok (.getfield 38, 3) := by decide +kernel
theorem dX3_obey_107 : decode cX3_obey 107 = .ok (.aload_n 0, 1) := by decide +kernel
theorem dX3_obey_108 : decode cX3_obey 108 = .ok (.getfield 10, 3) := by decide +kernel
theorem dX3_obey_111 : decode cX3_obey 111 = .ok (.iload_n 2, 1) := by decide +kernel
theorem dX3_obey_112 : decode cX3_obey 112 = .ok (.invokevirtual 135, 3) := by decide +kernel
theorem dX3_obey_115 : decode cX3_obey 115 = .ok (.goto 15, 3) := by decide +kernel
theorem dX3_obey_118 : decode cX3_obey 118 = .ok (.aload_n 0, 1) := by decide +kernel
theorem dX3_obey_119 : decode cX3_obey 119 = .ok (.getfield 38, 3) := by decide +kernel
theorem dX3_obey_122 : decode cX3_obey 122 = .ok (.aload_n 0, 1) := by decide +kernel
theorem dX3_obey_123 : decode cX3_obey 123 = .ok (.getfield 10, 3) := by decide +kernel
theorem dX3_obey_126 : decode cX3_obey 126 = .ok (.invokevirtual 142, 3) := by decide +kernel
theorem dX3_obey_129 : decode cX3_obey 129 = .ok (.pop, 1) := by decide +kernel
theorem dX3_obey_130 : decode cX3_obey 130 = .ok (.return_, 1) := by decide +kernel
theorem dX3_redOf_0 : decode cX3_redOf 0 = .ok (.iload_n 0, 1) := by decide +kernel
theorem dX3_redOf_1 : decode cX3_redOf 1 = .ok (.bipush 16, 2) := by decide +kernel
theorem dX3_redOf_3 : decode cX3_redOf 3 = .ok (.ishr, 1) := by decide +kernel
theorem dX3_redOf_4 : decode cX3_redOf 4 = .ok (.sipush 255, 3) := by decide +kernel
theorem dX3_redOf_7 : decode cX3_redOf 7 = .ok (.iand, 1) := by decide +kernel
theorem dX3_redOf_8 : decode cX3_redOf 8 = .ok (.ireturn, 1) := by decide +kernel
theorem dX3_greenOf_0 : decode cX3_greenOf 0 = .ok (.iload_n 0, 1) := by decide +kernel
theorem dX3_greenOf_1 : decode cX3_greenOf 1 = .ok (.bipush 8, 2) := by decide +kernel
theorem dX3_greenOf_3 : decode cX3_greenOf 3 = .ok (.ishr, 1) := by decide +kernel
theorem dX3_greenOf_4 : decode cX3_greenOf 4 = .ok (.sipush 255, 3) := by decide +kernel
theorem dX3_greenOf_7 : decode cX3_greenOf 7 = .ok (.iand, 1) := by decide +kernel
theorem dX3_greenOf_8 : decode cX3_greenOf 8 = .ok (.ireturn, 1) := by decide +kernel
theorem dX3_blueOf_0 : decode cX3_blueOf 0 = .ok (.iload_n 0, 1) := by decide +kernel
theorem dX3_blueOf_1 : decode cX3_blueOf 1 = .ok (.sipush 255, 3) := by decide +kernel
theorem dX3_blueOf_4 : decode cX3_blueOf 4 = .ok (.iand, 1) := by decide +kernel
theorem dX3_blueOf_5 : decode cX3_blueOf 5 = .ok (.ireturn, 1) := by decide +kernel
theorem dX3_leaveState_0 : decode cX3_leaveState 0 = .ok (.aload_n 0, 1) := by decide +kernel
theorem dX3_leaveState_1 : decode cX3_leaveState 1 = .ok (.invokevirtual 194, 3) := by decide +kernel
theorem dX3_leaveState_4 : decode cX3_leaveState 4 = .ok (.aload_n 0, 1) := by decide +kernel
theorem dX3_leaveState_5 : decode cX3_leaveState 5 = .ok (.invokevirtual 219, 3) := by decide +kernel
theorem dX3_leaveState_8 : decode cX3_leaveState 8 = .ok (.return_, 1) := by decide +kernel
theorem dX3_noteState_0 : decode cX3_noteState 0 = .ok (.aload_n 0, 1) := by decide +kernel
theorem dX3_noteState_1 : decode cX3_noteState 1 = .ok (.getfield 16, 3) := by decide +kernel
theorem dX3_noteState_4 : decode cX3_noteState 4 = .ok (.aload_n 0, 1) := by decide +kernel
theorem dX3_noteState_5 : decode cX3_noteState 5 = .ok (.getfield 20, 3) := by decide +kernel
theorem dX3_noteState_8 : decode cX3_noteState 8 = .ok (.aaload, 1) := by decide +kernel
theorem dX3_noteState_9 : decode cX3_noteState 9 = .ok (.aload_n 0, 1) := by decide +kernel
theorem dX3_noteState_10 : decode cX3_noteState 10 = .ok (.getfield 10, 3) := by decide +kernel
theorem dX3_noteState_13 : decode cX3_noteState 13 = .ok (.invokevirtual 212, 3) := by decide +kernel
theorem dX3_noteState_16 : decode cX3_noteState 16 = .ok (.return_, 1) := by decide +kernel
theorem dX3_keepNoted_0 : decode cX3_keepNoted 0 = .ok (.aload_n 0, 1) := by decide +kernel
theorem dX3_keepNoted_1 : decode cX3_keepNoted 1 = .ok (.getfield 20, 3) := by decide +kernel
theorem dX3_keepNoted_4 : decode cX3_keepNoted 4 = .ok (.iconst 5, 1) := by decide +kernel
theorem dX3_keepNoted_5 : decode cX3_keepNoted 5 = .ok (.if_icmp .ge 14, 3) := by decide +kernel
theorem dX3_keepNoted_8 : decode cX3_keepNoted 8 = .ok (.aload_n 0, 1) := by decide +kernel
theorem dX3_keepNoted_9 : decode cX3_keepNoted 9 = .ok (.dup, 1) := by decide +kernel
theorem dX3_keepNoted_10 : decode cX3_keepNoted 10 = .ok (.getfield 20, 3) := by decide +kernel
theorem dX3_keepNoted_13 : decode cX3_keepNoted 13 = .ok (.iconst 1, 1) := by decide +kernel
theorem dX3_keepNoted_14 : decode cX3_keepNoted 14 = .ok (.iadd, 1) := by decide +kernel
theorem dX3_keepNoted_15 : decode cX3_keepNoted 15 = .ok (.putfield 20, 3) := by decide +kernel
theorem dX3_keepNoted_18 : decode cX3_keepNoted 18 = .ok (.return_, 1) := by decide +kernel
theorem dX3_keepNoted_19 : decode cX3_keepNoted 19 = .ok (.aload_n 0, 1) := by decide +kernel
theorem dX3_keepNoted_20 : decode cX3_keepNoted 20 = .ok (.getfield 16, 3) := by decide +kernel
theorem dX3_keepNoted_23 : decode cX3_keepNoted 23 = .ok (.iconst 0, 1) := by decide +kernel
theorem dX3_keepNoted_24 : decode cX3_keepNoted 24 = .ok (.aaload, 1) := by decide +kernel
theorem dX3_keepNoted_25 : decode cX3_keepNoted 25 = .ok (.astore_n 1, 1) := by decide +kernel
theorem dX3_keepNoted_26 : decode cX3_keepNoted 26 = .ok (.iconst 0, 1) := by decide +kernel
theorem dX3_keepNoted_27 : decode cX3_keepNoted 27 = .ok (.istore_n 2, 1) := by decide +kernel
theorem dX3_keepNoted_28 : decode cX3_keepNoted 28 = .ok (.iload_n 2, 1) := by decide +kernel
theorem dX3_keepNoted_29 : decode cX3_keepNoted 29 = .ok (.iconst 5, 1) := by decide +kernel
theorem dX3_keepNoted_30 : decode cX3_keepNoted 30 = .ok (.if_icmp .ge 23, 3) := by decide +kernel
theorem dX3_keepNoted_33 : decode cX3_keepNoted 33 = .ok (.aload_n 0, 1) := by decide +kernel
theorem dX3_keepNoted_34 : decode cX3_keepNoted 34 = .ok (.getfield 16, 3) := by decide +kernel
theorem dX3_keepNoted_37 : decode cX3_keepNoted 37 = .ok (.iload_n 2, 1) := by decide +kernel
theorem dX3_keepNoted_38 : decode cX3_keepNoted 38 = .ok (.aload_n 0, 1) := by decide +kernel
theorem dX3_keepNoted_39 : decode cX3_keepNoted 39 = .ok (.getfield 16, 3) := by decide +kernel
theorem dX3_keepNoted_42 : decode cX3_keepNoted 42 = .ok (.iload_n 2, 1) := by decide +kernel
theorem dX3_keepNoted_43 : decode cX3_keepNoted 43 = .ok (.iconst 1, 1) := by decide +kernel
theorem dX3_keepNoted_44 : decode cX3_keepNoted 44 = .ok (.iadd, 1) := by decide +kernel
theorem dX3_keepNoted_45 : decode cX3_keepNoted 45 = .ok (.aaload, 1) := by decide +kernel
theorem dX3_keepNoted_46 : decode cX3_keepNoted 46 = .ok (.aastore, 1) := by decide +kernel
theorem dX3_keepNoted_47 : decode cX3_keepNoted 47 = .ok (.iinc 2 1, 3) := by decide +kernel
theorem dX3_keepNoted_50 : decode cX3_keepNoted 50 = .ok (.goto (-22), 3) := by decide +kernel
theorem dX3_keepNoted_53 : decode cX3_keepNoted 53 = .ok (.aload_n 0, 1) := by decide +kernel
theorem dX3_keepNoted_54 : decode cX3_keepNoted 54 = .ok (.getfield 16, 3) := by decide +kernel
theorem dX3_keepNoted_57 : decode cX3_keepNoted 57 = .ok (.iconst 5, 1) := by decide +kernel
theorem dX3_keepNoted_58 : decode cX3_keepNoted 58 = .ok (.aload_n 1, 1) := by decide +kernel
theorem dX3_keepNoted_59 : decode cX3_keepNoted 59 = .ok (.aastore, 1) := by decide +kernel
theorem dX3_keepNoted_60 : decode cX3_keepNoted 60 = .ok (.return_, 1) := by decide +kernel
theorem dX3_putRgb_0 : decode cX3_putRgb 0 = .ok (.aload_n 0, 1) := by decide +kernel
theorem dX3_putRgb_1 : decode cX3_putRgb 1 = .ok (.iload_n 1, 1) := by decide +kernel
theorem dX3_putRgb_2 : decode cX3_putRgb 2 = .ok (.iaload, 1) := by decide +kernel
theorem dX3_putRgb_3 : decode cX3_putRgb 3 = .ok (.iload_n 2, 1) := by decide +kernel
theorem dX3_putRgb_4 : decode cX3_putRgb 4 = .ok (.if_icmp .ne 7, 3) := by decide +kernel
theorem dX3_putRgb_7 : decode cX3_putRgb 7 = .ok (.iconst 0, 1) := by decide +kernel
theorem dX3_putRgb_8 : decode cX3_putRgb 8 = .ok (.goto 4, 3) := by decide +kernel
theorem dX3_putRgb_11 : decode cX3_putRgb 11 = .ok (.iconst 1, 1) := by decide +kernel
theorem dX3_putRgb_12 : decode cX3_putRgb 12 = .ok (.aload_n 0, 1) := by decide +kernel
theorem dX3_putRgb_13 : decode cX3_putRgb 13 = .ok (.iload_n 1, 1) := by decide +kernel
theorem dX3_putRgb_14 : decode cX3_putRgb 14 = .ok (.iconst 1, 1) := by decide +kernel
theorem dX3_putRgb_15 : decode cX3_putRgb 15 = .ok (.iadd, 1) := by decide +kernel
theorem dX3_putRgb_16 : decode cX3_putRgb 16 = .ok (.iaload, 1) := by decide +kernel
theorem dX3_putRgb_17 : decode cX3_putRgb 17 = .ok (.iload_n 3, 1) := by decide +kernel
theorem dX3_putRgb_18 : decode cX3_putRgb 18 = .ok (.if_icmp .ne 7, 3) := by decide +kernel
theorem dX3_putRgb_21 : decode cX3_putRgb 21 = .ok (.iconst 0, 1) := by decide +kernel
theorem dX3_putRgb_22 : decode cX3_putRgb 22 = .ok (.goto 4, 3) := by decide +kernel
theorem dX3_putRgb_25 : decode cX3_putRgb 25 = .ok (.iconst 1, 1) := by decide +kernel
theorem dX3_putRgb_26 : decode cX3_putRgb 26 = .ok (.iadd, 1) := by decide +kernel
theorem dX3_putRgb_27 : decode cX3_putRgb 27 = .ok (.aload_n 0, 1) := by decide +kernel
theorem dX3_putRgb_28 : decode cX3_putRgb 28 = .ok (.iload_n 1, 1) := by decide +kernel
theorem dX3_putRgb_29 : decode cX3_putRgb 29 = .ok (.iconst 2, 1) := by decide +kernel
theorem dX3_putRgb_30 : decode cX3_putRgb 30 = .ok (.iadd, 1) := by decide +kernel
theorem dX3_putRgb_31 : decode cX3_putRgb 31 = .ok (.iaload, 1) := by decide +kernel
theorem dX3_putRgb_32 : decode cX3_putRgb 32 = .ok (.iload 4, 2) := by decide +kernel
theorem dX3_putRgb_34 : decode cX3_putRgb 34 = .ok (.if_icmp .ne 7, 3) := by decide +kernel
theorem dX3_putRgb_37 : decode cX3_putRgb 37 = .ok (.iconst 0, 1) := by decide +kernel
theorem dX3_putRgb_38 : decode cX3_putRgb 38 = .ok (.goto 4, 3) := by decide +kernel
theorem dX3_putRgb_41 : decode cX3_putRgb 41 = .ok (.iconst 1, 1) := by decide +kernel
theorem dX3_putRgb_42 : decode cX3_putRgb 42 = .ok (.iadd, 1) := by decide +kernel
theorem dX3_putRgb_43 : decode cX3_putRgb 43 = .ok (.istore 5, 2) := by decide +kernel
theorem dX3_putRgb_45 : decode cX3_putRgb 45 = .ok (.aload_n 0, 1) := by decide +kernel
theorem dX3_putRgb_46 : decode cX3_putRgb 46 = .ok (.iload_n 1, 1) := by decide +kernel
theorem dX3_putRgb_47 : decode cX3_putRgb 47 = .ok (.iload_n 2, 1) := by decide +kernel
theorem dX3_putRgb_48 : decode cX3_putRgb 48 = .ok (.iastore, 1) := by decide +kernel
theorem dX3_putRgb_49 : decode cX3_putRgb 49 = .ok (.aload_n 0, 1) := by decide +kernel
theorem dX3_putRgb_50 : decode cX3_putRgb 50 = .ok (.iload_n 1, 1) := by decide +kernel
theorem dX3_putRgb_51 : decode cX3_putRgb 51 = .ok (.iconst 1, 1) := by decide +kernel
theorem dX3_putRgb_52 : decode cX3_putRgb 52 = .ok (.iadd, 1) := by decide +kernel
theorem dX3_putRgb_53 : decode cX3_putRgb 53 = .ok (.iload_n 3, 1) := by decide +kernel
theorem dX3_putRgb_54 : decode cX3_putRgb 54 = .ok (.iastore, 1) := by decide +kernel
theorem dX3_putRgb_55 : decode cX3_putRgb 55 = .ok (.aload_n 0, 1) := by decide +kernel
theorem dX3_putRgb_56 : decode cX3_putRgb 56 = .ok (.iload_n 1, 1) := by decide +kernel
theorem dX3_putRgb_57 : decode cX3_putRgb 57 = .ok (.iconst 2, 1) := by decide +kernel
theorem dX3_putRgb_58 : decode cX3_putRgb 58 = .ok (.iadd, 1) := by decide +kernel
theorem dX3_putRgb_59 : decode cX3_putRgb 59 = .ok (.iload 4, 2) := by decide +kernel
theorem dX3_putRgb_61 : decode cX3_putRgb 61 = .ok (.iastore, 1) := by decide +kernel
theorem dX3_putRgb_62 : decode cX3_putRgb 62 = .ok (.iload 5, 2) := by decide +kernel
theorem dX3_putRgb_64 : decode cX3_putRgb 64 = .ok (.ireturn, 1) := by decide +kernel
theorem dX3_bitsOf_0 : decode cX3_bitsOf 0 = .ok (.fload_n 0, 1) := by decide +kernel
theorem dX3_bitsOf_1 : decode cX3_bitsOf 1 = .ok (.fconst 0, 1) := by decide +kernel
theorem dX3_bitsOf_2 : decode cX3_bitsOf 2 = .ok (.fcmp .g, 1) := by decide +kernel
theorem dX3_bitsOf_3 : decode cX3_bitsOf 3 = .ok (.ifCond .ge 8, 3) := by decide +kernel
theorem dX3_bitsOf_6 : decode cX3_bitsOf 6 = .ok (.fload_n 0, 1) := by decide +kernel
theorem dX3_bitsOf_7 : decode cX3_bitsOf 7 = .ok (.fneg, 1) := by decide +kernel
theorem dX3_bitsOf_8 : decode cX3_bitsOf 8 = .ok (.goto 4, 3) := by decide +kernel
theorem dX3_bitsOf_11 : decode cX3_bitsOf 11 = .ok (.fload_n 0, 1) := by decide +kernel
theorem dX3_bitsOf_12 : decode cX3_bitsOf 12 = .ok (.fstore_n 1, 1) := by decide +kernel
theorem dX3_bitsOf_13 : decode cX3_bitsOf 13 = .ok (.bipush 127, 2) := by decide +kernel
theorem dX3_bitsOf_15 : decode cX3_bitsOf 15 = .ok (.istore_n 2, 1) := by decide +kernel
theorem dX3_bitsOf_16 : decode cX3_bitsOf 16 = .ok (.fload_n 1, 1) := by decide +kernel
theorem dX3_bitsOf_17 : decode cX3_bitsOf 17 = .ok (.fconst 2, 1) := by decide +kernel
theorem dX3_bitsOf_18 : decode cX3_bitsOf 18 = .ok (.fcmp .l, 1) := by decide +kernel
theorem dX3_bitsOf_19 : decode cX3_bitsOf 19 = .ok (.ifCond .lt 22, 3) := by decide +kernel
theorem dX3_bitsOf_22 : decode cX3_bitsOf 22 = .ok (.iload_n 2, 1) := by decide +kernel
theorem dX3_bitsOf_23 : decode cX3_bitsOf 23 = .ok (.sipush 254, 3) := by decide +kernel
theorem dX3_bitsOf_26 : decode cX3_bitsOf 26 = .ok (.if_icmp .ge 15, 3) := by decide +kernel
theorem dX3_bitsOf_29 : decode cX3_bitsOf 29 = .ok (.fload_n 1, 1) := by decide +kernel
theorem dX3_bitsOf_30 : decode cX3_bitsOf 30 = .ok (.ldc_w 256, 3) := by decide +kernel
theorem dX3_bitsOf_33 : decode cX3_bitsOf 33 = .ok (.fmul, 1) := by decide +kernel
theorem dX3_bitsOf_34 : decode cX3_bitsOf 34 = .ok (.fstore_n 1, 1) := by decide +kernel
theorem dX3_bitsOf_35 : decode cX3_bitsOf 35 = .ok (.iinc 2 1, 3) := by decide +kernel
theorem dX3_bitsOf_38 : decode cX3_bitsOf 38 = .ok (.goto (-22), 3) := by decide +kernel
theorem dX3_bitsOf_41 : decode cX3_bitsOf 41 = .ok (.fload_n 1, 1) := by decide +kernel
theorem dX3_bitsOf_42 : decode cX3_bitsOf 42 = .ok (.fconst 1, 1) := by decide +kernel
theorem dX3_bitsOf_43 : decode cX3_bitsOf 43 = .ok (.fcmp .g, 1) := by decide +kernel
theorem dX3_bitsOf_44 : decode cX3_bitsOf 44 = .ok (.ifCond .ge 18, 3) := by decide +kernel
theorem dX3_bitsOf_47 : decode cX3_bitsOf 47 = .ok (.iload_n 2, 1) := by decide +kernel
theorem dX3_bitsOf_48 : decode cX3_bitsOf 48 = .ok (.iconst 1, 1) := by decide +kernel
theorem dX3_bitsOf_49 : decode cX3_bitsOf 49 = .ok (.if_icmp .le 13, 3) := by decide +kernel
theorem dX3_bitsOf_52 : decode cX3_bitsOf 52 = .ok (.fload_n 1, 1) := by decide +kernel
theorem dX3_bitsOf_53 : decode cX3_bitsOf 53 = .ok (.fconst 2, 1) := by decide +kernel
theorem dX3_bitsOf_54 : decode cX3_bitsOf 54 = .ok (.fmul, 1) := by decide +kernel
theorem dX3_bitsOf_55 : decode cX3_bitsOf 55 = .ok (.fstore_n 1, 1) := by decide +kernel
theorem dX3_bitsOf_56 : decode cX3_bitsOf 56 = .ok (.iinc 2 (-1), 3) := by decide +kernel
theorem dX3_bitsOf_59 : decode cX3_bitsOf 59 = .ok (.goto (-18), 3) := by decide +kernel
theorem dX3_bitsOf_62 : decode cX3_bitsOf 62 = .ok (.iload_n 2, 1) := by decide +kernel
theorem dX3_bitsOf_63 : decode cX3_bitsOf 63 = .ok (.iconst 1, 1) := by decide +kernel
theorem dX3_bitsOf_64 : decode cX3_bitsOf 64 = .ok (.isub, 1) := by decide +kernel
theorem dX3_bitsOf_65 : decode cX3_bitsOf 65 = .ok (.bipush 23, 2) := by decide +kernel
theorem dX3_bitsOf_67 : decode cX3_bitsOf 67 = .ok (.ishl, 1) := by decide +kernel
theorem dX3_bitsOf_68 : decode cX3_bitsOf 68 = .ok (.fload_n 1, 1) := by decide +kernel
theorem dX3_bitsOf_69 : decode cX3_bitsOf 69 = .ok (.ldc_w 257, 3) := by decide +kernel
theorem dX3_bitsOf_72 : decode cX3_bitsOf 72 = .ok (.fmul, 1) := by decide +kernel
theorem dX3_bitsOf_73 : decode cX3_bitsOf 73 = .ok (.f2i, 1) := by decide +kernel
theorem dX3_bitsOf_74 : decode cX3_bitsOf 74 = .ok (.iadd, 1) := by decide +kernel
theorem dX3_bitsOf_75 : decode cX3_bitsOf 75 = .ok (.istore_n 3, 1) := by decide +kernel
theorem dX3_bitsOf_76 : decode cX3_bitsOf 76 = .ok (.fload_n 0, 1) := by decide +kernel
theorem dX3_bitsOf_77 : decode cX3_bitsOf 77 = .ok (.fconst 0, 1) := by decide +kernel
theorem dX3_bitsOf_78 : decode cX3_bitsOf 78 = .ok (.fcmp .g, 1) := by decide +kernel
theorem dX3_bitsOf_79 : decode cX3_bitsOf 79 = .ok (.ifCond .ge 10, 3) := by decide +kernel
theorem dX3_bitsOf_82 : decode cX3_bitsOf 82 = .ok (.iload_n 3, 1) := by decide +kernel
theorem dX3_bitsOf_83 : decode cX3_bitsOf 83 = .ok (.ldc 120, 2) := by decide +kernel
theorem dX3_bitsOf_85 : decode cX3_bitsOf 85 = .ok (.ior, 1) := by decide +kernel
theorem dX3_bitsOf_86 : decode cX3_bitsOf 86 = .ok (.goto 4, 3) := by decide +kernel
theorem dX3_bitsOf_89 : decode cX3_bitsOf 89 = .ok (.iload_n 3, 1) := by decide +kernel
theorem dX3_bitsOf_90 : decode cX3_bitsOf 90 = .ok (.ireturn, 1) := by decide +kernel
