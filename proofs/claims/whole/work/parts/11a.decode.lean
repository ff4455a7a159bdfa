theorem dX1_init_0 : decode cX1_init 0 = .ok (.aload_n 0, 1) := by decide +kernel
theorem dX1_init_1 : decode cX1_init 1 = .ok (.invokespecial 3, 3) := by decide +kernel
theorem dX1_init_4 : decode cX1_init 4 = .ok (.aload_n 0, 1) := by decide +kernel
theorem dX1_init_5 : decode cX1_init 5 = .ok (.iconst 0, 1) := by decide +kernel
theorem dX1_init_6 : decode cX1_init 6 = .ok (.putfield 9, 3) := by decide +kernel
theorem dX1_init_9 : decode cX1_init 9 = .ok (.aload_n 0, 1) := by decide +kernel
theorem dX1_init_10 : decode cX1_init 10 = .ok (.bipush 60, 2) := by decide +kernel
theorem dX1_init_12 : decode cX1_init 12 = .ok (.newarray .int, 2) := by decide +kernel
theorem dX1_init_14 : decode cX1_init 14 = .ok (.putfield 15, 3) := by decide +kernel
theorem dX1_init_17 : decode cX1_init 17 = .ok (.aload_n 0, 1) := by decide +kernel
theorem dX1_init_18 : decode cX1_init 18 = .ok (.iconst 3, 1) := by decide +kernel
theorem dX1_init_19 : decode cX1_init 19 = .ok (.newarray .int, 2) := by decide +kernel
theorem dX1_init_21 : decode cX1_init 21 = .ok (.putfield 19, 3) := by decide +kernel
theorem dX1_init_24 : decode cX1_init 24 = .ok (.aload_n 0, 1) := by decide +kernel
theorem dX1_init_25 : decode cX1_init 25 = .ok (.getfield 19, 3) := by decide +kernel
theorem dX1_init_28 : decode cX1_init 28 = .ok (.sipush 255, 3) := by decide +kernel
theorem dX1_init_31 : decode cX1_init 31 = .ok (.invokestatic 22, 3) := by decide +kernel
theorem dX1_init_34 : decode cX1_init 34 = .ok (.aload_n 0, 1) := by decide +kernel
theorem dX1_init_35 : decode cX1_init 35 = .ok (.bipush 52, 2) := by decide +kernel
theorem dX1_init_37 : decode cX1_init 37 = .ok (.newarray .int, 2) := by decide +kernel
theorem dX1_init_39 : decode cX1_init 39 = .ok (.putfield 28, 3) := by decide +kernel
theorem dX1_init_42 : decode cX1_init 42 = .ok (.iconst 0, 1) := by decide +kernel
theorem dX1_init_43 : decode cX1_init 43 = .ok (.istore_n 1, 1) := by decide +kernel
theorem dX1_init_44 : decode cX1_init 44 = .ok (.iload_n 1, 1) := by decide +kernel
theorem dX1_init_45 : decode cX1_init 45 = .ok (.aload_n 0, 1) := by decide +kernel
theorem dX1_init_46 : decode cX1_init 46 = .ok (.getfield 28, 3) := by decide +kernel
theorem dX1_init_49 : decode cX1_init 49 = .ok (.arraylength, 1) := by decide +kernel
theorem dX1_init_50 : decode cX1_init 50 = .ok (.if_icmp .ge 46, 3) := by decide +kernel
theorem dX1_init_53 : decode cX1_init 53 = .ok (.iconst 0, 1) := by decide +kernel
theorem dX1_init_54 : decode cX1_init 54 = .ok (.istore_n 2, 1) := by decide +kernel
theorem dX1_init_55 : decode cX1_init 55 = .ok (.iload_n 2, 1) := by decide +kernel
theorem dX1_init_56 : decode cX1_init 56 = .ok (.iconst 3, 1) := by decide +kernel
theorem dX1_init_57 : decode cX1_init 57 = .ok (.if_icmp .ge 33, 3) := by decide +kernel
theorem dX1_init_60 : decode cX1_init 60 = .ok (.aload_n 0, 1) := by decide +kernel
theorem dX1_init_61 : decode cX1_init 61 = .ok (.getfield 28, 3) := by decide +kernel
theorem dX1_init_64 : decode cX1_init 64 = .ok (.iload_n 1, 1) := by decide +kernel
theorem dX1_init_65 : decode cX1_init 65 = .ok (.iconst 4, 1) := by decide +kernel
theorem dX1_init_66 : decode cX1_init 66 = .ok (.iload_n 2, 1) := by decide +kernel
theorem dX1_init_67 : decode cX1_init 67 = .ok (.imul, 1) := by decide +kernel
theorem dX1_init_68 : decode cX1_init 68 = .ok (.iadd, 1) := by decide +kernel
theorem dX1_init_69 : decode cX1_init 69 = .ok (.bipush 100, 2) := by decide +kernel
theorem dX1_init_71 : decode cX1_init 71 = .ok (.iastore, 1) := by decide +kernel
theorem dX1_init_72 : decode cX1_init 72 = .ok (.aload_n 0, 1) := by decide +kernel
theorem dX1_init_73 : decode cX1_init 73 = .ok (.getfield 28, 3) := by decide +kernel
theorem dX1_init_76 : decode cX1_init 76 = .ok (.iload_n 1, 1) := by decide +kernel
theorem dX1_init_77 : decode cX1_init 77 = .ok (.bipush 9, 2) := by decide +kernel
theorem dX1_init_79 : decode cX1_init 79 = .ok (.iadd, 1) := by decide +kernel
theorem dX1_init_80 : decode cX1_init 80 = .ok (.iload_n 2, 1) := by decide +kernel
theorem dX1_init_81 : decode cX1_init 81 = .ok (.iadd, 1) := by decide +kernel
theorem dX1_init_82 : decode cX1_init 82 = .ok (.iconst 1, 1) := by decide +kernel
theorem dX1_init_83 : decode cX1_init 83 = .ok (.iastore, 1) := by decide +kernel
theorem dX1_init_84 : decode cX1_init 84 = .ok (.iinc 2 1, 3) := by decide +kernel
theorem dX1_init_87 : decode cX1_init 87 = .ok (.goto (-32), 3) := by decide +kernel
theorem dX1_init_90 : decode cX1_init 90 = .ok (.iinc 1 13, 3) := by decide +kernel
theorem dX1_init_93 : decode cX1_init 93 = .ok (.goto (-49), 3) := by decide +kernel
theorem dX1_init_96 : decode cX1_init 96 = .ok (.aload_n 0, 1) := by decide +kernel
theorem dX1_init_97 : decode cX1_init 97 = .ok (.getfield 28, 3) := by decide +kernel
theorem dX1_init_100 : decode cX1_init 100 = .ok (.bipush 12, 2) := by decide +kernel
theorem dX1_init_102 : decode cX1_init 102 = .ok (.iconst 1, 1) := by decide +kernel
theorem dX1_init_103 : decode cX1_init 103 = .ok (.iastore, 1) := by decide +kernel
theorem dX1_init_104 : decode cX1_init 104 = .ok (.aload_n 0, 1) := by decide +kernel
theorem dX1_init_105 : decode cX1_init 105 = .ok (.iconst 3, 1) := by decide +kernel
theorem dX1_init_106 : decode cX1_init 106 = .ok (.newarray .int, 2) := by decide +kernel
theorem dX1_init_108 : decode cX1_init 108 = .ok (.putfield 31, 3) := by decide +kernel
theorem dX1_init_111 : decode cX1_init 111 = .ok (.aload_n 0, 1) := by decide +kernel
theorem dX1_init_112 : decode cX1_init 112 = .ok (.getfield 31, 3) := by decide +kernel
theorem dX1_init_115 : decode cX1_init 115 = .ok (.iconst 1, 1) := by decide +kernel
theorem dX1_init_116 : decode cX1_init 116 = .ok (.sipush 255, 3) := by decide +kernel
theorem dX1_init_119 : decode cX1_init 119 = .ok (.iastore, 1) := by decide +kernel
theorem dX1_init_120 : decode cX1_init 120 = .ok (.aload_n 0, 1) := by decide +kernel
theorem dX1_init_121 : decode cX1_init 121 = .ok (.iconst 0, 1) := by decide +kernel
theorem dX1_init_122 : decode cX1_init 122 = .ok (.putfield 34, 3) := by decide +kernel
theorem dX1_init_125 : decode cX1_init 125 = .ok (.aload_n 0, 1) := by decide +kernel
theorem dX1_init_126 : decode cX1_init 126 = .ok (.bipush 8, 2) := by decide +kernel
theorem dX1_init_128 : decode cX1_init 128 = .ok (.newarray .int, 2) := by decide +kernel
theorem dX1_init_130 : decode cX1_init 130 = .ok (.putfield 37, 3) := by decide +kernel
theorem dX1_init_133 : decode cX1_init 133 = .ok (.aload_n 0, 1) := by decide +kernel
theorem dX1_init_134 : decode cX1_init 134 = .ok (.iconst 0, 1) := by decide +kernel
theorem dX1_init_135 : decode cX1_init 135 = .ok (.putfield 40, 3) := by decide +kernel
theorem dX1_init_138 : decode cX1_init 138 = .ok (.return_, 1) := by decide +kernel
theorem dX1_become_0 : decode cX1_become 0 = .ok (.aload_n 0, 1) := by decide +kernel
theorem dX1_become_1 : decode cX1_become 1 = .ok (.aload_n 1, 1) := by decide +kernel
theorem dX1_become_2 : decode cX1_become 2 = .ok (.getfield 9, 3) := by decide +kernel
theorem dX1_become_5 : decode cX1_become 5 = .ok (.putfield 9, 3) := by decide +kernel
theorem dX1_become_8 : decode cX1_become 8 = .ok (.aload_n 0, 1) := by decide +kernel
theorem dX1_become_9 : decode cX1_become 9 = .ok (.aload_n 1, 1) := by decide +kernel
theorem dX1_become_10 : decode cX1_become 10 = .ok (.getfield 34, 3) := by decide +kernel
theorem dX1_become_13 : decode cX1_become 13 = .ok (.putfield 34, 3) := by decide +kernel
theorem dX1_become_16 : decode cX1_become 16 = .ok (.aload_n 0, 1) := by decide +kernel
theorem dX1_become_17 : decode cX1_become 17 = .ok (.aload_n 1, 1) := by decide +kernel
theorem dX1_become_18 : decode cX1_become 18 = .ok (.getfield 40, 3) := by decide +kernel
theorem dX1_become_21 : decode cX1_become 21 = .ok (.putfield 40, 3) := by decide +kernel
theorem dX1_become_24 : decode cX1_become 24 = .ok (.aload_n 1, 1) := by decide +kernel
theorem dX1_become_25 : decode cX1_become 25 = .ok (.getfield 15, 3) := by decide +kernel
theorem dX1_become_28 : decode cX1_become 28 = .ok (.iconst 0, 1) := by decide +kernel
theorem dX1_become_29 : decode cX1_become 29 = .ok (.aload_n 0, 1) := by decide +kernel
theorem dX1_become_30 : decode cX1_become 30 = .ok (.getfield 15, 3) := by decide +kernel
theorem dX1_become_33 : decode cX1_become 33 = .ok (.iconst 0, 1) := by decide +kernel
theorem dX1_become_34 : decode cX1_become 34 = .ok (.aload_n 0, 1) := by decide +kernel
theorem dX1_become_35 : decode cX1_become 35 = .ok (.getfield 15, 3) := by decide +kernel
theorem dX1_become_38 : decode cX1_become 38 = .ok (.arraylength, 1) := by decide +kernel
theorem dX1_become_39 : decode cX1_become 39 = .ok (.invokestatic 43, 3) := by decide +kernel
theorem dX1_become_42 : decode cX1_become 42 = .ok (.aload_n 1, 1) := by decide +kernel
theorem dX1_become_43 : decode cX1_become 43 = .ok (.getfield 19, 3) := by decide +kernel
theorem dX1_become_46 : decode cX1_become 46 = .ok (.iconst 0, 1) := by decide +kernel
theorem dX1_become_47 : decode cX1_become 47 = .ok (.aload_n 0, 1) := by decide +kernel
theorem dX1_become_48 : decode cX1_become 48 = .ok (.getfield 19, 3) := by decide +kernel
theorem dX1_become_51 : decode cX1_become 51 = .ok (.iconst 0, 1) := by decide +kernel
theorem dX1_become_52 : decode cX1_become 52 = .ok (.aload_n 0, 1) := by decide +kernel
theorem dX1_become_53 : decode cX1_become 53 = .ok (.getfield 19, 3) := by decide +kernel
theorem dX1_become_56 : decode cX1_become 56 = .ok (.arraylength, 1) := by decide +kernel
theorem dX1_become_57 : decode cX1_become 57 = .ok (.invokestatic 43, 3) := by decide +kernel
theorem dX1_become_60 : decode cX1_become 60 = .ok (.aload_n 1, 1) := by decide +kernel
theorem dX1_become_61 : decode cX1_become 61 = .ok (.getfield 28, 3) := by decide +kernel
theorem dX1_become_64 : decode cX1_become 64 = .ok (.iconst 0, 1) := by decide +kernel
theorem dX1_become_65 : decode cX1_become 65 = .ok (.aload_n 0, 1) := by decide +kernel
theorem dX1_become_66 : decode cX1_become 66 = .ok (.getfield 28, 3) := by decide +kernel
theorem dX1_become_69 : decode cX1_become 69 = .ok (.iconst 0, 1) := by decide +kernel
theorem dX1_become_70 : decode cX1_become 70 = .ok (.aload_n 0, 1) := by decide +kernel
theorem dX1_become_71 : decode cX1_become 71 = .ok (.getfield 28, 3) := by decide +kernel
theorem dX1_become_74 : decode cX1_become 74 = .ok (.arraylength, 1) := by decide +kernel
theorem dX1_become_75 : decode cX1_become 75 = .ok (.invokestatic 43, 3) := by decide +kernel
theorem dX1_become_78 : decode cX1_become 78 = .ok (.aload_n 1, 1) := by decide +kernel
theorem dX1_become_79 : decode cX1_become 79 = .ok (.getfield 31, 3) := by decide +kernel
theorem dX1_become_82 : decode cX1_become 82 = .ok (.iconst 0, 1) := by decide +kernel
theorem dX1_become_83 : decode cX1_become 83 = .ok (.aload_n 0, 1) := by decide +kernel
theorem dX1_become_84 : decode cX1_become 84 = .ok (.getfield 31, 3) := by decide +kernel
theorem dX1_become_87 : decode cX1_become 87 = .ok (.iconst 0, 1) := by decide +kernel
theorem dX1_become_88 : decode cX1_become 88 = .ok (.aload_n 0, 1) := by decide +kernel
theorem dX1_become_89 : decode cX1_become 89 = .ok (.getfield 31, 3) := by decide +kernel
theorem dX1_become_92 : decode cX1_become 92 = .ok (.arraylength, 1) := by decide +kernel
theorem dX1_become_93 : decode cX1_become 93 = .ok (.invokestatic 43, 3) := by decide +kernel
theorem dX1_become_96 : decode cX1_become 96 = .ok (.aload_n 1, 1) := by decide +kernel
theorem dX1_become_97 : decode cX1_become 97 = .ok (.getfield 37, 3) := by decide +kernel
theorem dX1_become_100 : decode cX1_become 100 = .ok (.iconst 0, 1) := by decide +kernel
theorem dX1_become_101 : decode cX1_become 101 = .ok (.aload_n 0, 1) := by decide +kernel
theorem dX1_become_102 : decode cX1_become 102 = .ok (.getfield 37, 3) := by decide +kernel
theorem dX1_become_105 : decode cX1_become 105 = .ok (.iconst 0, 1) := by decide +kernel
theorem dX1_become_106 : decode cX1_become 106 = .ok (.aload_n 0, 1) := by decide +kernel
theorem dX1_become_107 : decode cX1_become 107 = .ok (.getfield 37, 3) := by decide +kernel
theorem dX1_become_110 : decode cX1_become 110 = .ok (.arraylength, 1) := by decide +kernel
theorem dX1_become_111 : decode cX1_become 111 = .ok (.invokestatic 43, 3) := by decide +kernel
theorem dX1_become_114 : decode cX1_become 114 = .ok (.return_, 1) := by decide +kernel
theorem dX1_addColour_0 : decode cX1_addColour 0 = .ok (.aload_n 0, 1) := by decide +kernel
theorem dX1_addColour_1 : decode cX1_addColour 1 = .ok (.getfield 9, 3) := by decide +kernel
theorem dX1_addColour_4 : decode cX1_addColour 4 = .ok (.istore 4, 2) := by decide +kernel
theorem dX1_addColour_6 : decode cX1_addColour 6 = .ok (.aload_n 0, 1) := by decide +kernel
theorem dX1_addColour_7 : decode cX1_addColour 7 = .ok (.getfield 15, 3) := by decide +kernel
theorem dX1_addColour_10 : decode cX1_addColour 10 = .ok (.iconst 3, 1) := by decide +kernel
theorem dX1_addColour_11 : decode cX1_addColour 11 = .ok (.iload 4, 2) := by decide +kernel
theorem dX1_addColour_13 : decode cX1_addColour 13 = .ok (.imul, 1) := by decide +kernel
theorem dX1_addColour_14 : decode cX1_addColour 14 = .ok (.iload_n 1, 1) := by decide +kernel
theorem dX1_addColour_15 : decode cX1_addColour 15 = .ok (.iload_n 2, 1) := by decide +kernel
theorem dX1_addColour_16 : decode cX1_addColour 16 = .ok (.iload_n 3, 1) := by decide +kernel
theorem dX1_addColour_17 : decode cX1_addColour 17 = .ok (.invokestatic 49, 3) := by decide +kernel
theorem dX1_addColour_20 : decode cX1_addColour 20 = .ok (.pop, 1) := by decide +kernel
theorem dX1_addColour_21 : decode cX1_addColour 21 = .ok (.aload_n 0, 1) := by decide +kernel
theorem dX1_addColour_22 : decode cX1_addColour 22 = .ok (.dup, 1) := by decide +kernel
theorem dX1_addColour_23 : decode cX1_addColour 23 = .ok (.getfield 9, 3) := by decide +kernel
theorem dX1_addColour_26 : decode cX1_addColour 26 = .ok (.iconst 1, 1) := by decide +kernel
theorem dX1_addColour_27 : decode cX1_addColour 27 = .ok (.iadd, 1) := by decide +kernel
theorem dX1_addColour_28 : decode cX1_addColour 28 = .ok (.putfield 9, 3) := by decide +kernel
theorem dX1_addColour_31 : decode cX1_addColour 31 = .ok (.iload 4, 2) := by decide +kernel
theorem dX1_addColour_33 : decode cX1_addColour 33 = .ok (.ireturn, 1) := by decide +kernel
theorem dX1_setLimit_0 : decode cX1_setLimit 0 = .ok (.aload_n 0, 1) := by decide +kernel
theorem dX1_setLimit_1 : decode cX1_setLimit 1 = .ok (.getfield 31, 3) := by decide +kernel
theorem dX1_setLimit_4 : decode cX1_setLimit 4 = .ok (.iload_n 1, 1) := by decide +kernel
theorem dX1_setLimit_5 : decode cX1_setLimit 5 = .ok (.iaload, 1) := by decide +kernel
theorem dX1_setLimit_6 : decode cX1_setLimit 6 = .ok (.istore_n 3, 1) := by decide +kernel
theorem dX1_setLimit_7 : decode cX1_setLimit 7 = .ok (.aload_n 0, 1) := by decide +kernel
theorem dX1_setLimit_8 : decode cX1_setLimit 8 = .ok (.getfield 31, 3) := by decide +kernel
theorem dX1_setLimit_11 : decode cX1_setLimit 11 = .ok (.iload_n 1, 1) := by decide +kernel
theorem dX1_setLimit_12 : decode cX1_setLimit 12 = .ok (.iload_n 2, 1) := by decide +kernel
theorem dX1_setLimit_13 : decode cX1_setLimit 13 = .ok (.iastore, 1) := by decide +kernel
theorem dX1_setLimit_14 : decode cX1_setLimit 14 = .ok (.iload_n 3, 1) := by decide +kernel
theorem dX1_setLimit_15 : decode cX1_setLimit 15 = .ok (.ireturn, 1) := by decide +kernel
theorem dX1_setFixed_0 : decode cX1_setFixed 0 = .ok (.aload_n 0, 1) := by decide +kernel
theorem dX1_setFixed_1 : decode cX1_setFixed 1 = .ok (.iload_n 2, 1) := by decide +kernel
theorem dX1_setFixed_2 : decode cX1_setFixed 2 = .ok (.iconst 1, 1) := by decide +kernel
theorem dX1_setFixed_3 : decode cX1_setFixed 3 = .ok (.if_icmp .ne 14, 3) := by decide +kernel
theorem dX1_setFixed_6 : decode cX1_setFixed 6 = .ok (.aload_n 0, 1) := by decide +kernel
theorem dX1_setFixed_7 : decode cX1_setFixed 7 = .ok (.getfield 34, 3) := by decide +kernel
theorem dX1_setFixed_10 : decode cX1_setFixed 10 = .ok (.iconst 1, 1) := by decide +kernel
theorem dX1_setFixed_11 : decode cX1_setFixed 11 = .ok (.iload_n 1, 1) := by decide +kernel
theorem dX1_setFixed_12 : decode cX1_setFixed 12 = .ok (.ishl, 1) := by decide +kernel
theorem dX1_setFixed_13 : decode cX1_setFixed 13 = .ok (.ior, 1) := by decide +kernel
theorem dX1_setFixed_14 : decode cX1_setFixed 14 = .ok (.goto 13, 3) := by decide +kernel
theorem dX1_setFixed_17 : decode cX1_setFixed 17 = .ok (.aload_n 0, 1) := by decide +kernel
theorem dX1_setFixed_18 : decode cX1_setFixed 18 = .ok (.getfield 34, 3) := by decide +kernel
theorem dX1_setFixed_21 : decode cX1_setFixed 21 = .ok (.iconst 1, 1) := by decide +kernel
theorem dX1_setFixed_22 : decode cX1_setFixed 22 = .ok (.iload_n 1, 1) := by decide +kernel
theorem dX1_setFixed_23 : decode cX1_setFixed 23 = .ok (.ishl, 1) := by decide +kernel
theorem dX1_setFixed_24 : decode cX1_setFixed 24 = .ok (.iconst (-1), 1) := by decide +kernel
theorem dX1_setFixed_25 : decode cX1_setFixed 25 = .ok (.ixor, 1) := by decide +kernel
theorem dX1_setFixed_26 : decode cX1_setFixed 26 = .ok (.iand, 1) := by decide +kernel
theorem dX1_setFixed_27 : decode cX1_setFixed 27 = .ok (.putfield 34, 3) := by decide +kernel
theorem dX1_setFixed_30 : decode cX1_setFixed 30 = .ok (.aload_n 0, 1) := by decide +kernel
theorem dX1_setFixed_31 : decode cX1_setFixed 31 = .ok (.getfield 34, 3) := by decide +kernel
theorem dX1_setFixed_34 : decode cX1_setFixed 34 = .ok (.invokestatic 53, 3) := by decide +kernel
theorem dX1_setFixed_37 : decode cX1_setFixed 37 = .ok (.ireturn, 1) := by decide +kernel
theorem dX1_isFixed_0 : decode cX1_isFixed 0 = .ok (.aload_n 0, 1) := by decide +kernel
theorem dX1_isFixed_1 : decode cX1_isFixed 1 = .ok (.getfield 34, 3) := by decide +kernel
theorem dX1_isFixed_4 : decode cX1_isFixed 4 = .ok (.iload_n 1, 1) := by decide +kernel
theorem dX1_isFixed_5 : decode cX1_isFixed 5 = .ok (.ishr, 1) := by decide +kernel
theorem dX1_isFixed_6 : decode cX1_isFixed 6 = .ok (.iconst 1, 1) := by decide +kernel
theorem dX1_isFixed_7 : decode cX1_isFixed 7 = .ok (.iand, 1) := by decide +kernel
theorem dX1_isFixed_8 : decode cX1_isFixed 8 = .ok (.iconst 1, 1) := by decide +kernel
theorem dX1_isFixed_9 : decode cX1_isFixed 9 = .ok (.if_icmp .ne 7, 3) := by decide +kernel
theorem dX1_isFixed_12 : decode cX1_isFixed 12 = .ok (.iconst 1, 1) := by decide +kernel
theorem dX1_isFixed_13 : decode cX1_isFixed 13 = .ok (.goto 4, 3) := by decide +kernel
theorem dX1_isFixed_16 : decode cX1_isFixed 16 = .ok (.iconst 0, 1) := by decide +kernel
theorem dX1_isFixed_17 : decode cX1_isFixed 17 = .ok (.ireturn, 1) := by decide +kernel
theorem dX1_putIntoRow_0 : decode cX1_putIntoRow 0 = .ok (.aload_n 0, 1) := by decide +kernel
theorem dX1_putIntoRow_1 : decode cX1_putIntoRow 1 = .ok (.getfield 40, 3) := by decide +kernel
theorem dX1_putIntoRow_4 : decode cX1_putIntoRow 4 = .ok (.aload_n 0, 1) := by decide +kernel
theorem dX1_putIntoRow_5 : decode cX1_putIntoRow 5 = .ok (.getfield 37, 3) := by decide +kernel
theorem dX1_putIntoRow_8 : decode cX1_putIntoRow 8 = .ok (.arraylength, 1) := by decide +kernel
theorem dX1_putIntoRow_9 : decode cX1_putIntoRow 9 = .ok (.if_icmp .ge 23, 3) := by decide +kernel
theorem dX1_putIntoRow_12 : decode cX1_putIntoRow 12 = .ok (.aload_n 0, 1) := by decide +kernel
theorem dX1_putIntoRow_13 : decode cX1_putIntoRow 13 = .ok (.getfield 37, 3) := by decide +kernel
theorem dX1_putIntoRow_16 : decode cX1_putIntoRow 16 = .ok (.aload_n 0, 1) := by decide +kernel
theorem dX1_putIntoRow_17 : decode cX1_putIntoRow 17 = .ok (.getfield 40, 3) := by decide +kernel
theorem dX1_putIntoRow_20 : decode cX1_putIntoRow 20 = .ok (.iload_n 1, 1) := by decide +kernel
theorem dX1_putIntoRow_21 : decode cX1_putIntoRow 21 = .ok (.iastore, 1) := by decide +kernel
theorem dX1_putIntoRow_22 : decode cX1_putIntoRow 22 = .ok (.aload_n 0, 1) := by decide +kernel
theorem dX1_putIntoRow_23 : decode cX1_putIntoRow 23 = .ok (.dup, 1) := by decide +kernel
theorem dX1_putIntoRow_24 : decode cX1_putIntoRow 24 = .ok (.getfield 40, 3) := by decide +kernel
theorem dX1_putIntoRow_27 : decode cX1_putIntoRow 27 = .ok (.iconst 1, 1) := by decide +kernel
theorem dX1_putIntoRow_28 : decode cX1_putIntoRow 28 = .ok (.iadd, 1) := by decide +kernel
theorem dX1_putIntoRow_29 : decode cX1_putIntoRow 29 = .ok (.putfield 40, 3) := by decide +kernel
theorem dX1_putIntoRow_32 : decode cX1_putIntoRow 32 = .ok (.return_, 1) := by decide +kernel
theorem dX1_placeOf_0 : decode cX1_placeOf 0 = .ok (.iconst 0, 1) := by decide +kernel
theorem dX1_placeOf_1 : decode cX1_placeOf 1 = .ok (.istore_n 2, 1) := by decide +kernel
theorem dX1_placeOf_2 : decode cX1_placeOf 2 = .ok (.iload_n 2, 1) := by decide +kernel
theorem dX1_placeOf_3 : decode cX1_placeOf 3 = .ok (.aload_n 0, 1) := by decide +kernel
theorem dX1_placeOf_4 : decode cX1_placeOf 4 = .ok (.getfield 40, 3) := by decide +kernel
theorem dX1_placeOf_7 : decode cX1_placeOf 7 = .ok (.if_icmp .ge 21, 3) := by decide +kernel
theorem dX1_placeOf_10 : decode cX1_placeOf 10 = .ok (.aload_n 0, 1) := by decide +kernel
theorem dX1_placeOf_11 : decode cX1_placeOf 11 = .ok (.getfield 37, 3) := by decide +kernel
theorem dX1_placeOf_14 : decode cX1_placeOf 14 = .ok (.iload_n 2, 1) := by decide +kernel
theorem dX1_placeOf_15 : decode cX1_placeOf 15 = .ok (.iaload, 1) := by decide +kernel
theorem dX1_placeOf_16 : decode cX1_placeOf 16 = .ok (.iload_n 1, 1) := by decide +kernel
theorem dX1_placeOf_17 : decode cX1_placeOf 17 = .ok (.if_icmp .ne 5, 3) := by decide +kernel
theorem dX1_placeOf_20 : decode cX1_placeOf 20 = .ok (.iload_n 2, 1) := by decide +kernel
theorem dX1_placeOf_21 : decode cX1_placeOf 21 = .ok (.ireturn, 1) := by decide +kernel
theorem dX1_placeOf_22 : decode cX1_placeOf 22 = .ok (.iinc 2 1, 3) := by decide +kernel
theorem dX1_placeOf_25 : decode cX1_placeOf 25 = .ok (.goto (-23), 3) := by decide +kernel
theorem dX1_placeOf_28 : decode cX1_placeOf 28 = .ok (.iconst (-1), 1) := by decide +kernel
theorem dX1_placeOf_29 : decode cX1_placeOf 29 = .ok (.ireturn, 1) := by decide +kernel
theorem dX1_rowBits_0 : decode cX1_rowBits 0 = .ok (.iconst 0, 1) := by decide +kernel
theorem dX1_rowBits_1 : decode cX1_rowBits 1 = .ok (.istore_n 1, 1) := by decide +kernel
theorem dX1_rowBits_2 : decode cX1_rowBits 2 = .ok (.iconst 0, 1) := by decide +kernel
theorem dX1_rowBits_3 : decode cX1_rowBits 3 = .ok (.istore_n 2, 1) := by decide +kernel
theorem dX1_rowBits_4 : decode cX1_rowBits 4 = .ok (.iload_n 2, 1) := by decide +kernel
theorem dX1_rowBits_5 : decode cX1_rowBits 5 = .ok (.aload_n 0, 1) := by decide +kernel
theorem dX1_rowBits_6 : decode cX1_rowBits 6 = .ok (.getfield 40, 3) := by decide +kernel
theorem dX1_rowBits_9 : decode cX1_rowBits 9 = .ok (.if_icmp .ge 20, 3) := by decide +kernel
theorem dX1_rowBits_12 : decode cX1_rowBits 12 = .ok (.iload_n 1, 1) := by decide +kernel
theorem dX1_rowBits_13 : decode cX1_rowBits 13 = .ok (.iconst 1, 1) := by decide +kernel
theorem dX1_rowBits_14 : decode cX1_rowBits 14 = .ok (.aload_n 0, 1) := by decide +kernel
theorem dX1_rowBits_15 : decode cX1_rowBits 15 = .ok (.getfield 37, 3) := by decide +kernel
theorem dX1_rowBits_18 : decode cX1_rowBits 18 = .ok (.iload_n 2, 1) := by decide +kernel
theorem dX1_rowBits_19 : decode cX1_rowBits 19 = .ok (.iaload, 1) := by decide +kernel
theorem dX1_rowBits_20 : decode cX1_rowBits 20 = .ok (.ishl, 1) := by decide +kernel
theorem dX1_rowBits_21 : decode cX1_rowBits 21 = .ok (.ior, 1) := by decide +kernel
theorem dX1_rowBits_22 : decode cX1_rowBits 22 = .ok (.istore_n 1, 1) := by decide +kernel
theorem dX1_rowBits_23 : decode cX1_rowBits 23 = .ok (.iinc 2 1, 3) := by decide +kernel
theorem dX1_rowBits_26 : decode cX1_rowBits 26 = .ok (.goto (-22), 3) := by decide +kernel
theorem dX1_rowBits_29 : decode cX1_rowBits 29 = .ok (.iload_n 1, 1) := by decide +kernel
theorem dX1_rowBits_30 : decode cX1_rowBits 30 = .ok (.ireturn, 1) := by decide +kernel
theorem dX1_countingBits_0 : decode cX1_countingBits 0 = .ok (.iconst 0, 1) := by decide +kernel
theorem dX1_countingBits_1 : decode cX1_countingBits 1 = .ok (.istore_n 1, 1) := by decide +kernel
theorem dX1_countingBits_2 : decode cX1_countingBits 2 = .ok (.iconst 0, 1) := by decide +kernel
theorem dX1_countingBits_3 : decode cX1_countingBits 3 = .ok (.istore_n 2, 1) := by decide +kernel
theorem dX1_countingBits_4 : decode cX1_countingBits 4 = .ok (.iload_n 2, 1) := by decide +kernel
theorem dX1_countingBits_5 : decode cX1_countingBits 5 = .ok (.iconst 4, 1) := by decide +kernel
theorem dX1_countingBits_6 : decode cX1_countingBits 6 = .ok (.if_icmp .ge 26, 3) := by decide +kernel
theorem dX1_countingBits_9 : decode cX1_countingBits 9 = .ok (.iload_n 1, 1) := by decide +kernel
theorem dX1_countingBits_10 : decode cX1_countingBits 10 = .ok (.aload_n 0, 1) := by decide +kernel
theorem dX1_countingBits_11 : decode cX1_countingBits 11 = .ok (.getfield 28, 3) := by decide +kernel
theorem dX1_countingBits_14 : decode cX1_countingBits 14 = .ok (.bipush 13, 2) := by decide +kernel
theorem dX1_countingBits_16 : decode cX1_countingBits 16 = .ok (.iload_n 2, 1) := by decide +kernel
theorem dX1_countingBits_17 : decode cX1_countingBits 17 = .ok (.imul, 1) := by decide +kernel
theorem dX1_countingBits_18 : decode cX1_countingBits 18 = .ok (.bipush 12, 2) := by decide +kernel
theorem dX1_countingBits_20 : decode cX1_countingBits 20 = .ok (.iadd, 1) := by decide +kernel
theorem dX1_countingBits_21 : decode cX1_countingBits 21 = .ok (.iaload, 1) := by decide +kernel
theorem dX1_countingBits_22 : decode cX1_countingBits 22 = .ok (.iload_n 2, 1) := by decide +kernel
theorem dX1_countingBits_23 : decode cX1_countingBits 23 = .ok (.ishl, 1) := by decide +kernel
theorem dX1_countingBits_24 : decode cX1_countingBits 24 = .ok (.ior, 1) := by decide +kernel
theorem dX1_countingBits_25 : decode cX1_countingBits 25 = .ok (.istore_n 1, 1) := by decide +kernel
theorem dX1_countingBits_26 : decode cX1_countingBits 26 = .ok (.iinc 2 1, 3) := by decide +kernel
theorem dX1_countingBits_29 : decode cX1_countingBits 29 = .ok (.goto (-25), 3) := by decide +kernel
theorem dX1_countingBits_32 : decode cX1_countingBits 32 = .ok (.iload_n 1, 1) := by decide +kernel
theorem dX1_countingBits_33 : decode cX1_countingBits 33 = .ok (.ireturn, 1) := by decide +kernel
theorem dX1_fitBits_0 : decode cX1_fitBits 0 = .ok (.iconst 0, 1) := by decide +kernel
theorem dX1_fitBits_1 : decode cX1_fitBits 1 = .ok (.istore_n 1, 1) := by decide +kernel
theorem dX1_fitBits_2 : decode cX1_fitBits 2 = .ok (.iconst 0, 1) := by decide +kernel
theorem dX1_fitBits_3 : decode cX1_fitBits 3 = .ok (.istore_n 2, 1) := by decide +kernel
theorem dX1_fitBits_4 : decode cX1_fitBits 4 = .ok (.iload_n 2, 1) := by decide +kernel
theorem dX1_fitBits_5 : decode cX1_fitBits 5 = .ok (.aload_n 0, 1) := by decide +kernel
theorem dX1_fitBits_6 : decode cX1_fitBits 6 = .ok (.getfield 9, 3) := by decide +kernel
theorem dX1_fitBits_9 : decode cX1_fitBits 9 = .ok (.if_icmp .ge 23, 3) := by decide +kernel
theorem dX1_fitBits_12 : decode cX1_fitBits 12 = .ok (.aload_n 0, 1) := by decide +kernel
theorem dX1_fitBits_13 : decode cX1_fitBits 13 = .ok (.iload_n 2, 1) := by decide +kernel
theorem dX1_fitBits_14 : decode cX1_fitBits 14 = .ok (.invokevirtual 59, 3) := by decide +kernel
theorem dX1_fitBits_17 : decode cX1_fitBits 17 = .ok (.ifCond .eq 9, 3) := by decide +kernel
theorem dX1_fitBits_20 : decode cX1_fitBits 20 = .ok (.iload_n 1, 1) := by decide +kernel
theorem dX1_fitBits_21 : decode cX1_fitBits 21 = .ok (.iconst 1, 1) := by decide +kernel
theorem dX1_fitBits_22 : decode cX1_fitBits 22 = .ok (.iload_n 2, 1) := by decide +kernel
theorem dX1_fitBits_23 : decode cX1_fitBits 23 = .ok (.ishl, 1) := by decide +kernel
theorem dX1_fitBits_24 : decode cX1_fitBits 24 = .ok (.ior, 1) := by decide +kernel
theorem dX1_fitBits_25 : decode cX1_fitBits 25 = .ok (.istore_n 1, 1) := by decide +kernel
theorem dX1_fitBits_26 : decode cX1_fitBits 26 = .ok (.iinc 2 1, 3) := by decide +kernel
theorem dX1_fitBits_29 : decode cX1_fitBits 29 = .ok (.goto (-25), 3) := by decide +kernel
theorem dX1_fitBits_32 : decode cX1_fitBits 32 = .ok (.iload_n 1, 1) := by decide +kernel
theorem dX1_fitBits_33 : decode cX1_fitBits 33 = .ok (.ireturn, 1) := by decide +kernel
theorem dX1_isFit_0 : decode cX1_isFit 0 = .ok (.aload_n 0, 1) := by decide +kernel
theorem dX1_isFit_1 : decode cX1_isFit 1 = .ok (.iload_n 1, 1) := by decide +kernel
theorem dX1_isFit_2 : decode cX1_isFit 2 = .ok (.invokevirtual 63, 3) := by decide +kernel
theorem dX1_isFit_5 : decode cX1_isFit 5 = .ok (.fstore_n 2, 1) := by decide +kernel
theorem dX1_isFit_6 : decode cX1_isFit 6 = .ok (.fload_n 2, 1) := by decide +kernel
theorem dX1_isFit_7 : decode cX1_isFit 7 = .ok (.aload_n 0, 1) := by decide +kernel
theorem dX1_isFit_8 : decode cX1_isFit 8 = .ok (.getfield 31, 3) := by decide +kernel
theorem dX1_isFit_11 : decode cX1_isFit 11 = .ok (.iconst 0, 1) := by decide +kernel
theorem dX1_isFit_12 : decode cX1_isFit 12 = .ok (.iaload, 1) := by decide +kernel
theorem dX1_isFit_13 : decode cX1_isFit 13 = .ok (.i2f, 1) := by decide +kernel
theorem dX1_isFit_14 : decode cX1_isFit 14 = .ok (.fcmp .g, 1) := by decide +kernel
theorem dX1_isFit_15 : decode cX1_isFit 15 = .ok (.ifCond .lt 15, 3) := by decide +kernel
theorem dX1_isFit_18 : decode cX1_isFit 18 = .ok (.fload_n 2, 1) := by decide +kernel
theorem dX1_isFit_19 : decode cX1_isFit 19 = .ok (.aload_n 0, 1) := by decide +kernel
theorem dX1_isFit_20 : decode cX1_isFit 20 = .ok (.getfield 31, 3) := by decide +kernel
theorem dX1_isFit_23 : decode cX1_isFit 23 = .ok (.iconst 1, 1) := by decide +kernel
theorem dX1_isFit_24 : decode cX1_isFit 24 = .ok (.iaload, 1) := by decide +kernel
theorem dX1_isFit_25 : decode cX1_isFit 25 = .ok (.i2f, 1) := by decide +kernel
theorem dX1_isFit_26 : decode cX1_isFit 26 = .ok (.fcmp .l, 1) := by decide +kernel
theorem dX1_isFit_27 : decode cX1_isFit 27 = .ok (.ifCond .le 5, 3) := by decide +kernel
theorem dX1_isFit_30 : decode cX1_isFit 30 = .ok (.iconst 0, 1) := by decide +kernel
theorem dX1_isFit_31 : decode cX1_isFit 31 = .ok (.ireturn, 1) := by decide +kernel
theorem dX1_isFit_32 : decode cX1_isFit 32 = .ok (.fload_n 2, 1) := by decide +kernel
theorem dX1_isFit_33 : decode cX1_isFit 33 = .ok (.aload_n 0, 1) := by decide +kernel
theorem dX1_isFit_34 : decode cX1_isFit 34 = .ok (.getfield 19, 3) := by decide +kernel
theorem dX1_isFit_37 : decode cX1_isFit 37 = .ok (.iconst 0, 1) := by decide +kernel
theorem dX1_isFit_38 : decode cX1_isFit 38 = .ok (.invokestatic 67, 3) := by decide +kernel
theorem dX1_isFit_41 : decode cX1_isFit 41 = .ok (.fsub, 1) := by decide +kernel
theorem dX1_isFit_42 : decode cX1_isFit 42 = .ok (.fstore_n 3, 1) := by decide +kernel
theorem dX1_isFit_43 : decode cX1_isFit 43 = .ok (.fload_n 3, 1) := by decide +kernel
theorem dX1_isFit_44 : decode cX1_isFit 44 = .ok (.fconst 0, 1) := by decide +kernel
theorem dX1_isFit_45 : decode cX1_isFit 45 = .ok (.fcmp .g, 1) := by decide +kernel
theorem dX1_isFit_46 : decode cX1_isFit 46 = .ok (.ifCond .ge 8, 3) := by decide +kernel
theorem dX1_isFit_49 : decode cX1_isFit 49 = .ok (.fload_n 3, 1) := by decide +kernel
theorem dX1_isFit_50 : decode cX1_isFit 50 = .ok (.fneg, 1) := by decide +kernel
theorem dX1_isFit_51 : decode cX1_isFit 51 = .ok (.goto 4, 3) := by decide +kernel
theorem dX1_isFit_54 : decode cX1_isFit 54 = .ok (.fload_n 3, 1) := by decide +kernel
theorem dX1_isFit_55 : decode cX1_isFit 55 = .ok (.fstore 4, 2) := by decide +kernel
theorem dX1_isFit_57 : decode cX1_isFit 57 = .ok (.fload 4, 2) := by decide +kernel
theorem dX1_isFit_59 : decode cX1_isFit 59 = .ok (.aload_n 0, 1) := by decide +kernel
theorem dX1_isFit_60 : decode cX1_isFit 60 = .ok (.getfield 31, 3) := by decide +kernel
theorem dX1_isFit_63 : decode cX1_isFit 63 = .ok (.iconst 2, 1) := by decide +kernel
theorem dX1_isFit_64 : decode cX1_isFit 64 = .ok (.iaload, 1) := by decide +kernel
theorem dX1_isFit_65 : decode cX1_isFit 65 = .ok (.i2f, 1) := by decide +kernel
theorem dX1_isFit_66 : decode cX1_isFit 66 = .ok (.fcmp .l, 1) := by decide +kernel
theorem dX1_isFit_67 : decode cX1_isFit 67 = .ok (.ifCond .lt 7, 3) := by decide +kernel
theorem dX1_isFit_70 : decode cX1_isFit 70 = .ok (.iconst 1, 1) := by decide +kernel
theorem dX1_isFit_71 : decode cX1_isFit 71 = .ok (.goto 4, 3) := by decide +kernel
theorem dX1_isFit_74 : decode cX1_isFit 74 = .ok (.iconst 0, 1) := by decide +kernel
theorem dX1_isFit_75 : decode cX1_isFit 75 = .ok (.ireturn, 1) := by decide +kernel
theorem dX1_lightOf_0 : decode cX1_lightOf 0 = .ok (.aload_n 0, 1) := by decide +kernel
theorem dX1_lightOf_1 : decode cX1_lightOf 1 = .ok (.getfield 15, 3) := by decide +kernel
theorem dX1_lightOf_4 : decode cX1_lightOf 4 = .ok (.iconst 3, 1) := by decide +kernel
theorem dX1_lightOf_5 : decode cX1_lightOf 5 = .ok (.iload_n 1, 1) := by decide +kernel
theorem dX1_lightOf_6 : decode cX1_lightOf 6 = .ok (.imul, 1) := by decide +kernel
theorem dX1_lightOf_7 : decode cX1_lightOf 7 = .ok (.invokestatic 67, 3) := by decide +kernel
theorem dX1_lightOf_10 : decode cX1_lightOf 10 = .ok (.freturn, 1) := by decide +kernel
theorem dX1_lightAt_0 : decode cX1_lightAt 0 = .ok (.ldc 71, 2) := by decide +kernel
theorem dX1_lightAt_2 : decode cX1_lightAt 2 = .ok (.aload_n 0, 1) := by decide +kernel
theorem dX1_lightAt_3 : decode cX1_lightAt 3 = .ok (.iload_n 1, 1) := by decide +kernel
theorem dX1_lightAt_4 : decode cX1_lightAt 4 = .ok (.iaload, 1) := by decide +kernel
theorem dX1_lightAt_5 : decode cX1_lightAt 5 = .ok (.i2f, 1) := by decide +kernel
theorem dX1_lightAt_6 : decode cX1_lightAt 6 = .ok (.fmul, 1) := by decide +kernel
theorem dX1_lightAt_7 : decode cX1_lightAt 7 = .ok (.ldc 72, 2) := by decide +kernel
theorem dX1_lightAt_9 : decode cX1_lightAt 9 = .ok (.aload_n 0, 1) := by decide +kernel
theorem dX1_lightAt_10 : decode cX1_lightAt 10 = .ok (.iload_n 1, 1) := by decide +kernel
theorem dX1_lightAt_11 : decode cX1_lightAt 11 = .ok (.iconst 1, 1) := by decide +kernel
theorem dX1_lightAt_12 : decode cX1_lightAt 12 = .ok (.iadd, 1) := by decide +kernel
theorem dX1_lightAt_13 : decode cX1_lightAt 13 = .ok (.iaload, 1) := by decide +kernel
theorem dX1_lightAt_14 : decode cX1_lightAt 14 = .ok (.i2f, 1) := by decide +kernel
theorem dX1_lightAt_15 : decode cX1_lightAt 15 = .ok (.fmul, 1) := by decide +kernel
theorem dX1_lightAt_16 : decode cX1_lightAt 16 = .ok (.fadd, 1) := by decide +kernel
theorem dX1_lightAt_17 : decode cX1_lightAt 17 = .ok (.ldc 73, 2) := by decide +kernel
theorem dX1_lightAt_19 : decode cX1_lightAt 19 = .ok (.aload_n 0, 1) := by decide +kernel
theorem dX1_lightAt_20 : decode cX1_lightAt 20 = .ok (.iload_n 1, 1) := by decide +kernel
theorem dX1_lightAt_21 : decode cX1_lightAt 21 = .ok (.iconst 2, 1) := by decide +kernel
theorem dX1_lightAt_22 : decode cX1_lightAt 22 = .ok (.iadd, 1) := by decide +kernel
theorem dX1_lightAt_23 : decode cX1_lightAt 23 = .ok (.iaload, 1) := by decide +kernel
theorem dX1_lightAt_24 : decode cX1_lightAt 24 = .ok (.i2f, 1) := by decide +kernel
theorem dX1_lightAt_25 : decode cX1_lightAt 25 = .ok (.fmul, 1) := by decide +kernel
theorem dX1_lightAt_26 : decode cX1_lightAt 26 = .ok (.fadd, 1) := by decide +kernel
theorem dX1_lightAt_27 : decode cX1_lightAt 27 = .ok (.freturn, 1) := by decide +kernel
theorem dX1_seenBy_0 : decode cX1_seenBy 0 = .ok (.bipush 13, 2) := by decide +kernel
theorem dX1_seenBy_2 : decode cX1_seenBy 2 = .ok (.iload_n 1, 1) := by decide +kernel
theorem dX1_seenBy_3 : decode cX1_seenBy 3 = .ok (.imul, 1) := by decide +kernel
theorem dX1_seenBy_4 : decode cX1_seenBy 4 = .ok (.iconst 3, 1) := by decide +kernel
theorem dX1_seenBy_5 : decode cX1_seenBy 5 = .ok (.iload_n 3, 1) := by decide +kernel
theorem dX1_seenBy_6 : decode cX1_seenBy 6 = .ok (.imul, 1) := by decide +kernel
theorem dX1_seenBy_7 : decode cX1_seenBy 7 = .ok (.iadd, 1) := by decide +kernel
theorem dX1_seenBy_8 : decode cX1_seenBy 8 = .ok (.istore 4, 2) := by decide +kernel
theorem dX1_seenBy_10 : decode cX1_seenBy 10 = .ok (.aload_n 0, 1) := by decide +kernel
theorem dX1_seenBy_11 : decode cX1_seenBy 11 = .ok (.getfield 28, 3) := by decide +kernel
theorem dX1_seenBy_14 : decode cX1_seenBy 14 = .ok (.iload 4, 2) := by decide +kernel
theorem dX1_seenBy_16 : decode cX1_seenBy 16 = .ok (.iaload, 1) := by decide +kernel
theorem dX1_seenBy_17 : decode cX1_seenBy 17 = .ok (.i2f, 1) := by decide +kernel
theorem dX1_seenBy_18 : decode cX1_seenBy 18 = .ok (.ldc 74, 2) := by decide +kernel
theorem dX1_seenBy_20 : decode cX1_seenBy 20 = .ok (.fdiv, 1) := by decide +kernel
theorem dX1_seenBy_21 : decode cX1_seenBy 21 = .ok (.fstore 5, 2) := by decide +kernel
theorem dX1_seenBy_23 : decode cX1_seenBy 23 = .ok (.aload_n 0, 1) := by decide +kernel
theorem dX1_seenBy_24 : decode cX1_seenBy 24 = .ok (.getfield 28, 3) := by decide +kernel
theorem dX1_seenBy_27 : decode cX1_seenBy 27 = .ok (.iload 4, 2) := by decide +kernel
theorem dX1_seenBy_29 : decode cX1_seenBy 29 = .ok (.iconst 1, 1) := by decide +kernel
theorem dX1_seenBy_30 : decode cX1_seenBy 30 = .ok (.iadd, 1) := by decide +kernel
theorem dX1_seenBy_31 : decode cX1_seenBy 31 = .ok (.iaload, 1) := by decide +kernel
theorem dX1_seenBy_32 : decode cX1_seenBy 32 = .ok (.i2f, 1) := by decide +kernel
theorem dX1_seenBy_33 : decode cX1_seenBy 33 = .ok (.ldc 74, 2) := by decide +kernel
theorem dX1_seenBy_35 : decode cX1_seenBy 35 = .ok (.fdiv, 1) := by decide +kernel
theorem dX1_seenBy_36 : decode cX1_seenBy 36 = .ok (.fstore 6, 2) := by decide +kernel
theorem dX1_seenBy_38 : decode cX1_seenBy 38 = .ok (.aload_n 0, 1) := by decide +kernel
theorem dX1_seenBy_39 : decode cX1_seenBy 39 = .ok (.getfield 28, 3) := by decide +kernel
theorem dX1_seenBy_42 : decode cX1_seenBy 42 = .ok (.iload 4, 2) := by decide +kernel
theorem dX1_seenBy_44 : decode cX1_seenBy 44 = .ok (.iconst 2, 1) := by decide +kernel
theorem dX1_seenBy_45 : decode cX1_seenBy 45 = .ok (.iadd, 1) := by decide +kernel
theorem dX1_seenBy_46 : decode cX1_seenBy 46 = .ok (.iaload, 1) := by decide +kernel
theorem dX1_seenBy_47 : decode cX1_seenBy 47 = .ok (.i2f, 1) := by decide +kernel
theorem dX1_seenBy_48 : decode cX1_seenBy 48 = .ok (.ldc 74, 2) := by decide +kernel
theorem dX1_seenBy_50 : decode cX1_seenBy 50 = .ok (.fdiv, 1) := by decide +kernel
theorem dX1_seenBy_51 : decode cX1_seenBy 51 = .ok (.fstore 7, 2) := by decide +kernel
theorem dX1_seenBy_53 : decode cX1_seenBy 53 = .ok (.fload 5, 2) := by decide +kernel
theorem dX1_seenBy_55 : decode cX1_seenBy 55 = .ok (.aload_n 0, 1) := by decide +kernel
theorem dX1_seenBy_56 : decode cX1_seenBy 56 = .ok (.getfield 15, 3) := by decide +kernel
theorem dX1_seenBy_59 : decode cX1_seenBy 59 = .ok (.iconst 3, 1) := by decide +kernel
theorem dX1_seenBy_60 : decode cX1_seenBy 60 = .ok (.iload_n 2, 1) := by decide +kernel
theorem dX1_seenBy_61 : decode cX1_seenBy 61 = .ok (.imul, 1) := by decide +kernel
theorem dX1_seenBy_62 : decode cX1_seenBy 62 = .ok (.iaload, 1) := by decide +kernel
theorem dX1_seenBy_63 : decode cX1_seenBy 63 = .ok (.i2f, 1) := by decide +kernel
theorem dX1_seenBy_64 : decode cX1_seenBy 64 = .ok (.fmul, 1) := by decide +kernel
theorem dX1_seenBy_65 : decode cX1_seenBy 65 = .ok (.fload 6, 2) := by decide +kernel
theorem dX1_seenBy_67 : decode cX1_seenBy 67 = .ok (.aload_n 0, 1) := by decide +kernel
theorem dX1_seenBy_68 : decode cX1_seenBy 68 = .ok (.getfield 15, 3) := by decide +kernel
theorem dX1_seenBy_71 : decode cX1_seenBy 71 = .ok (.iconst 3, 1) := by decide +kernel
theorem dX1_seenBy_72 : decode cX1_seenBy 72 = .ok (.iload_n 2, 1) := by decide +kernel
theorem dX1_seenBy_73 : decode cX1_seenBy 73 = .ok (.imul, 1) := by decide +kernel
theorem dX1_seenBy_74 : decode cX1_seenBy 74 = .ok (.iconst 1, 1) := by decide +kernel
theorem dX1_seenBy_75 : decode cX1_seenBy 75 = .ok (.iadd, 1) := by decide +kernel
theorem dX1_seenBy_76 : decode cX1_seenBy 76 = .ok (.iaload, 1) := by decide +kernel
theorem dX1_seenBy_77 : decode cX1_seenBy 77 = .ok (.i2f, 1) := by decide +kernel
theorem dX1_seenBy_78 : decode cX1_seenBy 78 = .ok (.fmul, 1) := by decide +kernel
theorem dX1_seenBy_79 : decode cX1_seenBy 79 = .ok (.fadd, 1) := by decide +kernel
theorem dX1_seenBy_80 : decode cX1_seenBy 80 = .ok (.fload 7, 2) := by decide +kernel
theorem dX1_seenBy_82 : decode cX1_seenBy 82 = .ok (.aload_n 0, 1) := by decide +kernel
theorem dX1_seenBy_83 : decode cX1_seenBy 83 = .ok (.getfield 15, 3) := by decide +kernel
theorem dX1_seenBy_86 : decode cX1_seenBy 86 = .ok (.iconst 3, 1) := by decide +kernel
theorem dX1_seenBy_87 : decode cX1_seenBy 87 = .ok (.iload_n 2, 1) := by decide +kernel
theorem dX1_seenBy_88 : decode cX1_seenBy 88 = .ok (.imul, 1) := by decide +kernel
theorem dX1_seenBy_89 : decode cX1_seenBy 89 = .ok (.iconst 2, 1) := by decide +kernel
theorem dX1_seenBy_90 : decode cX1_seenBy 90 = .ok (.iadd, 1) := by decide +kernel
theorem dX1_seenBy_91 : decode cX1_seenBy 91 = .ok (.iaload, 1) := by decide +kernel
theorem dX1_seenBy_92 : decode cX1_seenBy 92 = .ok (.i2f, 1) := by decide +kernel
theorem dX1_seenBy_93 : decode cX1_seenBy 93 = .ok (.fmul, 1) := by decide +kernel
theorem dX1_seenBy_94 : decode cX1_seenBy 94 = .ok (.fadd, 1) := by decide +kernel
theorem dX1_seenBy_95 : decode cX1_seenBy 95 = .ok (.freturn, 1) := by decide +kernel
theorem dX1_isSeenAsMinusZero_0 : decode cX1_isSeenAsMinusZero 0 = .ok (.bipush 13, 2) := by decide +kernel
theorem dX1_isSeenAsMinusZero_2 : decode cX1_isSeenAsMinusZero 2 = .ok (.iload_n 1, 1) := by decide +kernel
theorem dX1_isSeenAsMinusZero_3 : decode cX1_isSeenAsMinusZero 3 = .ok (.imul, 1) := by decide +kernel
theorem dX1_isSeenAsMinusZero_4 : decode cX1_isSeenAsMinusZero 4 = .ok (.iconst 3, 1) := by decide +kernel
theorem dX1_isSeenAsMinusZero_5 : decode cX1_isSeenAsMinusZero 5 = .ok (.iload_n 3, 1) := by decide +kernel
theorem dX1_isSeenAsMinusZero_6 : decode cX1_isSeenAsMinusZero 6 = .ok (.imul, 1) := by decide +kernel
theorem dX1_isSeenAsMinusZero_7 : decode cX1_isSeenAsMinusZero 7 = .ok (.iadd, 1) := by decide +kernel
theorem dX1_isSeenAsMinusZero_8 : decode cX1_isSeenAsMinusZero 8 = .ok (.istore 4, 2) := by decide +kernel
theorem dX1_isSeenAsMinusZero_10 : decode cX1_isSeenAsMinusZero 10 = .ok (.iconst 0, 1) := by decide +kernel
theorem dX1_isSeenAsMinusZero_11 : decode cX1_isSeenAsMinusZero 11 = .ok (.istore 5, 2) := by decide +kernel
theorem dX1_isSeenAsMinusZero_13 : decode cX1_isSeenAsMinusZero 13 = .ok (.iload 5, 2) := by decide +kernel
theorem dX1_isSeenAsMinusZero_15 : decode cX1_isSeenAsMinusZero 15 = .ok (.iconst 3, 1) := by decide +kernel
theorem dX1_isSeenAsMinusZero_16 : decode cX1_isSeenAsMinusZero 16 = .ok (.if_icmp .ge 38, 3) := by decide +kernel
theorem dX1_isSeenAsMinusZero_19 : decode cX1_isSeenAsMinusZero 19 = .ok (.aload_n 0, 1) := by decide +kernel
theorem dX1_isSeenAsMinusZero_20 : decode cX1_isSeenAsMinusZero 20 = .ok (.getfield 28, 3) := by decide +kernel
theorem dX1_isSeenAsMinusZero_23 : decode cX1_isSeenAsMinusZero 23 = .ok (.iload 4, 2) := by decide +kernel
theorem dX1_isSeenAsMinusZero_25 : decode cX1_isSeenAsMinusZero 25 = .ok (.iload 5, 2) := by decide +kernel
theorem dX1_isSeenAsMinusZero_27 : decode cX1_isSeenAsMinusZero 27 = .ok (.iadd, 1) := by decide +kernel
theorem dX1_isSeenAsMinusZero_28 : decode cX1_isSeenAsMinusZero 28 = .ok (.iaload, 1) := by decide +kernel
theorem dX1_isSeenAsMinusZero_29 : decode cX1_isSeenAsMinusZero 29 = .ok (.ifCond .ge 17, 3) := by decide +kernel
theorem dX1_isSeenAsMinusZero_32 : decode cX1_isSeenAsMinusZero 32 = .ok (.aload_n 0, 1) := by decide +kernel
theorem dX1_isSeenAsMinusZero_33 : decode cX1_isSeenAsMinusZero 33 = .ok (.getfield 15, 3) := by decide +kernel
theorem dX1_isSeenAsMinusZero_36 : decode cX1_isSeenAsMinusZero 36 = .ok (.iconst 3, 1) := by decide +kernel
theorem dX1_isSeenAsMinusZero_37 : decode cX1_isSeenAsMinusZero 37 = .ok (.iload_n 2, 1) := by decide +kernel
theorem dX1_isSeenAsMinusZero_38 : decode cX1_isSeenAsMinusZero 38 = .ok (.imul, 1) := by decide +kernel
theorem dX1_isSeenAsMinusZero_39 : decode cX1_isSeenAsMinusZero 39 = .ok (.iload 5, 2) := by decide +kernel
theorem dX1_isSeenAsMinusZero_41 : decode cX1_isSeenAsMinusZero 41 = .ok (.iadd, 1) := by decide +kernel
theorem dX1_isSeenAsMinusZero_42 : decode cX1_isSeenAsMinusZero 42 = .ok (.iaload, 1) := by decide +kernel
theorem dX1_isSeenAsMinusZero_43 : decode cX1_isSeenAsMinusZero 43 = .ok (.ifCond .eq 5, 3) := by decide +kernel
theorem dX1_isSeenAsMinusZero_46 : decode cX1_isSeenAsMinusZero 46 = .ok (.iconst 0, 1) := by decide +kernel
theorem dX1_isSeenAsMinusZero_47 : decode cX1_isSeenAsMinusZero 47 = .ok (.ireturn, 1) := by decide +kernel
theorem dX1_isSeenAsMinusZero_48 : decode cX1_isSeenAsMinusZero 48 = .ok (.iinc 5 1, 3) := by decide +kernel
theorem dX1_isSeenAsMinusZero_51 : decode cX1_isSeenAsMinusZero 51 = .ok (.goto (-38), 3) := by decide +kernel
theorem dX1_isSeenAsMinusZero_54 : decode cX1_isSeenAsMinusZero 54 = .ok (.iconst 1, 1) := by decide +kernel
theorem dX1_isSeenAsMinusZero_55 : decode cX1_isSeenAsMinusZero 55 = .ok (.ireturn, 1) := by decide +kernel
theorem dX1_distanceFor_0 : decode cX1_distanceFor 0 = .ok (.bipush 13, 2) := by decide +kernel
theorem dX1_distanceFor_2 : decode cX1_distanceFor 2 = .ok (.iload_n 1, 1) := by decide +kernel
theorem dX1_distanceFor_3 : decode cX1_distanceFor 3 = .ok (.imul, 1) := by decide +kernel
theorem dX1_distanceFor_4 : decode cX1_distanceFor 4 = .ok (.bipush 9, 2) := by decide +kernel
theorem dX1_distanceFor_6 : decode cX1_distanceFor 6 = .ok (.iadd, 1) := by decide +kernel
theorem dX1_distanceFor_7 : decode cX1_distanceFor 7 = .ok (.istore 4, 2) := by decide +kernel
theorem dX1_distanceFor_9 : decode cX1_distanceFor 9 = .ok (.aload_n 0, 1) := by decide +kernel
theorem dX1_distanceFor_10 : decode cX1_distanceFor 10 = .ok (.iload_n 1, 1) := by decide +kernel
theorem dX1_distanceFor_11 : decode cX1_distanceFor 11 = .ok (.iload_n 2, 1) := by decide +kernel
theorem dX1_distanceFor_12 : decode cX1_distanceFor 12 = .ok (.iconst 0, 1) := by decide +kernel
theorem dX1_distanceFor_13 : decode cX1_distanceFor 13 = .ok (.invokevirtual 75, 3) := by decide +kernel
theorem dX1_distanceFor_16 : decode cX1_distanceFor 16 = .ok (.aload_n 0, 1) := by decide +kernel
theorem dX1_distanceFor_17 : decode cX1_distanceFor 17 = .ok (.iload_n 1, 1) := by decide +kernel
theorem dX1_distanceFor_18 : decode cX1_distanceFor 18 = .ok (.iload_n 3, 1) := by decide +kernel
theorem dX1_distanceFor_19 : decode cX1_distanceFor 19 = .ok (.iconst 0, 1) := by decide +kernel
theorem dX1_distanceFor_20 : decode cX1_distanceFor 20 = .ok (.invokevirtual 75, 3) := by decide +kernel
theorem dX1_distanceFor_23 : decode cX1_distanceFor 23 = .ok (.fsub, 1) := by decide +kernel
theorem dX1_distanceFor_24 : decode cX1_distanceFor 24 = .ok (.fstore 5, 2) := by decide +kernel
theorem dX1_distanceFor_26 : decode cX1_distanceFor 26 = .ok (.aload_n 0, 1) := by decide +kernel
theorem dX1_distanceFor_27 : decode cX1_distanceFor 27 = .ok (.iload_n 1, 1) := by decide +kernel
theorem dX1_distanceFor_28 : decode cX1_distanceFor 28 = .ok (.iload_n 2, 1) := by decide +kernel
theorem dX1_distanceFor_29 : decode cX1_distanceFor 29 = .ok (.iconst 1, 1) := by decide +kernel
theorem dX1_distanceFor_30 : decode cX1_distanceFor 30 = .ok (.invokevirtual 75, 3) := by decide +kernel
theorem dX1_distanceFor_33 : decode cX1_distanceFor 33 = .ok (.aload_n 0, 1) := by decide +kernel
theorem dX1_distanceFor_34 : decode cX1_distanceFor 34 = .ok (.iload_n 1, 1) := by decide +kernel
theorem dX1_distanceFor_35 : decode cX1_distanceFor 35 = .ok (.iload_n 3, 1) := by decide +kernel
theorem dX1_distanceFor_36 : decode cX1_distanceFor 36 = .ok (.iconst 1, 1) := by decide +kernel
theorem dX1_distanceFor_37 : decode cX1_distanceFor 37 = .ok (.invokevirtual 75, 3) := by decide +kernel
theorem dX1_distanceFor_40 : decode cX1_distanceFor 40 = .ok (.fsub, 1) := by decide +kernel
theorem dX1_distanceFor_41 : decode cX1_distanceFor 41 = .ok (.fstore 6, 2) := by decide +kernel
theorem dX1_distanceFor_43 : decode cX1_distanceFor 43 = .ok (.aload_n 0, 1) := by decide +kernel
theorem dX1_distanceFor_44 : decode cX1_distanceFor 44 = .ok (.iload_n 1, 1) := by decide +kernel
theorem dX1_distanceFor_45 : decode cX1_distanceFor 45 = .ok (.iload_n 2, 1) := by decide +kernel
theorem dX1_distanceFor_46 : decode cX1_distanceFor 46 = .ok (.iconst 2, 1) := by decide +kernel
theorem dX1_distanceFor_47 : decode cX1_distanceFor 47 = .ok (.invokevirtual 75, 3) := by decide +kernel
theorem dX1_distanceFor_50 : decode cX1_distanceFor 50 = .ok (.aload_n 0, 1) := by decide +kernel
theorem dX1_distanceFor_51 : decode cX1_distanceFor 51 = .ok (.iload_n 1, 1) := by decide +kernel
theorem dX1_distanceFor_52 : decode cX1_distanceFor 52 = .ok (.iload_n 3, 1) := by decide +kernel
theorem dX1_distanceFor_53 : decode cX1_distanceFor 53 = .ok (.iconst 2, 1) := by decide +kernel
theorem dX1_distanceFor_54 : decode cX1_distanceFor 54 = .ok (.invokevirtual 75, 3) := by decide +kernel
theorem dX1_distanceFor_57 : decode cX1_distanceFor 57 = .ok (.fsub, 1) := by decide +kernel
theorem dX1_distanceFor_58 : decode cX1_distanceFor 58 = .ok (.fstore 7, 2) := by decide +kernel
theorem dX1_distanceFor_60 : decode cX1_distanceFor 60 = .ok (.aload_n 0, 1) := by decide +kernel
theorem dX1_distanceFor_61 : decode cX1_distanceFor 61 = .ok (.getfield 28, 3) := by decide +kernel
theorem dX1_distanceFor_64 : decode cX1_distanceFor 64 = .ok (.iload 4, 2) := by decide +kernel
theorem dX1_distanceFor_66 : decode cX1_distanceFor 66 = .ok (.iaload, 1) := by decide +kernel
theorem dX1_distanceFor_67 : decode cX1_distanceFor 67 = .ok (.i2f, 1) := by decide +kernel
theorem dX1_distanceFor_68 : decode cX1_distanceFor 68 = .ok (.fload 5, 2) := by decide +kernel
theorem dX1_distanceFor_70 : decode cX1_distanceFor 70 = .ok (.fload 5, 2) := by decide +kernel
theorem dX1_distanceFor_72 : decode cX1_distanceFor 72 = .ok (.fmul, 1) := by decide +kernel
theorem dX1_distanceFor_73 : decode cX1_distanceFor 73 = .ok (.fmul, 1) := by decide +kernel
theorem dX1_distanceFor_74 : decode cX1_distanceFor 74 = .ok (.aload_n 0, 1) := by decide +kernel
theorem dX1_distanceFor_75 : decode cX1_distanceFor 75 = .ok (.getfield 28, 3) := by decide +kernel
theorem dX1_distanceFor_78 : decode cX1_distanceFor 78 = .ok (.iload 4, 2) := by decide +kernel
theorem dX1_distanceFor_80 : decode cX1_distanceFor 80 = .ok (.iconst 1, 1) := by decide +kernel
theorem dX1_distanceFor_81 : decode cX1_distanceFor 81 = .ok (.iadd, 1) := by decide +kernel
theorem dX1_distanceFor_82 : decode cX1_distanceFor 82 = .ok (.iaload, 1) := by decide +kernel
theorem dX1_distanceFor_83 : decode cX1_distanceFor 83 = .ok (.i2f, 1) := by decide +kernel
theorem dX1_distanceFor_84 : decode cX1_distanceFor 84 = .ok (.fload 6, 2) := by decide +kernel
theorem dX1_distanceFor_86 : decode cX1_distanceFor 86 = .ok (.fload 6, 2) := by decide +kernel
theorem dX1_distanceFor_88 : decode cX1_distanceFor 88 = .ok (.fmul, 1) := by decide +kernel
theorem dX1_distanceFor_89 : decode cX1_distanceFor 89 = .ok (.fmul, 1) := by decide +kernel
theorem dX1_distanceFor_90 : decode cX1_distanceFor 90 = .ok (.fadd, 1) := by decide +kernel
theorem dX1_distanceFor_91 : decode cX1_distanceFor 91 = .ok (.aload_n 0, 1) := by decide +kernel
theorem dX1_distanceFor_92 : decode cX1_distanceFor 92 = .ok (.getfield 28, 3) := by decide +kernel
theorem dX1_distanceFor_95 : decode cX1_distanceFor 95 = .ok (.iload 4, 2) := by decide +kernel
theorem dX1_distanceFor_97 : decode cX1_distanceFor 97 = .ok (.iconst 2, 1) := by decide +kernel
theorem dX1_distanceFor_98 : decode cX1_distanceFor 98 = .ok (.iadd, 1) := by decide +kernel
theorem dX1_distanceFor_99 : decode cX1_distanceFor 99 = .ok (.iaload, 1) := by decide +kernel
theorem dX1_distanceFor_100 : decode cX1_distanceFor 100 = .ok (.i2f, 1) := by decide +kernel
theorem dX1_distanceFor_101 : decode cX1_distanceFor 101 = .ok (.fload 7, 2) := by decide +kernel
theorem dX1_distanceFor_103 : decode cX1_distanceFor 103 = .ok (.fload 7, 2) := by decide +kernel
theorem dX1_distanceFor_105 : decode cX1_distanceFor 105 = .ok (.fmul, 1) := by decide +kernel
theorem dX1_distanceFor_106 : decode cX1_distanceFor 106 = .ok (.fmul, 1) := by decide +kernel
theorem dX1_distanceFor_107 : decode cX1_distanceFor 107 = .ok (.fadd, 1) := by decide +kernel
theorem dX1_distanceFor_108 : decode cX1_distanceFor 108 = .ok (.freturn, 1) := by decide +kernel
theorem dX1_apartOf_0 : decode cX1_apartOf 0 = .ok (.fconst 0, 1) := by decide +kernel
theorem dX1_apartOf_1 : decode cX1_apartOf 1 = .ok (.fstore_n 3, 1) := by decide +kernel
theorem dX1_apartOf_2 : decode cX1_apartOf 2 = .ok (.iconst 0, 1) := by decide +kernel
theorem dX1_apartOf_3 : decode cX1_apartOf 3 = .ok (.istore 4, 2) := by decide +kernel
theorem dX1_apartOf_5 : decode cX1_apartOf 5 = .ok (.iconst 0, 1) := by decide +kernel
theorem dX1_apartOf_6 : decode cX1_apartOf 6 = .ok (.istore 5, 2) := by decide +kernel
theorem dX1_apartOf_8 : decode cX1_apartOf 8 = .ok (.iload 5, 2) := by decide +kernel
theorem dX1_apartOf_10 : decode cX1_apartOf 10 = .ok (.iconst 4, 1) := by decide +kernel
theorem dX1_apartOf_11 : decode cX1_apartOf 11 = .ok (.if_icmp .ge 58, 3) := by decide +kernel
theorem dX1_apartOf_14 : decode cX1_apartOf 14 = .ok (.aload_n 0, 1) := by decide +kernel
theorem dX1_apartOf_15 : decode cX1_apartOf 15 = .ok (.getfield 28, 3) := by decide +kernel
theorem dX1_apartOf_18 : decode cX1_apartOf 18 = .ok (.bipush 13, 2) := by decide +kernel
theorem dX1_apartOf_20 : decode cX1_apartOf 20 = .ok (.iload 5, 2) := by decide +kernel
theorem dX1_apartOf_22 : decode cX1_apartOf 22 = .ok (.imul, 1) := by decide +kernel
theorem dX1_apartOf_23 : decode cX1_apartOf 23 = .ok (.bipush 12, 2) := by decide +kernel
theorem dX1_apartOf_25 : decode cX1_apartOf 25 = .ok (.iadd, 1) := by decide +kernel
theorem dX1_apartOf_26 : decode cX1_apartOf 26 = .ok (.iaload, 1) := by decide +kernel
theorem dX1_apartOf_27 : decode cX1_apartOf 27 = .ok (.iconst 1, 1) := by decide +kernel
theorem dX1_apartOf_28 : decode cX1_apartOf 28 = .ok (.if_icmp .ne 35, 3) := by decide +kernel
theorem dX1_apartOf_31 : decode cX1_apartOf 31 = .ok (.aload_n 0, 1) := by decide +kernel
theorem dX1_apartOf_32 : decode cX1_apartOf 32 = .ok (.iload 5, 2) := by decide +kernel
theorem dX1_apartOf_34 : decode cX1_apartOf 34 = .ok (.iload_n 1, 1) := by decide +kernel
theorem dX1_apartOf_35 : decode cX1_apartOf 35 = .ok (.iload_n 2, 1) := by decide +kernel
theorem dX1_apartOf_36 : decode cX1_apartOf 36 = .ok (.invokevirtual 79, 3) := by decide +kernel
theorem dX1_apartOf_39 : decode cX1_apartOf 39 = .ok (.fstore 6, 2) := by decide +kernel
theorem dX1_apartOf_41 : decode cX1_apartOf 41 = .ok (.iload 4, 2) := by decide +kernel
theorem dX1_apartOf_43 : decode cX1_apartOf 43 = .ok (.ifCond .eq 14, 3) := by decide +kernel
theorem dX1_apartOf_46 : decode cX1_apartOf 46 = .ok (.fload_n 3, 1) := by decide +kernel
theorem dX1_apartOf_47 : decode cX1_apartOf 47 = .ok (.fload 6, 2) := by decide +kernel
theorem dX1_apartOf_49 : decode cX1_apartOf 49 = .ok (.fcmp .g, 1) := by decide +kernel
theorem dX1_apartOf_50 : decode cX1_apartOf 50 = .ok (.ifCond .gt 7, 3) := by decide +kernel
theorem dX1_apartOf_53 : decode cX1_apartOf 53 = .ok (.fload_n 3, 1) := by decide +kernel
theorem dX1_apartOf_54 : decode cX1_apartOf 54 = .ok (.goto 5, 3) := by decide +kernel
theorem dX1_apartOf_57 : decode cX1_apartOf 57 = .ok (.fload 6, 2) := by decide +kernel
theorem dX1_apartOf_59 : decode cX1_apartOf 59 = .ok (.fstore_n 3, 1) := by decide +kernel
theorem dX1_apartOf_60 : decode cX1_apartOf 60 = .ok (.iconst 1, 1) := by decide +kernel
theorem dX1_apartOf_61 : decode cX1_apartOf 61 = .ok (.istore 4, 2) := by decide +kernel
theorem dX1_apartOf_63 : decode cX1_apartOf 63 = .ok (.iinc 5 1, 3) := by decide +kernel
theorem dX1_apartOf_66 : decode cX1_apartOf 66 = .ok (.goto (-58), 3) := by decide +kernel
theorem dX1_apartOf_69 : decode cX1_apartOf 69 = .ok (.fload_n 3, 1) := by decide +kernel
theorem dX1_apartOf_70 : decode cX1_apartOf 70 = .ok (.freturn, 1) := by decide +kernel
theorem dX1_pairsBelow_0 : decode cX1_pairsBelow 0 = .ok (.iconst 0, 1) := by decide +kernel
theorem dX1_pairsBelow_1 : decode cX1_pairsBelow 1 = .ok (.istore_n 3, 1) := by decide +kernel
theorem dX1_pairsBelow_2 : decode cX1_pairsBelow 2 = .ok (.iconst 0, 1) := by decide +kernel
theorem dX1_pairsBelow_3 : decode cX1_pairsBelow 3 = .ok (.istore 4, 2) := by decide +kernel
theorem dX1_pairsBelow_5 : decode cX1_pairsBelow 5 = .ok (.iload 4, 2) := by decide +kernel
theorem dX1_pairsBelow_7 : decode cX1_pairsBelow 7 = .ok (.aload_n 0, 1) := by decide +kernel
theorem dX1_pairsBelow_8 : decode cX1_pairsBelow 8 = .ok (.getfield 40, 3) := by decide +kernel
theorem dX1_pairsBelow_11 : decode cX1_pairsBelow 11 = .ok (.if_icmp .ge 58, 3) := by decide +kernel
theorem dX1_pairsBelow_14 : decode cX1_pairsBelow 14 = .ok (.iload 4, 2) := by decide +kernel
theorem dX1_pairsBelow_16 : decode cX1_pairsBelow 16 = .ok (.iconst 1, 1) := by decide +kernel
theorem dX1_pairsBelow_17 : decode cX1_pairsBelow 17 = .ok (.iadd, 1) := by decide +kernel
theorem dX1_pairsBelow_18 : decode cX1_pairsBelow 18 = .ok (.istore 5, 2) := by decide +kernel
theorem dX1_pairsBelow_20 : decode cX1_pairsBelow 20 = .ok (.iload 5, 2) := by decide +kernel
theorem dX1_pairsBelow_22 : decode cX1_pairsBelow 22 = .ok (.aload_n 0, 1) := by decide +kernel
theorem dX1_pairsBelow_23 : decode cX1_pairsBelow 23 = .ok (.getfield 40, 3) := by decide +kernel
theorem dX1_pairsBelow_26 : decode cX1_pairsBelow 26 = .ok (.if_icmp .ge 37, 3) := by decide +kernel
theorem dX1_pairsBelow_29 : decode cX1_pairsBelow 29 = .ok (.aload_n 0, 1) := by decide +kernel
theorem dX1_pairsBelow_30 : decode cX1_pairsBelow 30 = .ok (.iload_n 1, 1) := by decide +kernel
theorem dX1_pairsBelow_31 : decode cX1_pairsBelow 31 = .ok (.aload_n 0, 1) := by decide +kernel
theorem dX1_pairsBelow_32 : decode cX1_pairsBelow 32 = .ok (.getfield 37, 3) := by decide +kernel
theorem dX1_pairsBelow_35 : decode cX1_pairsBelow 35 = .ok (.iload 4, 2) := by decide +kernel
theorem dX1_pairsBelow_37 : decode cX1_pairsBelow 37 = .ok (.iaload, 1) := by decide +kernel
theorem dX1_pairsBelow_38 : decode cX1_pairsBelow 38 = .ok (.aload_n 0, 1) := by decide +kernel
theorem dX1_pairsBelow_39 : decode cX1_pairsBelow 39 = .ok (.getfield 37, 3) := by decide +kernel
theorem dX1_pairsBelow_42 : decode cX1_pairsBelow 42 = .ok (.iload 5, 2) := by decide +kernel
theorem dX1_pairsBelow_44 : decode cX1_pairsBelow 44 = .ok (.iaload, 1) := by decide +kernel
theorem dX1_pairsBelow_45 : decode cX1_pairsBelow 45 = .ok (.invokevirtual 79, 3) := by decide +kernel
theorem dX1_pairsBelow_48 : decode cX1_pairsBelow 48 = .ok (.iload_n 2, 1) := by decide +kernel
theorem dX1_pairsBelow_49 : decode cX1_pairsBelow 49 = .ok (.i2f, 1) := by decide +kernel
theorem dX1_pairsBelow_50 : decode cX1_pairsBelow 50 = .ok (.fcmp .g, 1) := by decide +kernel
theorem dX1_pairsBelow_51 : decode cX1_pairsBelow 51 = .ok (.ifCond .ge 6, 3) := by decide +kernel
theorem dX1_pairsBelow_54 : decode cX1_pairsBelow 54 = .ok (.iinc 3 1, 3) := by decide +kernel
theorem dX1_pairsBelow_57 : decode cX1_pairsBelow 57 = .ok (.iinc 5 1, 3) := by decide +kernel
theorem dX1_pairsBelow_60 : decode cX1_pairsBelow 60 = .ok (.goto (-40), 3) := by decide +kernel
theorem dX1_pairsBelow_63 : decode cX1_pairsBelow 63 = .ok (.iinc 4 1, 3) := by decide +kernel
theorem dX1_pairsBelow_66 : decode cX1_pairsBelow 66 = .ok (.goto (-61), 3) := by decide +kernel
theorem dX1_pairsBelow_69 : decode cX1_pairsBelow 69 = .ok (.iload_n 3, 1) := by decide +kernel
theorem dX1_pairsBelow_70 : decode cX1_pairsBelow 70 = .ok (.ireturn, 1) := by decide +kernel
