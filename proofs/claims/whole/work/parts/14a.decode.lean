theorem dX4_init_0 : decode cX4_init 0 = .ok (.aload_n 0, 1) := by decide +kernel
theorem dX4_init_1 : decode cX4_init 1 = .ok (.invokespecial 1, 3) := by decide +kernel
theorem dX4_init_4 : decode cX4_init 4 = .ok (.aload_n 0, 1) := by decide +kernel
theorem dX4_init_5 : decode cX4_init 5 = .ok (.sipush 129, 3) := by decide +kernel
theorem dX4_init_8 : decode cX4_init 8 = .ok (.newarray .int, 2) := by decide +kernel
theorem dX4_init_10 : decode cX4_init 10 = .ok (.putfield 7, 3) := by decide +kernel
theorem dX4_init_13 : decode cX4_init 13 = .ok (.aload_n 0, 1) := by decide +kernel
theorem dX4_init_14 : decode cX4_init 14 = .ok (.sipush 129, 3) := by decide +kernel
theorem dX4_init_17 : decode cX4_init 17 = .ok (.newarray .int, 2) := by decide +kernel
theorem dX4_init_19 : decode cX4_init 19 = .ok (.putfield 13, 3) := by decide +kernel
theorem dX4_init_22 : decode cX4_init 22 = .ok (.aload_n 0, 1) := by decide +kernel
theorem dX4_init_23 : decode cX4_init 23 = .ok (.sipush 645, 3) := by decide +kernel
theorem dX4_init_26 : decode cX4_init 26 = .ok (.newarray .int, 2) := by decide +kernel
theorem dX4_init_28 : decode cX4_init 28 = .ok (.putfield 16, 3) := by decide +kernel
theorem dX4_init_31 : decode cX4_init 31 = .ok (.aload_n 0, 1) := by decide +kernel
theorem dX4_init_32 : decode cX4_init 32 = .ok (.iconst 3, 1) := by decide +kernel
theorem dX4_init_33 : decode cX4_init 33 = .ok (.newarray .int, 2) := by decide +kernel
theorem dX4_init_35 : decode cX4_init 35 = .ok (.putfield 19, 3) := by decide +kernel
theorem dX4_init_38 : decode cX4_init 38 = .ok (.aload_n 0, 1) := by decide +kernel
theorem dX4_init_39 : decode cX4_init 39 = .ok (.bipush 120, 2) := by decide +kernel
theorem dX4_init_41 : decode cX4_init 41 = .ok (.newarray .int, 2) := by decide +kernel
theorem dX4_init_43 : decode cX4_init 43 = .ok (.putfield 22, 3) := by decide +kernel
theorem dX4_init_46 : decode cX4_init 46 = .ok (.aload_n 0, 1) := by decide +kernel
theorem dX4_init_47 : decode cX4_init 47 = .ok (.sipush 400, 3) := by decide +kernel
theorem dX4_init_50 : decode cX4_init 50 = .ok (.newarray .float, 2) := by decide +kernel
theorem dX4_init_52 : decode cX4_init 52 = .ok (.putfield 25, 3) := by decide +kernel
theorem dX4_init_55 : decode cX4_init 55 = .ok (.aload_n 0, 1) := by decide +kernel
theorem dX4_init_56 : decode cX4_init 56 = .ok (.bipush 8, 2) := by decide +kernel
theorem dX4_init_58 : decode cX4_init 58 = .ok (.newarray .int, 2) := by decide +kernel
theorem dX4_init_60 : decode cX4_init 60 = .ok (.putfield 29, 3) := by decide +kernel
theorem dX4_init_63 : decode cX4_init 63 = .ok (.aload_n 0, 1) := by decide +kernel
theorem dX4_init_64 : decode cX4_init 64 = .ok (.bipush 60, 2) := by decide +kernel
theorem dX4_init_66 : decode cX4_init 66 = .ok (.newarray .int, 2) := by decide +kernel
theorem dX4_init_68 : decode cX4_init 68 = .ok (.putfield 32, 3) := by decide +kernel
theorem dX4_init_71 : decode cX4_init 71 = .ok (.aload_n 0, 1) := by decide +kernel
theorem dX4_init_72 : decode cX4_init 72 = .ok (.bipush 120, 2) := by decide +kernel
theorem dX4_init_74 : decode cX4_init 74 = .ok (.newarray .int, 2) := by decide +kernel
theorem dX4_init_76 : decode cX4_init 76 = .ok (.putfield 35, 3) := by decide +kernel
theorem dX4_init_79 : decode cX4_init 79 = .ok (.iconst 0, 1) := by decide +kernel
theorem dX4_init_80 : decode cX4_init 80 = .ok (.istore_n 1, 1) := by decide +kernel
theorem dX4_init_81 : decode cX4_init 81 = .ok (.iload_n 1, 1) := by decide +kernel
theorem dX4_init_82 : decode cX4_init 82 = .ok (.iconst 4, 1) := by decide +kernel
theorem dX4_init_83 : decode cX4_init 83 = .ok (.if_icmp .ge 58, 3) := by decide +kernel
theorem dX4_init_86 : decode cX4_init 86 = .ok (.iconst 0, 1) := by decide +kernel
theorem dX4_init_87 : decode cX4_init 87 = .ok (.istore_n 2, 1) := by decide +kernel
theorem dX4_init_88 : decode cX4_init 88 = .ok (.iload_n 2, 1) := by decide +kernel
theorem dX4_init_89 : decode cX4_init 89 = .ok (.iconst 3, 1) := by decide +kernel
theorem dX4_init_90 : decode cX4_init 90 = .ok (.if_icmp .ge 45, 3) := by decide +kernel
theorem dX4_init_93 : decode cX4_init 93 = .ok (.aload_n 0, 1) := by decide +kernel
theorem dX4_init_94 : decode cX4_init 94 = .ok (.getfield 7, 3) := by decide +kernel
theorem dX4_init_97 : decode cX4_init 97 = .ok (.bipush 62, 2) := by decide +kernel
theorem dX4_init_99 : decode cX4_init 99 = .ok (.bipush 13, 2) := by decide +kernel
theorem dX4_init_101 : decode cX4_init 101 = .ok (.iload_n 1, 1) := by decide +kernel
theorem dX4_init_102 : decode cX4_init 102 = .ok (.imul, 1) := by decide +kernel
theorem dX4_init_103 : decode cX4_init 103 = .ok (.iadd, 1) := by decide +kernel
theorem dX4_init_104 : decode cX4_init 104 = .ok (.iconst 4, 1) := by decide +kernel
theorem dX4_init_105 : decode cX4_init 105 = .ok (.iload_n 2, 1) := by decide +kernel
theorem dX4_init_106 : decode cX4_init 106 = .ok (.imul, 1) := by decide +kernel
theorem dX4_init_107 : decode cX4_init 107 = .ok (.iadd, 1) := by decide +kernel
theorem dX4_init_108 : decode cX4_init 108 = .ok (.bipush 100, 2) := by decide +kernel
theorem dX4_init_110 : decode cX4_init 110 = .ok (.iastore, 1) := by decide +kernel
theorem dX4_init_111 : decode cX4_init 111 = .ok (.aload_n 0, 1) := by decide +kernel
theorem dX4_init_112 : decode cX4_init 112 = .ok (.getfield 7, 3) := by decide +kernel
theorem dX4_init_115 : decode cX4_init 115 = .ok (.bipush 62, 2) := by decide +kernel
theorem dX4_init_117 : decode cX4_init 117 = .ok (.bipush 13, 2) := by decide +kernel
theorem dX4_init_119 : decode cX4_init 119 = .ok (.iload_n 1, 1) := by decide +kernel
theorem dX4_init_120 : decode cX4_init 120 = .ok (.imul, 1) := by decide +kernel
theorem dX4_init_121 : decode cX4_init 121 = .ok (.iadd, 1) := by decide +kernel
theorem dX4_init_122 : decode cX4_init 122 = .ok (.bipush 9, 2) := by decide +kernel
theorem dX4_init_124 : decode cX4_init 124 = .ok (.iadd, 1) := by decide +kernel
theorem dX4_init_125 : decode cX4_init 125 = .ok (.iload_n 2, 1) := by decide +kernel
theorem dX4_init_126 : decode cX4_init 126 = .ok (.iadd, 1) := by decide +kernel
theorem dX4_init_127 : decode cX4_init 127 = .ok (.iconst 1, 1) := by decide +kernel
theorem dX4_init_128 : decode cX4_init 128 = .ok (.iastore, 1) := by decide +kernel
theorem dX4_init_129 : decode cX4_init 129 = .ok (.iinc 2 1, 3) := by decide +kernel
theorem dX4_init_132 : decode cX4_init 132 = .ok (.goto (-44), 3) := by decide +kernel
theorem dX4_init_135 : decode cX4_init 135 = .ok (.iinc 1 1, 3) := by decide +kernel
theorem dX4_init_138 : decode cX4_init 138 = .ok (.goto (-57), 3) := by decide +kernel
theorem dX4_init_141 : decode cX4_init 141 = .ok (.aload_n 0, 1) := by decide +kernel
theorem dX4_init_142 : decode cX4_init 142 = .ok (.getfield 7, 3) := by decide +kernel
theorem dX4_init_145 : decode cX4_init 145 = .ok (.bipush 74, 2) := by decide +kernel
theorem dX4_init_147 : decode cX4_init 147 = .ok (.iconst 1, 1) := by decide +kernel
theorem dX4_init_148 : decode cX4_init 148 = .ok (.iastore, 1) := by decide +kernel
theorem dX4_init_149 : decode cX4_init 149 = .ok (.aload_n 0, 1) := by decide +kernel
theorem dX4_init_150 : decode cX4_init 150 = .ok (.getfield 7, 3) := by decide +kernel
theorem dX4_init_153 : decode cX4_init 153 = .ok (.bipush 115, 2) := by decide +kernel
theorem dX4_init_155 : decode cX4_init 155 = .ok (.sipush 255, 3) := by decide +kernel
theorem dX4_init_158 : decode cX4_init 158 = .ok (.iastore, 1) := by decide +kernel
theorem dX4_init_159 : decode cX4_init 159 = .ok (.iconst 0, 1) := by decide +kernel
theorem dX4_init_160 : decode cX4_init 160 = .ok (.istore_n 1, 1) := by decide +kernel
theorem dX4_init_161 : decode cX4_init 161 = .ok (.iload_n 1, 1) := by decide +kernel
theorem dX4_init_162 : decode cX4_init 162 = .ok (.iconst 3, 1) := by decide +kernel
theorem dX4_init_163 : decode cX4_init 163 = .ok (.if_icmp .ge 21, 3) := by decide +kernel
theorem dX4_init_166 : decode cX4_init 166 = .ok (.aload_n 0, 1) := by decide +kernel
theorem dX4_init_167 : decode cX4_init 167 = .ok (.getfield 7, 3) := by decide +kernel
theorem dX4_init_170 : decode cX4_init 170 = .ok (.bipush 117, 2) := by decide +kernel
theorem dX4_init_172 : decode cX4_init 172 = .ok (.iload_n 1, 1) := by decide +kernel
theorem dX4_init_173 : decode cX4_init 173 = .ok (.iadd, 1) := by decide +kernel
theorem dX4_init_174 : decode cX4_init 174 = .ok (.sipush 255, 3) := by decide +kernel
theorem dX4_init_177 : decode cX4_init 177 = .ok (.iastore, 1) := by decide +kernel
theorem dX4_init_178 : decode cX4_init 178 = .ok (.iinc 1 1, 3) := by decide +kernel
theorem dX4_init_181 : decode cX4_init 181 = .ok (.goto (-20), 3) := by decide +kernel
theorem dX4_init_184 : decode cX4_init 184 = .ok (.return_, 1) := by decide +kernel
theorem dX4_in_0 : decode cX4_in 0 = .ok (.iload_n 0, 1) := by decide +kernel
theorem dX4_in_1 : decode cX4_in 1 = .ok (.iload_n 1, 1) := by decide +kernel
theorem dX4_in_2 : decode cX4_in 2 = .ok (.if_icmp .lt 12, 3) := by decide +kernel
theorem dX4_in_5 : decode cX4_in 5 = .ok (.iload_n 0, 1) := by decide +kernel
theorem dX4_in_6 : decode cX4_in 6 = .ok (.iload_n 2, 1) := by decide +kernel
theorem dX4_in_7 : decode cX4_in 7 = .ok (.if_icmp .gt 7, 3) := by decide +kernel
theorem dX4_in_10 : decode cX4_in 10 = .ok (.iconst 1, 1) := by decide +kernel
theorem dX4_in_11 : decode cX4_in 11 = .ok (.goto 4, 3) := by decide +kernel
theorem dX4_in_14 : decode cX4_in 14 = .ok (.iconst 0, 1) := by decide +kernel
theorem dX4_in_15 : decode cX4_in 15 = .ok (.ireturn, 1) := by decide +kernel
theorem dX4_has_0 : decode cX4_has 0 = .ok (.iload_n 0, 1) := by decide +kernel
theorem dX4_has_1 : decode cX4_has 1 = .ok (.iload_n 1, 1) := by decide +kernel
theorem dX4_has_2 : decode cX4_has 2 = .ok (.ishr, 1) := by decide +kernel
theorem dX4_has_3 : decode cX4_has 3 = .ok (.iconst 1, 1) := by decide +kernel
theorem dX4_has_4 : decode cX4_has 4 = .ok (.iand, 1) := by decide +kernel
theorem dX4_has_5 : decode cX4_has 5 = .ok (.iconst 1, 1) := by decide +kernel
theorem dX4_has_6 : decode cX4_has 6 = .ok (.if_icmp .ne 7, 3) := by decide +kernel
theorem dX4_has_9 : decode cX4_has 9 = .ok (.iconst 1, 1) := by decide +kernel
theorem dX4_has_10 : decode cX4_has 10 = .ok (.goto 4, 3) := by decide +kernel
theorem dX4_has_13 : decode cX4_has 13 = .ok (.iconst 0, 1) := by decide +kernel
theorem dX4_has_14 : decode cX4_has 14 = .ok (.ireturn, 1) := by decide +kernel
theorem dX4_bitsIn_0 : decode cX4_bitsIn 0 = .ok (.iconst 0, 1) := by decide +kernel
theorem dX4_bitsIn_1 : decode cX4_bitsIn 1 = .ok (.istore_n 1, 1) := by decide +kernel
theorem dX4_bitsIn_2 : decode cX4_bitsIn 2 = .ok (.iconst 0, 1) := by decide +kernel
theorem dX4_bitsIn_3 : decode cX4_bitsIn 3 = .ok (.istore_n 2, 1) := by decide +kernel
theorem dX4_bitsIn_4 : decode cX4_bitsIn 4 = .ok (.iload_n 2, 1) := by decide +kernel
theorem dX4_bitsIn_5 : decode cX4_bitsIn 5 = .ok (.bipush 20, 2) := by decide +kernel
theorem dX4_bitsIn_7 : decode cX4_bitsIn 7 = .ok (.if_icmp .ge 17, 3) := by decide +kernel
theorem dX4_bitsIn_10 : decode cX4_bitsIn 10 = .ok (.iload_n 1, 1) := by decide +kernel
theorem dX4_bitsIn_11 : decode cX4_bitsIn 11 = .ok (.iload_n 0, 1) := by decide +kernel
theorem dX4_bitsIn_12 : decode cX4_bitsIn 12 = .ok (.iload_n 2, 1) := by decide +kernel
theorem dX4_bitsIn_13 : decode cX4_bitsIn 13 = .ok (.ishr, 1) := by decide +kernel
theorem dX4_bitsIn_14 : decode cX4_bitsIn 14 = .ok (.iconst 1, 1) := by decide +kernel
theorem dX4_bitsIn_15 : decode cX4_bitsIn 15 = .ok (.iand, 1) := by decide +kernel
theorem dX4_bitsIn_16 : decode cX4_bitsIn 16 = .ok (.iadd, 1) := by decide +kernel
theorem dX4_bitsIn_17 : decode cX4_bitsIn 17 = .ok (.istore_n 1, 1) := by decide +kernel
theorem dX4_bitsIn_18 : decode cX4_bitsIn 18 = .ok (.iinc 2 1, 3) := by decide +kernel
theorem dX4_bitsIn_21 : decode cX4_bitsIn 21 = .ok (.goto (-17), 3) := by decide +kernel
theorem dX4_bitsIn_24 : decode cX4_bitsIn 24 = .ok (.iload_n 1, 1) := by decide +kernel
theorem dX4_bitsIn_25 : decode cX4_bitsIn 25 = .ok (.ireturn, 1) := by decide +kernel
theorem dX4_bitsOf_0 : decode cX4_bitsOf 0 = .ok (.fload_n 0, 1) := by decide +kernel
theorem dX4_bitsOf_1 : decode cX4_bitsOf 1 = .ok (.fconst 0, 1) := by decide +kernel
theorem dX4_bitsOf_2 : decode cX4_bitsOf 2 = .ok (.fcmp .l, 1) := by decide +kernel
theorem dX4_bitsOf_3 : decode cX4_bitsOf 3 = .ok (.ifCond .ne 18, 3) := by decide +kernel
theorem dX4_bitsOf_6 : decode cX4_bitsOf 6 = .ok (.fconst 1, 1) := by decide +kernel
theorem dX4_bitsOf_7 : decode cX4_bitsOf 7 = .ok (.fload_n 0, 1) := by decide +kernel
theorem dX4_bitsOf_8 : decode cX4_bitsOf 8 = .ok (.fdiv, 1) := by decide +kernel
theorem dX4_bitsOf_9 : decode cX4_bitsOf 9 = .ok (.fconst 0, 1) := by decide +kernel
theorem dX4_bitsOf_10 : decode cX4_bitsOf 10 = .ok (.fcmp .g, 1) := by decide +kernel
theorem dX4_bitsOf_11 : decode cX4_bitsOf 11 = .ok (.ifCond .ge 8, 3) := by decide +kernel
theorem dX4_bitsOf_14 : decode cX4_bitsOf 14 = .ok (.ldc 38, 2) := by decide +kernel
theorem dX4_bitsOf_16 : decode cX4_bitsOf 16 = .ok (.goto 4, 3) := by decide +kernel
theorem dX4_bitsOf_19 : decode cX4_bitsOf 19 = .ok (.iconst 0, 1) := by decide +kernel
theorem dX4_bitsOf_20 : decode cX4_bitsOf 20 = .ok (.ireturn, 1) := by decide +kernel
theorem dX4_bitsOf_21 : decode cX4_bitsOf 21 = .ok (.fload_n 0, 1) := by decide +kernel
theorem dX4_bitsOf_22 : decode cX4_bitsOf 22 = .ok (.fconst 0, 1) := by decide +kernel
theorem dX4_bitsOf_23 : decode cX4_bitsOf 23 = .ok (.fcmp .g, 1) := by decide +kernel
theorem dX4_bitsOf_24 : decode cX4_bitsOf 24 = .ok (.ifCond .ge 8, 3) := by decide +kernel
theorem dX4_bitsOf_27 : decode cX4_bitsOf 27 = .ok (.fload_n 0, 1) := by decide +kernel
theorem dX4_bitsOf_28 : decode cX4_bitsOf 28 = .ok (.fneg, 1) := by decide +kernel
theorem dX4_bitsOf_29 : decode cX4_bitsOf 29 = .ok (.goto 4, 3) := by decide +kernel
theorem dX4_bitsOf_32 : decode cX4_bitsOf 32 = .ok (.fload_n 0, 1) := by decide +kernel
theorem dX4_bitsOf_33 : decode cX4_bitsOf 33 = .ok (.fstore_n 1, 1) := by decide +kernel
theorem dX4_bitsOf_34 : decode cX4_bitsOf 34 = .ok (.bipush 127, 2) := by decide +kernel
theorem dX4_bitsOf_36 : decode cX4_bitsOf 36 = .ok (.istore_n 2, 1) := by decide +kernel
theorem dX4_bitsOf_37 : decode cX4_bitsOf 37 = .ok (.fload_n 1, 1) := by decide +kernel
theorem dX4_bitsOf_38 : decode cX4_bitsOf 38 = .ok (.fconst 2, 1) := by decide +kernel
theorem dX4_bitsOf_39 : decode cX4_bitsOf 39 = .ok (.fcmp .l, 1) := by decide +kernel
theorem dX4_bitsOf_40 : decode cX4_bitsOf 40 = .ok (.ifCond .lt 14, 3) := by decide +kernel
theorem dX4_bitsOf_43 : decode cX4_bitsOf 43 = .ok (.fload_n 1, 1) := by decide +kernel
theorem dX4_bitsOf_44 : decode cX4_bitsOf 44 = .ok (.ldc 39, 2) := by decide +kernel
theorem dX4_bitsOf_46 : decode cX4_bitsOf 46 = .ok (.fmul, 1) := by decide +kernel
theorem dX4_bitsOf_47 : decode cX4_bitsOf 47 = .ok (.fstore_n 1, 1) := by decide +kernel
theorem dX4_bitsOf_48 : decode cX4_bitsOf 48 = .ok (.iinc 2 1, 3) := by decide +kernel
theorem dX4_bitsOf_51 : decode cX4_bitsOf 51 = .ok (.goto (-14), 3) := by decide +kernel
theorem dX4_bitsOf_54 : decode cX4_bitsOf 54 = .ok (.fload_n 1, 1) := by decide +kernel
theorem dX4_bitsOf_55 : decode cX4_bitsOf 55 = .ok (.fconst 1, 1) := by decide +kernel
theorem dX4_bitsOf_56 : decode cX4_bitsOf 56 = .ok (.fcmp .g, 1) := by decide +kernel
theorem dX4_bitsOf_57 : decode cX4_bitsOf 57 = .ok (.ifCond .ge 13, 3) := by decide +kernel
theorem dX4_bitsOf_60 : decode cX4_bitsOf 60 = .ok (.fload_n 1, 1) := by decide +kernel
theorem dX4_bitsOf_61 : decode cX4_bitsOf 61 = .ok (.fconst 2, 1) := by decide +kernel
theorem dX4_bitsOf_62 : decode cX4_bitsOf 62 = .ok (.fmul, 1) := by decide +kernel
theorem dX4_bitsOf_63 : decode cX4_bitsOf 63 = .ok (.fstore_n 1, 1) := by decide +kernel
theorem dX4_bitsOf_64 : decode cX4_bitsOf 64 = .ok (.iinc 2 (-1), 3) := by decide +kernel
theorem dX4_bitsOf_67 : decode cX4_bitsOf 67 = .ok (.goto (-13), 3) := by decide +kernel
theorem dX4_bitsOf_70 : decode cX4_bitsOf 70 = .ok (.fload_n 1, 1) := by decide +kernel
theorem dX4_bitsOf_71 : decode cX4_bitsOf 71 = .ok (.fconst 1, 1) := by decide +kernel
theorem dX4_bitsOf_72 : decode cX4_bitsOf 72 = .ok (.fsub, 1) := by decide +kernel
theorem dX4_bitsOf_73 : decode cX4_bitsOf 73 = .ok (.ldc 40, 2) := by decide +kernel
theorem dX4_bitsOf_75 : decode cX4_bitsOf 75 = .ok (.fmul, 1) := by decide +kernel
theorem dX4_bitsOf_76 : decode cX4_bitsOf 76 = .ok (.f2i, 1) := by decide +kernel
theorem dX4_bitsOf_77 : decode cX4_bitsOf 77 = .ok (.istore_n 3, 1) := by decide +kernel
theorem dX4_bitsOf_78 : decode cX4_bitsOf 78 = .ok (.fload_n 0, 1) := by decide +kernel
theorem dX4_bitsOf_79 : decode cX4_bitsOf 79 = .ok (.fconst 0, 1) := by decide +kernel
theorem dX4_bitsOf_80 : decode cX4_bitsOf 80 = .ok (.fcmp .g, 1) := by decide +kernel
theorem dX4_bitsOf_81 : decode cX4_bitsOf 81 = .ok (.ifCond .ge 8, 3) := by decide +kernel
theorem dX4_bitsOf_84 : decode cX4_bitsOf 84 = .ok (.ldc 38, 2) := by decide +kernel
theorem dX4_bitsOf_86 : decode cX4_bitsOf 86 = .ok (.goto 4, 3) := by decide +kernel
theorem dX4_bitsOf_89 : decode cX4_bitsOf 89 = .ok (.iconst 0, 1) := by decide +kernel
theorem dX4_bitsOf_90 : decode cX4_bitsOf 90 = .ok (.iload_n 2, 1) := by decide +kernel
theorem dX4_bitsOf_91 : decode cX4_bitsOf 91 = .ok (.bipush 23, 2) := by decide +kernel
theorem dX4_bitsOf_93 : decode cX4_bitsOf 93 = .ok (.ishl, 1) := by decide +kernel
theorem dX4_bitsOf_94 : decode cX4_bitsOf 94 = .ok (.ior, 1) := by decide +kernel
theorem dX4_bitsOf_95 : decode cX4_bitsOf 95 = .ok (.iload_n 3, 1) := by decide +kernel
theorem dX4_bitsOf_96 : decode cX4_bitsOf 96 = .ok (.ior, 1) := by decide +kernel
theorem dX4_bitsOf_97 : decode cX4_bitsOf 97 = .ok (.ireturn, 1) := by decide +kernel
theorem dX4_bad_0 : decode cX4_bad 0 = .ok (.aload_n 0, 1) := by decide +kernel
theorem dX4_bad_1 : decode cX4_bad 1 = .ok (.getfield 19, 3) := by decide +kernel
theorem dX4_bad_4 : decode cX4_bad 4 = .ok (.iconst 0, 1) := by decide +kernel
theorem dX4_bad_5 : decode cX4_bad 5 = .ok (.dup2, 1) := by decide +kernel
theorem dX4_bad_6 : decode cX4_bad 6 = .ok (.iaload, 1) := by decide +kernel
theorem dX4_bad_7 : decode cX4_bad 7 = .ok (.iconst 1, 1) := by decide +kernel
theorem dX4_bad_8 : decode cX4_bad 8 = .ok (.iadd, 1) := by decide +kernel
theorem dX4_bad_9 : decode cX4_bad 9 = .ok (.iastore, 1) := by decide +kernel
theorem dX4_bad_10 : decode cX4_bad 10 = .ok (.bipush (-2), 2) := by decide +kernel
theorem dX4_bad_12 : decode cX4_bad 12 = .ok (.ireturn, 1) := by decide +kernel
theorem dX4_no_0 : decode cX4_no 0 = .ok (.aload_n 0, 1) := by decide +kernel
theorem dX4_no_1 : decode cX4_no 1 = .ok (.getfield 19, 3) := by decide +kernel
theorem dX4_no_4 : decode cX4_no 4 = .ok (.iconst 1, 1) := by decide +kernel
theorem dX4_no_5 : decode cX4_no 5 = .ok (.dup2, 1) := by decide +kernel
theorem dX4_no_6 : decode cX4_no 6 = .ok (.iaload, 1) := by decide +kernel
theorem dX4_no_7 : decode cX4_no 7 = .ok (.iconst 1, 1) := by decide +kernel
theorem dX4_no_8 : decode cX4_no 8 = .ok (.iadd, 1) := by decide +kernel
theorem dX4_no_9 : decode cX4_no 9 = .ok (.iastore, 1) := by decide +kernel
theorem dX4_no_10 : decode cX4_no 10 = .ok (.bipush (-3), 2) := by decide +kernel
theorem dX4_no_12 : decode cX4_no 12 = .ok (.ireturn, 1) := by decide +kernel
theorem dX4_full_0 : decode cX4_full 0 = .ok (.aload_n 0, 1) := by decide +kernel
theorem dX4_full_1 : decode cX4_full 1 = .ok (.getfield 19, 3) := by decide +kernel
theorem dX4_full_4 : decode cX4_full 4 = .ok (.iconst 2, 1) := by decide +kernel
theorem dX4_full_5 : decode cX4_full 5 = .ok (.dup2, 1) := by decide +kernel
theorem dX4_full_6 : decode cX4_full 6 = .ok (.iaload, 1) := by decide +kernel
theorem dX4_full_7 : decode cX4_full 7 = .ok (.iconst 1, 1) := by decide +kernel
theorem dX4_full_8 : decode cX4_full 8 = .ok (.iadd, 1) := by decide +kernel
theorem dX4_full_9 : decode cX4_full 9 = .ok (.iastore, 1) := by decide +kernel
theorem dX4_full_10 : decode cX4_full 10 = .ok (.bipush (-4), 2) := by decide +kernel
theorem dX4_full_12 : decode cX4_full 12 = .ok (.ireturn, 1) := by decide +kernel
theorem dX4_remembers_0 : decode cX4_remembers 0 = .ok (.aload_n 0, 1) := by decide +kernel
theorem dX4_remembers_1 : decode cX4_remembers 1 = .ok (.getfield 41, 3) := by decide +kernel
theorem dX4_remembers_4 : decode cX4_remembers 4 = .ok (.iconst 5, 1) := by decide +kernel
theorem dX4_remembers_5 : decode cX4_remembers 5 = .ok (.if_icmp .ne 44, 3) := by decide +kernel
theorem dX4_remembers_8 : decode cX4_remembers 8 = .ok (.iconst 0, 1) := by decide +kernel
theorem dX4_remembers_9 : decode cX4_remembers 9 = .ok (.istore_n 1, 1) := by decide +kernel
theorem dX4_remembers_10 : decode cX4_remembers 10 = .ok (.iload_n 1, 1) := by decide +kernel
theorem dX4_remembers_11 : decode cX4_remembers 11 = .ok (.sipush 516, 3) := by decide +kernel
theorem dX4_remembers_14 : decode cX4_remembers 14 = .ok (.if_icmp .ge 25, 3) := by decide +kernel
theorem dX4_remembers_17 : decode cX4_remembers 17 = .ok (.aload_n 0, 1) := by decide +kernel
theorem dX4_remembers_18 : decode cX4_remembers 18 = .ok (.getfield 16, 3) := by decide +kernel
theorem dX4_remembers_21 : decode cX4_remembers 21 = .ok (.iload_n 1, 1) := by decide +kernel
theorem dX4_remembers_22 : decode cX4_remembers 22 = .ok (.aload_n 0, 1) := by decide +kernel
theorem dX4_remembers_23 : decode cX4_remembers 23 = .ok (.getfield 16, 3) := by decide +kernel
theorem dX4_remembers_26 : decode cX4_remembers 26 = .ok (.iload_n 1, 1) := by decide +kernel
theorem dX4_remembers_27 : decode cX4_remembers 27 = .ok (.sipush 129, 3) := by decide +kernel
theorem dX4_remembers_30 : decode cX4_remembers 30 = .ok (.iadd, 1) := by decide +kernel
theorem dX4_remembers_31 : decode cX4_remembers 31 = .ok (.iaload, 1) := by decide +kernel
theorem dX4_remembers_32 : decode cX4_remembers 32 = .ok (.iastore, 1) := by decide +kernel
theorem dX4_remembers_33 : decode cX4_remembers 33 = .ok (.iinc 1 1, 3) := by decide +kernel
theorem dX4_remembers_36 : decode cX4_remembers 36 = .ok (.goto (-26), 3) := by decide +kernel
theorem dX4_remembers_39 : decode cX4_remembers 39 = .ok (.aload_n 0, 1) := by decide +kernel
theorem dX4_remembers_40 : decode cX4_remembers 40 = .ok (.dup, 1) := by decide +kernel
theorem dX4_remembers_41 : decode cX4_remembers 41 = .ok (.getfield 41, 3) := by decide +kernel
theorem dX4_remembers_44 : decode cX4_remembers 44 = .ok (.iconst 1, 1) := by decide +kernel
theorem dX4_remembers_45 : decode cX4_remembers 45 = .ok (.isub, 1) := by decide +kernel
theorem dX4_remembers_46 : decode cX4_remembers 46 = .ok (.putfield 41, 3) := by decide +kernel
theorem dX4_remembers_49 : decode cX4_remembers 49 = .ok (.iconst 0, 1) := by decide +kernel
theorem dX4_remembers_50 : decode cX4_remembers 50 = .ok (.istore_n 1, 1) := by decide +kernel
theorem dX4_remembers_51 : decode cX4_remembers 51 = .ok (.iload_n 1, 1) := by decide +kernel
theorem dX4_remembers_52 : decode cX4_remembers 52 = .ok (.sipush 129, 3) := by decide +kernel
theorem dX4_remembers_55 : decode cX4_remembers 55 = .ok (.if_icmp .ge 30, 3) := by decide +kernel
theorem dX4_remembers_58 : decode cX4_remembers 58 = .ok (.aload_n 0, 1) := by decide +kernel
theorem dX4_remembers_59 : decode cX4_remembers 59 = .ok (.getfield 16, 3) := by decide +kernel
theorem dX4_remembers_62 : decode cX4_remembers 62 = .ok (.sipush 129, 3) := by decide +kernel
theorem dX4_remembers_65 : decode cX4_remembers 65 = .ok (.aload_n 0, 1) := by decide +kernel
theorem dX4_remembers_66 : decode cX4_remembers 66 = .ok (.getfield 41, 3) := by decide +kernel
theorem dX4_remembers_69 : decode cX4_remembers 69 = .ok (.imul, 1) := by decide +kernel
theorem dX4_remembers_70 : decode cX4_remembers 70 = .ok (.iload_n 1, 1) := by decide +kernel
theorem dX4_remembers_71 : decode cX4_remembers 71 = .ok (.iadd, 1) := by decide +kernel
theorem dX4_remembers_72 : decode cX4_remembers 72 = .ok (.aload_n 0, 1) := by decide +kernel
theorem dX4_remembers_73 : decode cX4_remembers 73 = .ok (.getfield 7, 3) := by decide +kernel
theorem dX4_remembers_76 : decode cX4_remembers 76 = .ok (.iload_n 1, 1) := by decide +kernel
theorem dX4_remembers_77 : decode cX4_remembers 77 = .ok (.iaload, 1) := by decide +kernel
theorem dX4_remembers_78 : decode cX4_remembers 78 = .ok (.iastore, 1) := by decide +kernel
theorem dX4_remembers_79 : decode cX4_remembers 79 = .ok (.iinc 1 1, 3) := by decide +kernel
theorem dX4_remembers_82 : decode cX4_remembers 82 = .ok (.goto (-31), 3) := by decide +kernel
theorem dX4_remembers_85 : decode cX4_remembers 85 = .ok (.aload_n 0, 1) := by decide +kernel
theorem dX4_remembers_86 : decode cX4_remembers 86 = .ok (.dup, 1) := by decide +kernel
theorem dX4_remembers_87 : decode cX4_remembers 87 = .ok (.getfield 41, 3) := by decide +kernel
theorem dX4_remembers_90 : decode cX4_remembers 90 = .ok (.iconst 1, 1) := by decide +kernel
theorem dX4_remembers_91 : decode cX4_remembers 91 = .ok (.iadd, 1) := by decide +kernel
theorem dX4_remembers_92 : decode cX4_remembers 92 = .ok (.putfield 41, 3) := by decide +kernel
theorem dX4_remembers_95 : decode cX4_remembers 95 = .ok (.return_, 1) := by decide +kernel
theorem dX4_back_0 : decode cX4_back 0 = .ok (.aload_n 0, 1) := by decide +kernel
theorem dX4_back_1 : decode cX4_back 1 = .ok (.getfield 41, 3) := by decide +kernel
theorem dX4_back_4 : decode cX4_back 4 = .ok (.ifCond .ne 8, 3) := by decide +kernel
theorem dX4_back_7 : decode cX4_back 7 = .ok (.aload_n 0, 1) := by decide +kernel
theorem dX4_back_8 : decode cX4_back 8 = .ok (.invokevirtual 45, 3) := by decide +kernel
theorem dX4_back_11 : decode cX4_back 11 = .ok (.ireturn, 1) := by decide +kernel
theorem dX4_back_12 : decode cX4_back 12 = .ok (.aload_n 0, 1) := by decide +kernel
theorem dX4_back_13 : decode cX4_back 13 = .ok (.dup, 1) := by decide +kernel
theorem dX4_back_14 : decode cX4_back 14 = .ok (.getfield 41, 3) := by decide +kernel
theorem dX4_back_17 : decode cX4_back 17 = .ok (.iconst 1, 1) := by decide +kernel
theorem dX4_back_18 : decode cX4_back 18 = .ok (.isub, 1) := by decide +kernel
theorem dX4_back_19 : decode cX4_back 19 = .ok (.putfield 41, 3) := by decide +kernel
theorem dX4_back_22 : decode cX4_back 22 = .ok (.iconst 0, 1) := by decide +kernel
theorem dX4_back_23 : decode cX4_back 23 = .ok (.istore_n 1, 1) := by decide +kernel
theorem dX4_back_24 : decode cX4_back 24 = .ok (.iload_n 1, 1) := by decide +kernel
theorem dX4_back_25 : decode cX4_back 25 = .ok (.sipush 129, 3) := by decide +kernel
theorem dX4_back_28 : decode cX4_back 28 = .ok (.if_icmp .ge 30, 3) := by decide +kernel
theorem dX4_back_31 : decode cX4_back 31 = .ok (.aload_n 0, 1) := by decide +kernel
theorem dX4_back_32 : decode cX4_back 32 = .ok (.getfield 7, 3) := by decide +kernel
theorem dX4_back_35 : decode cX4_back 35 = .ok (.iload_n 1, 1) := by decide +kernel
theorem dX4_back_36 : decode cX4_back 36 = .ok (.aload_n 0, 1) := by decide +kernel
theorem dX4_back_37 : decode cX4_back 37 = .ok (.getfield 16, 3) := by decide +kernel
theorem dX4_back_40 : decode cX4_back 40 = .ok (.sipush 129, 3) := by decide +kernel
theorem dX4_back_43 : decode cX4_back 43 = .ok (.aload_n 0, 1) := by decide +kernel
theorem dX4_back_44 : decode cX4_back 44 = .ok (.getfield 41, 3) := by decide +kernel
theorem dX4_back_47 : decode cX4_back 47 = .ok (.imul, 1) := by decide +kernel
theorem dX4_back_48 : decode cX4_back 48 = .ok (.iload_n 1, 1) := by decide +kernel
theorem dX4_back_49 : decode cX4_back 49 = .ok (.iadd, 1) := by decide +kernel
theorem dX4_back_50 : decode cX4_back 50 = .ok (.iaload, 1) := by decide +kernel
theorem dX4_back_51 : decode cX4_back 51 = .ok (.iastore, 1) := by decide +kernel
theorem dX4_back_52 : decode cX4_back 52 = .ok (.iinc 1 1, 3) := by decide +kernel
theorem dX4_back_55 : decode cX4_back 55 = .ok (.goto (-31), 3) := by decide +kernel
theorem dX4_back_58 : decode cX4_back 58 = .ok (.aload_n 0, 1) := by decide +kernel
theorem dX4_back_59 : decode cX4_back 59 = .ok (.getfield 41, 3) := by decide +kernel
theorem dX4_back_62 : decode cX4_back 62 = .ok (.ireturn, 1) := by decide +kernel
theorem dX4_isPart_0 : decode cX4_isPart 0 = .ok (.iload_n 0, 1) := by decide +kernel
theorem dX4_isPart_1 : decode cX4_isPart 1 = .ok (.iconst 0, 1) := by decide +kernel
theorem dX4_isPart_2 : decode cX4_isPart 2 = .ok (.sipush 255, 3) := by decide +kernel
theorem dX4_isPart_5 : decode cX4_isPart 5 = .ok (.invokestatic 49, 3) := by decide +kernel
theorem dX4_isPart_8 : decode cX4_isPart 8 = .ok (.ireturn, 1) := by decide +kernel
theorem dX4_areParts_0 : decode cX4_areParts 0 = .ok (.iload_n 0, 1) := by decide +kernel
theorem dX4_areParts_1 : decode cX4_areParts 1 = .ok (.invokestatic 53, 3) := by decide +kernel
theorem dX4_areParts_4 : decode cX4_areParts 4 = .ok (.ifCond .eq 21, 3) := by decide +kernel
theorem dX4_areParts_7 : decode cX4_areParts 7 = .ok (.iload_n 1, 1) := by decide +kernel
theorem dX4_areParts_8 : decode cX4_areParts 8 = .ok (.invokestatic 53, 3) := by decide +kernel
theorem dX4_areParts_11 : decode cX4_areParts 11 = .ok (.ifCond .eq 14, 3) := by decide +kernel
theorem dX4_areParts_14 : decode cX4_areParts 14 = .ok (.iload_n 2, 1) := by decide +kernel
theorem dX4_areParts_15 : decode cX4_areParts 15 = .ok (.invokestatic 53, 3) := by decide +kernel
theorem dX4_areParts_18 : decode cX4_areParts 18 = .ok (.ifCond .eq 7, 3) := by decide +kernel
theorem dX4_areParts_21 : decode cX4_areParts 21 = .ok (.iconst 1, 1) := by decide +kernel
theorem dX4_areParts_22 : decode cX4_areParts 22 = .ok (.goto 4, 3) := by decide +kernel
theorem dX4_areParts_25 : decode cX4_areParts 25 = .ok (.iconst 0, 1) := by decide +kernel
theorem dX4_areParts_26 : decode cX4_areParts 26 = .ok (.ireturn, 1) := by decide +kernel
theorem dX4_isColour_0 : decode cX4_isColour 0 = .ok (.iload_n 1, 1) := by decide +kernel
theorem dX4_isColour_1 : decode cX4_isColour 1 = .ok (.iconst 0, 1) := by decide +kernel
theorem dX4_isColour_2 : decode cX4_isColour 2 = .ok (.aload_n 0, 1) := by decide +kernel
theorem dX4_isColour_3 : decode cX4_isColour 3 = .ok (.getfield 7, 3) := by decide +kernel
theorem dX4_isColour_6 : decode cX4_isColour 6 = .ok (.iconst 0, 1) := by decide +kernel
theorem dX4_isColour_7 : decode cX4_isColour 7 = .ok (.iaload, 1) := by decide +kernel
theorem dX4_isColour_8 : decode cX4_isColour 8 = .ok (.iconst 1, 1) := by decide +kernel
theorem dX4_isColour_9 : decode cX4_isColour 9 = .ok (.isub, 1) := by decide +kernel
theorem dX4_isColour_10 : decode cX4_isColour 10 = .ok (.invokestatic 49, 3) := by decide +kernel
theorem dX4_isColour_13 : decode cX4_isColour 13 = .ok (.ireturn, 1) := by decide +kernel
theorem dX4_isEye_0 : decode cX4_isEye 0 = .ok (.iload_n 0, 1) := by decide +kernel
theorem dX4_isEye_1 : decode cX4_isEye 1 = .ok (.iconst 0, 1) := by decide +kernel
theorem dX4_isEye_2 : decode cX4_isEye 2 = .ok (.iconst 3, 1) := by decide +kernel
theorem dX4_isEye_3 : decode cX4_isEye 3 = .ok (.invokestatic 49, 3) := by decide +kernel
theorem dX4_isEye_6 : decode cX4_isEye 6 = .ok (.ireturn, 1) := by decide +kernel
theorem dX4_becomes_0 : decode cX4_becomes 0 = .ok (.aload_n 0, 1) := by decide +kernel
theorem dX4_becomes_1 : decode cX4_becomes 1 = .ok (.getfield 7, 3) := by decide +kernel
theorem dX4_becomes_4 : decode cX4_becomes 4 = .ok (.iload_n 1, 1) := by decide +kernel
theorem dX4_becomes_5 : decode cX4_becomes 5 = .ok (.iaload, 1) := by decide +kernel
theorem dX4_becomes_6 : decode cX4_becomes 6 = .ok (.iload_n 2, 1) := by decide +kernel
theorem dX4_becomes_7 : decode cX4_becomes 7 = .ok (.if_icmp .ne 7, 3) := by decide +kernel
theorem dX4_becomes_10 : decode cX4_becomes 10 = .ok (.iconst 0, 1) := by decide +kernel
theorem dX4_becomes_11 : decode cX4_becomes 11 = .ok (.goto 4, 3) := by decide +kernel
theorem dX4_becomes_14 : decode cX4_becomes 14 = .ok (.iconst 1, 1) := by decide +kernel
theorem dX4_becomes_15 : decode cX4_becomes 15 = .ok (.aload_n 0, 1) := by decide +kernel
theorem dX4_becomes_16 : decode cX4_becomes 16 = .ok (.getfield 7, 3) := by decide +kernel
theorem dX4_becomes_19 : decode cX4_becomes 19 = .ok (.iload_n 1, 1) := by decide +kernel
theorem dX4_becomes_20 : decode cX4_becomes 20 = .ok (.iconst 1, 1) := by decide +kernel
theorem dX4_becomes_21 : decode cX4_becomes 21 = .ok (.iadd, 1) := by decide +kernel
theorem dX4_becomes_22 : decode cX4_becomes 22 = .ok (.iaload, 1) := by decide +kernel
theorem dX4_becomes_23 : decode cX4_becomes 23 = .ok (.iload_n 3, 1) := by decide +kernel
theorem dX4_becomes_24 : decode cX4_becomes 24 = .ok (.if_icmp .ne 7, 3) := by decide +kernel
theorem dX4_becomes_27 : decode cX4_becomes 27 = .ok (.iconst 0, 1) := by decide +kernel
theorem dX4_becomes_28 : decode cX4_becomes 28 = .ok (.goto 4, 3) := by decide +kernel
theorem dX4_becomes_31 : decode cX4_becomes 31 = .ok (.iconst 1, 1) := by decide +kernel
theorem dX4_becomes_32 : decode cX4_becomes 32 = .ok (.iadd, 1) := by decide +kernel
theorem dX4_becomes_33 : decode cX4_becomes 33 = .ok (.aload_n 0, 1) := by decide +kernel
theorem dX4_becomes_34 : decode cX4_becomes 34 = .ok (.getfield 7, 3) := by decide +kernel
theorem dX4_becomes_37 : decode cX4_becomes 37 = .ok (.iload_n 1, 1) := by decide +kernel
theorem dX4_becomes_38 : decode cX4_becomes 38 = .ok (.iconst 2, 1) := by decide +kernel
theorem dX4_becomes_39 : decode cX4_becomes 39 = .ok (.iadd, 1) := by decide +kernel
theorem dX4_becomes_40 : decode cX4_becomes 40 = .ok (.iaload, 1) := by decide +kernel
theorem dX4_becomes_41 : decode cX4_becomes 41 = .ok (.iload 4, 2) := by decide +kernel
theorem dX4_becomes_43 : decode cX4_becomes 43 = .ok (.if_icmp .ne 7, 3) := by decide +kernel
theorem dX4_becomes_46 : decode cX4_becomes 46 = .ok (.iconst 0, 1) := by decide +kernel
theorem dX4_becomes_47 : decode cX4_becomes 47 = .ok (.goto 4, 3) := by decide +kernel
theorem dX4_becomes_50 : decode cX4_becomes 50 = .ok (.iconst 1, 1) := by decide +kernel
theorem dX4_becomes_51 : decode cX4_becomes 51 = .ok (.iadd, 1) := by decide +kernel
theorem dX4_becomes_52 : decode cX4_becomes 52 = .ok (.istore 5, 2) := by decide +kernel
theorem dX4_becomes_54 : decode cX4_becomes 54 = .ok (.aload_n 0, 1) := by decide +kernel
theorem dX4_becomes_55 : decode cX4_becomes 55 = .ok (.getfield 7, 3) := by decide +kernel
theorem dX4_becomes_58 : decode cX4_becomes 58 = .ok (.iload_n 1, 1) := by decide +kernel
theorem dX4_becomes_59 : decode cX4_becomes 59 = .ok (.iload_n 2, 1) := by decide +kernel
theorem dX4_becomes_60 : decode cX4_becomes 60 = .ok (.iastore, 1) := by decide +kernel
theorem dX4_becomes_61 : decode cX4_becomes 61 = .ok (.aload_n 0, 1) := by decide +kernel
theorem dX4_becomes_62 : decode cX4_becomes 62 = .ok (.getfield 7, 3) := by decide +kernel
theorem dX4_becomes_65 : decode cX4_becomes 65 = .ok (.iload_n 1, 1) := by decide +kernel
theorem dX4_becomes_66 : decode cX4_becomes 66 = .ok (.iconst 1, 1) := by decide +kernel
theorem dX4_becomes_67 : decode cX4_becomes 67 = .ok (.iadd, 1) := by decide +kernel
theorem dX4_becomes_68 : decode cX4_becomes 68 = .ok (.iload_n 3, 1) := by decide +kernel
theorem dX4_becomes_69 : decode cX4_becomes 69 = .ok (.iastore, 1) := by decide +kernel
theorem dX4_becomes_70 : decode cX4_becomes 70 = .ok (.aload_n 0, 1) := by decide +kernel
theorem dX4_becomes_71 : decode cX4_becomes 71 = .ok (.getfield 7, 3) := by decide +kernel
theorem dX4_becomes_74 : decode cX4_becomes 74 = .ok (.iload_n 1, 1) := by decide +kernel
theorem dX4_becomes_75 : decode cX4_becomes 75 = .ok (.iconst 2, 1) := by decide +kernel
theorem dX4_becomes_76 : decode cX4_becomes 76 = .ok (.iadd, 1) := by decide +kernel
theorem dX4_becomes_77 : decode cX4_becomes 77 = .ok (.iload 4, 2) := by decide +kernel
theorem dX4_becomes_79 : decode cX4_becomes 79 = .ok (.iastore, 1) := by decide +kernel
theorem dX4_becomes_80 : decode cX4_becomes 80 = .ok (.iload 5, 2) := by decide +kernel
theorem dX4_becomes_82 : decode cX4_becomes 82 = .ok (.ireturn, 1) := by decide +kernel
theorem dX4_colourAt_0 : decode cX4_colourAt 0 = .ok (.iconst 1, 1) := by decide +kernel
theorem dX4_colourAt_1 : decode cX4_colourAt 1 = .ok (.iconst 3, 1) := by decide +kernel
theorem dX4_colourAt_2 : decode cX4_colourAt 2 = .ok (.iload_n 1, 1) := by decide +kernel
theorem dX4_colourAt_3 : decode cX4_colourAt 3 = .ok (.imul, 1) := by decide +kernel
theorem dX4_colourAt_4 : decode cX4_colourAt 4 = .ok (.iadd, 1) := by decide +kernel
theorem dX4_colourAt_5 : decode cX4_colourAt 5 = .ok (.ireturn, 1) := by decide +kernel
theorem dX4_comes_0 : decode cX4_comes 0 = .ok (.aload_n 0, 1) := by decide +kernel
theorem dX4_comes_1 : decode cX4_comes 1 = .ok (.aload_n 0, 1) := by decide +kernel
theorem dX4_comes_2 : decode cX4_comes 2 = .ok (.aload_n 0, 1) := by decide +kernel
theorem dX4_comes_3 : decode cX4_comes 3 = .ok (.getfield 7, 3) := by decide +kernel
theorem dX4_comes_6 : decode cX4_comes 6 = .ok (.iconst 0, 1) := by decide +kernel
theorem dX4_comes_7 : decode cX4_comes 7 = .ok (.iaload, 1) := by decide +kernel
theorem dX4_comes_8 : decode cX4_comes 8 = .ok (.invokevirtual 57, 3) := by decide +kernel
theorem dX4_comes_11 : decode cX4_comes 11 = .ok (.iload_n 1, 1) := by decide +kernel
theorem dX4_comes_12 : decode cX4_comes 12 = .ok (.iload_n 2, 1) := by decide +kernel
theorem dX4_comes_13 : decode cX4_comes 13 = .ok (.iload_n 3, 1) := by decide +kernel
theorem dX4_comes_14 : decode cX4_comes 14 = .ok (.invokevirtual 61, 3) := by decide +kernel
theorem dX4_comes_17 : decode cX4_comes 17 = .ok (.istore 4, 2) := by decide +kernel
theorem dX4_comes_19 : decode cX4_comes 19 = .ok (.aload_n 0, 1) := by decide +kernel
theorem dX4_comes_20 : decode cX4_comes 20 = .ok (.getfield 7, 3) := by decide +kernel
theorem dX4_comes_23 : decode cX4_comes 23 = .ok (.iconst 0, 1) := by decide +kernel
theorem dX4_comes_24 : decode cX4_comes 24 = .ok (.dup2, 1) := by decide +kernel
theorem dX4_comes_25 : decode cX4_comes 25 = .ok (.iaload, 1) := by decide +kernel
theorem dX4_comes_26 : decode cX4_comes 26 = .ok (.iconst 1, 1) := by decide +kernel
theorem dX4_comes_27 : decode cX4_comes 27 = .ok (.iadd, 1) := by decide +kernel
theorem dX4_comes_28 : decode cX4_comes 28 = .ok (.iastore, 1) := by decide +kernel
theorem dX4_comes_29 : decode cX4_comes 29 = .ok (.iload 4, 2) := by decide +kernel
theorem dX4_comes_31 : decode cX4_comes 31 = .ok (.ifCond .ge 7, 3) := by decide +kernel
theorem dX4_comes_34 : decode cX4_comes 34 = .ok (.iconst (-1), 1) := by decide +kernel
theorem dX4_comes_35 : decode cX4_comes 35 = .ok (.goto 11, 3) := by decide +kernel
theorem dX4_comes_38 : decode cX4_comes 38 = .ok (.aload_n 0, 1) := by decide +kernel
theorem dX4_comes_39 : decode cX4_comes 39 = .ok (.getfield 7, 3) := by decide +kernel
theorem dX4_comes_42 : decode cX4_comes 42 = .ok (.iconst 0, 1) := by decide +kernel
theorem dX4_comes_43 : decode cX4_comes 43 = .ok (.iaload, 1) := by decide +kernel
theorem dX4_comes_44 : decode cX4_comes 44 = .ok (.iconst 1, 1) := by decide +kernel
theorem dX4_comes_45 : decode cX4_comes 45 = .ok (.isub, 1) := by decide +kernel
theorem dX4_comes_46 : decode cX4_comes 46 = .ok (.ireturn, 1) := by decide +kernel
theorem dX4_colour_0 : decode cX4_colour 0 = .ok (.iload_n 1, 1) := by decide +kernel
theorem dX4_colour_1 : decode cX4_colour 1 = .ok (.iload_n 2, 1) := by decide +kernel
theorem dX4_colour_2 : decode cX4_colour 2 = .ok (.iload_n 3, 1) := by decide +kernel
theorem dX4_colour_3 : decode cX4_colour 3 = .ok (.invokestatic 65, 3) := by decide +kernel
theorem dX4_colour_6 : decode cX4_colour 6 = .ok (.ifCond .ne 8, 3) := by decide +kernel
theorem dX4_colour_9 : decode cX4_colour 9 = .ok (.aload_n 0, 1) := by decide +kernel
theorem dX4_colour_10 : decode cX4_colour 10 = .ok (.invokevirtual 68, 3) := by decide +kernel
theorem dX4_colour_13 : decode cX4_colour 13 = .ok (.ireturn, 1) := by decide +kernel
theorem dX4_colour_14 : decode cX4_colour 14 = .ok (.aload_n 0, 1) := by decide +kernel
theorem dX4_colour_15 : decode cX4_colour 15 = .ok (.getfield 7, 3) := by decide +kernel
theorem dX4_colour_18 : decode cX4_colour 18 = .ok (.iconst 0, 1) := by decide +kernel
theorem dX4_colour_19 : decode cX4_colour 19 = .ok (.iaload, 1) := by decide +kernel
theorem dX4_colour_20 : decode cX4_colour 20 = .ok (.bipush 20, 2) := by decide +kernel
theorem dX4_colour_22 : decode cX4_colour 22 = .ok (.if_icmp .ne 8, 3) := by decide +kernel
theorem dX4_colour_25 : decode cX4_colour 25 = .ok (.aload_n 0, 1) := by decide +kernel
theorem dX4_colour_26 : decode cX4_colour 26 = .ok (.invokevirtual 71, 3) := by decide +kernel
theorem dX4_colour_29 : decode cX4_colour 29 = .ok (.ireturn, 1) := by decide +kernel
theorem dX4_colour_30 : decode cX4_colour 30 = .ok (.aload_n 0, 1) := by decide +kernel
theorem dX4_colour_31 : decode cX4_colour 31 = .ok (.invokevirtual 74, 3) := by decide +kernel
theorem dX4_colour_34 : decode cX4_colour 34 = .ok (.aload_n 0, 1) := by decide +kernel
theorem dX4_colour_35 : decode cX4_colour 35 = .ok (.iload_n 1, 1) := by decide +kernel
theorem dX4_colour_36 : decode cX4_colour 36 = .ok (.iload_n 2, 1) := by decide +kernel
theorem dX4_colour_37 : decode cX4_colour 37 = .ok (.iload_n 3, 1) := by decide +kernel
theorem dX4_colour_38 : decode cX4_colour 38 = .ok (.invokevirtual 77, 3) := by decide +kernel
theorem dX4_colour_41 : decode cX4_colour 41 = .ok (.ireturn, 1) := by decide +kernel
theorem dX4_paints_0 : decode cX4_paints 0 = .ok (.aload_n 0, 1) := by decide +kernel
theorem dX4_paints_1 : decode cX4_paints 1 = .ok (.iload_n 1, 1) := by decide +kernel
theorem dX4_paints_2 : decode cX4_paints 2 = .ok (.invokevirtual 81, 3) := by decide +kernel
theorem dX4_paints_5 : decode cX4_paints 5 = .ok (.ifCond .eq 13, 3) := by decide +kernel
theorem dX4_paints_8 : decode cX4_paints 8 = .ok (.iload_n 2, 1) := by decide +kernel
theorem dX4_paints_9 : decode cX4_paints 9 = .ok (.iload_n 3, 1) := by decide +kernel
theorem dX4_paints_10 : decode cX4_paints 10 = .ok (.iload 4, 2) := by decide +kernel
theorem dX4_paints_12 : decode cX4_paints 12 = .ok (.invokestatic 65, 3) := by decide +kernel
theorem dX4_paints_15 : decode cX4_paints 15 = .ok (.ifCond .ne 8, 3) := by decide +kernel
theorem dX4_paints_18 : decode cX4_paints 18 = .ok (.aload_n 0, 1) := by decide +kernel
theorem dX4_paints_19 : decode cX4_paints 19 = .ok (.invokevirtual 68, 3) := by decide +kernel
theorem dX4_paints_22 : decode cX4_paints 22 = .ok (.ireturn, 1) := by decide +kernel
theorem dX4_paints_23 : decode cX4_paints 23 = .ok (.aload_n 0, 1) := by decide +kernel
theorem dX4_paints_24 : decode cX4_paints 24 = .ok (.invokevirtual 74, 3) := by decide +kernel
theorem dX4_paints_27 : decode cX4_paints 27 = .ok (.aload_n 0, 1) := by decide +kernel
theorem dX4_paints_28 : decode cX4_paints 28 = .ok (.aload_n 0, 1) := by decide +kernel
theorem dX4_paints_29 : decode cX4_paints 29 = .ok (.iload_n 1, 1) := by decide +kernel
theorem dX4_paints_30 : decode cX4_paints 30 = .ok (.invokevirtual 57, 3) := by decide +kernel
theorem dX4_paints_33 : decode cX4_paints 33 = .ok (.iload_n 2, 1) := by decide +kernel
theorem dX4_paints_34 : decode cX4_paints 34 = .ok (.iload_n 3, 1) := by decide +kernel
theorem dX4_paints_35 : decode cX4_paints 35 = .ok (.iload 4, 2) := by decide +kernel
theorem dX4_paints_37 : decode cX4_paints 37 = .ok (.invokevirtual 61, 3) := by decide +kernel
theorem dX4_paints_40 : decode cX4_paints 40 = .ok (.ireturn, 1) := by decide +kernel
theorem dX4_ground_0 : decode cX4_ground 0 = .ok (.iload_n 1, 1) := by decide +kernel
theorem dX4_ground_1 : decode cX4_ground 1 = .ok (.iload_n 2, 1) := by decide +kernel
theorem dX4_ground_2 : decode cX4_ground 2 = .ok (.iload_n 3, 1) := by decide +kernel
theorem dX4_ground_3 : decode cX4_ground 3 = .ok (.invokestatic 65, 3) := by decide +kernel
theorem dX4_ground_6 : decode cX4_ground 6 = .ok (.ifCond .ne 8, 3) := by decide +kernel
theorem dX4_ground_9 : decode cX4_ground 9 = .ok (.aload_n 0, 1) := by decide +kernel
theorem dX4_ground_10 : decode cX4_ground 10 = .ok (.invokevirtual 68, 3) := by decide +kernel
theorem dX4_ground_13 : decode cX4_ground 13 = .ok (.ireturn, 1) := by decide +kernel
theorem dX4_ground_14 : decode cX4_ground 14 = .ok (.aload_n 0, 1) := by decide +kernel
theorem dX4_ground_15 : decode cX4_ground 15 = .ok (.invokevirtual 74, 3) := by decide +kernel
theorem dX4_ground_18 : decode cX4_ground 18 = .ok (.aload_n 0, 1) := by decide +kernel
theorem dX4_ground_19 : decode cX4_ground 19 = .ok (.bipush 117, 2) := by decide +kernel
theorem dX4_ground_21 : decode cX4_ground 21 = .ok (.iload_n 1, 1) := by decide +kernel
theorem dX4_ground_22 : decode cX4_ground 22 = .ok (.iload_n 2, 1) := by decide +kernel
theorem dX4_ground_23 : decode cX4_ground 23 = .ok (.iload_n 3, 1) := by decide +kernel
theorem dX4_ground_24 : decode cX4_ground 24 = .ok (.invokevirtual 61, 3) := by decide +kernel
theorem dX4_ground_27 : decode cX4_ground 27 = .ok (.ireturn, 1) := by decide +kernel
theorem dX4_isOfEye_0 : decode cX4_isOfEye 0 = .ok (.iload_n 0, 1) := by decide +kernel
theorem dX4_isOfEye_1 : decode cX4_isOfEye 1 = .ok (.bipush 9, 2) := by decide +kernel
theorem dX4_isOfEye_3 : decode cX4_isOfEye 3 = .ok (.if_icmp .ge 16, 3) := by decide +kernel
theorem dX4_isOfEye_6 : decode cX4_isOfEye 6 = .ok (.iload_n 1, 1) := by decide +kernel
theorem dX4_isOfEye_7 : decode cX4_isOfEye 7 = .ok (.sipush (-300), 3) := by decide +kernel
theorem dX4_isOfEye_10 : decode cX4_isOfEye 10 = .ok (.sipush 300, 3) := by decide +kernel
theorem dX4_isOfEye_13 : decode cX4_isOfEye 13 = .ok (.invokestatic 49, 3) := by decide +kernel
theorem dX4_isOfEye_16 : decode cX4_isOfEye 16 = .ok (.goto 25, 3) := by decide +kernel
theorem dX4_isOfEye_19 : decode cX4_isOfEye 19 = .ok (.iload_n 0, 1) := by decide +kernel
theorem dX4_isOfEye_20 : decode cX4_isOfEye 20 = .ok (.bipush 12, 2) := by decide +kernel
theorem dX4_isOfEye_22 : decode cX4_isOfEye 22 = .ok (.if_icmp .ge 13, 3) := by decide +kernel
theorem dX4_isOfEye_25 : decode cX4_isOfEye 25 = .ok (.iload_n 1, 1) := by decide +kernel
theorem dX4_isOfEye_26 : decode cX4_isOfEye 26 = .ok (.iconst 0, 1) := by decide +kernel
theorem dX4_isOfEye_27 : decode cX4_isOfEye 27 = .ok (.bipush 9, 2) := by decide +kernel
theorem dX4_isOfEye_29 : decode cX4_isOfEye 29 = .ok (.invokestatic 49, 3) := by decide +kernel
theorem dX4_isOfEye_32 : decode cX4_isOfEye 32 = .ok (.goto 9, 3) := by decide +kernel
theorem dX4_isOfEye_35 : decode cX4_isOfEye 35 = .ok (.iload_n 1, 1) := by decide +kernel
theorem dX4_isOfEye_36 : decode cX4_isOfEye 36 = .ok (.iconst 0, 1) := by decide +kernel
theorem dX4_isOfEye_37 : decode cX4_isOfEye 37 = .ok (.iconst 1, 1) := by decide +kernel
theorem dX4_isOfEye_38 : decode cX4_isOfEye 38 = .ok (.invokestatic 49, 3) := by decide +kernel
theorem dX4_isOfEye_41 : decode cX4_isOfEye 41 = .ok (.ireturn, 1) := by decide +kernel
theorem dX4_exchanges_0 : decode cX4_exchanges 0 = .ok (.aload_n 0, 1) := by decide +kernel
theorem dX4_exchanges_1 : decode cX4_exchanges 1 = .ok (.getfield 7, 3) := by decide +kernel
theorem dX4_exchanges_4 : decode cX4_exchanges 4 = .ok (.iload_n 1, 1) := by decide +kernel
theorem dX4_exchanges_5 : decode cX4_exchanges 5 = .ok (.iaload, 1) := by decide +kernel
theorem dX4_exchanges_6 : decode cX4_exchanges 6 = .ok (.istore_n 3, 1) := by decide +kernel
theorem dX4_exchanges_7 : decode cX4_exchanges 7 = .ok (.aload_n 0, 1) := by decide +kernel
theorem dX4_exchanges_8 : decode cX4_exchanges 8 = .ok (.getfield 7, 3) := by decide +kernel
theorem dX4_exchanges_11 : decode cX4_exchanges 11 = .ok (.iload_n 1, 1) := by decide +kernel
theorem dX4_exchanges_12 : decode cX4_exchanges 12 = .ok (.iload_n 2, 1) := by decide +kernel
theorem dX4_exchanges_13 : decode cX4_exchanges 13 = .ok (.iastore, 1) := by decide +kernel
theorem dX4_exchanges_14 : decode cX4_exchanges 14 = .ok (.iload_n 3, 1) := by decide +kernel
theorem dX4_exchanges_15 : decode cX4_exchanges 15 = .ok (.ireturn, 1) := by decide +kernel
theorem dX4_eye_0 : decode cX4_eye 0 = .ok (.iload_n 1, 1) := by decide +kernel
theorem dX4_eye_1 : decode cX4_eye 1 = .ok (.invokestatic 84, 3) := by decide +kernel
theorem dX4_eye_4 : decode cX4_eye 4 = .ok (.ifCond .eq 21, 3) := by decide +kernel
theorem dX4_eye_7 : decode cX4_eye 7 = .ok (.iload_n 2, 1) := by decide +kernel
theorem dX4_eye_8 : decode cX4_eye 8 = .ok (.iconst 0, 1) := by decide +kernel
theorem dX4_eye_9 : decode cX4_eye 9 = .ok (.bipush 12, 2) := by decide +kernel
theorem dX4_eye_11 : decode cX4_eye 11 = .ok (.invokestatic 49, 3) := by decide +kernel
theorem dX4_eye_14 : decode cX4_eye 14 = .ok (.ifCond .eq 11, 3) := by decide +kernel
theorem dX4_eye_17 : decode cX4_eye 17 = .ok (.iload_n 2, 1) := by decide +kernel
theorem dX4_eye_18 : decode cX4_eye 18 = .ok (.iload_n 3, 1) := by decide +kernel
theorem dX4_eye_19 : decode cX4_eye 19 = .ok (.invokestatic 87, 3) := by decide +kernel
theorem dX4_eye_22 : decode cX4_eye 22 = .ok (.ifCond .ne 8, 3) := by decide +kernel
theorem dX4_eye_25 : decode cX4_eye 25 = .ok (.aload_n 0, 1) := by decide +kernel
theorem dX4_eye_26 : decode cX4_eye 26 = .ok (.invokevirtual 68, 3) := by decide +kernel
theorem dX4_eye_29 : decode cX4_eye 29 = .ok (.ireturn, 1) := by decide +kernel
theorem dX4_eye_30 : decode cX4_eye 30 = .ok (.aload_n 0, 1) := by decide +kernel
theorem dX4_eye_31 : decode cX4_eye 31 = .ok (.invokevirtual 74, 3) := by decide +kernel
theorem dX4_eye_34 : decode cX4_eye 34 = .ok (.aload_n 0, 1) := by decide +kernel
theorem dX4_eye_35 : decode cX4_eye 35 = .ok (.bipush 62, 2) := by decide +kernel
theorem dX4_eye_37 : decode cX4_eye 37 = .ok (.bipush 13, 2) := by decide +kernel
theorem dX4_eye_39 : decode cX4_eye 39 = .ok (.iload_n 1, 1) := by decide +kernel
theorem dX4_eye_40 : decode cX4_eye 40 = .ok (.imul, 1) := by decide +kernel
theorem dX4_eye_41 : decode cX4_eye 41 = .ok (.iadd, 1) := by decide +kernel
theorem dX4_eye_42 : decode cX4_eye 42 = .ok (.iload_n 2, 1) := by decide +kernel
theorem dX4_eye_43 : decode cX4_eye 43 = .ok (.iadd, 1) := by decide +kernel
theorem dX4_eye_44 : decode cX4_eye 44 = .ok (.iload_n 3, 1) := by decide +kernel
theorem dX4_eye_45 : decode cX4_eye 45 = .ok (.invokevirtual 91, 3) := by decide +kernel
theorem dX4_eye_48 : decode cX4_eye 48 = .ok (.ireturn, 1) := by decide +kernel
theorem dX4_sets_0 : decode cX4_sets 0 = .ok (.iload_n 1, 1) := by decide +kernel
theorem dX4_sets_1 : decode cX4_sets 1 = .ok (.iconst 0, 1) := by decide +kernel
theorem dX4_sets_2 : decode cX4_sets 2 = .ok (.iconst 2, 1) := by decide +kernel
theorem dX4_sets_3 : decode cX4_sets 3 = .ok (.invokestatic 49, 3) := by decide +kernel
theorem dX4_sets_6 : decode cX4_sets 6 = .ok (.ifCond .eq 10, 3) := by decide +kernel
theorem dX4_sets_9 : decode cX4_sets 9 = .ok (.iload_n 2, 1) := by decide +kernel
theorem dX4_sets_10 : decode cX4_sets 10 = .ok (.invokestatic 53, 3) := by decide +kernel
theorem dX4_sets_13 : decode cX4_sets 13 = .ok (.ifCond .ne 8, 3) := by decide +kernel
theorem dX4_sets_16 : decode cX4_sets 16 = .ok (.aload_n 0, 1) := by decide +kernel
theorem dX4_sets_17 : decode cX4_sets 17 = .ok (.invokevirtual 68, 3) := by decide +kernel
theorem dX4_sets_20 : decode cX4_sets 20 = .ok (.ireturn, 1) := by decide +kernel
theorem dX4_sets_21 : decode cX4_sets 21 = .ok (.aload_n 0, 1) := by decide +kernel
theorem dX4_sets_22 : decode cX4_sets 22 = .ok (.invokevirtual 74, 3) := by decide +kernel
theorem dX4_sets_25 : decode cX4_sets 25 = .ok (.aload_n 0, 1) := by decide +kernel
theorem dX4_sets_26 : decode cX4_sets 26 = .ok (.bipush 114, 2) := by decide +kernel
theorem dX4_sets_28 : decode cX4_sets 28 = .ok (.iload_n 1, 1) := by decide +kernel
theorem dX4_sets_29 : decode cX4_sets 29 = .ok (.iadd, 1) := by decide +kernel
theorem dX4_sets_30 : decode cX4_sets 30 = .ok (.iload_n 2, 1) := by decide +kernel
theorem dX4_sets_31 : decode cX4_sets 31 = .ok (.invokevirtual 91, 3) := by decide +kernel
theorem dX4_sets_34 : decode cX4_sets 34 = .ok (.ireturn, 1) := by decide +kernel
theorem dX4_fixesOne_0 : decode cX4_fixesOne 0 = .ok (.aload_n 0, 1) := by decide +kernel
theorem dX4_fixesOne_1 : decode cX4_fixesOne 1 = .ok (.getfield 7, 3) := by decide +kernel
theorem dX4_fixesOne_4 : decode cX4_fixesOne 4 = .ok (.bipush 61, 2) := by decide +kernel
theorem dX4_fixesOne_6 : decode cX4_fixesOne 6 = .ok (.aload_n 0, 1) := by decide +kernel
theorem dX4_fixesOne_7 : decode cX4_fixesOne 7 = .ok (.getfield 7, 3) := by decide +kernel
theorem dX4_fixesOne_10 : decode cX4_fixesOne 10 = .ok (.bipush 61, 2) := by decide +kernel
theorem dX4_fixesOne_12 : decode cX4_fixesOne 12 = .ok (.iaload, 1) := by decide +kernel
theorem dX4_fixesOne_13 : decode cX4_fixesOne 13 = .ok (.iconst 1, 1) := by decide +kernel
theorem dX4_fixesOne_14 : decode cX4_fixesOne 14 = .ok (.iload_n 1, 1) := by decide +kernel
theorem dX4_fixesOne_15 : decode cX4_fixesOne 15 = .ok (.ishl, 1) := by decide +kernel
theorem dX4_fixesOne_16 : decode cX4_fixesOne 16 = .ok (.iconst (-1), 1) := by decide +kernel
theorem dX4_fixesOne_17 : decode cX4_fixesOne 17 = .ok (.ixor, 1) := by decide +kernel
theorem dX4_fixesOne_18 : decode cX4_fixesOne 18 = .ok (.iand, 1) := by decide +kernel
theorem dX4_fixesOne_19 : decode cX4_fixesOne 19 = .ok (.iload_n 2, 1) := by decide +kernel
theorem dX4_fixesOne_20 : decode cX4_fixesOne 20 = .ok (.iload_n 1, 1) := by decide +kernel
theorem dX4_fixesOne_21 : decode cX4_fixesOne 21 = .ok (.ishl, 1) := by decide +kernel
theorem dX4_fixesOne_22 : decode cX4_fixesOne 22 = .ok (.ior, 1) := by decide +kernel
theorem dX4_fixesOne_23 : decode cX4_fixesOne 23 = .ok (.iastore, 1) := by decide +kernel
theorem dX4_fixesOne_24 : decode cX4_fixesOne 24 = .ok (.aload_n 0, 1) := by decide +kernel
theorem dX4_fixesOne_25 : decode cX4_fixesOne 25 = .ok (.getfield 7, 3) := by decide +kernel
theorem dX4_fixesOne_28 : decode cX4_fixesOne 28 = .ok (.bipush 61, 2) := by decide +kernel
theorem dX4_fixesOne_30 : decode cX4_fixesOne 30 = .ok (.iaload, 1) := by decide +kernel
theorem dX4_fixesOne_31 : decode cX4_fixesOne 31 = .ok (.invokestatic 95, 3) := by decide +kernel
theorem dX4_fixesOne_34 : decode cX4_fixesOne 34 = .ok (.ireturn, 1) := by decide +kernel
theorem dX4_fixes_0 : decode cX4_fixes 0 = .ok (.aload_n 0, 1) := by decide +kernel
theorem dX4_fixes_1 : decode cX4_fixes 1 = .ok (.iload_n 1, 1) := by decide +kernel
theorem dX4_fixes_2 : decode cX4_fixes 2 = .ok (.invokevirtual 81, 3) := by decide +kernel
theorem dX4_fixes_5 : decode cX4_fixes 5 = .ok (.ifCond .eq 12, 3) := by decide +kernel
theorem dX4_fixes_8 : decode cX4_fixes 8 = .ok (.iload_n 2, 1) := by decide +kernel
theorem dX4_fixes_9 : decode cX4_fixes 9 = .ok (.iconst 0, 1) := by decide +kernel
theorem dX4_fixes_10 : decode cX4_fixes 10 = .ok (.iconst 1, 1) := by decide +kernel
theorem dX4_fixes_11 : decode cX4_fixes 11 = .ok (.invokestatic 49, 3) := by decide +kernel
theorem dX4_fixes_14 : decode cX4_fixes 14 = .ok (.ifCond .ne 8, 3) := by decide +kernel
theorem dX4_fixes_17 : decode cX4_fixes 17 = .ok (.aload_n 0, 1) := by decide +kernel
theorem dX4_fixes_18 : decode cX4_fixes 18 = .ok (.invokevirtual 68, 3) := by decide +kernel
theorem dX4_fixes_21 : decode cX4_fixes 21 = .ok (.ireturn, 1) := by decide +kernel
theorem dX4_fixes_22 : decode cX4_fixes 22 = .ok (.aload_n 0, 1) := by decide +kernel
theorem dX4_fixes_23 : decode cX4_fixes 23 = .ok (.invokevirtual 74, 3) := by decide +kernel
theorem dX4_fixes_26 : decode cX4_fixes 26 = .ok (.aload_n 0, 1) := by decide +kernel
theorem dX4_fixes_27 : decode cX4_fixes 27 = .ok (.iload_n 1, 1) := by decide +kernel
theorem dX4_fixes_28 : decode cX4_fixes 28 = .ok (.iload_n 2, 1) := by decide +kernel
theorem dX4_fixes_29 : decode cX4_fixes 29 = .ok (.invokevirtual 98, 3) := by decide +kernel
theorem dX4_fixes_32 : decode cX4_fixes 32 = .ok (.ireturn, 1) := by decide +kernel
theorem dX4_shineAt_0 : decode cX4_shineAt 0 = .ok (.ldc 101, 2) := by decide +kernel
theorem dX4_shineAt_2 : decode cX4_shineAt 2 = .ok (.aload_n 0, 1) := by decide +kernel
theorem dX4_shineAt_3 : decode cX4_shineAt 3 = .ok (.getfield 7, 3) := by decide +kernel
theorem dX4_shineAt_6 : decode cX4_shineAt 6 = .ok (.iload_n 1, 1) := by decide +kernel
theorem dX4_shineAt_7 : decode cX4_shineAt 7 = .ok (.iaload, 1) := by decide +kernel
theorem dX4_shineAt_8 : decode cX4_shineAt 8 = .ok (.i2f, 1) := by decide +kernel
theorem dX4_shineAt_9 : decode cX4_shineAt 9 = .ok (.fmul, 1) := by decide +kernel
theorem dX4_shineAt_10 : decode cX4_shineAt 10 = .ok (.ldc 102, 2) := by decide +kernel
theorem dX4_shineAt_12 : decode cX4_shineAt 12 = .ok (.aload_n 0, 1) := by decide +kernel
theorem dX4_shineAt_13 : decode cX4_shineAt 13 = .ok (.getfield 7, 3) := by decide +kernel
theorem dX4_shineAt_16 : decode cX4_shineAt 16 = .ok (.iload_n 1, 1) := by decide +kernel
theorem dX4_shineAt_17 : decode cX4_shineAt 17 = .ok (.iconst 1, 1) := by decide +kernel
theorem dX4_shineAt_18 : decode cX4_shineAt 18 = .ok (.iadd, 1) := by decide +kernel
theorem dX4_shineAt_19 : decode cX4_shineAt 19 = .ok (.iaload, 1) := by decide +kernel
theorem dX4_shineAt_20 : decode cX4_shineAt 20 = .ok (.i2f, 1) := by decide +kernel
theorem dX4_shineAt_21 : decode cX4_shineAt 21 = .ok (.fmul, 1) := by decide +kernel
theorem dX4_shineAt_22 : decode cX4_shineAt 22 = .ok (.fadd, 1) := by decide +kernel
theorem dX4_shineAt_23 : decode cX4_shineAt 23 = .ok (.ldc 103, 2) := by decide +kernel
theorem dX4_shineAt_25 : decode cX4_shineAt 25 = .ok (.aload_n 0, 1) := by decide +kernel
theorem dX4_shineAt_26 : decode cX4_shineAt 26 = .ok (.getfield 7, 3) := by decide +kernel
theorem dX4_shineAt_29 : decode cX4_shineAt 29 = .ok (.iload_n 1, 1) := by decide +kernel
theorem dX4_shineAt_30 : decode cX4_shineAt 30 = .ok (.iconst 2, 1) := by decide +kernel
theorem dX4_shineAt_31 : decode cX4_shineAt 31 = .ok (.iadd, 1) := by decide +kernel
theorem dX4_shineAt_32 : decode cX4_shineAt 32 = .ok (.iaload, 1) := by decide +kernel
theorem dX4_shineAt_33 : decode cX4_shineAt 33 = .ok (.i2f, 1) := by decide +kernel
theorem dX4_shineAt_34 : decode cX4_shineAt 34 = .ok (.fmul, 1) := by decide +kernel
theorem dX4_shineAt_35 : decode cX4_shineAt 35 = .ok (.fadd, 1) := by decide +kernel
theorem dX4_shineAt_36 : decode cX4_shineAt 36 = .ok (.freturn, 1) := by decide +kernel
theorem dX4_isFitting_0 : decode cX4_isFitting 0 = .ok (.aload_n 0, 1) := by decide +kernel
theorem dX4_isFitting_1 : decode cX4_isFitting 1 = .ok (.aload_n 0, 1) := by decide +kernel
theorem dX4_isFitting_2 : decode cX4_isFitting 2 = .ok (.iload_n 1, 1) := by decide +kernel
theorem dX4_isFitting_3 : decode cX4_isFitting 3 = .ok (.invokevirtual 57, 3) := by decide +kernel
theorem dX4_isFitting_6 : decode cX4_isFitting 6 = .ok (.invokevirtual 104, 3) := by decide +kernel
theorem dX4_isFitting_9 : decode cX4_isFitting 9 = .ok (.fstore_n 2, 1) := by decide +kernel
theorem dX4_isFitting_10 : decode cX4_isFitting 10 = .ok (.fload_n 2, 1) := by decide +kernel
theorem dX4_isFitting_11 : decode cX4_isFitting 11 = .ok (.aload_n 0, 1) := by decide +kernel
theorem dX4_isFitting_12 : decode cX4_isFitting 12 = .ok (.bipush 117, 2) := by decide +kernel
theorem dX4_isFitting_14 : decode cX4_isFitting 14 = .ok (.invokevirtual 104, 3) := by decide +kernel
theorem dX4_isFitting_17 : decode cX4_isFitting 17 = .ok (.fsub, 1) := by decide +kernel
theorem dX4_isFitting_18 : decode cX4_isFitting 18 = .ok (.fstore_n 3, 1) := by decide +kernel
theorem dX4_isFitting_19 : decode cX4_isFitting 19 = .ok (.fload_n 3, 1) := by decide +kernel
theorem dX4_isFitting_20 : decode cX4_isFitting 20 = .ok (.fconst 0, 1) := by decide +kernel
theorem dX4_isFitting_21 : decode cX4_isFitting 21 = .ok (.fcmp .g, 1) := by decide +kernel
theorem dX4_isFitting_22 : decode cX4_isFitting 22 = .ok (.ifCond .ge 8, 3) := by decide +kernel
theorem dX4_isFitting_25 : decode cX4_isFitting 25 = .ok (.fload_n 3, 1) := by decide +kernel
theorem dX4_isFitting_26 : decode cX4_isFitting 26 = .ok (.fneg, 1) := by decide +kernel
theorem dX4_isFitting_27 : decode cX4_isFitting 27 = .ok (.goto 4, 3) := by decide +kernel
theorem dX4_isFitting_30 : decode cX4_isFitting 30 = .ok (.fload_n 3, 1) := by decide +kernel
theorem dX4_isFitting_31 : decode cX4_isFitting 31 = .ok (.fstore_n 3, 1) := by decide +kernel
theorem dX4_isFitting_32 : decode cX4_isFitting 32 = .ok (.fload_n 2, 1) := by decide +kernel
theorem dX4_isFitting_33 : decode cX4_isFitting 33 = .ok (.aload_n 0, 1) := by decide +kernel
theorem dX4_isFitting_34 : decode cX4_isFitting 34 = .ok (.getfield 7, 3) := by decide +kernel
theorem dX4_isFitting_37 : decode cX4_isFitting 37 = .ok (.bipush 114, 2) := by decide +kernel
theorem dX4_isFitting_39 : decode cX4_isFitting 39 = .ok (.iaload, 1) := by decide +kernel
theorem dX4_isFitting_40 : decode cX4_isFitting 40 = .ok (.i2f, 1) := by decide +kernel
theorem dX4_isFitting_41 : decode cX4_isFitting 41 = .ok (.fcmp .l, 1) := by decide +kernel
theorem dX4_isFitting_42 : decode cX4_isFitting 42 = .ok (.ifCond .lt 33, 3) := by decide +kernel
theorem dX4_isFitting_45 : decode cX4_isFitting 45 = .ok (.fload_n 2, 1) := by decide +kernel
theorem dX4_isFitting_46 : decode cX4_isFitting 46 = .ok (.aload_n 0, 1) := by decide +kernel
theorem dX4_isFitting_47 : decode cX4_isFitting 47 = .ok (.getfield 7, 3) := by decide +kernel
theorem dX4_isFitting_50 : decode cX4_isFitting 50 = .ok (.bipush 115, 2) := by decide +kernel
theorem dX4_isFitting_52 : decode cX4_isFitting 52 = .ok (.iaload, 1) := by decide +kernel
theorem dX4_isFitting_53 : decode cX4_isFitting 53 = .ok (.i2f, 1) := by decide +kernel
theorem dX4_isFitting_54 : decode cX4_isFitting 54 = .ok (.fcmp .g, 1) := by decide +kernel
theorem dX4_isFitting_55 : decode cX4_isFitting 55 = .ok (.ifCond .gt 20, 3) := by decide +kernel
theorem dX4_isFitting_58 : decode cX4_isFitting 58 = .ok (.fload_n 3, 1) := by decide +kernel
theorem dX4_isFitting_59 : decode cX4_isFitting 59 = .ok (.aload_n 0, 1) := by decide +kernel
theorem dX4_isFitting_60 : decode cX4_isFitting 60 = .ok (.getfield 7, 3) := by decide +kernel
theorem dX4_isFitting_63 : decode cX4_isFitting 63 = .ok (.bipush 116, 2) := by decide +kernel
theorem dX4_isFitting_65 : decode cX4_isFitting 65 = .ok (.iaload, 1) := by decide +kernel
theorem dX4_isFitting_66 : decode cX4_isFitting 66 = .ok (.i2f, 1) := by decide +kernel
theorem dX4_isFitting_67 : decode cX4_isFitting 67 = .ok (.fcmp .l, 1) := by decide +kernel
theorem dX4_isFitting_68 : decode cX4_isFitting 68 = .ok (.ifCond .lt 7, 3) := by decide +kernel
theorem dX4_isFitting_71 : decode cX4_isFitting 71 = .ok (.iconst 1, 1) := by decide +kernel
theorem dX4_isFitting_72 : decode cX4_isFitting 72 = .ok (.goto 4, 3) := by decide +kernel
theorem dX4_isFitting_75 : decode cX4_isFitting 75 = .ok (.iconst 0, 1) := by decide +kernel
theorem dX4_isFitting_76 : decode cX4_isFitting 76 = .ok (.ireturn, 1) := by decide +kernel
theorem dX4_placeOf_0 : decode cX4_placeOf 0 = .ok (.iconst (-1), 1) := by decide +kernel
theorem dX4_placeOf_1 : decode cX4_placeOf 1 = .ok (.istore_n 2, 1) := by decide +kernel
theorem dX4_placeOf_2 : decode cX4_placeOf 2 = .ok (.iconst 0, 1) := by decide +kernel
theorem dX4_placeOf_3 : decode cX4_placeOf 3 = .ok (.istore_n 3, 1) := by decide +kernel
theorem dX4_placeOf_4 : decode cX4_placeOf 4 = .ok (.iload_n 3, 1) := by decide +kernel
theorem dX4_placeOf_5 : decode cX4_placeOf 5 = .ok (.aload_n 0, 1) := by decide +kernel
theorem dX4_placeOf_6 : decode cX4_placeOf 6 = .ok (.getfield 7, 3) := by decide +kernel
theorem dX4_placeOf_9 : decode cX4_placeOf 9 = .ok (.bipush 120, 2) := by decide +kernel
theorem dX4_placeOf_11 : decode cX4_placeOf 11 = .ok (.iaload, 1) := by decide +kernel
theorem dX4_placeOf_12 : decode cX4_placeOf 12 = .ok (.if_icmp .ge 28, 3) := by decide +kernel
theorem dX4_placeOf_15 : decode cX4_placeOf 15 = .ok (.aload_n 0, 1) := by decide +kernel
theorem dX4_placeOf_16 : decode cX4_placeOf 16 = .ok (.getfield 7, 3) := by decide +kernel
theorem dX4_placeOf_19 : decode cX4_placeOf 19 = .ok (.bipush 121, 2) := by decide +kernel
theorem dX4_placeOf_21 : decode cX4_placeOf 21 = .ok (.iload_n 3, 1) := by decide +kernel
theorem dX4_placeOf_22 : decode cX4_placeOf 22 = .ok (.iadd, 1) := by decide +kernel
theorem dX4_placeOf_23 : decode cX4_placeOf 23 = .ok (.iaload, 1) := by decide +kernel
theorem dX4_placeOf_24 : decode cX4_placeOf 24 = .ok (.iload_n 1, 1) := by decide +kernel
theorem dX4_placeOf_25 : decode cX4_placeOf 25 = .ok (.if_icmp .ne 7, 3) := by decide +kernel
theorem dX4_placeOf_28 : decode cX4_placeOf 28 = .ok (.iload_n 3, 1) := by decide +kernel
theorem dX4_placeOf_29 : decode cX4_placeOf 29 = .ok (.goto 4, 3) := by decide +kernel
theorem dX4_placeOf_32 : decode cX4_placeOf 32 = .ok (.iload_n 2, 1) := by decide +kernel
theorem dX4_placeOf_33 : decode cX4_placeOf 33 = .ok (.istore_n 2, 1) := by decide +kernel
theorem dX4_placeOf_34 : decode cX4_placeOf 34 = .ok (.iinc 3 1, 3) := by decide +kernel
theorem dX4_placeOf_37 : decode cX4_placeOf 37 = .ok (.goto (-33), 3) := by decide +kernel
theorem dX4_placeOf_40 : decode cX4_placeOf 40 = .ok (.iload_n 2, 1) := by decide +kernel
theorem dX4_placeOf_41 : decode cX4_placeOf 41 = .ok (.ireturn, 1) := by decide +kernel
theorem dX4_ofColour_0 : decode cX4_ofColour 0 = .ok (.iload_n 2, 1) := by decide +kernel
theorem dX4_ofColour_1 : decode cX4_ofColour 1 = .ok (.tableswitch 59 3 5 #[27, 39, 53], 27) := by decide +kernel
theorem dX4_ofColour_28 : decode cX4_ofColour 28 = .ok (.aload_n 0, 1) := by decide +kernel
theorem dX4_ofColour_29 : decode cX4_ofColour 29 = .ok (.getfield 7, 3) := by decide +kernel
theorem dX4_ofColour_32 : decode cX4_ofColour 32 = .ok (.bipush 61, 2) := by decide +kernel
theorem dX4_ofColour_34 : decode cX4_ofColour 34 = .ok (.iaload, 1) := by decide +kernel
theorem dX4_ofColour_35 : decode cX4_ofColour 35 = .ok (.iload_n 1, 1) := by decide +kernel
theorem dX4_ofColour_36 : decode cX4_ofColour 36 = .ok (.ishr, 1) := by decide +kernel
theorem dX4_ofColour_37 : decode cX4_ofColour 37 = .ok (.iconst 1, 1) := by decide +kernel
theorem dX4_ofColour_38 : decode cX4_ofColour 38 = .ok (.iand, 1) := by decide +kernel
theorem dX4_ofColour_39 : decode cX4_ofColour 39 = .ok (.ireturn, 1) := by decide +kernel
theorem dX4_ofColour_40 : decode cX4_ofColour 40 = .ok (.aload_n 0, 1) := by decide +kernel
theorem dX4_ofColour_41 : decode cX4_ofColour 41 = .ok (.iload_n 1, 1) := by decide +kernel
theorem dX4_ofColour_42 : decode cX4_ofColour 42 = .ok (.invokevirtual 108, 3) := by decide +kernel
theorem dX4_ofColour_45 : decode cX4_ofColour 45 = .ok (.ifCond .eq 7, 3) := by decide +kernel
theorem dX4_ofColour_48 : decode cX4_ofColour 48 = .ok (.iconst 1, 1) := by decide +kernel
theorem dX4_ofColour_49 : decode cX4_ofColour 49 = .ok (.goto 4, 3) := by decide +kernel
theorem dX4_ofColour_52 : decode cX4_ofColour 52 = .ok (.iconst 0, 1) := by decide +kernel
theorem dX4_ofColour_53 : decode cX4_ofColour 53 = .ok (.ireturn, 1) := by decide +kernel
theorem dX4_ofColour_54 : decode cX4_ofColour 54 = .ok (.aload_n 0, 1) := by decide +kernel
theorem dX4_ofColour_55 : decode cX4_ofColour 55 = .ok (.iload_n 1, 1) := by decide +kernel
theorem dX4_ofColour_56 : decode cX4_ofColour 56 = .ok (.invokevirtual 111, 3) := by decide +kernel
theorem dX4_ofColour_59 : decode cX4_ofColour 59 = .ok (.ireturn, 1) := by decide +kernel
theorem dX4_ofColour_60 : decode cX4_ofColour 60 = .ok (.aload_n 0, 1) := by decide +kernel
theorem dX4_ofColour_61 : decode cX4_ofColour 61 = .ok (.getfield 7, 3) := by decide +kernel
theorem dX4_ofColour_64 : decode cX4_ofColour 64 = .ok (.aload_n 0, 1) := by decide +kernel
theorem dX4_ofColour_65 : decode cX4_ofColour 65 = .ok (.iload_n 1, 1) := by decide +kernel
theorem dX4_ofColour_66 : decode cX4_ofColour 66 = .ok (.invokevirtual 57, 3) := by decide +kernel
theorem dX4_ofColour_69 : decode cX4_ofColour 69 = .ok (.iload_n 2, 1) := by decide +kernel
theorem dX4_ofColour_70 : decode cX4_ofColour 70 = .ok (.iadd, 1) := by decide +kernel
theorem dX4_ofColour_71 : decode cX4_ofColour 71 = .ok (.iaload, 1) := by decide +kernel
theorem dX4_ofColour_72 : decode cX4_ofColour 72 = .ok (.ireturn, 1) := by decide +kernel
theorem dX4_of_0 : decode cX4_of 0 = .ok (.aload_n 0, 1) := by decide +kernel
theorem dX4_of_1 : decode cX4_of 1 = .ok (.iload_n 1, 1) := by decide +kernel
theorem dX4_of_2 : decode cX4_of 2 = .ok (.invokevirtual 81, 3) := by decide +kernel
theorem dX4_of_5 : decode cX4_of 5 = .ok (.ifCond .eq 21, 3) := by decide +kernel
theorem dX4_of_8 : decode cX4_of 8 = .ok (.iload_n 2, 1) := by decide +kernel
theorem dX4_of_9 : decode cX4_of 9 = .ok (.iconst 0, 1) := by decide +kernel
theorem dX4_of_10 : decode cX4_of 10 = .ok (.iconst 5, 1) := by decide +kernel
theorem dX4_of_11 : decode cX4_of 11 = .ok (.invokestatic 49, 3) := by decide +kernel
theorem dX4_of_14 : decode cX4_of 14 = .ok (.ifCond .eq 12, 3) := by decide +kernel
theorem dX4_of_17 : decode cX4_of 17 = .ok (.aload_n 0, 1) := by decide +kernel
theorem dX4_of_18 : decode cX4_of 18 = .ok (.iload_n 1, 1) := by decide +kernel
theorem dX4_of_19 : decode cX4_of 19 = .ok (.iload_n 2, 1) := by decide +kernel
theorem dX4_of_20 : decode cX4_of 20 = .ok (.invokevirtual 114, 3) := by decide +kernel
theorem dX4_of_23 : decode cX4_of 23 = .ok (.goto 7, 3) := by decide +kernel
theorem dX4_of_26 : decode cX4_of 26 = .ok (.aload_n 0, 1) := by decide +kernel
theorem dX4_of_27 : decode cX4_of 27 = .ok (.invokevirtual 68, 3) := by decide +kernel
theorem dX4_of_30 : decode cX4_of 30 = .ok (.ireturn, 1) := by decide +kernel
theorem dX4_look_0 : decode cX4_look 0 = .ok (.iload_n 1, 1) := by decide +kernel
theorem dX4_look_1 : decode cX4_look 1 = .ok (.invokestatic 84, 3) := by decide +kernel
theorem dX4_look_4 : decode cX4_look 4 = .ok (.ifCond .eq 30, 3) := by decide +kernel
theorem dX4_look_7 : decode cX4_look 7 = .ok (.iload_n 2, 1) := by decide +kernel
theorem dX4_look_8 : decode cX4_look 8 = .ok (.iconst 0, 1) := by decide +kernel
theorem dX4_look_9 : decode cX4_look 9 = .ok (.bipush 12, 2) := by decide +kernel
theorem dX4_look_11 : decode cX4_look 11 = .ok (.invokestatic 49, 3) := by decide +kernel
theorem dX4_look_14 : decode cX4_look 14 = .ok (.ifCond .eq 20, 3) := by decide +kernel
theorem dX4_look_17 : decode cX4_look 17 = .ok (.aload_n 0, 1) := by decide +kernel
theorem dX4_look_18 : decode cX4_look 18 = .ok (.getfield 7, 3) := by decide +kernel
theorem dX4_look_21 : decode cX4_look 21 = .ok (.bipush 62, 2) := by decide +kernel
theorem dX4_look_23 : decode cX4_look 23 = .ok (.bipush 13, 2) := by decide +kernel
theorem dX4_look_25 : decode cX4_look 25 = .ok (.iload_n 1, 1) := by decide +kernel
theorem dX4_look_26 : decode cX4_look 26 = .ok (.imul, 1) := by decide +kernel
theorem dX4_look_27 : decode cX4_look 27 = .ok (.iadd, 1) := by decide +kernel
theorem dX4_look_28 : decode cX4_look 28 = .ok (.iload_n 2, 1) := by decide +kernel
theorem dX4_look_29 : decode cX4_look 29 = .ok (.iadd, 1) := by decide +kernel
theorem dX4_look_30 : decode cX4_look 30 = .ok (.iaload, 1) := by decide +kernel
theorem dX4_look_31 : decode cX4_look 31 = .ok (.goto 7, 3) := by decide +kernel
theorem dX4_look_34 : decode cX4_look 34 = .ok (.aload_n 0, 1) := by decide +kernel
theorem dX4_look_35 : decode cX4_look 35 = .ok (.invokevirtual 68, 3) := by decide +kernel
theorem dX4_look_38 : decode cX4_look 38 = .ok (.ireturn, 1) := by decide +kernel
theorem dX4_light_0 : decode cX4_light 0 = .ok (.aload_n 0, 1) := by decide +kernel
theorem dX4_light_1 : decode cX4_light 1 = .ok (.iload_n 1, 1) := by decide +kernel
theorem dX4_light_2 : decode cX4_light 2 = .ok (.invokevirtual 81, 3) := by decide +kernel
theorem dX4_light_5 : decode cX4_light 5 = .ok (.ifCond .eq 18, 3) := by decide +kernel
theorem dX4_light_8 : decode cX4_light 8 = .ok (.aload_n 0, 1) := by decide +kernel
theorem dX4_light_9 : decode cX4_light 9 = .ok (.aload_n 0, 1) := by decide +kernel
theorem dX4_light_10 : decode cX4_light 10 = .ok (.iload_n 1, 1) := by decide +kernel
theorem dX4_light_11 : decode cX4_light 11 = .ok (.invokevirtual 57, 3) := by decide +kernel
theorem dX4_light_14 : decode cX4_light 14 = .ok (.invokevirtual 104, 3) := by decide +kernel
theorem dX4_light_17 : decode cX4_light 17 = .ok (.invokestatic 117, 3) := by decide +kernel
theorem dX4_light_20 : decode cX4_light 20 = .ok (.goto 7, 3) := by decide +kernel
theorem dX4_light_23 : decode cX4_light 23 = .ok (.aload_n 0, 1) := by decide +kernel
theorem dX4_light_24 : decode cX4_light 24 = .ok (.invokevirtual 68, 3) := by decide +kernel
theorem dX4_light_27 : decode cX4_light 27 = .ok (.ireturn, 1) := by decide +kernel
theorem dX4_sight_0 : decode cX4_sight 0 = .ok (.bipush 62, 2) := by decide +kernel
theorem dX4_sight_2 : decode cX4_sight 2 = .ok (.bipush 13, 2) := by decide +kernel
theorem dX4_sight_4 : decode cX4_sight 4 = .ok (.iload_n 1, 1) := by decide +kernel
theorem dX4_sight_5 : decode cX4_sight 5 = .ok (.imul, 1) := by decide +kernel
theorem dX4_sight_6 : decode cX4_sight 6 = .ok (.iadd, 1) := by decide +kernel
theorem dX4_sight_7 : decode cX4_sight 7 = .ok (.iconst 3, 1) := by decide +kernel
theorem dX4_sight_8 : decode cX4_sight 8 = .ok (.iload_n 3, 1) := by decide +kernel
theorem dX4_sight_9 : decode cX4_sight 9 = .ok (.imul, 1) := by decide +kernel
theorem dX4_sight_10 : decode cX4_sight 10 = .ok (.iadd, 1) := by decide +kernel
theorem dX4_sight_11 : decode cX4_sight 11 = .ok (.istore 4, 2) := by decide +kernel
theorem dX4_sight_13 : decode cX4_sight 13 = .ok (.aload_n 0, 1) := by decide +kernel
theorem dX4_sight_14 : decode cX4_sight 14 = .ok (.iload_n 2, 1) := by decide +kernel
theorem dX4_sight_15 : decode cX4_sight 15 = .ok (.invokevirtual 57, 3) := by decide +kernel
theorem dX4_sight_18 : decode cX4_sight 18 = .ok (.istore 5, 2) := by decide +kernel
theorem dX4_sight_20 : decode cX4_sight 20 = .ok (.aload_n 0, 1) := by decide +kernel
theorem dX4_sight_21 : decode cX4_sight 21 = .ok (.getfield 7, 3) := by decide +kernel
theorem dX4_sight_24 : decode cX4_sight 24 = .ok (.iload 4, 2) := by decide +kernel
theorem dX4_sight_26 : decode cX4_sight 26 = .ok (.iaload, 1) := by decide +kernel
theorem dX4_sight_27 : decode cX4_sight 27 = .ok (.i2f, 1) := by decide +kernel
theorem dX4_sight_28 : decode cX4_sight 28 = .ok (.ldc 121, 2) := by decide +kernel
theorem dX4_sight_30 : decode cX4_sight 30 = .ok (.fdiv, 1) := by decide +kernel
theorem dX4_sight_31 : decode cX4_sight 31 = .ok (.fstore 6, 2) := by decide +kernel
theorem dX4_sight_33 : decode cX4_sight 33 = .ok (.aload_n 0, 1) := by decide +kernel
theorem dX4_sight_34 : decode cX4_sight 34 = .ok (.getfield 7, 3) := by decide +kernel
theorem dX4_sight_37 : decode cX4_sight 37 = .ok (.iload 4, 2) := by decide +kernel
theorem dX4_sight_39 : decode cX4_sight 39 = .ok (.iconst 1, 1) := by decide +kernel
theorem dX4_sight_40 : decode cX4_sight 40 = .ok (.iadd, 1) := by decide +kernel
theorem dX4_sight_41 : decode cX4_sight 41 = .ok (.iaload, 1) := by decide +kernel
theorem dX4_sight_42 : decode cX4_sight 42 = .ok (.i2f, 1) := by decide +kernel
theorem dX4_sight_43 : decode cX4_sight 43 = .ok (.ldc 121, 2) := by decide +kernel
theorem dX4_sight_45 : decode cX4_sight 45 = .ok (.fdiv, 1) := by decide +kernel
theorem dX4_sight_46 : decode cX4_sight 46 = .ok (.fstore 7, 2) := by decide +kernel
theorem dX4_sight_48 : decode cX4_sight 48 = .ok (.aload_n 0, 1) := by decide +kernel
theorem dX4_sight_49 : decode cX4_sight 49 = .ok (.getfield 7, 3) := by decide +kernel
theorem dX4_sight_52 : decode cX4_sight 52 = .ok (.iload 4, 2) := by decide +kernel
theorem dX4_sight_54 : decode cX4_sight 54 = .ok (.iconst 2, 1) := by decide +kernel
theorem dX4_sight_55 : decode cX4_sight 55 = .ok (.iadd, 1) := by decide +kernel
theorem dX4_sight_56 : decode cX4_sight 56 = .ok (.iaload, 1) := by decide +kernel
theorem dX4_sight_57 : decode cX4_sight 57 = .ok (.i2f, 1) := by decide +kernel
theorem dX4_sight_58 : decode cX4_sight 58 = .ok (.ldc 121, 2) := by decide +kernel
theorem dX4_sight_60 : decode cX4_sight 60 = .ok (.fdiv, 1) := by decide +kernel
theorem dX4_sight_61 : decode cX4_sight 61 = .ok (.fstore 8, 2) := by decide +kernel
theorem dX4_sight_63 : decode cX4_sight 63 = .ok (.fload 6, 2) := by decide +kernel
theorem dX4_sight_65 : decode cX4_sight 65 = .ok (.aload_n 0, 1) := by decide +kernel
theorem dX4_sight_66 : decode cX4_sight 66 = .ok (.getfield 7, 3) := by decide +kernel
theorem dX4_sight_69 : decode cX4_sight 69 = .ok (.iload 5, 2) := by decide +kernel
theorem dX4_sight_71 : decode cX4_sight 71 = .ok (.iaload, 1) := by decide +kernel
theorem dX4_sight_72 : decode cX4_sight 72 = .ok (.i2f, 1) := by decide +kernel
theorem dX4_sight_73 : decode cX4_sight 73 = .ok (.fmul, 1) := by decide +kernel
theorem dX4_sight_74 : decode cX4_sight 74 = .ok (.fload 7, 2) := by decide +kernel
theorem dX4_sight_76 : decode cX4_sight 76 = .ok (.aload_n 0, 1) := by decide +kernel
theorem dX4_sight_77 : decode cX4_sight 77 = .ok (.getfield 7, 3) := by decide +kernel
theorem dX4_sight_80 : decode cX4_sight 80 = .ok (.iload 5, 2) := by decide +kernel
theorem dX4_sight_82 : decode cX4_sight 82 = .ok (.iconst 1, 1) := by decide +kernel
theorem dX4_sight_83 : decode cX4_sight 83 = .ok (.iadd, 1) := by decide +kernel
theorem dX4_sight_84 : decode cX4_sight 84 = .ok (.iaload, 1) := by decide +kernel
theorem dX4_sight_85 : decode cX4_sight 85 = .ok (.i2f, 1) := by decide +kernel
theorem dX4_sight_86 : decode cX4_sight 86 = .ok (.fmul, 1) := by decide +kernel
theorem dX4_sight_87 : decode cX4_sight 87 = .ok (.fadd, 1) := by decide +kernel
theorem dX4_sight_88 : decode cX4_sight 88 = .ok (.fload 8, 2) := by decide +kernel
theorem dX4_sight_90 : decode cX4_sight 90 = .ok (.aload_n 0, 1) := by decide +kernel
theorem dX4_sight_91 : decode cX4_sight 91 = .ok (.getfield 7, 3) := by decide +kernel
theorem dX4_sight_94 : decode cX4_sight 94 = .ok (.iload 5, 2) := by decide +kernel
theorem dX4_sight_96 : decode cX4_sight 96 = .ok (.iconst 2, 1) := by decide +kernel
theorem dX4_sight_97 : decode cX4_sight 97 = .ok (.iadd, 1) := by decide +kernel
theorem dX4_sight_98 : decode cX4_sight 98 = .ok (.iaload, 1) := by decide +kernel
theorem dX4_sight_99 : decode cX4_sight 99 = .ok (.i2f, 1) := by decide +kernel
theorem dX4_sight_100 : decode cX4_sight 100 = .ok (.fmul, 1) := by decide +kernel
theorem dX4_sight_101 : decode cX4_sight 101 = .ok (.fadd, 1) := by decide +kernel
theorem dX4_sight_102 : decode cX4_sight 102 = .ok (.freturn, 1) := by decide +kernel
theorem dX4_seen_0 : decode cX4_seen 0 = .ok (.iload_n 1, 1) := by decide +kernel
theorem dX4_seen_1 : decode cX4_seen 1 = .ok (.invokestatic 84, 3) := by decide +kernel
theorem dX4_seen_4 : decode cX4_seen 4 = .ok (.ifCond .eq 33, 3) := by decide +kernel
theorem dX4_seen_7 : decode cX4_seen 7 = .ok (.aload_n 0, 1) := by decide +kernel
theorem dX4_seen_8 : decode cX4_seen 8 = .ok (.iload_n 2, 1) := by decide +kernel
theorem dX4_seen_9 : decode cX4_seen 9 = .ok (.invokevirtual 81, 3) := by decide +kernel
theorem dX4_seen_12 : decode cX4_seen 12 = .ok (.ifCond .eq 25, 3) := by decide +kernel
theorem dX4_seen_15 : decode cX4_seen 15 = .ok (.iload_n 3, 1) := by decide +kernel
theorem dX4_seen_16 : decode cX4_seen 16 = .ok (.iconst 0, 1) := by decide +kernel
theorem dX4_seen_17 : decode cX4_seen 17 = .ok (.iconst 2, 1) := by decide +kernel
theorem dX4_seen_18 : decode cX4_seen 18 = .ok (.invokestatic 49, 3) := by decide +kernel
theorem dX4_seen_21 : decode cX4_seen 21 = .ok (.ifCond .eq 16, 3) := by decide +kernel
theorem dX4_seen_24 : decode cX4_seen 24 = .ok (.aload_n 0, 1) := by decide +kernel
theorem dX4_seen_25 : decode cX4_seen 25 = .ok (.iload_n 1, 1) := by decide +kernel
theorem dX4_seen_26 : decode cX4_seen 26 = .ok (.iload_n 2, 1) := by decide +kernel
theorem dX4_seen_27 : decode cX4_seen 27 = .ok (.iload_n 3, 1) := by decide +kernel
theorem dX4_seen_28 : decode cX4_seen 28 = .ok (.invokevirtual 122, 3) := by decide +kernel
theorem dX4_seen_31 : decode cX4_seen 31 = .ok (.invokestatic 117, 3) := by decide +kernel
theorem dX4_seen_34 : decode cX4_seen 34 = .ok (.goto 7, 3) := by decide +kernel
theorem dX4_seen_37 : decode cX4_seen 37 = .ok (.aload_n 0, 1) := by decide +kernel
theorem dX4_seen_38 : decode cX4_seen 38 = .ok (.invokevirtual 68, 3) := by decide +kernel
theorem dX4_seen_41 : decode cX4_seen 41 = .ok (.ireturn, 1) := by decide +kernel
theorem dX4_farFor_0 : decode cX4_farFor 0 = .ok (.bipush 62, 2) := by decide +kernel
theorem dX4_farFor_2 : decode cX4_farFor 2 = .ok (.bipush 13, 2) := by decide +kernel
theorem dX4_farFor_4 : decode cX4_farFor 4 = .ok (.iload_n 1, 1) := by decide +kernel
theorem dX4_farFor_5 : decode cX4_farFor 5 = .ok (.imul, 1) := by decide +kernel
theorem dX4_farFor_6 : decode cX4_farFor 6 = .ok (.iadd, 1) := by decide +kernel
theorem dX4_farFor_7 : decode cX4_farFor 7 = .ok (.bipush 9, 2) := by decide +kernel
theorem dX4_farFor_9 : decode cX4_farFor 9 = .ok (.iadd, 1) := by decide +kernel
theorem dX4_farFor_10 : decode cX4_farFor 10 = .ok (.istore 4, 2) := by decide +kernel
theorem dX4_farFor_12 : decode cX4_farFor 12 = .ok (.aload_n 0, 1) := by decide +kernel
theorem dX4_farFor_13 : decode cX4_farFor 13 = .ok (.iload_n 1, 1) := by decide +kernel
theorem dX4_farFor_14 : decode cX4_farFor 14 = .ok (.iload_n 2, 1) := by decide +kernel
theorem dX4_farFor_15 : decode cX4_farFor 15 = .ok (.iconst 0, 1) := by decide +kernel
theorem dX4_farFor_16 : decode cX4_farFor 16 = .ok (.invokevirtual 122, 3) := by decide +kernel
theorem dX4_farFor_19 : decode cX4_farFor 19 = .ok (.aload_n 0, 1) := by decide +kernel
theorem dX4_farFor_20 : decode cX4_farFor 20 = .ok (.iload_n 1, 1) := by decide +kernel
theorem dX4_farFor_21 : decode cX4_farFor 21 = .ok (.iload_n 3, 1) := by decide +kernel
theorem dX4_farFor_22 : decode cX4_farFor 22 = .ok (.iconst 0, 1) := by decide +kernel
theorem dX4_farFor_23 : decode cX4_farFor 23 = .ok (.invokevirtual 122, 3) := by decide +kernel
theorem dX4_farFor_26 : decode cX4_farFor 26 = .ok (.fsub, 1) := by decide +kernel
theorem dX4_farFor_27 : decode cX4_farFor 27 = .ok (.fstore 5, 2) := by decide +kernel
theorem dX4_farFor_29 : decode cX4_farFor 29 = .ok (.aload_n 0, 1) := by decide +kernel
theorem dX4_farFor_30 : decode cX4_farFor 30 = .ok (.iload_n 1, 1) := by decide +kernel
theorem dX4_farFor_31 : decode cX4_farFor 31 = .ok (.iload_n 2, 1) := by decide +kernel
theorem dX4_farFor_32 : decode cX4_farFor 32 = .ok (.iconst 1, 1) := by decide +kernel
theorem dX4_farFor_33 : decode cX4_farFor 33 = .ok (.invokevirtual 122, 3) := by decide +kernel
theorem dX4_farFor_36 : decode cX4_farFor 36 = .ok (.aload_n 0, 1) := by decide +kernel
theorem dX4_farFor_37 : decode cX4_farFor 37 = .ok (.iload_n 1, 1) := by decide +kernel
theorem dX4_farFor_38 : decode cX4_farFor 38 = .ok (.iload_n 3, 1) := by decide +kernel
theorem dX4_farFor_39 : decode cX4_farFor 39 = .ok (.iconst 1, 1) := by decide +kernel
theorem dX4_farFor_40 : decode cX4_farFor 40 = .ok (.invokevirtual 122, 3) := by decide +kernel
theorem dX4_farFor_43 : decode cX4_farFor 43 = .ok (.fsub, 1) := by decide +kernel
theorem dX4_farFor_44 : decode cX4_farFor 44 = .ok (.fstore 6, 2) := by decide +kernel
theorem dX4_farFor_46 : decode cX4_farFor 46 = .ok (.aload_n 0, 1) := by decide +kernel
theorem dX4_farFor_47 : decode cX4_farFor 47 = .ok (.iload_n 1, 1) := by decide +kernel
theorem dX4_farFor_48 : decode cX4_farFor 48 = .ok (.iload_n 2, 1) := by decide +kernel
theorem dX4_farFor_49 : decode cX4_farFor 49 = .ok (.iconst 2, 1) := by decide +kernel
theorem dX4_farFor_50 : decode cX4_farFor 50 = .ok (.invokevirtual 122, 3) := by decide +kernel
theorem dX4_farFor_53 : decode cX4_farFor 53 = .ok (.aload_n 0, 1) := by decide +kernel
theorem dX4_farFor_54 : decode cX4_farFor 54 = .ok (.iload_n 1, 1) := by decide +kernel
theorem dX4_farFor_55 : decode cX4_farFor 55 = .ok (.iload_n 3, 1) := by decide +kernel
theorem dX4_farFor_56 : decode cX4_farFor 56 = .ok (.iconst 2, 1) := by decide +kernel
theorem dX4_farFor_57 : decode cX4_farFor 57 = .ok (.invokevirtual 122, 3) := by decide +kernel
theorem dX4_farFor_60 : decode cX4_farFor 60 = .ok (.fsub, 1) := by decide +kernel
theorem dX4_farFor_61 : decode cX4_farFor 61 = .ok (.fstore 7, 2) := by decide +kernel
theorem dX4_farFor_63 : decode cX4_farFor 63 = .ok (.aload_n 0, 1) := by decide +kernel
theorem dX4_farFor_64 : decode cX4_farFor 64 = .ok (.getfield 7, 3) := by decide +kernel
theorem dX4_farFor_67 : decode cX4_farFor 67 = .ok (.iload 4, 2) := by decide +kernel
theorem dX4_farFor_69 : decode cX4_farFor 69 = .ok (.iaload, 1) := by decide +kernel
theorem dX4_farFor_70 : decode cX4_farFor 70 = .ok (.i2f, 1) := by decide +kernel
theorem dX4_farFor_71 : decode cX4_farFor 71 = .ok (.fload 5, 2) := by decide +kernel
theorem dX4_farFor_73 : decode cX4_farFor 73 = .ok (.fload 5, 2) := by decide +kernel
theorem dX4_farFor_75 : decode cX4_farFor 75 = .ok (.fmul, 1) := by decide +kernel
theorem dX4_farFor_76 : decode cX4_farFor 76 = .ok (.fmul, 1) := by decide +kernel
theorem dX4_farFor_77 : decode cX4_farFor 77 = .ok (.aload_n 0, 1) := by decide +kernel
theorem dX4_farFor_78 : decode cX4_farFor 78 = .ok (.getfield 7, 3) := by decide +kernel
theorem dX4_farFor_81 : decode cX4_farFor 81 = .ok (.iload 4, 2) := by decide +kernel
theorem dX4_farFor_83 : decode cX4_farFor 83 = .ok (.iconst 1, 1) := by decide +kernel
theorem dX4_farFor_84 : decode cX4_farFor 84 = .ok (.iadd, 1) := by decide +kernel
theorem dX4_farFor_85 : decode cX4_farFor 85 = .ok (.iaload, 1) := by decide +kernel
theorem dX4_farFor_86 : decode cX4_farFor 86 = .ok (.i2f, 1) := by decide +kernel
theorem dX4_farFor_87 : decode cX4_farFor 87 = .ok (.fload 6, 2) := by decide +kernel
theorem dX4_farFor_89 : decode cX4_farFor 89 = .ok (.fload 6, 2) := by decide +kernel
theorem dX4_farFor_91 : decode cX4_farFor 91 = .ok (.fmul, 1) := by decide +kernel
theorem dX4_farFor_92 : decode cX4_farFor 92 = .ok (.fmul, 1) := by decide +kernel
theorem dX4_farFor_93 : decode cX4_farFor 93 = .ok (.fadd, 1) := by decide +kernel
theorem dX4_farFor_94 : decode cX4_farFor 94 = .ok (.aload_n 0, 1) := by decide +kernel
theorem dX4_farFor_95 : decode cX4_farFor 95 = .ok (.getfield 7, 3) := by decide +kernel
theorem dX4_farFor_98 : decode cX4_farFor 98 = .ok (.iload 4, 2) := by decide +kernel
theorem dX4_farFor_100 : decode cX4_farFor 100 = .ok (.iconst 2, 1) := by decide +kernel
theorem dX4_farFor_101 : decode cX4_farFor 101 = .ok (.iadd, 1) := by decide +kernel
theorem dX4_farFor_102 : decode cX4_farFor 102 = .ok (.iaload, 1) := by decide +kernel
theorem dX4_farFor_103 : decode cX4_farFor 103 = .ok (.i2f, 1) := by decide +kernel
theorem dX4_farFor_104 : decode cX4_farFor 104 = .ok (.fload 7, 2) := by decide +kernel
theorem dX4_farFor_106 : decode cX4_farFor 106 = .ok (.fload 7, 2) := by decide +kernel
theorem dX4_farFor_108 : decode cX4_farFor 108 = .ok (.fmul, 1) := by decide +kernel
theorem dX4_farFor_109 : decode cX4_farFor 109 = .ok (.fmul, 1) := by decide +kernel
theorem dX4_farFor_110 : decode cX4_farFor 110 = .ok (.fadd, 1) := by decide +kernel
theorem dX4_farFor_111 : decode cX4_farFor 111 = .ok (.freturn, 1) := by decide +kernel
theorem dX4_distance_0 : decode cX4_distance 0 = .ok (.iload_n 1, 1) := by decide +kernel
theorem dX4_distance_1 : decode cX4_distance 1 = .ok (.invokestatic 84, 3) := by decide +kernel
theorem dX4_distance_4 : decode cX4_distance 4 = .ok (.ifCond .eq 32, 3) := by decide +kernel
theorem dX4_distance_7 : decode cX4_distance 7 = .ok (.aload_n 0, 1) := by decide +kernel
theorem dX4_distance_8 : decode cX4_distance 8 = .ok (.iload_n 2, 1) := by decide +kernel
theorem dX4_distance_9 : decode cX4_distance 9 = .ok (.invokevirtual 81, 3) := by decide +kernel
theorem dX4_distance_12 : decode cX4_distance 12 = .ok (.ifCond .eq 24, 3) := by decide +kernel
theorem dX4_distance_15 : decode cX4_distance 15 = .ok (.aload_n 0, 1) := by decide +kernel
theorem dX4_distance_16 : decode cX4_distance 16 = .ok (.iload_n 3, 1) := by decide +kernel
theorem dX4_distance_17 : decode cX4_distance 17 = .ok (.invokevirtual 81, 3) := by decide +kernel
theorem dX4_distance_20 : decode cX4_distance 20 = .ok (.ifCond .eq 16, 3) := by decide +kernel
theorem dX4_distance_23 : decode cX4_distance 23 = .ok (.aload_n 0, 1) := by decide +kernel
theorem dX4_distance_24 : decode cX4_distance 24 = .ok (.iload_n 1, 1) := by decide +kernel
theorem dX4_distance_25 : decode cX4_distance 25 = .ok (.iload_n 2, 1) := by decide +kernel
theorem dX4_distance_26 : decode cX4_distance 26 = .ok (.iload_n 3, 1) := by decide +kernel
theorem dX4_distance_27 : decode cX4_distance 27 = .ok (.invokevirtual 126, 3) := by decide +kernel
theorem dX4_distance_30 : decode cX4_distance 30 = .ok (.invokestatic 117, 3) := by decide +kernel
theorem dX4_distance_33 : decode cX4_distance 33 = .ok (.goto 7, 3) := by decide +kernel
theorem dX4_distance_36 : decode cX4_distance 36 = .ok (.aload_n 0, 1) := by decide +kernel
theorem dX4_distance_37 : decode cX4_distance 37 = .ok (.invokevirtual 68, 3) := by decide +kernel
theorem dX4_distance_40 : decode cX4_distance 40 = .ok (.ireturn, 1) := by decide +kernel
theorem dX4_apartOf_0 : decode cX4_apartOf 0 = .ok (.fconst 0, 1) := by decide +kernel
theorem dX4_apartOf_1 : decode cX4_apartOf 1 = .ok (.fstore_n 3, 1) := by decide +kernel
theorem dX4_apartOf_2 : decode cX4_apartOf 2 = .ok (.iconst 0, 1) := by decide +kernel
theorem dX4_apartOf_3 : decode cX4_apartOf 3 = .ok (.istore 4, 2) := by decide +kernel
theorem dX4_apartOf_5 : decode cX4_apartOf 5 = .ok (.iconst 0, 1) := by decide +kernel
theorem dX4_apartOf_6 : decode cX4_apartOf 6 = .ok (.istore 5, 2) := by decide +kernel
theorem dX4_apartOf_8 : decode cX4_apartOf 8 = .ok (.iload 5, 2) := by decide +kernel
theorem dX4_apartOf_10 : decode cX4_apartOf 10 = .ok (.iconst 4, 1) := by decide +kernel
theorem dX4_apartOf_11 : decode cX4_apartOf 11 = .ok (.if_icmp .ge 61, 3) := by decide +kernel
theorem dX4_apartOf_14 : decode cX4_apartOf 14 = .ok (.aload_n 0, 1) := by decide +kernel
theorem dX4_apartOf_15 : decode cX4_apartOf 15 = .ok (.getfield 7, 3) := by decide +kernel
theorem dX4_apartOf_18 : decode cX4_apartOf 18 = .ok (.bipush 62, 2) := by decide +kernel
theorem dX4_apartOf_20 : decode cX4_apartOf 20 = .ok (.bipush 13, 2) := by decide +kernel
theorem dX4_apartOf_22 : decode cX4_apartOf 22 = .ok (.iload 5, 2) := by decide +kernel
theorem dX4_apartOf_24 : decode cX4_apartOf 24 = .ok (.imul, 1) := by decide +kernel
theorem dX4_apartOf_25 : decode cX4_apartOf 25 = .ok (.iadd, 1) := by decide +kernel
theorem dX4_apartOf_26 : decode cX4_apartOf 26 = .ok (.bipush 12, 2) := by decide +kernel
theorem dX4_apartOf_28 : decode cX4_apartOf 28 = .ok (.iadd, 1) := by decide +kernel
theorem dX4_apartOf_29 : decode cX4_apartOf 29 = .ok (.iaload, 1) := by decide +kernel
theorem dX4_apartOf_30 : decode cX4_apartOf 30 = .ok (.iconst 1, 1) := by decide +kernel
theorem dX4_apartOf_31 : decode cX4_apartOf 31 = .ok (.if_icmp .ne 35, 3) := by decide +kernel
theorem dX4_apartOf_34 : decode cX4_apartOf 34 = .ok (.aload_n 0, 1) := by decide +kernel
theorem dX4_apartOf_35 : decode cX4_apartOf 35 = .ok (.iload 5, 2) := by decide +kernel
theorem dX4_apartOf_37 : decode cX4_apartOf 37 = .ok (.iload_n 1, 1) := by decide +kernel
theorem dX4_apartOf_38 : decode cX4_apartOf 38 = .ok (.iload_n 2, 1) := by decide +kernel
theorem dX4_apartOf_39 : decode cX4_apartOf 39 = .ok (.invokevirtual 126, 3) := by decide +kernel
theorem dX4_apartOf_42 : decode cX4_apartOf 42 = .ok (.fstore 6, 2) := by decide +kernel
theorem dX4_apartOf_44 : decode cX4_apartOf 44 = .ok (.iload 4, 2) := by decide +kernel
theorem dX4_apartOf_46 : decode cX4_apartOf 46 = .ok (.ifCond .eq 10, 3) := by decide +kernel
theorem dX4_apartOf_49 : decode cX4_apartOf 49 = .ok (.fload 6, 2) := by decide +kernel
theorem dX4_apartOf_51 : decode cX4_apartOf 51 = .ok (.fload_n 3, 1) := by decide +kernel
theorem dX4_apartOf_52 : decode cX4_apartOf 52 = .ok (.fcmp .g, 1) := by decide +kernel
theorem dX4_apartOf_53 : decode cX4_apartOf 53 = .ok (.ifCond .ge 8, 3) := by decide +kernel
theorem dX4_apartOf_56 : decode cX4_apartOf 56 = .ok (.fload 6, 2) := by decide +kernel
theorem dX4_apartOf_58 : decode cX4_apartOf 58 = .ok (.goto 4, 3) := by decide +kernel
theorem dX4_apartOf_61 : decode cX4_apartOf 61 = .ok (.fload_n 3, 1) := by decide +kernel
theorem dX4_apartOf_62 : decode cX4_apartOf 62 = .ok (.fstore_n 3, 1) := by decide +kernel
theorem dX4_apartOf_63 : decode cX4_apartOf 63 = .ok (.iconst 1, 1) := by decide +kernel
theorem dX4_apartOf_64 : decode cX4_apartOf 64 = .ok (.istore 4, 2) := by decide +kernel
theorem dX4_apartOf_66 : decode cX4_apartOf 66 = .ok (.iinc 5 1, 3) := by decide +kernel
theorem dX4_apartOf_69 : decode cX4_apartOf 69 = .ok (.goto (-61), 3) := by decide +kernel
theorem dX4_apartOf_72 : decode cX4_apartOf 72 = .ok (.fload_n 3, 1) := by decide +kernel
theorem dX4_apartOf_73 : decode cX4_apartOf 73 = .ok (.freturn, 1) := by decide +kernel
theorem dX4_apart_0 : decode cX4_apart 0 = .ok (.aload_n 0, 1) := by decide +kernel
theorem dX4_apart_1 : decode cX4_apart 1 = .ok (.iload_n 1, 1) := by decide +kernel
theorem dX4_apart_2 : decode cX4_apart 2 = .ok (.invokevirtual 81, 3) := by decide +kernel
theorem dX4_apart_5 : decode cX4_apart 5 = .ok (.ifCond .eq 23, 3) := by decide +kernel
theorem dX4_apart_8 : decode cX4_apart 8 = .ok (.aload_n 0, 1) := by decide +kernel
theorem dX4_apart_9 : decode cX4_apart 9 = .ok (.iload_n 2, 1) := by decide +kernel
theorem dX4_apart_10 : decode cX4_apart 10 = .ok (.invokevirtual 81, 3) := by decide +kernel
theorem dX4_apart_13 : decode cX4_apart 13 = .ok (.ifCond .eq 15, 3) := by decide +kernel
theorem dX4_apart_16 : decode cX4_apart 16 = .ok (.aload_n 0, 1) := by decide +kernel
theorem dX4_apart_17 : decode cX4_apart 17 = .ok (.iload_n 1, 1) := by decide +kernel
theorem dX4_apart_18 : decode cX4_apart 18 = .ok (.iload_n 2, 1) := by decide +kernel
theorem dX4_apart_19 : decode cX4_apart 19 = .ok (.invokevirtual 129, 3) := by decide +kernel
theorem dX4_apart_22 : decode cX4_apart 22 = .ok (.invokestatic 117, 3) := by decide +kernel
theorem dX4_apart_25 : decode cX4_apart 25 = .ok (.goto 7, 3) := by decide +kernel
theorem dX4_apart_28 : decode cX4_apart 28 = .ok (.aload_n 0, 1) := by decide +kernel
theorem dX4_apart_29 : decode cX4_apart 29 = .ok (.invokevirtual 68, 3) := by decide +kernel
theorem dX4_apart_32 : decode cX4_apart 32 = .ok (.ireturn, 1) := by decide +kernel
theorem dX4_laysFar_0 : decode cX4_laysFar 0 = .ok (.aload_n 0, 1) := by decide +kernel
theorem dX4_laysFar_1 : decode cX4_laysFar 1 = .ok (.iconst 0, 1) := by decide +kernel
theorem dX4_laysFar_2 : decode cX4_laysFar 2 = .ok (.putfield 133, 3) := by decide +kernel
theorem dX4_laysFar_5 : decode cX4_laysFar 5 = .ok (.iconst 0, 1) := by decide +kernel
theorem dX4_laysFar_6 : decode cX4_laysFar 6 = .ok (.istore_n 1, 1) := by decide +kernel
theorem dX4_laysFar_7 : decode cX4_laysFar 7 = .ok (.iload_n 1, 1) := by decide +kernel
theorem dX4_laysFar_8 : decode cX4_laysFar 8 = .ok (.aload_n 0, 1) := by decide +kernel
theorem dX4_laysFar_9 : decode cX4_laysFar 9 = .ok (.getfield 7, 3) := by decide +kernel
theorem dX4_laysFar_12 : decode cX4_laysFar 12 = .ok (.iconst 0, 1) := by decide +kernel
theorem dX4_laysFar_13 : decode cX4_laysFar 13 = .ok (.iaload, 1) := by decide +kernel
theorem dX4_laysFar_14 : decode cX4_laysFar 14 = .ok (.if_icmp .ge 85, 3) := by decide +kernel
theorem dX4_laysFar_17 : decode cX4_laysFar 17 = .ok (.aload_n 0, 1) := by decide +kernel
theorem dX4_laysFar_18 : decode cX4_laysFar 18 = .ok (.dup, 1) := by decide +kernel
theorem dX4_laysFar_19 : decode cX4_laysFar 19 = .ok (.getfield 133, 3) := by decide +kernel
theorem dX4_laysFar_22 : decode cX4_laysFar 22 = .ok (.aload_n 0, 1) := by decide +kernel
theorem dX4_laysFar_23 : decode cX4_laysFar 23 = .ok (.iload_n 1, 1) := by decide +kernel
theorem dX4_laysFar_24 : decode cX4_laysFar 24 = .ok (.invokevirtual 108, 3) := by decide +kernel
theorem dX4_laysFar_27 : decode cX4_laysFar 27 = .ok (.ifCond .eq 9, 3) := by decide +kernel
theorem dX4_laysFar_30 : decode cX4_laysFar 30 = .ok (.iconst 1, 1) := by decide +kernel
theorem dX4_laysFar_31 : decode cX4_laysFar 31 = .ok (.iload_n 1, 1) := by decide +kernel
theorem dX4_laysFar_32 : decode cX4_laysFar 32 = .ok (.ishl, 1) := by decide +kernel
theorem dX4_laysFar_33 : decode cX4_laysFar 33 = .ok (.goto 4, 3) := by decide +kernel
theorem dX4_laysFar_36 : decode cX4_laysFar 36 = .ok (.iconst 0, 1) := by decide +kernel
theorem dX4_laysFar_37 : decode cX4_laysFar 37 = .ok (.ior, 1) := by decide +kernel
theorem dX4_laysFar_38 : decode cX4_laysFar 38 = .ok (.putfield 133, 3) := by decide +kernel
theorem dX4_laysFar_41 : decode cX4_laysFar 41 = .ok (.iconst 0, 1) := by decide +kernel
theorem dX4_laysFar_42 : decode cX4_laysFar 42 = .ok (.istore_n 2, 1) := by decide +kernel
theorem dX4_laysFar_43 : decode cX4_laysFar 43 = .ok (.iload_n 2, 1) := by decide +kernel
theorem dX4_laysFar_44 : decode cX4_laysFar 44 = .ok (.iload_n 1, 1) := by decide +kernel
theorem dX4_laysFar_45 : decode cX4_laysFar 45 = .ok (.if_icmp .ge 48, 3) := by decide +kernel
theorem dX4_laysFar_48 : decode cX4_laysFar 48 = .ok (.aload_n 0, 1) := by decide +kernel
theorem dX4_laysFar_49 : decode cX4_laysFar 49 = .ok (.getfield 25, 3) := by decide +kernel
theorem dX4_laysFar_52 : decode cX4_laysFar 52 = .ok (.bipush 20, 2) := by decide +kernel
theorem dX4_laysFar_54 : decode cX4_laysFar 54 = .ok (.iload_n 1, 1) := by decide +kernel
theorem dX4_laysFar_55 : decode cX4_laysFar 55 = .ok (.imul, 1) := by decide +kernel
theorem dX4_laysFar_56 : decode cX4_laysFar 56 = .ok (.iload_n 2, 1) := by decide +kernel
theorem dX4_laysFar_57 : decode cX4_laysFar 57 = .ok (.iadd, 1) := by decide +kernel
theorem dX4_laysFar_58 : decode cX4_laysFar 58 = .ok (.aload_n 0, 1) := by decide +kernel
theorem dX4_laysFar_59 : decode cX4_laysFar 59 = .ok (.iload_n 1, 1) := by decide +kernel
theorem dX4_laysFar_60 : decode cX4_laysFar 60 = .ok (.iload_n 2, 1) := by decide +kernel
theorem dX4_laysFar_61 : decode cX4_laysFar 61 = .ok (.invokevirtual 129, 3) := by decide +kernel
theorem dX4_laysFar_64 : decode cX4_laysFar 64 = .ok (.fastore, 1) := by decide +kernel
theorem dX4_laysFar_65 : decode cX4_laysFar 65 = .ok (.aload_n 0, 1) := by decide +kernel
theorem dX4_laysFar_66 : decode cX4_laysFar 66 = .ok (.getfield 25, 3) := by decide +kernel
theorem dX4_laysFar_69 : decode cX4_laysFar 69 = .ok (.bipush 20, 2) := by decide +kernel
theorem dX4_laysFar_71 : decode cX4_laysFar 71 = .ok (.iload_n 2, 1) := by decide +kernel
theorem dX4_laysFar_72 : decode cX4_laysFar 72 = .ok (.imul, 1) := by decide +kernel
theorem dX4_laysFar_73 : decode cX4_laysFar 73 = .ok (.iload_n 1, 1) := by decide +kernel
theorem dX4_laysFar_74 : decode cX4_laysFar 74 = .ok (.iadd, 1) := by decide +kernel
theorem dX4_laysFar_75 : decode cX4_laysFar 75 = .ok (.aload_n 0, 1) := by decide +kernel
theorem dX4_laysFar_76 : decode cX4_laysFar 76 = .ok (.getfield 25, 3) := by decide +kernel
theorem dX4_laysFar_79 : decode cX4_laysFar 79 = .ok (.bipush 20, 2) := by decide +kernel
theorem dX4_laysFar_81 : decode cX4_laysFar 81 = .ok (.iload_n 1, 1) := by decide +kernel
theorem dX4_laysFar_82 : decode cX4_laysFar 82 = .ok (.imul, 1) := by decide +kernel
theorem dX4_laysFar_83 : decode cX4_laysFar 83 = .ok (.iload_n 2, 1) := by decide +kernel
theorem dX4_laysFar_84 : decode cX4_laysFar 84 = .ok (.iadd, 1) := by decide +kernel
theorem dX4_laysFar_85 : decode cX4_laysFar 85 = .ok (.faload, 1) := by decide +kernel
theorem dX4_laysFar_86 : decode cX4_laysFar 86 = .ok (.fastore, 1) := by decide +kernel
theorem dX4_laysFar_87 : decode cX4_laysFar 87 = .ok (.iinc 2 1, 3) := by decide +kernel
theorem dX4_laysFar_90 : decode cX4_laysFar 90 = .ok (.goto (-47), 3) := by decide +kernel
theorem dX4_laysFar_93 : decode cX4_laysFar 93 = .ok (.iinc 1 1, 3) := by decide +kernel
theorem dX4_laysFar_96 : decode cX4_laysFar 96 = .ok (.goto (-89), 3) := by decide +kernel
theorem dX4_laysFar_99 : decode cX4_laysFar 99 = .ok (.return_, 1) := by decide +kernel
theorem dX4_leastOf_0 : decode cX4_leastOf 0 = .ok (.fconst 0, 1) := by decide +kernel
theorem dX4_leastOf_1 : decode cX4_leastOf 1 = .ok (.fstore_n 2, 1) := by decide +kernel
theorem dX4_leastOf_2 : decode cX4_leastOf 2 = .ok (.iconst 0, 1) := by decide +kernel
theorem dX4_leastOf_3 : decode cX4_leastOf 3 = .ok (.istore_n 3, 1) := by decide +kernel
theorem dX4_leastOf_4 : decode cX4_leastOf 4 = .ok (.iconst 0, 1) := by decide +kernel
theorem dX4_leastOf_5 : decode cX4_leastOf 5 = .ok (.istore 4, 2) := by decide +kernel
theorem dX4_leastOf_7 : decode cX4_leastOf 7 = .ok (.iload 4, 2) := by decide +kernel
theorem dX4_leastOf_9 : decode cX4_leastOf 9 = .ok (.iload_n 1, 1) := by decide +kernel
theorem dX4_leastOf_10 : decode cX4_leastOf 10 = .ok (.if_icmp .ge 70, 3) := by decide +kernel
theorem dX4_leastOf_13 : decode cX4_leastOf 13 = .ok (.iconst 0, 1) := by decide +kernel
theorem dX4_leastOf_14 : decode cX4_leastOf 14 = .ok (.istore 5, 2) := by decide +kernel
theorem dX4_leastOf_16 : decode cX4_leastOf 16 = .ok (.iload 5, 2) := by decide +kernel
theorem dX4_leastOf_18 : decode cX4_leastOf 18 = .ok (.iload 4, 2) := by decide +kernel
theorem dX4_leastOf_20 : decode cX4_leastOf 20 = .ok (.if_icmp .ge 54, 3) := by decide +kernel
theorem dX4_leastOf_23 : decode cX4_leastOf 23 = .ok (.aload_n 0, 1) := by decide +kernel
theorem dX4_leastOf_24 : decode cX4_leastOf 24 = .ok (.getfield 25, 3) := by decide +kernel
theorem dX4_leastOf_27 : decode cX4_leastOf 27 = .ok (.bipush 20, 2) := by decide +kernel
theorem dX4_leastOf_29 : decode cX4_leastOf 29 = .ok (.aload_n 0, 1) := by decide +kernel
theorem dX4_leastOf_30 : decode cX4_leastOf 30 = .ok (.getfield 29, 3) := by decide +kernel
theorem dX4_leastOf_33 : decode cX4_leastOf 33 = .ok (.iload 4, 2) := by decide +kernel
theorem dX4_leastOf_35 : decode cX4_leastOf 35 = .ok (.iaload, 1) := by decide +kernel
theorem dX4_leastOf_36 : decode cX4_leastOf 36 = .ok (.imul, 1) := by decide +kernel
theorem dX4_leastOf_37 : decode cX4_leastOf 37 = .ok (.aload_n 0, 1) := by decide +kernel
theorem dX4_leastOf_38 : decode cX4_leastOf 38 = .ok (.getfield 29, 3) := by decide +kernel
theorem dX4_leastOf_41 : decode cX4_leastOf 41 = .ok (.iload 5, 2) := by decide +kernel
theorem dX4_leastOf_43 : decode cX4_leastOf 43 = .ok (.iaload, 1) := by decide +kernel
theorem dX4_leastOf_44 : decode cX4_leastOf 44 = .ok (.iadd, 1) := by decide +kernel
theorem dX4_leastOf_45 : decode cX4_leastOf 45 = .ok (.faload, 1) := by decide +kernel
theorem dX4_leastOf_46 : decode cX4_leastOf 46 = .ok (.fstore 6, 2) := by decide +kernel
theorem dX4_leastOf_48 : decode cX4_leastOf 48 = .ok (.iload_n 3, 1) := by decide +kernel
theorem dX4_leastOf_49 : decode cX4_leastOf 49 = .ok (.ifCond .eq 10, 3) := by decide +kernel
theorem dX4_leastOf_52 : decode cX4_leastOf 52 = .ok (.fload 6, 2) := by decide +kernel
theorem dX4_leastOf_54 : decode cX4_leastOf 54 = .ok (.fload_n 2, 1) := by decide +kernel
theorem dX4_leastOf_55 : decode cX4_leastOf 55 = .ok (.fcmp .g, 1) := by decide +kernel
theorem dX4_leastOf_56 : decode cX4_leastOf 56 = .ok (.ifCond .ge 8, 3) := by decide +kernel
theorem dX4_leastOf_59 : decode cX4_leastOf 59 = .ok (.fload 6, 2) := by decide +kernel
theorem dX4_leastOf_61 : decode cX4_leastOf 61 = .ok (.goto 4, 3) := by decide +kernel
theorem dX4_leastOf_64 : decode cX4_leastOf 64 = .ok (.fload_n 2, 1) := by decide +kernel
theorem dX4_leastOf_65 : decode cX4_leastOf 65 = .ok (.fstore_n 2, 1) := by decide +kernel
theorem dX4_leastOf_66 : decode cX4_leastOf 66 = .ok (.iconst 1, 1) := by decide +kernel
theorem dX4_leastOf_67 : decode cX4_leastOf 67 = .ok (.istore_n 3, 1) := by decide +kernel
theorem dX4_leastOf_68 : decode cX4_leastOf 68 = .ok (.iinc 5 1, 3) := by decide +kernel
theorem dX4_leastOf_71 : decode cX4_leastOf 71 = .ok (.goto (-55), 3) := by decide +kernel
theorem dX4_leastOf_74 : decode cX4_leastOf 74 = .ok (.iinc 4 1, 3) := by decide +kernel
theorem dX4_leastOf_77 : decode cX4_leastOf 77 = .ok (.goto (-70), 3) := by decide +kernel
theorem dX4_leastOf_80 : decode cX4_leastOf 80 = .ok (.fload_n 2, 1) := by decide +kernel
theorem dX4_leastOf_81 : decode cX4_leastOf 81 = .ok (.freturn, 1) := by decide +kernel
theorem dX4_takesPalette_0 : decode cX4_takesPalette 0 = .ok (.iconst 0, 1) := by decide +kernel
theorem dX4_takesPalette_1 : decode cX4_takesPalette 1 = .ok (.istore_n 1, 1) := by decide +kernel
theorem dX4_takesPalette_2 : decode cX4_takesPalette 2 = .ok (.iload_n 1, 1) := by decide +kernel
theorem dX4_takesPalette_3 : decode cX4_takesPalette 3 = .ok (.aload_n 0, 1) := by decide +kernel
theorem dX4_takesPalette_4 : decode cX4_takesPalette 4 = .ok (.getfield 7, 3) := by decide +kernel
theorem dX4_takesPalette_7 : decode cX4_takesPalette 7 = .ok (.bipush 120, 2) := by decide +kernel
theorem dX4_takesPalette_9 : decode cX4_takesPalette 9 = .ok (.iaload, 1) := by decide +kernel
theorem dX4_takesPalette_10 : decode cX4_takesPalette 10 = .ok (.if_icmp .ge 24, 3) := by decide +kernel
theorem dX4_takesPalette_13 : decode cX4_takesPalette 13 = .ok (.aload_n 0, 1) := by decide +kernel
theorem dX4_takesPalette_14 : decode cX4_takesPalette 14 = .ok (.getfield 29, 3) := by decide +kernel
theorem dX4_takesPalette_17 : decode cX4_takesPalette 17 = .ok (.iload_n 1, 1) := by decide +kernel
theorem dX4_takesPalette_18 : decode cX4_takesPalette 18 = .ok (.aload_n 0, 1) := by decide +kernel
theorem dX4_takesPalette_19 : decode cX4_takesPalette 19 = .ok (.getfield 7, 3) := by decide +kernel
theorem dX4_takesPalette_22 : decode cX4_takesPalette 22 = .ok (.bipush 121, 2) := by decide +kernel
theorem dX4_takesPalette_24 : decode cX4_takesPalette 24 = .ok (.iload_n 1, 1) := by decide +kernel
theorem dX4_takesPalette_25 : decode cX4_takesPalette 25 = .ok (.iadd, 1) := by decide +kernel
theorem dX4_takesPalette_26 : decode cX4_takesPalette 26 = .ok (.iaload, 1) := by decide +kernel
theorem dX4_takesPalette_27 : decode cX4_takesPalette 27 = .ok (.iastore, 1) := by decide +kernel
theorem dX4_takesPalette_28 : decode cX4_takesPalette 28 = .ok (.iinc 1 1, 3) := by decide +kernel
theorem dX4_takesPalette_31 : decode cX4_takesPalette 31 = .ok (.goto (-29), 3) := by decide +kernel
theorem dX4_takesPalette_34 : decode cX4_takesPalette 34 = .ok (.return_, 1) := by decide +kernel
theorem dX4_putsLast_0 : decode cX4_putsLast 0 = .ok (.aload_n 0, 1) := by decide +kernel
theorem dX4_putsLast_1 : decode cX4_putsLast 1 = .ok (.getfield 7, 3) := by decide +kernel
theorem dX4_putsLast_4 : decode cX4_putsLast 4 = .ok (.bipush 121, 2) := by decide +kernel
theorem dX4_putsLast_6 : decode cX4_putsLast 6 = .ok (.aload_n 0, 1) := by decide +kernel
theorem dX4_putsLast_7 : decode cX4_putsLast 7 = .ok (.getfield 7, 3) := by decide +kernel
theorem dX4_putsLast_10 : decode cX4_putsLast 10 = .ok (.bipush 120, 2) := by decide +kernel
theorem dX4_putsLast_12 : decode cX4_putsLast 12 = .ok (.iaload, 1) := by decide +kernel
theorem dX4_putsLast_13 : decode cX4_putsLast 13 = .ok (.iadd, 1) := by decide +kernel
theorem dX4_putsLast_14 : decode cX4_putsLast 14 = .ok (.iload_n 1, 1) := by decide +kernel
theorem dX4_putsLast_15 : decode cX4_putsLast 15 = .ok (.iastore, 1) := by decide +kernel
theorem dX4_putsLast_16 : decode cX4_putsLast 16 = .ok (.aload_n 0, 1) := by decide +kernel
theorem dX4_putsLast_17 : decode cX4_putsLast 17 = .ok (.getfield 7, 3) := by decide +kernel
theorem dX4_putsLast_20 : decode cX4_putsLast 20 = .ok (.bipush 120, 2) := by decide +kernel
theorem dX4_putsLast_22 : decode cX4_putsLast 22 = .ok (.dup2, 1) := by decide +kernel
theorem dX4_putsLast_23 : decode cX4_putsLast 23 = .ok (.iaload, 1) := by decide +kernel
theorem dX4_putsLast_24 : decode cX4_putsLast 24 = .ok (.iconst 1, 1) := by decide +kernel
theorem dX4_putsLast_25 : decode cX4_putsLast 25 = .ok (.iadd, 1) := by decide +kernel
theorem dX4_putsLast_26 : decode cX4_putsLast 26 = .ok (.iastore, 1) := by decide +kernel
theorem dX4_putsLast_27 : decode cX4_putsLast 27 = .ok (.return_, 1) := by decide +kernel
theorem dX4_lightest_0 : decode cX4_lightest 0 = .ok (.iconst (-1), 1) := by decide +kernel
theorem dX4_lightest_1 : decode cX4_lightest 1 = .ok (.istore_n 1, 1) := by decide +kernel
theorem dX4_lightest_2 : decode cX4_lightest 2 = .ok (.iconst 0, 1) := by decide +kernel
theorem dX4_lightest_3 : decode cX4_lightest 3 = .ok (.istore_n 2, 1) := by decide +kernel
theorem dX4_lightest_4 : decode cX4_lightest 4 = .ok (.iload_n 2, 1) := by decide +kernel
theorem dX4_lightest_5 : decode cX4_lightest 5 = .ok (.aload_n 0, 1) := by decide +kernel
theorem dX4_lightest_6 : decode cX4_lightest 6 = .ok (.getfield 7, 3) := by decide +kernel
theorem dX4_lightest_9 : decode cX4_lightest 9 = .ok (.iconst 0, 1) := by decide +kernel
theorem dX4_lightest_10 : decode cX4_lightest 10 = .ok (.iaload, 1) := by decide +kernel
theorem dX4_lightest_11 : decode cX4_lightest 11 = .ok (.if_icmp .ge 63, 3) := by decide +kernel
theorem dX4_lightest_14 : decode cX4_lightest 14 = .ok (.iload_n 1, 1) := by decide +kernel
theorem dX4_lightest_15 : decode cX4_lightest 15 = .ok (.iconst (-1), 1) := by decide +kernel
theorem dX4_lightest_16 : decode cX4_lightest 16 = .ok (.if_icmp .eq 25, 3) := by decide +kernel
theorem dX4_lightest_19 : decode cX4_lightest 19 = .ok (.aload_n 0, 1) := by decide +kernel
theorem dX4_lightest_20 : decode cX4_lightest 20 = .ok (.aload_n 0, 1) := by decide +kernel
theorem dX4_lightest_21 : decode cX4_lightest 21 = .ok (.iload_n 2, 1) := by decide +kernel
theorem dX4_lightest_22 : decode cX4_lightest 22 = .ok (.invokevirtual 57, 3) := by decide +kernel
theorem dX4_lightest_25 : decode cX4_lightest 25 = .ok (.invokevirtual 104, 3) := by decide +kernel
theorem dX4_lightest_28 : decode cX4_lightest 28 = .ok (.aload_n 0, 1) := by decide +kernel
theorem dX4_lightest_29 : decode cX4_lightest 29 = .ok (.aload_n 0, 1) := by decide +kernel
theorem dX4_lightest_30 : decode cX4_lightest 30 = .ok (.iload_n 1, 1) := by decide +kernel
theorem dX4_lightest_31 : decode cX4_lightest 31 = .ok (.invokevirtual 57, 3) := by decide +kernel
theorem dX4_lightest_34 : decode cX4_lightest 34 = .ok (.invokevirtual 104, 3) := by decide +kernel
theorem dX4_lightest_37 : decode cX4_lightest 37 = .ok (.fcmp .l, 1) := by decide +kernel
theorem dX4_lightest_38 : decode cX4_lightest 38 = .ok (.ifCond .le 7, 3) := by decide +kernel
theorem dX4_lightest_41 : decode cX4_lightest 41 = .ok (.iconst 1, 1) := by decide +kernel
theorem dX4_lightest_42 : decode cX4_lightest 42 = .ok (.goto 4, 3) := by decide +kernel
theorem dX4_lightest_45 : decode cX4_lightest 45 = .ok (.iconst 0, 1) := by decide +kernel
theorem dX4_lightest_46 : decode cX4_lightest 46 = .ok (.istore_n 3, 1) := by decide +kernel
theorem dX4_lightest_47 : decode cX4_lightest 47 = .ok (.aload_n 0, 1) := by decide +kernel
theorem dX4_lightest_48 : decode cX4_lightest 48 = .ok (.getfield 133, 3) := by decide +kernel
theorem dX4_lightest_51 : decode cX4_lightest 51 = .ok (.iload_n 2, 1) := by decide +kernel
theorem dX4_lightest_52 : decode cX4_lightest 52 = .ok (.invokestatic 136, 3) := by decide +kernel
theorem dX4_lightest_55 : decode cX4_lightest 55 = .ok (.ifCond .eq 11, 3) := by decide +kernel
theorem dX4_lightest_58 : decode cX4_lightest 58 = .ok (.iload_n 3, 1) := by decide +kernel
theorem dX4_lightest_59 : decode cX4_lightest 59 = .ok (.ifCond .eq 7, 3) := by decide +kernel
theorem dX4_lightest_62 : decode cX4_lightest 62 = .ok (.iload_n 2, 1) := by decide +kernel
theorem dX4_lightest_63 : decode cX4_lightest 63 = .ok (.goto 4, 3) := by decide +kernel
theorem dX4_lightest_66 : decode cX4_lightest 66 = .ok (.iload_n 1, 1) := by decide +kernel
theorem dX4_lightest_67 : decode cX4_lightest 67 = .ok (.istore_n 1, 1) := by decide +kernel
theorem dX4_lightest_68 : decode cX4_lightest 68 = .ok (.iinc 2 1, 3) := by decide +kernel
theorem dX4_lightest_71 : decode cX4_lightest 71 = .ok (.goto (-67), 3) := by decide +kernel
theorem dX4_lightest_74 : decode cX4_lightest 74 = .ok (.iload_n 1, 1) := by decide +kernel
theorem dX4_lightest_75 : decode cX4_lightest 75 = .ok (.ireturn, 1) := by decide +kernel
theorem dX4_nearestIn_0 : decode cX4_nearestIn 0 = .ok (.aload_n 0, 1) := by decide +kernel
theorem dX4_nearestIn_1 : decode cX4_nearestIn 1 = .ok (.getfield 25, 3) := by decide +kernel
theorem dX4_nearestIn_4 : decode cX4_nearestIn 4 = .ok (.bipush 20, 2) := by decide +kernel
theorem dX4_nearestIn_6 : decode cX4_nearestIn 6 = .ok (.iload_n 1, 1) := by decide +kernel
theorem dX4_nearestIn_7 : decode cX4_nearestIn 7 = .ok (.imul, 1) := by decide +kernel
theorem dX4_nearestIn_8 : decode cX4_nearestIn 8 = .ok (.aload_n 0, 1) := by decide +kernel
theorem dX4_nearestIn_9 : decode cX4_nearestIn 9 = .ok (.getfield 7, 3) := by decide +kernel
theorem dX4_nearestIn_12 : decode cX4_nearestIn 12 = .ok (.bipush 121, 2) := by decide +kernel
theorem dX4_nearestIn_14 : decode cX4_nearestIn 14 = .ok (.iaload, 1) := by decide +kernel
theorem dX4_nearestIn_15 : decode cX4_nearestIn 15 = .ok (.iadd, 1) := by decide +kernel
theorem dX4_nearestIn_16 : decode cX4_nearestIn 16 = .ok (.faload, 1) := by decide +kernel
theorem dX4_nearestIn_17 : decode cX4_nearestIn 17 = .ok (.fstore_n 2, 1) := by decide +kernel
theorem dX4_nearestIn_18 : decode cX4_nearestIn 18 = .ok (.iconst 1, 1) := by decide +kernel
theorem dX4_nearestIn_19 : decode cX4_nearestIn 19 = .ok (.istore_n 3, 1) := by decide +kernel
theorem dX4_nearestIn_20 : decode cX4_nearestIn 20 = .ok (.iload_n 3, 1) := by decide +kernel
theorem dX4_nearestIn_21 : decode cX4_nearestIn 21 = .ok (.aload_n 0, 1) := by decide +kernel
theorem dX4_nearestIn_22 : decode cX4_nearestIn 22 = .ok (.getfield 7, 3) := by decide +kernel
theorem dX4_nearestIn_25 : decode cX4_nearestIn 25 = .ok (.bipush 120, 2) := by decide +kernel
theorem dX4_nearestIn_27 : decode cX4_nearestIn 27 = .ok (.iaload, 1) := by decide +kernel
theorem dX4_nearestIn_28 : decode cX4_nearestIn 28 = .ok (.if_icmp .ge 44, 3) := by decide +kernel
theorem dX4_nearestIn_31 : decode cX4_nearestIn 31 = .ok (.aload_n 0, 1) := by decide +kernel
theorem dX4_nearestIn_32 : decode cX4_nearestIn 32 = .ok (.getfield 25, 3) := by decide +kernel
theorem dX4_nearestIn_35 : decode cX4_nearestIn 35 = .ok (.bipush 20, 2) := by decide +kernel
theorem dX4_nearestIn_37 : decode cX4_nearestIn 37 = .ok (.iload_n 1, 1) := by decide +kernel
theorem dX4_nearestIn_38 : decode cX4_nearestIn 38 = .ok (.imul, 1) := by decide +kernel
theorem dX4_nearestIn_39 : decode cX4_nearestIn 39 = .ok (.aload_n 0, 1) := by decide +kernel
theorem dX4_nearestIn_40 : decode cX4_nearestIn 40 = .ok (.getfield 7, 3) := by decide +kernel
theorem dX4_nearestIn_43 : decode cX4_nearestIn 43 = .ok (.bipush 121, 2) := by decide +kernel
theorem dX4_nearestIn_45 : decode cX4_nearestIn 45 = .ok (.iload_n 3, 1) := by decide +kernel
theorem dX4_nearestIn_46 : decode cX4_nearestIn 46 = .ok (.iadd, 1) := by decide +kernel
theorem dX4_nearestIn_47 : decode cX4_nearestIn 47 = .ok (.iaload, 1) := by decide +kernel
theorem dX4_nearestIn_48 : decode cX4_nearestIn 48 = .ok (.iadd, 1) := by decide +kernel
theorem dX4_nearestIn_49 : decode cX4_nearestIn 49 = .ok (.faload, 1) := by decide +kernel
theorem dX4_nearestIn_50 : decode cX4_nearestIn 50 = .ok (.fstore 4, 2) := by decide +kernel
theorem dX4_nearestIn_52 : decode cX4_nearestIn 52 = .ok (.fload 4, 2) := by decide +kernel
theorem dX4_nearestIn_54 : decode cX4_nearestIn 54 = .ok (.fload_n 2, 1) := by decide +kernel
theorem dX4_nearestIn_55 : decode cX4_nearestIn 55 = .ok (.fcmp .g, 1) := by decide +kernel
theorem dX4_nearestIn_56 : decode cX4_nearestIn 56 = .ok (.ifCond .ge 8, 3) := by decide +kernel
theorem dX4_nearestIn_59 : decode cX4_nearestIn 59 = .ok (.fload 4, 2) := by decide +kernel
theorem dX4_nearestIn_61 : decode cX4_nearestIn 61 = .ok (.goto 4, 3) := by decide +kernel
theorem dX4_nearestIn_64 : decode cX4_nearestIn 64 = .ok (.fload_n 2, 1) := by decide +kernel
theorem dX4_nearestIn_65 : decode cX4_nearestIn 65 = .ok (.fstore_n 2, 1) := by decide +kernel
theorem dX4_nearestIn_66 : decode cX4_nearestIn 66 = .ok (.iinc 3 1, 3) := by decide +kernel
theorem dX4_nearestIn_69 : decode cX4_nearestIn 69 = .ok (.goto (-49), 3) := by decide +kernel
theorem dX4_nearestIn_72 : decode cX4_nearestIn 72 = .ok (.fload_n 2, 1) := by decide +kernel
theorem dX4_nearestIn_73 : decode cX4_nearestIn 73 = .ok (.freturn, 1) := by decide +kernel
theorem dX4_farthest_0 : decode cX4_farthest 0 = .ok (.iconst (-1), 1) := by decide +kernel
theorem dX4_farthest_1 : decode cX4_farthest 1 = .ok (.istore_n 1, 1) := by decide +kernel
theorem dX4_farthest_2 : decode cX4_farthest 2 = .ok (.fconst 0, 1) := by decide +kernel
theorem dX4_farthest_3 : decode cX4_farthest 3 = .ok (.fstore_n 2, 1) := by decide +kernel
theorem dX4_farthest_4 : decode cX4_farthest 4 = .ok (.iconst 0, 1) := by decide +kernel
theorem dX4_farthest_5 : decode cX4_farthest 5 = .ok (.istore_n 3, 1) := by decide +kernel
theorem dX4_farthest_6 : decode cX4_farthest 6 = .ok (.iload_n 3, 1) := by decide +kernel
theorem dX4_farthest_7 : decode cX4_farthest 7 = .ok (.aload_n 0, 1) := by decide +kernel
theorem dX4_farthest_8 : decode cX4_farthest 8 = .ok (.getfield 7, 3) := by decide +kernel
theorem dX4_farthest_11 : decode cX4_farthest 11 = .ok (.iconst 0, 1) := by decide +kernel
theorem dX4_farthest_12 : decode cX4_farthest 12 = .ok (.iaload, 1) := by decide +kernel
theorem dX4_farthest_13 : decode cX4_farthest 13 = .ok (.if_icmp .ge 53, 3) := by decide +kernel
theorem dX4_farthest_16 : decode cX4_farthest 16 = .ok (.aload_n 0, 1) := by decide +kernel
theorem dX4_farthest_17 : decode cX4_farthest 17 = .ok (.getfield 133, 3) := by decide +kernel
theorem dX4_farthest_20 : decode cX4_farthest 20 = .ok (.iload_n 3, 1) := by decide +kernel
theorem dX4_farthest_21 : decode cX4_farthest 21 = .ok (.invokestatic 136, 3) := by decide +kernel
theorem dX4_farthest_24 : decode cX4_farthest 24 = .ok (.ifCond .eq 36, 3) := by decide +kernel
theorem dX4_farthest_27 : decode cX4_farthest 27 = .ok (.aload_n 0, 1) := by decide +kernel
theorem dX4_farthest_28 : decode cX4_farthest 28 = .ok (.iload_n 3, 1) := by decide +kernel
theorem dX4_farthest_29 : decode cX4_farthest 29 = .ok (.invokevirtual 111, 3) := by decide +kernel
theorem dX4_farthest_32 : decode cX4_farthest 32 = .ok (.iconst (-1), 1) := by decide +kernel
theorem dX4_farthest_33 : decode cX4_farthest 33 = .ok (.if_icmp .ne 27, 3) := by decide +kernel
theorem dX4_farthest_36 : decode cX4_farthest 36 = .ok (.aload_n 0, 1) := by decide +kernel
theorem dX4_farthest_37 : decode cX4_farthest 37 = .ok (.iload_n 3, 1) := by decide +kernel
theorem dX4_farthest_38 : decode cX4_farthest 38 = .ok (.invokevirtual 139, 3) := by decide +kernel
theorem dX4_farthest_41 : decode cX4_farthest 41 = .ok (.fstore 4, 2) := by decide +kernel
theorem dX4_farthest_43 : decode cX4_farthest 43 = .ok (.iload_n 1, 1) := by decide +kernel
theorem dX4_farthest_44 : decode cX4_farthest 44 = .ok (.iconst (-1), 1) := by decide +kernel
theorem dX4_farthest_45 : decode cX4_farthest 45 = .ok (.if_icmp .eq 10, 3) := by decide +kernel
theorem dX4_farthest_48 : decode cX4_farthest 48 = .ok (.fload 4, 2) := by decide +kernel
theorem dX4_farthest_50 : decode cX4_farthest 50 = .ok (.fload_n 2, 1) := by decide +kernel
theorem dX4_farthest_51 : decode cX4_farthest 51 = .ok (.fcmp .l, 1) := by decide +kernel
theorem dX4_farthest_52 : decode cX4_farthest 52 = .ok (.ifCond .le 8, 3) := by decide +kernel
theorem dX4_farthest_55 : decode cX4_farthest 55 = .ok (.iload_n 3, 1) := by decide +kernel
theorem dX4_farthest_56 : decode cX4_farthest 56 = .ok (.istore_n 1, 1) := by decide +kernel
theorem dX4_farthest_57 : decode cX4_farthest 57 = .ok (.fload 4, 2) := by decide +kernel
theorem dX4_farthest_59 : decode cX4_farthest 59 = .ok (.fstore_n 2, 1) := by decide +kernel
theorem dX4_farthest_60 : decode cX4_farthest 60 = .ok (.iinc 3 1, 3) := by decide +kernel
theorem dX4_farthest_63 : decode cX4_farthest 63 = .ok (.goto (-57), 3) := by decide +kernel
theorem dX4_farthest_66 : decode cX4_farthest 66 = .ok (.iload_n 1, 1) := by decide +kernel
theorem dX4_farthest_67 : decode cX4_farthest 67 = .ok (.ireturn, 1) := by decide +kernel
theorem dX4_fillsFor_0 : decode cX4_fillsFor 0 = .ok (.aload_n 0, 1) := by decide +kernel
theorem dX4_fillsFor_1 : decode cX4_fillsFor 1 = .ok (.invokevirtual 142, 3) := by decide +kernel
theorem dX4_fillsFor_4 : decode cX4_fillsFor 4 = .ok (.aload_n 0, 1) := by decide +kernel
theorem dX4_fillsFor_5 : decode cX4_fillsFor 5 = .ok (.getfield 7, 3) := by decide +kernel
theorem dX4_fillsFor_8 : decode cX4_fillsFor 8 = .ok (.bipush 120, 2) := by decide +kernel
theorem dX4_fillsFor_10 : decode cX4_fillsFor 10 = .ok (.iconst 0, 1) := by decide +kernel
theorem dX4_fillsFor_11 : decode cX4_fillsFor 11 = .ok (.iastore, 1) := by decide +kernel
theorem dX4_fillsFor_12 : decode cX4_fillsFor 12 = .ok (.iconst 0, 1) := by decide +kernel
theorem dX4_fillsFor_13 : decode cX4_fillsFor 13 = .ok (.istore_n 2, 1) := by decide +kernel
theorem dX4_fillsFor_14 : decode cX4_fillsFor 14 = .ok (.iload_n 2, 1) := by decide +kernel
theorem dX4_fillsFor_15 : decode cX4_fillsFor 15 = .ok (.aload_n 0, 1) := by decide +kernel
theorem dX4_fillsFor_16 : decode cX4_fillsFor 16 = .ok (.getfield 7, 3) := by decide +kernel
theorem dX4_fillsFor_19 : decode cX4_fillsFor 19 = .ok (.iconst 0, 1) := by decide +kernel
theorem dX4_fillsFor_20 : decode cX4_fillsFor 20 = .ok (.iaload, 1) := by decide +kernel
theorem dX4_fillsFor_21 : decode cX4_fillsFor 21 = .ok (.if_icmp .ge 28, 3) := by decide +kernel
theorem dX4_fillsFor_24 : decode cX4_fillsFor 24 = .ok (.aload_n 0, 1) := by decide +kernel
theorem dX4_fillsFor_25 : decode cX4_fillsFor 25 = .ok (.getfield 7, 3) := by decide +kernel
theorem dX4_fillsFor_28 : decode cX4_fillsFor 28 = .ok (.bipush 61, 2) := by decide +kernel
theorem dX4_fillsFor_30 : decode cX4_fillsFor 30 = .ok (.iaload, 1) := by decide +kernel
theorem dX4_fillsFor_31 : decode cX4_fillsFor 31 = .ok (.iload_n 2, 1) := by decide +kernel
theorem dX4_fillsFor_32 : decode cX4_fillsFor 32 = .ok (.invokestatic 136, 3) := by decide +kernel
theorem dX4_fillsFor_35 : decode cX4_fillsFor 35 = .ok (.ifCond .eq 8, 3) := by decide +kernel
theorem dX4_fillsFor_38 : decode cX4_fillsFor 38 = .ok (.aload_n 0, 1) := by decide +kernel
theorem dX4_fillsFor_39 : decode cX4_fillsFor 39 = .ok (.iload_n 2, 1) := by decide +kernel
theorem dX4_fillsFor_40 : decode cX4_fillsFor 40 = .ok (.invokevirtual 145, 3) := by decide +kernel
theorem dX4_fillsFor_43 : decode cX4_fillsFor 43 = .ok (.iinc 2 1, 3) := by decide +kernel
theorem dX4_fillsFor_46 : decode cX4_fillsFor 46 = .ok (.goto (-32), 3) := by decide +kernel
theorem dX4_fillsFor_49 : decode cX4_fillsFor 49 = .ok (.aload_n 0, 1) := by decide +kernel
theorem dX4_fillsFor_50 : decode cX4_fillsFor 50 = .ok (.getfield 7, 3) := by decide +kernel
theorem dX4_fillsFor_53 : decode cX4_fillsFor 53 = .ok (.bipush 120, 2) := by decide +kernel
theorem dX4_fillsFor_55 : decode cX4_fillsFor 55 = .ok (.iaload, 1) := by decide +kernel
theorem dX4_fillsFor_56 : decode cX4_fillsFor 56 = .ok (.ifCond .ne 10, 3) := by decide +kernel
theorem dX4_fillsFor_59 : decode cX4_fillsFor 59 = .ok (.aload_n 0, 1) := by decide +kernel
theorem dX4_fillsFor_60 : decode cX4_fillsFor 60 = .ok (.invokevirtual 149, 3) := by decide +kernel
theorem dX4_fillsFor_63 : decode cX4_fillsFor 63 = .ok (.goto 4, 3) := by decide +kernel
theorem dX4_fillsFor_66 : decode cX4_fillsFor 66 = .ok (.iconst (-1), 1) := by decide +kernel
theorem dX4_fillsFor_67 : decode cX4_fillsFor 67 = .ok (.istore_n 2, 1) := by decide +kernel
theorem dX4_fillsFor_68 : decode cX4_fillsFor 68 = .ok (.iload_n 2, 1) := by decide +kernel
