theorem dX2_init_0 : decode cX2_init 0 = .ok (.aload_n 0, 1) := by decide +kernel
theorem dX2_init_1 : decode cX2_init 1 = .ok (.invokespecial 3, 3) := by decide +kernel
theorem dX2_init_4 : decode cX2_init 4 = .ok (.aload_n 0, 1) := by decide +kernel
theorem dX2_init_5 : decode cX2_init 5 = .ok (.bipush 120, 2) := by decide +kernel
theorem dX2_init_7 : decode cX2_init 7 = .ok (.newarray .int, 2) := by decide +kernel
theorem dX2_init_9 : decode cX2_init 9 = .ok (.putfield 9, 3) := by decide +kernel
theorem dX2_init_12 : decode cX2_init 12 = .ok (.aload_n 0, 1) := by decide +kernel
theorem dX2_init_13 : decode cX2_init 13 = .ok (.iconst 0, 1) := by decide +kernel
theorem dX2_init_14 : decode cX2_init 14 = .ok (.putfield 15, 3) := by decide +kernel
theorem dX2_init_17 : decode cX2_init 17 = .ok (.aload_n 0, 1) := by decide +kernel
theorem dX2_init_18 : decode cX2_init 18 = .ok (.iconst 0, 1) := by decide +kernel
theorem dX2_init_19 : decode cX2_init 19 = .ok (.putfield 19, 3) := by decide +kernel
theorem dX2_init_22 : decode cX2_init 22 = .ok (.aload_n 0, 1) := by decide +kernel
theorem dX2_init_23 : decode cX2_init 23 = .ok (.iconst 0, 1) := by decide +kernel
theorem dX2_init_24 : decode cX2_init 24 = .ok (.putfield 22, 3) := by decide +kernel
theorem dX2_init_27 : decode cX2_init 27 = .ok (.aload_n 0, 1) := by decide +kernel
theorem dX2_init_28 : decode cX2_init 28 = .ok (.bipush 60, 2) := by decide +kernel
theorem dX2_init_30 : decode cX2_init 30 = .ok (.newarray .int, 2) := by decide +kernel
theorem dX2_init_32 : decode cX2_init 32 = .ok (.putfield 25, 3) := by decide +kernel
theorem dX2_init_35 : decode cX2_init 35 = .ok (.aload_n 0, 1) := by decide +kernel
theorem dX2_init_36 : decode cX2_init 36 = .ok (.bipush 60, 2) := by decide +kernel
theorem dX2_init_38 : decode cX2_init 38 = .ok (.newarray .int, 2) := by decide +kernel
theorem dX2_init_40 : decode cX2_init 40 = .ok (.putfield 28, 3) := by decide +kernel
theorem dX2_init_43 : decode cX2_init 43 = .ok (.aload_n 0, 1) := by decide +kernel
theorem dX2_init_44 : decode cX2_init 44 = .ok (.bipush 60, 2) := by decide +kernel
theorem dX2_init_46 : decode cX2_init 46 = .ok (.newarray .int, 2) := by decide +kernel
theorem dX2_init_48 : decode cX2_init 48 = .ok (.putfield 31, 3) := by decide +kernel
theorem dX2_init_51 : decode cX2_init 51 = .ok (.return_, 1) := by decide +kernel
theorem dX2_append_0 : decode cX2_append 0 = .ok (.aload_n 0, 1) := by decide +kernel
theorem dX2_append_1 : decode cX2_append 1 = .ok (.getfield 15, 3) := by decide +kernel
theorem dX2_append_4 : decode cX2_append 4 = .ok (.aload_n 0, 1) := by decide +kernel
theorem dX2_append_5 : decode cX2_append 5 = .ok (.getfield 9, 3) := by decide +kernel
theorem dX2_append_8 : decode cX2_append 8 = .ok (.arraylength, 1) := by decide +kernel
theorem dX2_append_9 : decode cX2_append 9 = .ok (.if_icmp .ge 23, 3) := by decide +kernel
theorem dX2_append_12 : decode cX2_append 12 = .ok (.aload_n 0, 1) := by decide +kernel
theorem dX2_append_13 : decode cX2_append 13 = .ok (.getfield 9, 3) := by decide +kernel
theorem dX2_append_16 : decode cX2_append 16 = .ok (.aload_n 0, 1) := by decide +kernel
theorem dX2_append_17 : decode cX2_append 17 = .ok (.getfield 15, 3) := by decide +kernel
theorem dX2_append_20 : decode cX2_append 20 = .ok (.iload_n 1, 1) := by decide +kernel
theorem dX2_append_21 : decode cX2_append 21 = .ok (.iastore, 1) := by decide +kernel
theorem dX2_append_22 : decode cX2_append 22 = .ok (.aload_n 0, 1) := by decide +kernel
theorem dX2_append_23 : decode cX2_append 23 = .ok (.dup, 1) := by decide +kernel
theorem dX2_append_24 : decode cX2_append 24 = .ok (.getfield 15, 3) := by decide +kernel
theorem dX2_append_27 : decode cX2_append 27 = .ok (.iconst 1, 1) := by decide +kernel
theorem dX2_append_28 : decode cX2_append 28 = .ok (.iadd, 1) := by decide +kernel
theorem dX2_append_29 : decode cX2_append 29 = .ok (.putfield 15, 3) := by decide +kernel
theorem dX2_append_32 : decode cX2_append 32 = .ok (.aload_n 0, 1) := by decide +kernel
theorem dX2_append_33 : decode cX2_append 33 = .ok (.getfield 15, 3) := by decide +kernel
theorem dX2_append_36 : decode cX2_append 36 = .ok (.ireturn, 1) := by decide +kernel
theorem dX2_read_0 : decode cX2_read 0 = .ok (.aload_n 0, 1) := by decide +kernel
theorem dX2_read_1 : decode cX2_read 1 = .ok (.iconst 0, 1) := by decide +kernel
theorem dX2_read_2 : decode cX2_read 2 = .ok (.putfield 19, 3) := by decide +kernel
theorem dX2_read_5 : decode cX2_read 5 = .ok (.aload_n 0, 1) := by decide +kernel
theorem dX2_read_6 : decode cX2_read 6 = .ok (.iconst 0, 1) := by decide +kernel
theorem dX2_read_7 : decode cX2_read 7 = .ok (.putfield 22, 3) := by decide +kernel
theorem dX2_read_10 : decode cX2_read 10 = .ok (.aload_n 0, 1) := by decide +kernel
theorem dX2_read_11 : decode cX2_read 11 = .ok (.invokevirtual 34, 3) := by decide +kernel
theorem dX2_read_14 : decode cX2_read 14 = .ok (.aload_n 0, 1) := by decide +kernel
theorem dX2_read_15 : decode cX2_read 15 = .ok (.getfield 19, 3) := by decide +kernel
theorem dX2_read_18 : decode cX2_read 18 = .ok (.aload_n 0, 1) := by decide +kernel
theorem dX2_read_19 : decode cX2_read 19 = .ok (.getfield 15, 3) := by decide +kernel
theorem dX2_read_22 : decode cX2_read 22 = .ok (.if_icmp .ne 8, 3) := by decide +kernel
theorem dX2_read_25 : decode cX2_read 25 = .ok (.aload_n 0, 1) := by decide +kernel
theorem dX2_read_26 : decode cX2_read 26 = .ok (.getfield 15, 3) := by decide +kernel
theorem dX2_read_29 : decode cX2_read 29 = .ok (.ireturn, 1) := by decide +kernel
theorem dX2_read_30 : decode cX2_read 30 = .ok (.aload_n 0, 1) := by decide +kernel
theorem dX2_read_31 : decode cX2_read 31 = .ok (.getfield 19, 3) := by decide +kernel
theorem dX2_read_34 : decode cX2_read 34 = .ok (.aload_n 0, 1) := by decide +kernel
theorem dX2_read_35 : decode cX2_read 35 = .ok (.getfield 15, 3) := by decide +kernel
theorem dX2_read_38 : decode cX2_read 38 = .ok (.if_icmp .ge 41, 3) := by decide +kernel
theorem dX2_read_41 : decode cX2_read 41 = .ok (.aload_n 0, 1) := by decide +kernel
theorem dX2_read_42 : decode cX2_read 42 = .ok (.getfield 22, 3) := by decide +kernel
theorem dX2_read_45 : decode cX2_read 45 = .ok (.bipush 60, 2) := by decide +kernel
theorem dX2_read_47 : decode cX2_read 47 = .ok (.if_icmp .ge 32, 3) := by decide +kernel
theorem dX2_read_50 : decode cX2_read 50 = .ok (.aload_n 0, 1) := by decide +kernel
theorem dX2_read_51 : decode cX2_read 51 = .ok (.invokevirtual 37, 3) := by decide +kernel
theorem dX2_read_54 : decode cX2_read 54 = .ok (.ifCond .ne 8, 3) := by decide +kernel
theorem dX2_read_57 : decode cX2_read 57 = .ok (.aload_n 0, 1) := by decide +kernel
theorem dX2_read_58 : decode cX2_read 58 = .ok (.getfield 19, 3) := by decide +kernel
theorem dX2_read_61 : decode cX2_read 61 = .ok (.ireturn, 1) := by decide +kernel
theorem dX2_read_62 : decode cX2_read 62 = .ok (.aload_n 0, 1) := by decide +kernel
theorem dX2_read_63 : decode cX2_read 63 = .ok (.dup, 1) := by decide +kernel
theorem dX2_read_64 : decode cX2_read 64 = .ok (.getfield 22, 3) := by decide +kernel
theorem dX2_read_67 : decode cX2_read 67 = .ok (.iconst 1, 1) := by decide +kernel
theorem dX2_read_68 : decode cX2_read 68 = .ok (.iadd, 1) := by decide +kernel
theorem dX2_read_69 : decode cX2_read 69 = .ok (.putfield 22, 3) := by decide +kernel
theorem dX2_read_72 : decode cX2_read 72 = .ok (.aload_n 0, 1) := by decide +kernel
theorem dX2_read_73 : decode cX2_read 73 = .ok (.invokevirtual 34, 3) := by decide +kernel
theorem dX2_read_76 : decode cX2_read 76 = .ok (.goto (-46), 3) := by decide +kernel
theorem dX2_read_79 : decode cX2_read 79 = .ok (.iconst (-1), 1) := by decide +kernel
theorem dX2_read_80 : decode cX2_read 80 = .ok (.ireturn, 1) := by decide +kernel
theorem dX2_readOrder_0 : decode cX2_readOrder 0 = .ok (.aload_n 0, 1) := by decide +kernel
theorem dX2_readOrder_1 : decode cX2_readOrder 1 = .ok (.invokevirtual 41, 3) := by decide +kernel
theorem dX2_readOrder_4 : decode cX2_readOrder 4 = .ok (.istore_n 1, 1) := by decide +kernel
theorem dX2_readOrder_5 : decode cX2_readOrder 5 = .ok (.aload_n 0, 1) := by decide +kernel
theorem dX2_readOrder_6 : decode cX2_readOrder 6 = .ok (.getfield 25, 3) := by decide +kernel
theorem dX2_readOrder_9 : decode cX2_readOrder 9 = .ok (.aload_n 0, 1) := by decide +kernel
theorem dX2_readOrder_10 : decode cX2_readOrder 10 = .ok (.getfield 22, 3) := by decide +kernel
theorem dX2_readOrder_13 : decode cX2_readOrder 13 = .ok (.iload_n 1, 1) := by decide +kernel
theorem dX2_readOrder_14 : decode cX2_readOrder 14 = .ok (.iastore, 1) := by decide +kernel
theorem dX2_readOrder_15 : decode cX2_readOrder 15 = .ok (.iload_n 1, 1) := by decide +kernel
theorem dX2_readOrder_16 : decode cX2_readOrder 16 = .ok (.lookupswitch 176 #[(99, 52), (102, 82), (108, 82), (112, 127), (115, 161)], 52) := by decide +kernel
theorem dX2_readOrder_68 : decode cX2_readOrder 68 = .ok (.aload_n 0, 1) := by decide +kernel
theorem dX2_readOrder_69 : decode cX2_readOrder 69 = .ok (.dup, 1) := by decide +kernel
theorem dX2_readOrder_70 : decode cX2_readOrder 70 = .ok (.getfield 19, 3) := by decide +kernel
theorem dX2_readOrder_73 : decode cX2_readOrder 73 = .ok (.iconst 1, 1) := by decide +kernel
theorem dX2_readOrder_74 : decode cX2_readOrder 74 = .ok (.iadd, 1) := by decide +kernel
theorem dX2_readOrder_75 : decode cX2_readOrder 75 = .ok (.putfield 19, 3) := by decide +kernel
theorem dX2_readOrder_78 : decode cX2_readOrder 78 = .ok (.aload_n 0, 1) := by decide +kernel
theorem dX2_readOrder_79 : decode cX2_readOrder 79 = .ok (.invokevirtual 45, 3) := by decide +kernel
theorem dX2_readOrder_82 : decode cX2_readOrder 82 = .ok (.ifCond .eq 14, 3) := by decide +kernel
theorem dX2_readOrder_85 : decode cX2_readOrder 85 = .ok (.aload_n 0, 1) := by decide +kernel
theorem dX2_readOrder_86 : decode cX2_readOrder 86 = .ok (.invokevirtual 48, 3) := by decide +kernel
theorem dX2_readOrder_89 : decode cX2_readOrder 89 = .ok (.ifCond .eq 7, 3) := by decide +kernel
theorem dX2_readOrder_92 : decode cX2_readOrder 92 = .ok (.iconst 1, 1) := by decide +kernel
theorem dX2_readOrder_93 : decode cX2_readOrder 93 = .ok (.goto 4, 3) := by decide +kernel
theorem dX2_readOrder_96 : decode cX2_readOrder 96 = .ok (.iconst 0, 1) := by decide +kernel
theorem dX2_readOrder_97 : decode cX2_readOrder 97 = .ok (.ireturn, 1) := by decide +kernel
theorem dX2_readOrder_98 : decode cX2_readOrder 98 = .ok (.aload_n 0, 1) := by decide +kernel
theorem dX2_readOrder_99 : decode cX2_readOrder 99 = .ok (.dup, 1) := by decide +kernel
theorem dX2_readOrder_100 : decode cX2_readOrder 100 = .ok (.getfield 19, 3) := by decide +kernel
theorem dX2_readOrder_103 : decode cX2_readOrder 103 = .ok (.iconst 1, 1) := by decide +kernel
theorem dX2_readOrder_104 : decode cX2_readOrder 104 = .ok (.iadd, 1) := by decide +kernel
theorem dX2_readOrder_105 : decode cX2_readOrder 105 = .ok (.putfield 19, 3) := by decide +kernel
theorem dX2_readOrder_108 : decode cX2_readOrder 108 = .ok (.aload_n 0, 1) := by decide +kernel
theorem dX2_readOrder_109 : decode cX2_readOrder 109 = .ok (.aload_n 0, 1) := by decide +kernel
theorem dX2_readOrder_110 : decode cX2_readOrder 110 = .ok (.getfield 28, 3) := by decide +kernel
theorem dX2_readOrder_113 : decode cX2_readOrder 113 = .ok (.invokevirtual 51, 3) := by decide +kernel
theorem dX2_readOrder_116 : decode cX2_readOrder 116 = .ok (.ifCond .eq 25, 3) := by decide +kernel
theorem dX2_readOrder_119 : decode cX2_readOrder 119 = .ok (.aload_n 0, 1) := by decide +kernel
theorem dX2_readOrder_120 : decode cX2_readOrder 120 = .ok (.aload_n 0, 1) := by decide +kernel
theorem dX2_readOrder_121 : decode cX2_readOrder 121 = .ok (.getfield 31, 3) := by decide +kernel
theorem dX2_readOrder_124 : decode cX2_readOrder 124 = .ok (.invokevirtual 51, 3) := by decide +kernel
theorem dX2_readOrder_127 : decode cX2_readOrder 127 = .ok (.ifCond .eq 14, 3) := by decide +kernel
theorem dX2_readOrder_130 : decode cX2_readOrder 130 = .ok (.aload_n 0, 1) := by decide +kernel
theorem dX2_readOrder_131 : decode cX2_readOrder 131 = .ok (.invokevirtual 48, 3) := by decide +kernel
theorem dX2_readOrder_134 : decode cX2_readOrder 134 = .ok (.ifCond .eq 7, 3) := by decide +kernel
theorem dX2_readOrder_137 : decode cX2_readOrder 137 = .ok (.iconst 1, 1) := by decide +kernel
theorem dX2_readOrder_138 : decode cX2_readOrder 138 = .ok (.goto 4, 3) := by decide +kernel
theorem dX2_readOrder_141 : decode cX2_readOrder 141 = .ok (.iconst 0, 1) := by decide +kernel
theorem dX2_readOrder_142 : decode cX2_readOrder 142 = .ok (.ireturn, 1) := by decide +kernel
theorem dX2_readOrder_143 : decode cX2_readOrder 143 = .ok (.aload_n 0, 1) := by decide +kernel
theorem dX2_readOrder_144 : decode cX2_readOrder 144 = .ok (.dup, 1) := by decide +kernel
theorem dX2_readOrder_145 : decode cX2_readOrder 145 = .ok (.getfield 19, 3) := by decide +kernel
theorem dX2_readOrder_148 : decode cX2_readOrder 148 = .ok (.iconst 1, 1) := by decide +kernel
theorem dX2_readOrder_149 : decode cX2_readOrder 149 = .ok (.iadd, 1) := by decide +kernel
theorem dX2_readOrder_150 : decode cX2_readOrder 150 = .ok (.putfield 19, 3) := by decide +kernel
theorem dX2_readOrder_153 : decode cX2_readOrder 153 = .ok (.aload_n 0, 1) := by decide +kernel
theorem dX2_readOrder_154 : decode cX2_readOrder 154 = .ok (.aload_n 0, 1) := by decide +kernel
theorem dX2_readOrder_155 : decode cX2_readOrder 155 = .ok (.getfield 28, 3) := by decide +kernel
theorem dX2_readOrder_158 : decode cX2_readOrder 158 = .ok (.invokevirtual 51, 3) := by decide +kernel
theorem dX2_readOrder_161 : decode cX2_readOrder 161 = .ok (.ifCond .eq 14, 3) := by decide +kernel
theorem dX2_readOrder_164 : decode cX2_readOrder 164 = .ok (.aload_n 0, 1) := by decide +kernel
theorem dX2_readOrder_165 : decode cX2_readOrder 165 = .ok (.invokevirtual 48, 3) := by decide +kernel
theorem dX2_readOrder_168 : decode cX2_readOrder 168 = .ok (.ifCond .eq 7, 3) := by decide +kernel
theorem dX2_readOrder_171 : decode cX2_readOrder 171 = .ok (.iconst 1, 1) := by decide +kernel
theorem dX2_readOrder_172 : decode cX2_readOrder 172 = .ok (.goto 4, 3) := by decide +kernel
theorem dX2_readOrder_175 : decode cX2_readOrder 175 = .ok (.iconst 0, 1) := by decide +kernel
theorem dX2_readOrder_176 : decode cX2_readOrder 176 = .ok (.ireturn, 1) := by decide +kernel
theorem dX2_readOrder_177 : decode cX2_readOrder 177 = .ok (.aload_n 0, 1) := by decide +kernel
theorem dX2_readOrder_178 : decode cX2_readOrder 178 = .ok (.dup, 1) := by decide +kernel
theorem dX2_readOrder_179 : decode cX2_readOrder 179 = .ok (.getfield 19, 3) := by decide +kernel
theorem dX2_readOrder_182 : decode cX2_readOrder 182 = .ok (.iconst 1, 1) := by decide +kernel
theorem dX2_readOrder_183 : decode cX2_readOrder 183 = .ok (.iadd, 1) := by decide +kernel
theorem dX2_readOrder_184 : decode cX2_readOrder 184 = .ok (.putfield 19, 3) := by decide +kernel
theorem dX2_readOrder_187 : decode cX2_readOrder 187 = .ok (.aload_n 0, 1) := by decide +kernel
theorem dX2_readOrder_188 : decode cX2_readOrder 188 = .ok (.invokevirtual 48, 3) := by decide +kernel
theorem dX2_readOrder_191 : decode cX2_readOrder 191 = .ok (.ireturn, 1) := by decide +kernel
theorem dX2_readOrder_192 : decode cX2_readOrder 192 = .ok (.iconst 0, 1) := by decide +kernel
theorem dX2_readOrder_193 : decode cX2_readOrder 193 = .ok (.ireturn, 1) := by decide +kernel
theorem dX2_readSixFigures_0 : decode cX2_readSixFigures 0 = .ok (.aload_n 0, 1) := by decide +kernel
theorem dX2_readSixFigures_1 : decode cX2_readSixFigures 1 = .ok (.invokevirtual 34, 3) := by decide +kernel
theorem dX2_readSixFigures_4 : decode cX2_readSixFigures 4 = .ok (.iconst 0, 1) := by decide +kernel
theorem dX2_readSixFigures_5 : decode cX2_readSixFigures 5 = .ok (.istore_n 1, 1) := by decide +kernel
theorem dX2_readSixFigures_6 : decode cX2_readSixFigures 6 = .ok (.iconst 0, 1) := by decide +kernel
theorem dX2_readSixFigures_7 : decode cX2_readSixFigures 7 = .ok (.istore_n 2, 1) := by decide +kernel
theorem dX2_readSixFigures_8 : decode cX2_readSixFigures 8 = .ok (.iload_n 2, 1) := by decide +kernel
theorem dX2_readSixFigures_9 : decode cX2_readSixFigures 9 = .ok (.bipush 6, 2) := by decide +kernel
theorem dX2_readSixFigures_11 : decode cX2_readSixFigures 11 = .ok (.if_icmp .ge 41, 3) := by decide +kernel
theorem dX2_readSixFigures_14 : decode cX2_readSixFigures 14 = .ok (.aload_n 0, 1) := by decide +kernel
theorem dX2_readSixFigures_15 : decode cX2_readSixFigures 15 = .ok (.invokevirtual 41, 3) := by decide +kernel
theorem dX2_readSixFigures_18 : decode cX2_readSixFigures 18 = .ok (.invokestatic 55, 3) := by decide +kernel
theorem dX2_readSixFigures_21 : decode cX2_readSixFigures 21 = .ok (.istore_n 3, 1) := by decide +kernel
theorem dX2_readSixFigures_22 : decode cX2_readSixFigures 22 = .ok (.iload_n 3, 1) := by decide +kernel
theorem dX2_readSixFigures_23 : decode cX2_readSixFigures 23 = .ok (.iconst (-1), 1) := by decide +kernel
theorem dX2_readSixFigures_24 : decode cX2_readSixFigures 24 = .ok (.if_icmp .ne 5, 3) := by decide +kernel
theorem dX2_readSixFigures_27 : decode cX2_readSixFigures 27 = .ok (.iconst 0, 1) := by decide +kernel
theorem dX2_readSixFigures_28 : decode cX2_readSixFigures 28 = .ok (.ireturn, 1) := by decide +kernel
theorem dX2_readSixFigures_29 : decode cX2_readSixFigures 29 = .ok (.bipush 16, 2) := by decide +kernel
theorem dX2_readSixFigures_31 : decode cX2_readSixFigures 31 = .ok (.iload_n 1, 1) := by decide +kernel
theorem dX2_readSixFigures_32 : decode cX2_readSixFigures 32 = .ok (.imul, 1) := by decide +kernel
theorem dX2_readSixFigures_33 : decode cX2_readSixFigures 33 = .ok (.iload_n 3, 1) := by decide +kernel
theorem dX2_readSixFigures_34 : decode cX2_readSixFigures 34 = .ok (.iadd, 1) := by decide +kernel
theorem dX2_readSixFigures_35 : decode cX2_readSixFigures 35 = .ok (.istore_n 1, 1) := by decide +kernel
theorem dX2_readSixFigures_36 : decode cX2_readSixFigures 36 = .ok (.aload_n 0, 1) := by decide +kernel
theorem dX2_readSixFigures_37 : decode cX2_readSixFigures 37 = .ok (.dup, 1) := by decide +kernel
theorem dX2_readSixFigures_38 : decode cX2_readSixFigures 38 = .ok (.getfield 19, 3) := by decide +kernel
theorem dX2_readSixFigures_41 : decode cX2_readSixFigures 41 = .ok (.iconst 1, 1) := by decide +kernel
theorem dX2_readSixFigures_42 : decode cX2_readSixFigures 42 = .ok (.iadd, 1) := by decide +kernel
theorem dX2_readSixFigures_43 : decode cX2_readSixFigures 43 = .ok (.putfield 19, 3) := by decide +kernel
theorem dX2_readSixFigures_46 : decode cX2_readSixFigures 46 = .ok (.iinc 2 1, 3) := by decide +kernel
theorem dX2_readSixFigures_49 : decode cX2_readSixFigures 49 = .ok (.goto (-41), 3) := by decide +kernel
theorem dX2_readSixFigures_52 : decode cX2_readSixFigures 52 = .ok (.aload_n 0, 1) := by decide +kernel
theorem dX2_readSixFigures_53 : decode cX2_readSixFigures 53 = .ok (.getfield 28, 3) := by decide +kernel
theorem dX2_readSixFigures_56 : decode cX2_readSixFigures 56 = .ok (.aload_n 0, 1) := by decide +kernel
theorem dX2_readSixFigures_57 : decode cX2_readSixFigures 57 = .ok (.getfield 22, 3) := by decide +kernel
theorem dX2_readSixFigures_60 : decode cX2_readSixFigures 60 = .ok (.iload_n 1, 1) := by decide +kernel
theorem dX2_readSixFigures_61 : decode cX2_readSixFigures 61 = .ok (.iastore, 1) := by decide +kernel
theorem dX2_readSixFigures_62 : decode cX2_readSixFigures 62 = .ok (.iconst 1, 1) := by decide +kernel
theorem dX2_readSixFigures_63 : decode cX2_readSixFigures 63 = .ok (.ireturn, 1) := by decide +kernel
theorem dX2_readNumber_0 : decode cX2_readNumber 0 = .ok (.aload_n 0, 1) := by decide +kernel
theorem dX2_readNumber_1 : decode cX2_readNumber 1 = .ok (.invokevirtual 34, 3) := by decide +kernel
theorem dX2_readNumber_4 : decode cX2_readNumber 4 = .ok (.iconst 0, 1) := by decide +kernel
theorem dX2_readNumber_5 : decode cX2_readNumber 5 = .ok (.istore_n 2, 1) := by decide +kernel
theorem dX2_readNumber_6 : decode cX2_readNumber 6 = .ok (.iconst 0, 1) := by decide +kernel
theorem dX2_readNumber_7 : decode cX2_readNumber 7 = .ok (.istore_n 3, 1) := by decide +kernel
theorem dX2_readNumber_8 : decode cX2_readNumber 8 = .ok (.iload_n 3, 1) := by decide +kernel
theorem dX2_readNumber_9 : decode cX2_readNumber 9 = .ok (.iconst 3, 1) := by decide +kernel
theorem dX2_readNumber_10 : decode cX2_readNumber 10 = .ok (.if_icmp .ge 42, 3) := by decide +kernel
theorem dX2_readNumber_13 : decode cX2_readNumber 13 = .ok (.aload_n 0, 1) := by decide +kernel
theorem dX2_readNumber_14 : decode cX2_readNumber 14 = .ok (.invokevirtual 41, 3) := by decide +kernel
theorem dX2_readNumber_17 : decode cX2_readNumber 17 = .ok (.invokestatic 59, 3) := by decide +kernel
theorem dX2_readNumber_20 : decode cX2_readNumber 20 = .ok (.ifCond .eq 32, 3) := by decide +kernel
theorem dX2_readNumber_23 : decode cX2_readNumber 23 = .ok (.bipush 10, 2) := by decide +kernel
theorem dX2_readNumber_25 : decode cX2_readNumber 25 = .ok (.iload_n 2, 1) := by decide +kernel
theorem dX2_readNumber_26 : decode cX2_readNumber 26 = .ok (.imul, 1) := by decide +kernel
theorem dX2_readNumber_27 : decode cX2_readNumber 27 = .ok (.aload_n 0, 1) := by decide +kernel
theorem dX2_readNumber_28 : decode cX2_readNumber 28 = .ok (.invokevirtual 41, 3) := by decide +kernel
theorem dX2_readNumber_31 : decode cX2_readNumber 31 = .ok (.invokestatic 55, 3) := by decide +kernel
theorem dX2_readNumber_34 : decode cX2_readNumber 34 = .ok (.iadd, 1) := by decide +kernel
theorem dX2_readNumber_35 : decode cX2_readNumber 35 = .ok (.istore_n 2, 1) := by decide +kernel
theorem dX2_readNumber_36 : decode cX2_readNumber 36 = .ok (.iinc 3 1, 3) := by decide +kernel
theorem dX2_readNumber_39 : decode cX2_readNumber 39 = .ok (.aload_n 0, 1) := by decide +kernel
theorem dX2_readNumber_40 : decode cX2_readNumber 40 = .ok (.dup, 1) := by decide +kernel
theorem dX2_readNumber_41 : decode cX2_readNumber 41 = .ok (.getfield 19, 3) := by decide +kernel
theorem dX2_readNumber_44 : decode cX2_readNumber 44 = .ok (.iconst 1, 1) := by decide +kernel
theorem dX2_readNumber_45 : decode cX2_readNumber 45 = .ok (.iadd, 1) := by decide +kernel
theorem dX2_readNumber_46 : decode cX2_readNumber 46 = .ok (.putfield 19, 3) := by decide +kernel
theorem dX2_readNumber_49 : decode cX2_readNumber 49 = .ok (.goto (-41), 3) := by decide +kernel
theorem dX2_readNumber_52 : decode cX2_readNumber 52 = .ok (.aload_n 1, 1) := by decide +kernel
theorem dX2_readNumber_53 : decode cX2_readNumber 53 = .ok (.aload_n 0, 1) := by decide +kernel
theorem dX2_readNumber_54 : decode cX2_readNumber 54 = .ok (.getfield 22, 3) := by decide +kernel
theorem dX2_readNumber_57 : decode cX2_readNumber 57 = .ok (.iload_n 2, 1) := by decide +kernel
theorem dX2_readNumber_58 : decode cX2_readNumber 58 = .ok (.iastore, 1) := by decide +kernel
theorem dX2_readNumber_59 : decode cX2_readNumber 59 = .ok (.iload_n 3, 1) := by decide +kernel
theorem dX2_readNumber_60 : decode cX2_readNumber 60 = .ok (.ifCond .le 17, 3) := by decide +kernel
theorem dX2_readNumber_63 : decode cX2_readNumber 63 = .ok (.aload_n 0, 1) := by decide +kernel
theorem dX2_readNumber_64 : decode cX2_readNumber 64 = .ok (.invokevirtual 41, 3) := by decide +kernel
theorem dX2_readNumber_67 : decode cX2_readNumber 67 = .ok (.invokestatic 59, 3) := by decide +kernel
theorem dX2_readNumber_70 : decode cX2_readNumber 70 = .ok (.ifCond .ne 7, 3) := by decide +kernel
theorem dX2_readNumber_73 : decode cX2_readNumber 73 = .ok (.iconst 1, 1) := by decide +kernel
theorem dX2_readNumber_74 : decode cX2_readNumber 74 = .ok (.goto 4, 3) := by decide +kernel
theorem dX2_readNumber_77 : decode cX2_readNumber 77 = .ok (.iconst 0, 1) := by decide +kernel
theorem dX2_readNumber_78 : decode cX2_readNumber 78 = .ok (.ireturn, 1) := by decide +kernel
theorem dX2_readEnd_0 : decode cX2_readEnd 0 = .ok (.aload_n 0, 1) := by decide +kernel
theorem dX2_readEnd_1 : decode cX2_readEnd 1 = .ok (.invokevirtual 34, 3) := by decide +kernel
theorem dX2_readEnd_4 : decode cX2_readEnd 4 = .ok (.aload_n 0, 1) := by decide +kernel
theorem dX2_readEnd_5 : decode cX2_readEnd 5 = .ok (.invokevirtual 41, 3) := by decide +kernel
theorem dX2_readEnd_8 : decode cX2_readEnd 8 = .ok (.bipush 59, 2) := by decide +kernel
theorem dX2_readEnd_10 : decode cX2_readEnd 10 = .ok (.if_icmp .eq 5, 3) := by decide +kernel
theorem dX2_readEnd_13 : decode cX2_readEnd 13 = .ok (.iconst 0, 1) := by decide +kernel
theorem dX2_readEnd_14 : decode cX2_readEnd 14 = .ok (.ireturn, 1) := by decide +kernel
theorem dX2_readEnd_15 : decode cX2_readEnd 15 = .ok (.aload_n 0, 1) := by decide +kernel
theorem dX2_readEnd_16 : decode cX2_readEnd 16 = .ok (.dup, 1) := by decide +kernel
theorem dX2_readEnd_17 : decode cX2_readEnd 17 = .ok (.getfield 19, 3) := by decide +kernel
theorem dX2_readEnd_20 : decode cX2_readEnd 20 = .ok (.iconst 1, 1) := by decide +kernel
theorem dX2_readEnd_21 : decode cX2_readEnd 21 = .ok (.iadd, 1) := by decide +kernel
theorem dX2_readEnd_22 : decode cX2_readEnd 22 = .ok (.putfield 19, 3) := by decide +kernel
theorem dX2_readEnd_25 : decode cX2_readEnd 25 = .ok (.iconst 1, 1) := by decide +kernel
theorem dX2_readEnd_26 : decode cX2_readEnd 26 = .ok (.ireturn, 1) := by decide +kernel
theorem dX2_skipBlanks_0 : decode cX2_skipBlanks 0 = .ok (.aload_n 0, 1) := by decide +kernel
theorem dX2_skipBlanks_1 : decode cX2_skipBlanks 1 = .ok (.getfield 19, 3) := by decide +kernel
theorem dX2_skipBlanks_4 : decode cX2_skipBlanks 4 = .ok (.aload_n 0, 1) := by decide +kernel
theorem dX2_skipBlanks_5 : decode cX2_skipBlanks 5 = .ok (.getfield 15, 3) := by decide +kernel
theorem dX2_skipBlanks_8 : decode cX2_skipBlanks 8 = .ok (.if_icmp .ge 25, 3) := by decide +kernel
theorem dX2_skipBlanks_11 : decode cX2_skipBlanks 11 = .ok (.aload_n 0, 1) := by decide +kernel
theorem dX2_skipBlanks_12 : decode cX2_skipBlanks 12 = .ok (.invokevirtual 41, 3) := by decide +kernel
theorem dX2_skipBlanks_15 : decode cX2_skipBlanks 15 = .ok (.bipush 32, 2) := by decide +kernel
theorem dX2_skipBlanks_17 : decode cX2_skipBlanks 17 = .ok (.if_icmp .ne 16, 3) := by decide +kernel
theorem dX2_skipBlanks_20 : decode cX2_skipBlanks 20 = .ok (.aload_n 0, 1) := by decide +kernel
theorem dX2_skipBlanks_21 : decode cX2_skipBlanks 21 = .ok (.dup, 1) := by decide +kernel
theorem dX2_skipBlanks_22 : decode cX2_skipBlanks 22 = .ok (.getfield 19, 3) := by decide +kernel
theorem dX2_skipBlanks_25 : decode cX2_skipBlanks 25 = .ok (.iconst 1, 1) := by decide +kernel
theorem dX2_skipBlanks_26 : decode cX2_skipBlanks 26 = .ok (.iadd, 1) := by decide +kernel
theorem dX2_skipBlanks_27 : decode cX2_skipBlanks 27 = .ok (.putfield 19, 3) := by decide +kernel
theorem dX2_skipBlanks_30 : decode cX2_skipBlanks 30 = .ok (.goto (-30), 3) := by decide +kernel
theorem dX2_skipBlanks_33 : decode cX2_skipBlanks 33 = .ok (.return_, 1) := by decide +kernel
theorem dX2_byteHere_0 : decode cX2_byteHere 0 = .ok (.aload_n 0, 1) := by decide +kernel
theorem dX2_byteHere_1 : decode cX2_byteHere 1 = .ok (.getfield 19, 3) := by decide +kernel
theorem dX2_byteHere_4 : decode cX2_byteHere 4 = .ok (.aload_n 0, 1) := by decide +kernel
theorem dX2_byteHere_5 : decode cX2_byteHere 5 = .ok (.getfield 15, 3) := by decide +kernel
theorem dX2_byteHere_8 : decode cX2_byteHere 8 = .ok (.if_icmp .ge 15, 3) := by decide +kernel
theorem dX2_byteHere_11 : decode cX2_byteHere 11 = .ok (.aload_n 0, 1) := by decide +kernel
theorem dX2_byteHere_12 : decode cX2_byteHere 12 = .ok (.getfield 9, 3) := by decide +kernel
theorem dX2_byteHere_15 : decode cX2_byteHere 15 = .ok (.aload_n 0, 1) := by decide +kernel
theorem dX2_byteHere_16 : decode cX2_byteHere 16 = .ok (.getfield 19, 3) := by decide +kernel
theorem dX2_byteHere_19 : decode cX2_byteHere 19 = .ok (.iaload, 1) := by decide +kernel
theorem dX2_byteHere_20 : decode cX2_byteHere 20 = .ok (.goto 4, 3) := by decide +kernel
theorem dX2_byteHere_23 : decode cX2_byteHere 23 = .ok (.iconst (-1), 1) := by decide +kernel
theorem dX2_byteHere_24 : decode cX2_byteHere 24 = .ok (.ireturn, 1) := by decide +kernel
theorem dX2_isTenFigure_0 : decode cX2_isTenFigure 0 = .ok (.iload_n 0, 1) := by decide +kernel
theorem dX2_isTenFigure_1 : decode cX2_isTenFigure 1 = .ok (.bipush 48, 2) := by decide +kernel
theorem dX2_isTenFigure_3 : decode cX2_isTenFigure 3 = .ok (.if_icmp .lt 13, 3) := by decide +kernel
theorem dX2_isTenFigure_6 : decode cX2_isTenFigure 6 = .ok (.iload_n 0, 1) := by decide +kernel
theorem dX2_isTenFigure_7 : decode cX2_isTenFigure 7 = .ok (.bipush 57, 2) := by decide +kernel
theorem dX2_isTenFigure_9 : decode cX2_isTenFigure 9 = .ok (.if_icmp .gt 7, 3) := by decide +kernel
theorem dX2_isTenFigure_12 : decode cX2_isTenFigure 12 = .ok (.iconst 1, 1) := by decide +kernel
theorem dX2_isTenFigure_13 : decode cX2_isTenFigure 13 = .ok (.goto 4, 3) := by decide +kernel
theorem dX2_isTenFigure_16 : decode cX2_isTenFigure 16 = .ok (.iconst 0, 1) := by decide +kernel
theorem dX2_isTenFigure_17 : decode cX2_isTenFigure 17 = .ok (.ireturn, 1) := by decide +kernel
theorem dX2_figureOf_0 : decode cX2_figureOf 0 = .ok (.iload_n 0, 1) := by decide +kernel
theorem dX2_figureOf_1 : decode cX2_figureOf 1 = .ok (.invokestatic 59, 3) := by decide +kernel
theorem dX2_figureOf_4 : decode cX2_figureOf 4 = .ok (.ifCond .eq 8, 3) := by decide +kernel
theorem dX2_figureOf_7 : decode cX2_figureOf 7 = .ok (.iload_n 0, 1) := by decide +kernel
theorem dX2_figureOf_8 : decode cX2_figureOf 8 = .ok (.bipush 48, 2) := by decide +kernel
theorem dX2_figureOf_10 : decode cX2_figureOf 10 = .ok (.isub, 1) := by decide +kernel
theorem dX2_figureOf_11 : decode cX2_figureOf 11 = .ok (.ireturn, 1) := by decide +kernel
theorem dX2_figureOf_12 : decode cX2_figureOf 12 = .ok (.iload_n 0, 1) := by decide +kernel
theorem dX2_figureOf_13 : decode cX2_figureOf 13 = .ok (.bipush 97, 2) := by decide +kernel
theorem dX2_figureOf_15 : decode cX2_figureOf 15 = .ok (.if_icmp .lt 19, 3) := by decide +kernel
theorem dX2_figureOf_18 : decode cX2_figureOf 18 = .ok (.iload_n 0, 1) := by decide +kernel
theorem dX2_figureOf_19 : decode cX2_figureOf 19 = .ok (.bipush 102, 2) := by decide +kernel
theorem dX2_figureOf_21 : decode cX2_figureOf 21 = .ok (.if_icmp .gt 13, 3) := by decide +kernel
theorem dX2_figureOf_24 : decode cX2_figureOf 24 = .ok (.iload_n 0, 1) := by decide +kernel
theorem dX2_figureOf_25 : decode cX2_figureOf 25 = .ok (.bipush 97, 2) := by decide +kernel
theorem dX2_figureOf_27 : decode cX2_figureOf 27 = .ok (.isub, 1) := by decide +kernel
theorem dX2_figureOf_28 : decode cX2_figureOf 28 = .ok (.bipush 10, 2) := by decide +kernel
theorem dX2_figureOf_30 : decode cX2_figureOf 30 = .ok (.iadd, 1) := by decide +kernel
theorem dX2_figureOf_31 : decode cX2_figureOf 31 = .ok (.goto 4, 3) := by decide +kernel
theorem dX2_figureOf_34 : decode cX2_figureOf 34 = .ok (.iconst (-1), 1) := by decide +kernel
theorem dX2_figureOf_35 : decode cX2_figureOf 35 = .ok (.ireturn, 1) := by decide +kernel
