theorem dX4_fillsFor_69 : decode cX4_fillsFor 69 = .ok (.iconst (-1), 1) := by decide +kernel
theorem dX4_fillsFor_70 : decode cX4_fillsFor 70 = .ok (.if_icmp .eq 8, 3) := by decide +kernel
theorem dX4_fillsFor_73 : decode cX4_fillsFor 73 = .ok (.aload_n 0, 1) := by decide +kernel
theorem dX4_fillsFor_74 : decode cX4_fillsFor 74 = .ok (.iload_n 2, 1) := by decide +kernel
theorem dX4_fillsFor_75 : decode cX4_fillsFor 75 = .ok (.invokevirtual 145, 3) := by decide +kernel
theorem dX4_fillsFor_78 : decode cX4_fillsFor 78 = .ok (.aload_n 0, 1) := by decide +kernel
theorem dX4_fillsFor_79 : decode cX4_fillsFor 79 = .ok (.getfield 7, 3) := by decide +kernel
theorem dX4_fillsFor_82 : decode cX4_fillsFor 82 = .ok (.bipush 120, 2) := by decide +kernel
theorem dX4_fillsFor_84 : decode cX4_fillsFor 84 = .ok (.iaload, 1) := by decide +kernel
theorem dX4_fillsFor_85 : decode cX4_fillsFor 85 = .ok (.ifCond .le 7, 3) := by decide +kernel
theorem dX4_fillsFor_88 : decode cX4_fillsFor 88 = .ok (.iconst 1, 1) := by decide +kernel
theorem dX4_fillsFor_89 : decode cX4_fillsFor 89 = .ok (.goto 4, 3) := by decide +kernel
theorem dX4_fillsFor_92 : decode cX4_fillsFor 92 = .ok (.iconst 0, 1) := by decide +kernel
theorem dX4_fillsFor_93 : decode cX4_fillsFor 93 = .ok (.istore_n 3, 1) := by decide +kernel
theorem dX4_fillsFor_94 : decode cX4_fillsFor 94 = .ok (.iload_n 3, 1) := by decide +kernel
theorem dX4_fillsFor_95 : decode cX4_fillsFor 95 = .ok (.ifCond .eq 42, 3) := by decide +kernel
theorem dX4_fillsFor_98 : decode cX4_fillsFor 98 = .ok (.aload_n 0, 1) := by decide +kernel
theorem dX4_fillsFor_99 : decode cX4_fillsFor 99 = .ok (.getfield 7, 3) := by decide +kernel
theorem dX4_fillsFor_102 : decode cX4_fillsFor 102 = .ok (.bipush 120, 2) := by decide +kernel
theorem dX4_fillsFor_104 : decode cX4_fillsFor 104 = .ok (.iaload, 1) := by decide +kernel
theorem dX4_fillsFor_105 : decode cX4_fillsFor 105 = .ok (.iload_n 1, 1) := by decide +kernel
theorem dX4_fillsFor_106 : decode cX4_fillsFor 106 = .ok (.if_icmp .ge 31, 3) := by decide +kernel
theorem dX4_fillsFor_109 : decode cX4_fillsFor 109 = .ok (.aload_n 0, 1) := by decide +kernel
theorem dX4_fillsFor_110 : decode cX4_fillsFor 110 = .ok (.invokevirtual 152, 3) := by decide +kernel
theorem dX4_fillsFor_113 : decode cX4_fillsFor 113 = .ok (.istore_n 2, 1) := by decide +kernel
theorem dX4_fillsFor_114 : decode cX4_fillsFor 114 = .ok (.iload_n 2, 1) := by decide +kernel
theorem dX4_fillsFor_115 : decode cX4_fillsFor 115 = .ok (.iconst (-1), 1) := by decide +kernel
theorem dX4_fillsFor_116 : decode cX4_fillsFor 116 = .ok (.if_icmp .eq 7, 3) := by decide +kernel
theorem dX4_fillsFor_119 : decode cX4_fillsFor 119 = .ok (.iconst 1, 1) := by decide +kernel
theorem dX4_fillsFor_120 : decode cX4_fillsFor 120 = .ok (.goto 4, 3) := by decide +kernel
theorem dX4_fillsFor_123 : decode cX4_fillsFor 123 = .ok (.iconst 0, 1) := by decide +kernel
theorem dX4_fillsFor_124 : decode cX4_fillsFor 124 = .ok (.istore_n 3, 1) := by decide +kernel
theorem dX4_fillsFor_125 : decode cX4_fillsFor 125 = .ok (.iload_n 3, 1) := by decide +kernel
theorem dX4_fillsFor_126 : decode cX4_fillsFor 126 = .ok (.ifCond .eq (-32), 3) := by decide +kernel
theorem dX4_fillsFor_129 : decode cX4_fillsFor 129 = .ok (.aload_n 0, 1) := by decide +kernel
theorem dX4_fillsFor_130 : decode cX4_fillsFor 130 = .ok (.iload_n 2, 1) := by decide +kernel
theorem dX4_fillsFor_131 : decode cX4_fillsFor 131 = .ok (.invokevirtual 145, 3) := by decide +kernel
theorem dX4_fillsFor_134 : decode cX4_fillsFor 134 = .ok (.goto (-40), 3) := by decide +kernel
theorem dX4_fillsFor_137 : decode cX4_fillsFor 137 = .ok (.aload_n 0, 1) := by decide +kernel
theorem dX4_fillsFor_138 : decode cX4_fillsFor 138 = .ok (.getfield 7, 3) := by decide +kernel
theorem dX4_fillsFor_141 : decode cX4_fillsFor 141 = .ok (.bipush 120, 2) := by decide +kernel
theorem dX4_fillsFor_143 : decode cX4_fillsFor 143 = .ok (.iaload, 1) := by decide +kernel
theorem dX4_fillsFor_144 : decode cX4_fillsFor 144 = .ok (.ireturn, 1) := by decide +kernel
theorem dX4_canFill_0 : decode cX4_canFill 0 = .ok (.aload_n 0, 1) := by decide +kernel
theorem dX4_canFill_1 : decode cX4_canFill 1 = .ok (.getfield 7, 3) := by decide +kernel
theorem dX4_canFill_4 : decode cX4_canFill 4 = .ok (.bipush 61, 2) := by decide +kernel
theorem dX4_canFill_6 : decode cX4_canFill 6 = .ok (.iaload, 1) := by decide +kernel
theorem dX4_canFill_7 : decode cX4_canFill 7 = .ok (.invokestatic 95, 3) := by decide +kernel
theorem dX4_canFill_10 : decode cX4_canFill 10 = .ok (.iload_n 1, 1) := by decide +kernel
theorem dX4_canFill_11 : decode cX4_canFill 11 = .ok (.if_icmp .gt 7, 3) := by decide +kernel
theorem dX4_canFill_14 : decode cX4_canFill 14 = .ok (.iconst 1, 1) := by decide +kernel
theorem dX4_canFill_15 : decode cX4_canFill 15 = .ok (.goto 4, 3) := by decide +kernel
theorem dX4_canFill_18 : decode cX4_canFill 18 = .ok (.iconst 0, 1) := by decide +kernel
theorem dX4_canFill_19 : decode cX4_canFill 19 = .ok (.ireturn, 1) := by decide +kernel
theorem dX4_fills_0 : decode cX4_fills 0 = .ok (.iload_n 1, 1) := by decide +kernel
theorem dX4_fills_1 : decode cX4_fills 1 = .ok (.iconst 1, 1) := by decide +kernel
theorem dX4_fills_2 : decode cX4_fills 2 = .ok (.bipush 8, 2) := by decide +kernel
theorem dX4_fills_4 : decode cX4_fills 4 = .ok (.invokestatic 49, 3) := by decide +kernel
theorem dX4_fills_7 : decode cX4_fills 7 = .ok (.ifCond .ne 8, 3) := by decide +kernel
theorem dX4_fills_10 : decode cX4_fills 10 = .ok (.aload_n 0, 1) := by decide +kernel
theorem dX4_fills_11 : decode cX4_fills 11 = .ok (.invokevirtual 68, 3) := by decide +kernel
theorem dX4_fills_14 : decode cX4_fills 14 = .ok (.ireturn, 1) := by decide +kernel
theorem dX4_fills_15 : decode cX4_fills 15 = .ok (.aload_n 0, 1) := by decide +kernel
theorem dX4_fills_16 : decode cX4_fills 16 = .ok (.iload_n 1, 1) := by decide +kernel
theorem dX4_fills_17 : decode cX4_fills 17 = .ok (.invokevirtual 155, 3) := by decide +kernel
theorem dX4_fills_20 : decode cX4_fills 20 = .ok (.ifCond .ne 8, 3) := by decide +kernel
theorem dX4_fills_23 : decode cX4_fills 23 = .ok (.aload_n 0, 1) := by decide +kernel
theorem dX4_fills_24 : decode cX4_fills 24 = .ok (.invokevirtual 45, 3) := by decide +kernel
theorem dX4_fills_27 : decode cX4_fills 27 = .ok (.ireturn, 1) := by decide +kernel
theorem dX4_fills_28 : decode cX4_fills 28 = .ok (.aload_n 0, 1) := by decide +kernel
theorem dX4_fills_29 : decode cX4_fills 29 = .ok (.invokevirtual 74, 3) := by decide +kernel
theorem dX4_fills_32 : decode cX4_fills 32 = .ok (.aload_n 0, 1) := by decide +kernel
theorem dX4_fills_33 : decode cX4_fills 33 = .ok (.iload_n 1, 1) := by decide +kernel
theorem dX4_fills_34 : decode cX4_fills 34 = .ok (.invokevirtual 158, 3) := by decide +kernel
theorem dX4_fills_37 : decode cX4_fills 37 = .ok (.ireturn, 1) := by decide +kernel
theorem dX4_isSwapped_0 : decode cX4_isSwapped 0 = .ok (.aload_n 0, 1) := by decide +kernel
theorem dX4_isSwapped_1 : decode cX4_isSwapped 1 = .ok (.invokevirtual 161, 3) := by decide +kernel
theorem dX4_isSwapped_4 : decode cX4_isSwapped 4 = .ok (.aload_n 0, 1) := by decide +kernel
theorem dX4_isSwapped_5 : decode cX4_isSwapped 5 = .ok (.aload_n 0, 1) := by decide +kernel
theorem dX4_isSwapped_6 : decode cX4_isSwapped 6 = .ok (.getfield 7, 3) := by decide +kernel
theorem dX4_isSwapped_9 : decode cX4_isSwapped 9 = .ok (.bipush 120, 2) := by decide +kernel
theorem dX4_isSwapped_11 : decode cX4_isSwapped 11 = .ok (.iaload, 1) := by decide +kernel
theorem dX4_isSwapped_12 : decode cX4_isSwapped 12 = .ok (.invokevirtual 164, 3) := by decide +kernel
theorem dX4_isSwapped_15 : decode cX4_isSwapped 15 = .ok (.fstore_n 1, 1) := by decide +kernel
theorem dX4_isSwapped_16 : decode cX4_isSwapped 16 = .ok (.iconst 0, 1) := by decide +kernel
theorem dX4_isSwapped_17 : decode cX4_isSwapped 17 = .ok (.istore_n 2, 1) := by decide +kernel
theorem dX4_isSwapped_18 : decode cX4_isSwapped 18 = .ok (.iload_n 2, 1) := by decide +kernel
theorem dX4_isSwapped_19 : decode cX4_isSwapped 19 = .ok (.aload_n 0, 1) := by decide +kernel
theorem dX4_isSwapped_20 : decode cX4_isSwapped 20 = .ok (.getfield 7, 3) := by decide +kernel
theorem dX4_isSwapped_23 : decode cX4_isSwapped 23 = .ok (.bipush 120, 2) := by decide +kernel
theorem dX4_isSwapped_25 : decode cX4_isSwapped 25 = .ok (.iaload, 1) := by decide +kernel
theorem dX4_isSwapped_26 : decode cX4_isSwapped 26 = .ok (.if_icmp .ge 128, 3) := by decide +kernel
theorem dX4_isSwapped_29 : decode cX4_isSwapped 29 = .ok (.aload_n 0, 1) := by decide +kernel
theorem dX4_isSwapped_30 : decode cX4_isSwapped 30 = .ok (.getfield 29, 3) := by decide +kernel
theorem dX4_isSwapped_33 : decode cX4_isSwapped 33 = .ok (.iload_n 2, 1) := by decide +kernel
theorem dX4_isSwapped_34 : decode cX4_isSwapped 34 = .ok (.iaload, 1) := by decide +kernel
theorem dX4_isSwapped_35 : decode cX4_isSwapped 35 = .ok (.istore_n 3, 1) := by decide +kernel
theorem dX4_isSwapped_36 : decode cX4_isSwapped 36 = .ok (.iconst 0, 1) := by decide +kernel
theorem dX4_isSwapped_37 : decode cX4_isSwapped 37 = .ok (.istore 4, 2) := by decide +kernel
theorem dX4_isSwapped_39 : decode cX4_isSwapped 39 = .ok (.iload 4, 2) := by decide +kernel
theorem dX4_isSwapped_41 : decode cX4_isSwapped 41 = .ok (.aload_n 0, 1) := by decide +kernel
theorem dX4_isSwapped_42 : decode cX4_isSwapped 42 = .ok (.getfield 7, 3) := by decide +kernel
theorem dX4_isSwapped_45 : decode cX4_isSwapped 45 = .ok (.iconst 0, 1) := by decide +kernel
theorem dX4_isSwapped_46 : decode cX4_isSwapped 46 = .ok (.iaload, 1) := by decide +kernel
theorem dX4_isSwapped_47 : decode cX4_isSwapped 47 = .ok (.if_icmp .ge 94, 3) := by decide +kernel
theorem dX4_isSwapped_50 : decode cX4_isSwapped 50 = .ok (.aload_n 0, 1) := by decide +kernel
theorem dX4_isSwapped_51 : decode cX4_isSwapped 51 = .ok (.getfield 7, 3) := by decide +kernel
theorem dX4_isSwapped_54 : decode cX4_isSwapped 54 = .ok (.bipush 61, 2) := by decide +kernel
theorem dX4_isSwapped_56 : decode cX4_isSwapped 56 = .ok (.iaload, 1) := by decide +kernel
theorem dX4_isSwapped_57 : decode cX4_isSwapped 57 = .ok (.iload_n 3, 1) := by decide +kernel
theorem dX4_isSwapped_58 : decode cX4_isSwapped 58 = .ok (.invokestatic 136, 3) := by decide +kernel
theorem dX4_isSwapped_61 : decode cX4_isSwapped 61 = .ok (.ifCond .ne 80, 3) := by decide +kernel
theorem dX4_isSwapped_64 : decode cX4_isSwapped 64 = .ok (.aload_n 0, 1) := by decide +kernel
theorem dX4_isSwapped_65 : decode cX4_isSwapped 65 = .ok (.getfield 29, 3) := by decide +kernel
theorem dX4_isSwapped_68 : decode cX4_isSwapped 68 = .ok (.iload_n 2, 1) := by decide +kernel
theorem dX4_isSwapped_69 : decode cX4_isSwapped 69 = .ok (.iload 4, 2) := by decide +kernel
theorem dX4_isSwapped_71 : decode cX4_isSwapped 71 = .ok (.iastore, 1) := by decide +kernel
theorem dX4_isSwapped_72 : decode cX4_isSwapped 72 = .ok (.aload_n 0, 1) := by decide +kernel
theorem dX4_isSwapped_73 : decode cX4_isSwapped 73 = .ok (.getfield 133, 3) := by decide +kernel
theorem dX4_isSwapped_76 : decode cX4_isSwapped 76 = .ok (.iload 4, 2) := by decide +kernel
theorem dX4_isSwapped_78 : decode cX4_isSwapped 78 = .ok (.invokestatic 136, 3) := by decide +kernel
theorem dX4_isSwapped_81 : decode cX4_isSwapped 81 = .ok (.ifCond .eq 17, 3) := by decide +kernel
theorem dX4_isSwapped_84 : decode cX4_isSwapped 84 = .ok (.aload_n 0, 1) := by decide +kernel
theorem dX4_isSwapped_85 : decode cX4_isSwapped 85 = .ok (.iload 4, 2) := by decide +kernel
theorem dX4_isSwapped_87 : decode cX4_isSwapped 87 = .ok (.invokevirtual 111, 3) := by decide +kernel
theorem dX4_isSwapped_90 : decode cX4_isSwapped 90 = .ok (.iconst (-1), 1) := by decide +kernel
theorem dX4_isSwapped_91 : decode cX4_isSwapped 91 = .ok (.if_icmp .ne 7, 3) := by decide +kernel
theorem dX4_isSwapped_94 : decode cX4_isSwapped 94 = .ok (.iconst 1, 1) := by decide +kernel
theorem dX4_isSwapped_95 : decode cX4_isSwapped 95 = .ok (.goto 4, 3) := by decide +kernel
theorem dX4_isSwapped_98 : decode cX4_isSwapped 98 = .ok (.iconst 0, 1) := by decide +kernel
theorem dX4_isSwapped_99 : decode cX4_isSwapped 99 = .ok (.istore 5, 2) := by decide +kernel
theorem dX4_isSwapped_101 : decode cX4_isSwapped 101 = .ok (.iload 5, 2) := by decide +kernel
theorem dX4_isSwapped_103 : decode cX4_isSwapped 103 = .ok (.ifCond .eq 32, 3) := by decide +kernel
theorem dX4_isSwapped_106 : decode cX4_isSwapped 106 = .ok (.aload_n 0, 1) := by decide +kernel
theorem dX4_isSwapped_107 : decode cX4_isSwapped 107 = .ok (.aload_n 0, 1) := by decide +kernel
theorem dX4_isSwapped_108 : decode cX4_isSwapped 108 = .ok (.getfield 7, 3) := by decide +kernel
theorem dX4_isSwapped_111 : decode cX4_isSwapped 111 = .ok (.bipush 120, 2) := by decide +kernel
theorem dX4_isSwapped_113 : decode cX4_isSwapped 113 = .ok (.iaload, 1) := by decide +kernel
theorem dX4_isSwapped_114 : decode cX4_isSwapped 114 = .ok (.invokevirtual 164, 3) := by decide +kernel
theorem dX4_isSwapped_117 : decode cX4_isSwapped 117 = .ok (.fload_n 1, 1) := by decide +kernel
theorem dX4_isSwapped_118 : decode cX4_isSwapped 118 = .ok (.fcmp .l, 1) := by decide +kernel
theorem dX4_isSwapped_119 : decode cX4_isSwapped 119 = .ok (.ifCond .le 16, 3) := by decide +kernel
theorem dX4_isSwapped_122 : decode cX4_isSwapped 122 = .ok (.aload_n 0, 1) := by decide +kernel
theorem dX4_isSwapped_123 : decode cX4_isSwapped 123 = .ok (.getfield 7, 3) := by decide +kernel
theorem dX4_isSwapped_126 : decode cX4_isSwapped 126 = .ok (.bipush 121, 2) := by decide +kernel
theorem dX4_isSwapped_128 : decode cX4_isSwapped 128 = .ok (.iload_n 2, 1) := by decide +kernel
theorem dX4_isSwapped_129 : decode cX4_isSwapped 129 = .ok (.iadd, 1) := by decide +kernel
theorem dX4_isSwapped_130 : decode cX4_isSwapped 130 = .ok (.iload 4, 2) := by decide +kernel
theorem dX4_isSwapped_132 : decode cX4_isSwapped 132 = .ok (.iastore, 1) := by decide +kernel
theorem dX4_isSwapped_133 : decode cX4_isSwapped 133 = .ok (.iconst 1, 1) := by decide +kernel
theorem dX4_isSwapped_134 : decode cX4_isSwapped 134 = .ok (.ireturn, 1) := by decide +kernel
theorem dX4_isSwapped_135 : decode cX4_isSwapped 135 = .ok (.iinc 4 1, 3) := by decide +kernel
theorem dX4_isSwapped_138 : decode cX4_isSwapped 138 = .ok (.goto (-99), 3) := by decide +kernel
theorem dX4_isSwapped_141 : decode cX4_isSwapped 141 = .ok (.aload_n 0, 1) := by decide +kernel
theorem dX4_isSwapped_142 : decode cX4_isSwapped 142 = .ok (.getfield 29, 3) := by decide +kernel
theorem dX4_isSwapped_145 : decode cX4_isSwapped 145 = .ok (.iload_n 2, 1) := by decide +kernel
theorem dX4_isSwapped_146 : decode cX4_isSwapped 146 = .ok (.iload_n 3, 1) := by decide +kernel
theorem dX4_isSwapped_147 : decode cX4_isSwapped 147 = .ok (.iastore, 1) := by decide +kernel
theorem dX4_isSwapped_148 : decode cX4_isSwapped 148 = .ok (.iinc 2 1, 3) := by decide +kernel
theorem dX4_isSwapped_151 : decode cX4_isSwapped 151 = .ok (.goto (-133), 3) := by decide +kernel
theorem dX4_isSwapped_154 : decode cX4_isSwapped 154 = .ok (.iconst 0, 1) := by decide +kernel
theorem dX4_isSwapped_155 : decode cX4_isSwapped 155 = .ok (.ireturn, 1) := by decide +kernel
theorem dX4_swapsAll_0 : decode cX4_swapsAll 0 = .ok (.aload_n 0, 1) := by decide +kernel
theorem dX4_swapsAll_1 : decode cX4_swapsAll 1 = .ok (.invokevirtual 142, 3) := by decide +kernel
theorem dX4_swapsAll_4 : decode cX4_swapsAll 4 = .ok (.iconst 0, 1) := by decide +kernel
theorem dX4_swapsAll_5 : decode cX4_swapsAll 5 = .ok (.istore_n 1, 1) := by decide +kernel
theorem dX4_swapsAll_6 : decode cX4_swapsAll 6 = .ok (.iload_n 1, 1) := by decide +kernel
theorem dX4_swapsAll_7 : decode cX4_swapsAll 7 = .ok (.bipush 60, 2) := by decide +kernel
theorem dX4_swapsAll_9 : decode cX4_swapsAll 9 = .ok (.if_icmp .ge 16, 3) := by decide +kernel
theorem dX4_swapsAll_12 : decode cX4_swapsAll 12 = .ok (.aload_n 0, 1) := by decide +kernel
theorem dX4_swapsAll_13 : decode cX4_swapsAll 13 = .ok (.invokevirtual 167, 3) := by decide +kernel
theorem dX4_swapsAll_16 : decode cX4_swapsAll 16 = .ok (.ifCond .eq 9, 3) := by decide +kernel
theorem dX4_swapsAll_19 : decode cX4_swapsAll 19 = .ok (.iinc 1 1, 3) := by decide +kernel
theorem dX4_swapsAll_22 : decode cX4_swapsAll 22 = .ok (.goto (-16), 3) := by decide +kernel
theorem dX4_swapsAll_25 : decode cX4_swapsAll 25 = .ok (.iload_n 1, 1) := by decide +kernel
theorem dX4_swapsAll_26 : decode cX4_swapsAll 26 = .ok (.ireturn, 1) := by decide +kernel
theorem dX4_swaps_0 : decode cX4_swaps 0 = .ok (.aload_n 0, 1) := by decide +kernel
theorem dX4_swaps_1 : decode cX4_swaps 1 = .ok (.invokevirtual 74, 3) := by decide +kernel
theorem dX4_swaps_4 : decode cX4_swaps 4 = .ok (.aload_n 0, 1) := by decide +kernel
theorem dX4_swaps_5 : decode cX4_swaps 5 = .ok (.invokevirtual 171, 3) := by decide +kernel
theorem dX4_swaps_8 : decode cX4_swaps 8 = .ok (.ireturn, 1) := by decide +kernel
theorem dX4_palette_0 : decode cX4_palette 0 = .ok (.iload_n 1, 1) := by decide +kernel
theorem dX4_palette_1 : decode cX4_palette 1 = .ok (.ifCond .ge 8, 3) := by decide +kernel
theorem dX4_palette_4 : decode cX4_palette 4 = .ok (.aload_n 0, 1) := by decide +kernel
theorem dX4_palette_5 : decode cX4_palette 5 = .ok (.invokevirtual 68, 3) := by decide +kernel
theorem dX4_palette_8 : decode cX4_palette 8 = .ok (.ireturn, 1) := by decide +kernel
theorem dX4_palette_9 : decode cX4_palette 9 = .ok (.iload_n 1, 1) := by decide +kernel
theorem dX4_palette_10 : decode cX4_palette 10 = .ok (.aload_n 0, 1) := by decide +kernel
theorem dX4_palette_11 : decode cX4_palette 11 = .ok (.getfield 7, 3) := by decide +kernel
theorem dX4_palette_14 : decode cX4_palette 14 = .ok (.bipush 120, 2) := by decide +kernel
theorem dX4_palette_16 : decode cX4_palette 16 = .ok (.iaload, 1) := by decide +kernel
theorem dX4_palette_17 : decode cX4_palette 17 = .ok (.if_icmp .ge 15, 3) := by decide +kernel
theorem dX4_palette_20 : decode cX4_palette 20 = .ok (.aload_n 0, 1) := by decide +kernel
theorem dX4_palette_21 : decode cX4_palette 21 = .ok (.getfield 7, 3) := by decide +kernel
theorem dX4_palette_24 : decode cX4_palette 24 = .ok (.bipush 121, 2) := by decide +kernel
theorem dX4_palette_26 : decode cX4_palette 26 = .ok (.iload_n 1, 1) := by decide +kernel
theorem dX4_palette_27 : decode cX4_palette 27 = .ok (.iadd, 1) := by decide +kernel
theorem dX4_palette_28 : decode cX4_palette 28 = .ok (.iaload, 1) := by decide +kernel
theorem dX4_palette_29 : decode cX4_palette 29 = .ok (.goto 4, 3) := by decide +kernel
theorem dX4_palette_32 : decode cX4_palette 32 = .ok (.iconst (-1), 1) := by decide +kernel
theorem dX4_palette_33 : decode cX4_palette 33 = .ok (.ireturn, 1) := by decide +kernel
theorem dX4_leastNow_0 : decode cX4_leastNow 0 = .ok (.aload_n 0, 1) := by decide +kernel
theorem dX4_leastNow_1 : decode cX4_leastNow 1 = .ok (.invokevirtual 142, 3) := by decide +kernel
theorem dX4_leastNow_4 : decode cX4_leastNow 4 = .ok (.aload_n 0, 1) := by decide +kernel
theorem dX4_leastNow_5 : decode cX4_leastNow 5 = .ok (.invokevirtual 161, 3) := by decide +kernel
theorem dX4_leastNow_8 : decode cX4_leastNow 8 = .ok (.aload_n 0, 1) := by decide +kernel
theorem dX4_leastNow_9 : decode cX4_leastNow 9 = .ok (.aload_n 0, 1) := by decide +kernel
theorem dX4_leastNow_10 : decode cX4_leastNow 10 = .ok (.getfield 7, 3) := by decide +kernel
theorem dX4_leastNow_13 : decode cX4_leastNow 13 = .ok (.bipush 120, 2) := by decide +kernel
theorem dX4_leastNow_15 : decode cX4_leastNow 15 = .ok (.iaload, 1) := by decide +kernel
theorem dX4_leastNow_16 : decode cX4_leastNow 16 = .ok (.invokevirtual 164, 3) := by decide +kernel
theorem dX4_leastNow_19 : decode cX4_leastNow 19 = .ok (.invokestatic 117, 3) := by decide +kernel
theorem dX4_leastNow_22 : decode cX4_leastNow 22 = .ok (.ireturn, 1) := by decide +kernel
theorem dX4_least_0 : decode cX4_least 0 = .ok (.aload_n 0, 1) := by decide +kernel
theorem dX4_least_1 : decode cX4_least 1 = .ok (.invokevirtual 174, 3) := by decide +kernel
theorem dX4_least_4 : decode cX4_least 4 = .ok (.ireturn, 1) := by decide +kernel
theorem dX4_nearestNow_0 : decode cX4_nearestNow 0 = .ok (.aload_n 0, 1) := by decide +kernel
theorem dX4_nearestNow_1 : decode cX4_nearestNow 1 = .ok (.invokevirtual 142, 3) := by decide +kernel
theorem dX4_nearestNow_4 : decode cX4_nearestNow 4 = .ok (.iconst (-1), 1) := by decide +kernel
theorem dX4_nearestNow_5 : decode cX4_nearestNow 5 = .ok (.istore_n 1, 1) := by decide +kernel
theorem dX4_nearestNow_6 : decode cX4_nearestNow 6 = .ok (.fconst 0, 1) := by decide +kernel
theorem dX4_nearestNow_7 : decode cX4_nearestNow 7 = .ok (.fstore_n 2, 1) := by decide +kernel
theorem dX4_nearestNow_8 : decode cX4_nearestNow 8 = .ok (.iconst 0, 1) := by decide +kernel
theorem dX4_nearestNow_9 : decode cX4_nearestNow 9 = .ok (.istore_n 3, 1) := by decide +kernel
theorem dX4_nearestNow_10 : decode cX4_nearestNow 10 = .ok (.iload_n 3, 1) := by decide +kernel
theorem dX4_nearestNow_11 : decode cX4_nearestNow 11 = .ok (.aload_n 0, 1) := by decide +kernel
theorem dX4_nearestNow_12 : decode cX4_nearestNow 12 = .ok (.getfield 7, 3) := by decide +kernel
theorem dX4_nearestNow_15 : decode cX4_nearestNow 15 = .ok (.bipush 120, 2) := by decide +kernel
theorem dX4_nearestNow_17 : decode cX4_nearestNow 17 = .ok (.iaload, 1) := by decide +kernel
theorem dX4_nearestNow_18 : decode cX4_nearestNow 18 = .ok (.if_icmp .ge 85, 3) := by decide +kernel
theorem dX4_nearestNow_21 : decode cX4_nearestNow 21 = .ok (.iload_n 3, 1) := by decide +kernel
theorem dX4_nearestNow_22 : decode cX4_nearestNow 22 = .ok (.iconst 1, 1) := by decide +kernel
theorem dX4_nearestNow_23 : decode cX4_nearestNow 23 = .ok (.iadd, 1) := by decide +kernel
theorem dX4_nearestNow_24 : decode cX4_nearestNow 24 = .ok (.istore 4, 2) := by decide +kernel
theorem dX4_nearestNow_26 : decode cX4_nearestNow 26 = .ok (.iload 4, 2) := by decide +kernel
theorem dX4_nearestNow_28 : decode cX4_nearestNow 28 = .ok (.aload_n 0, 1) := by decide +kernel
theorem dX4_nearestNow_29 : decode cX4_nearestNow 29 = .ok (.getfield 7, 3) := by decide +kernel
theorem dX4_nearestNow_32 : decode cX4_nearestNow 32 = .ok (.bipush 120, 2) := by decide +kernel
theorem dX4_nearestNow_34 : decode cX4_nearestNow 34 = .ok (.iaload, 1) := by decide +kernel
theorem dX4_nearestNow_35 : decode cX4_nearestNow 35 = .ok (.if_icmp .ge 62, 3) := by decide +kernel
theorem dX4_nearestNow_38 : decode cX4_nearestNow 38 = .ok (.aload_n 0, 1) := by decide +kernel
theorem dX4_nearestNow_39 : decode cX4_nearestNow 39 = .ok (.getfield 25, 3) := by decide +kernel
theorem dX4_nearestNow_42 : decode cX4_nearestNow 42 = .ok (.bipush 20, 2) := by decide +kernel
theorem dX4_nearestNow_44 : decode cX4_nearestNow 44 = .ok (.aload_n 0, 1) := by decide +kernel
theorem dX4_nearestNow_45 : decode cX4_nearestNow 45 = .ok (.getfield 7, 3) := by decide +kernel
theorem dX4_nearestNow_48 : decode cX4_nearestNow 48 = .ok (.bipush 121, 2) := by decide +kernel
theorem dX4_nearestNow_50 : decode cX4_nearestNow 50 = .ok (.iload_n 3, 1) := by decide +kernel
theorem dX4_nearestNow_51 : decode cX4_nearestNow 51 = .ok (.iadd, 1) := by decide +kernel
theorem dX4_nearestNow_52 : decode cX4_nearestNow 52 = .ok (.iaload, 1) := by decide +kernel
theorem dX4_nearestNow_53 : decode cX4_nearestNow 53 = .ok (.imul, 1) := by decide +kernel
theorem dX4_nearestNow_54 : decode cX4_nearestNow 54 = .ok (.aload_n 0, 1) := by decide +kernel
theorem dX4_nearestNow_55 : decode cX4_nearestNow 55 = .ok (.getfield 7, 3) := by decide +kernel
theorem dX4_nearestNow_58 : decode cX4_nearestNow 58 = .ok (.bipush 121, 2) := by decide +kernel
theorem dX4_nearestNow_60 : decode cX4_nearestNow 60 = .ok (.iload 4, 2) := by decide +kernel
theorem dX4_nearestNow_62 : decode cX4_nearestNow 62 = .ok (.iadd, 1) := by decide +kernel
theorem dX4_nearestNow_63 : decode cX4_nearestNow 63 = .ok (.iaload, 1) := by decide +kernel
theorem dX4_nearestNow_64 : decode cX4_nearestNow 64 = .ok (.iadd, 1) := by decide +kernel
theorem dX4_nearestNow_65 : decode cX4_nearestNow 65 = .ok (.faload, 1) := by decide +kernel
theorem dX4_nearestNow_66 : decode cX4_nearestNow 66 = .ok (.fstore 5, 2) := by decide +kernel
theorem dX4_nearestNow_68 : decode cX4_nearestNow 68 = .ok (.iload_n 1, 1) := by decide +kernel
theorem dX4_nearestNow_69 : decode cX4_nearestNow 69 = .ok (.iconst (-1), 1) := by decide +kernel
theorem dX4_nearestNow_70 : decode cX4_nearestNow 70 = .ok (.if_icmp .eq 10, 3) := by decide +kernel
theorem dX4_nearestNow_73 : decode cX4_nearestNow 73 = .ok (.fload 5, 2) := by decide +kernel
theorem dX4_nearestNow_75 : decode cX4_nearestNow 75 = .ok (.fload_n 2, 1) := by decide +kernel
theorem dX4_nearestNow_76 : decode cX4_nearestNow 76 = .ok (.fcmp .g, 1) := by decide +kernel
theorem dX4_nearestNow_77 : decode cX4_nearestNow 77 = .ok (.ifCond .ge 14, 3) := by decide +kernel
theorem dX4_nearestNow_80 : decode cX4_nearestNow 80 = .ok (.bipush 10, 2) := by decide +kernel
theorem dX4_nearestNow_82 : decode cX4_nearestNow 82 = .ok (.iload_n 3, 1) := by decide +kernel
theorem dX4_nearestNow_83 : decode cX4_nearestNow 83 = .ok (.imul, 1) := by decide +kernel
theorem dX4_nearestNow_84 : decode cX4_nearestNow 84 = .ok (.iload 4, 2) := by decide +kernel
theorem dX4_nearestNow_86 : decode cX4_nearestNow 86 = .ok (.iadd, 1) := by decide +kernel
theorem dX4_nearestNow_87 : decode cX4_nearestNow 87 = .ok (.istore_n 1, 1) := by decide +kernel
theorem dX4_nearestNow_88 : decode cX4_nearestNow 88 = .ok (.fload 5, 2) := by decide +kernel
theorem dX4_nearestNow_90 : decode cX4_nearestNow 90 = .ok (.fstore_n 2, 1) := by decide +kernel
theorem dX4_nearestNow_91 : decode cX4_nearestNow 91 = .ok (.iinc 4 1, 3) := by decide +kernel
theorem dX4_nearestNow_94 : decode cX4_nearestNow 94 = .ok (.goto (-68), 3) := by decide +kernel
theorem dX4_nearestNow_97 : decode cX4_nearestNow 97 = .ok (.iinc 3 1, 3) := by decide +kernel
theorem dX4_nearestNow_100 : decode cX4_nearestNow 100 = .ok (.goto (-90), 3) := by decide +kernel
theorem dX4_nearestNow_103 : decode cX4_nearestNow 103 = .ok (.iload_n 1, 1) := by decide +kernel
theorem dX4_nearestNow_104 : decode cX4_nearestNow 104 = .ok (.ireturn, 1) := by decide +kernel
theorem dX4_nearest_0 : decode cX4_nearest 0 = .ok (.aload_n 0, 1) := by decide +kernel
theorem dX4_nearest_1 : decode cX4_nearest 1 = .ok (.invokevirtual 177, 3) := by decide +kernel
theorem dX4_nearest_4 : decode cX4_nearest 4 = .ok (.ireturn, 1) := by decide +kernel
theorem dX4_isNext_0 : decode cX4_isNext 0 = .ok (.iload_n 1, 1) := by decide +kernel
theorem dX4_isNext_1 : decode cX4_isNext 1 = .ok (.iconst 1, 1) := by decide +kernel
theorem dX4_isNext_2 : decode cX4_isNext 2 = .ok (.isub, 1) := by decide +kernel
theorem dX4_isNext_3 : decode cX4_isNext 3 = .ok (.istore_n 2, 1) := by decide +kernel
theorem dX4_isNext_4 : decode cX4_isNext 4 = .ok (.iload_n 2, 1) := by decide +kernel
theorem dX4_isNext_5 : decode cX4_isNext 5 = .ok (.ifCond .lt 28, 3) := by decide +kernel
theorem dX4_isNext_8 : decode cX4_isNext 8 = .ok (.aload_n 0, 1) := by decide +kernel
theorem dX4_isNext_9 : decode cX4_isNext 9 = .ok (.getfield 29, 3) := by decide +kernel
theorem dX4_isNext_12 : decode cX4_isNext 12 = .ok (.iload_n 2, 1) := by decide +kernel
theorem dX4_isNext_13 : decode cX4_isNext 13 = .ok (.iaload, 1) := by decide +kernel
theorem dX4_isNext_14 : decode cX4_isNext 14 = .ok (.aload_n 0, 1) := by decide +kernel
theorem dX4_isNext_15 : decode cX4_isNext 15 = .ok (.getfield 7, 3) := by decide +kernel
theorem dX4_isNext_18 : decode cX4_isNext 18 = .ok (.iconst 0, 1) := by decide +kernel
theorem dX4_isNext_19 : decode cX4_isNext 19 = .ok (.iaload, 1) := by decide +kernel
theorem dX4_isNext_20 : decode cX4_isNext 20 = .ok (.iload_n 1, 1) := by decide +kernel
theorem dX4_isNext_21 : decode cX4_isNext 21 = .ok (.isub, 1) := by decide +kernel
theorem dX4_isNext_22 : decode cX4_isNext 22 = .ok (.iload_n 2, 1) := by decide +kernel
theorem dX4_isNext_23 : decode cX4_isNext 23 = .ok (.iadd, 1) := by decide +kernel
theorem dX4_isNext_24 : decode cX4_isNext 24 = .ok (.if_icmp .ne 9, 3) := by decide +kernel
theorem dX4_isNext_27 : decode cX4_isNext 27 = .ok (.iinc 2 (-1), 3) := by decide +kernel
theorem dX4_isNext_30 : decode cX4_isNext 30 = .ok (.goto (-26), 3) := by decide +kernel
theorem dX4_isNext_33 : decode cX4_isNext 33 = .ok (.iload_n 2, 1) := by decide +kernel
theorem dX4_isNext_34 : decode cX4_isNext 34 = .ok (.ifCond .ge 5, 3) := by decide +kernel
theorem dX4_isNext_37 : decode cX4_isNext 37 = .ok (.iconst 0, 1) := by decide +kernel
theorem dX4_isNext_38 : decode cX4_isNext 38 = .ok (.ireturn, 1) := by decide +kernel
theorem dX4_isNext_39 : decode cX4_isNext 39 = .ok (.aload_n 0, 1) := by decide +kernel
theorem dX4_isNext_40 : decode cX4_isNext 40 = .ok (.getfield 29, 3) := by decide +kernel
theorem dX4_isNext_43 : decode cX4_isNext 43 = .ok (.iload_n 2, 1) := by decide +kernel
theorem dX4_isNext_44 : decode cX4_isNext 44 = .ok (.dup2, 1) := by decide +kernel
theorem dX4_isNext_45 : decode cX4_isNext 45 = .ok (.iaload, 1) := by decide +kernel
theorem dX4_isNext_46 : decode cX4_isNext 46 = .ok (.iconst 1, 1) := by decide +kernel
theorem dX4_isNext_47 : decode cX4_isNext 47 = .ok (.iadd, 1) := by decide +kernel
theorem dX4_isNext_48 : decode cX4_isNext 48 = .ok (.iastore, 1) := by decide +kernel
theorem dX4_isNext_49 : decode cX4_isNext 49 = .ok (.iload_n 2, 1) := by decide +kernel
theorem dX4_isNext_50 : decode cX4_isNext 50 = .ok (.iconst 1, 1) := by decide +kernel
theorem dX4_isNext_51 : decode cX4_isNext 51 = .ok (.iadd, 1) := by decide +kernel
theorem dX4_isNext_52 : decode cX4_isNext 52 = .ok (.istore_n 3, 1) := by decide +kernel
theorem dX4_isNext_53 : decode cX4_isNext 53 = .ok (.iload_n 3, 1) := by decide +kernel
theorem dX4_isNext_54 : decode cX4_isNext 54 = .ok (.iload_n 1, 1) := by decide +kernel
theorem dX4_isNext_55 : decode cX4_isNext 55 = .ok (.if_icmp .ge 25, 3) := by decide +kernel
theorem dX4_isNext_58 : decode cX4_isNext 58 = .ok (.aload_n 0, 1) := by decide +kernel
theorem dX4_isNext_59 : decode cX4_isNext 59 = .ok (.getfield 29, 3) := by decide +kernel
theorem dX4_isNext_62 : decode cX4_isNext 62 = .ok (.iload_n 3, 1) := by decide +kernel
theorem dX4_isNext_63 : decode cX4_isNext 63 = .ok (.aload_n 0, 1) := by decide +kernel
theorem dX4_isNext_64 : decode cX4_isNext 64 = .ok (.getfield 29, 3) := by decide +kernel
theorem dX4_isNext_67 : decode cX4_isNext 67 = .ok (.iload_n 3, 1) := by decide +kernel
theorem dX4_isNext_68 : decode cX4_isNext 68 = .ok (.iconst 1, 1) := by decide +kernel
theorem dX4_isNext_69 : decode cX4_isNext 69 = .ok (.isub, 1) := by decide +kernel
theorem dX4_isNext_70 : decode cX4_isNext 70 = .ok (.iaload, 1) := by decide +kernel
theorem dX4_isNext_71 : decode cX4_isNext 71 = .ok (.iconst 1, 1) := by decide +kernel
theorem dX4_isNext_72 : decode cX4_isNext 72 = .ok (.iadd, 1) := by decide +kernel
theorem dX4_isNext_73 : decode cX4_isNext 73 = .ok (.iastore, 1) := by decide +kernel
theorem dX4_isNext_74 : decode cX4_isNext 74 = .ok (.iinc 3 1, 3) := by decide +kernel
theorem dX4_isNext_77 : decode cX4_isNext 77 = .ok (.goto (-24), 3) := by decide +kernel
theorem dX4_isNext_80 : decode cX4_isNext 80 = .ok (.iconst 1, 1) := by decide +kernel
theorem dX4_isNext_81 : decode cX4_isNext 81 = .ok (.ireturn, 1) := by decide +kernel
theorem dX4_setOf_0 : decode cX4_setOf 0 = .ok (.iconst 0, 1) := by decide +kernel
theorem dX4_setOf_1 : decode cX4_setOf 1 = .ok (.istore_n 2, 1) := by decide +kernel
theorem dX4_setOf_2 : decode cX4_setOf 2 = .ok (.iconst 0, 1) := by decide +kernel
theorem dX4_setOf_3 : decode cX4_setOf 3 = .ok (.istore_n 3, 1) := by decide +kernel
theorem dX4_setOf_4 : decode cX4_setOf 4 = .ok (.iload_n 3, 1) := by decide +kernel
theorem dX4_setOf_5 : decode cX4_setOf 5 = .ok (.iload_n 1, 1) := by decide +kernel
theorem dX4_setOf_6 : decode cX4_setOf 6 = .ok (.if_icmp .ge 20, 3) := by decide +kernel
theorem dX4_setOf_9 : decode cX4_setOf 9 = .ok (.iload_n 2, 1) := by decide +kernel
theorem dX4_setOf_10 : decode cX4_setOf 10 = .ok (.iconst 1, 1) := by decide +kernel
theorem dX4_setOf_11 : decode cX4_setOf 11 = .ok (.aload_n 0, 1) := by decide +kernel
theorem dX4_setOf_12 : decode cX4_setOf 12 = .ok (.getfield 29, 3) := by decide +kernel
theorem dX4_setOf_15 : decode cX4_setOf 15 = .ok (.iload_n 3, 1) := by decide +kernel
theorem dX4_setOf_16 : decode cX4_setOf 16 = .ok (.iaload, 1) := by decide +kernel
theorem dX4_setOf_17 : decode cX4_setOf 17 = .ok (.ishl, 1) := by decide +kernel
theorem dX4_setOf_18 : decode cX4_setOf 18 = .ok (.ior, 1) := by decide +kernel
theorem dX4_setOf_19 : decode cX4_setOf 19 = .ok (.istore_n 2, 1) := by decide +kernel
theorem dX4_setOf_20 : decode cX4_setOf 20 = .ok (.iinc 3 1, 3) := by decide +kernel
theorem dX4_setOf_23 : decode cX4_setOf 23 = .ok (.goto (-19), 3) := by decide +kernel
theorem dX4_setOf_26 : decode cX4_setOf 26 = .ok (.iload_n 2, 1) := by decide +kernel
theorem dX4_setOf_27 : decode cX4_setOf 27 = .ok (.ireturn, 1) := by decide +kernel
theorem dX4_bestOf_0 : decode cX4_bestOf 0 = .ok (.aload_n 0, 1) := by decide +kernel
theorem dX4_bestOf_1 : decode cX4_bestOf 1 = .ok (.invokevirtual 142, 3) := by decide +kernel
theorem dX4_bestOf_4 : decode cX4_bestOf 4 = .ok (.iconst (-1), 1) := by decide +kernel
theorem dX4_bestOf_5 : decode cX4_bestOf 5 = .ok (.istore_n 2, 1) := by decide +kernel
theorem dX4_bestOf_6 : decode cX4_bestOf 6 = .ok (.fconst 0, 1) := by decide +kernel
theorem dX4_bestOf_7 : decode cX4_bestOf 7 = .ok (.fstore_n 3, 1) := by decide +kernel
theorem dX4_bestOf_8 : decode cX4_bestOf 8 = .ok (.iconst 0, 1) := by decide +kernel
theorem dX4_bestOf_9 : decode cX4_bestOf 9 = .ok (.istore 4, 2) := by decide +kernel
theorem dX4_bestOf_11 : decode cX4_bestOf 11 = .ok (.iload 4, 2) := by decide +kernel
theorem dX4_bestOf_13 : decode cX4_bestOf 13 = .ok (.iload_n 1, 1) := by decide +kernel
theorem dX4_bestOf_14 : decode cX4_bestOf 14 = .ok (.if_icmp .ge 18, 3) := by decide +kernel
theorem dX4_bestOf_17 : decode cX4_bestOf 17 = .ok (.aload_n 0, 1) := by decide +kernel
theorem dX4_bestOf_18 : decode cX4_bestOf 18 = .ok (.getfield 29, 3) := by decide +kernel
theorem dX4_bestOf_21 : decode cX4_bestOf 21 = .ok (.iload 4, 2) := by decide +kernel
theorem dX4_bestOf_23 : decode cX4_bestOf 23 = .ok (.iload 4, 2) := by decide +kernel
theorem dX4_bestOf_25 : decode cX4_bestOf 25 = .ok (.iastore, 1) := by decide +kernel
theorem dX4_bestOf_26 : decode cX4_bestOf 26 = .ok (.iinc 4 1, 3) := by decide +kernel
theorem dX4_bestOf_29 : decode cX4_bestOf 29 = .ok (.goto (-18), 3) := by decide +kernel
theorem dX4_bestOf_32 : decode cX4_bestOf 32 = .ok (.aload_n 0, 1) := by decide +kernel
theorem dX4_bestOf_33 : decode cX4_bestOf 33 = .ok (.getfield 7, 3) := by decide +kernel
theorem dX4_bestOf_36 : decode cX4_bestOf 36 = .ok (.iconst 0, 1) := by decide +kernel
theorem dX4_bestOf_37 : decode cX4_bestOf 37 = .ok (.iaload, 1) := by decide +kernel
theorem dX4_bestOf_38 : decode cX4_bestOf 38 = .ok (.iload_n 1, 1) := by decide +kernel
theorem dX4_bestOf_39 : decode cX4_bestOf 39 = .ok (.if_icmp .lt 7, 3) := by decide +kernel
theorem dX4_bestOf_42 : decode cX4_bestOf 42 = .ok (.iconst 1, 1) := by decide +kernel
theorem dX4_bestOf_43 : decode cX4_bestOf 43 = .ok (.goto 4, 3) := by decide +kernel
theorem dX4_bestOf_46 : decode cX4_bestOf 46 = .ok (.iconst 0, 1) := by decide +kernel
theorem dX4_bestOf_47 : decode cX4_bestOf 47 = .ok (.istore 4, 2) := by decide +kernel
theorem dX4_bestOf_49 : decode cX4_bestOf 49 = .ok (.iload 4, 2) := by decide +kernel
theorem dX4_bestOf_51 : decode cX4_bestOf 51 = .ok (.ifCond .eq 105, 3) := by decide +kernel
theorem dX4_bestOf_54 : decode cX4_bestOf 54 = .ok (.aload_n 0, 1) := by decide +kernel
theorem dX4_bestOf_55 : decode cX4_bestOf 55 = .ok (.iload_n 1, 1) := by decide +kernel
theorem dX4_bestOf_56 : decode cX4_bestOf 56 = .ok (.invokevirtual 180, 3) := by decide +kernel
theorem dX4_bestOf_59 : decode cX4_bestOf 59 = .ok (.istore 5, 2) := by decide +kernel
theorem dX4_bestOf_61 : decode cX4_bestOf 61 = .ok (.aload_n 0, 1) := by decide +kernel
theorem dX4_bestOf_62 : decode cX4_bestOf 62 = .ok (.getfield 7, 3) := by decide +kernel
theorem dX4_bestOf_65 : decode cX4_bestOf 65 = .ok (.bipush 61, 2) := by decide +kernel
theorem dX4_bestOf_67 : decode cX4_bestOf 67 = .ok (.iaload, 1) := by decide +kernel
theorem dX4_bestOf_68 : decode cX4_bestOf 68 = .ok (.iload 5, 2) := by decide +kernel
theorem dX4_bestOf_70 : decode cX4_bestOf 70 = .ok (.iconst (-1), 1) := by decide +kernel
theorem dX4_bestOf_71 : decode cX4_bestOf 71 = .ok (.ixor, 1) := by decide +kernel
theorem dX4_bestOf_72 : decode cX4_bestOf 72 = .ok (.iand, 1) := by decide +kernel
theorem dX4_bestOf_73 : decode cX4_bestOf 73 = .ok (.ifCond .ne 27, 3) := by decide +kernel
theorem dX4_bestOf_76 : decode cX4_bestOf 76 = .ok (.iload 5, 2) := by decide +kernel
theorem dX4_bestOf_78 : decode cX4_bestOf 78 = .ok (.aload_n 0, 1) := by decide +kernel
theorem dX4_bestOf_79 : decode cX4_bestOf 79 = .ok (.getfield 7, 3) := by decide +kernel
theorem dX4_bestOf_82 : decode cX4_bestOf 82 = .ok (.bipush 61, 2) := by decide +kernel
theorem dX4_bestOf_84 : decode cX4_bestOf 84 = .ok (.iaload, 1) := by decide +kernel
theorem dX4_bestOf_85 : decode cX4_bestOf 85 = .ok (.aload_n 0, 1) := by decide +kernel
theorem dX4_bestOf_86 : decode cX4_bestOf 86 = .ok (.getfield 133, 3) := by decide +kernel
theorem dX4_bestOf_89 : decode cX4_bestOf 89 = .ok (.ior, 1) := by decide +kernel
theorem dX4_bestOf_90 : decode cX4_bestOf 90 = .ok (.iconst (-1), 1) := by decide +kernel
theorem dX4_bestOf_91 : decode cX4_bestOf 91 = .ok (.ixor, 1) := by decide +kernel
theorem dX4_bestOf_92 : decode cX4_bestOf 92 = .ok (.iand, 1) := by decide +kernel
theorem dX4_bestOf_93 : decode cX4_bestOf 93 = .ok (.ifCond .ne 7, 3) := by decide +kernel
theorem dX4_bestOf_96 : decode cX4_bestOf 96 = .ok (.iconst 1, 1) := by decide +kernel
theorem dX4_bestOf_97 : decode cX4_bestOf 97 = .ok (.goto 4, 3) := by decide +kernel
theorem dX4_bestOf_100 : decode cX4_bestOf 100 = .ok (.iconst 0, 1) := by decide +kernel
theorem dX4_bestOf_101 : decode cX4_bestOf 101 = .ok (.istore 6, 2) := by decide +kernel
theorem dX4_bestOf_103 : decode cX4_bestOf 103 = .ok (.aload_n 0, 1) := by decide +kernel
theorem dX4_bestOf_104 : decode cX4_bestOf 104 = .ok (.iload_n 1, 1) := by decide +kernel
theorem dX4_bestOf_105 : decode cX4_bestOf 105 = .ok (.invokevirtual 164, 3) := by decide +kernel
theorem dX4_bestOf_108 : decode cX4_bestOf 108 = .ok (.fstore 7, 2) := by decide +kernel
theorem dX4_bestOf_110 : decode cX4_bestOf 110 = .ok (.iload 6, 2) := by decide +kernel
theorem dX4_bestOf_112 : decode cX4_bestOf 112 = .ok (.ifCond .eq 34, 3) := by decide +kernel
theorem dX4_bestOf_115 : decode cX4_bestOf 115 = .ok (.iload_n 2, 1) := by decide +kernel
theorem dX4_bestOf_116 : decode cX4_bestOf 116 = .ok (.iconst (-1), 1) := by decide +kernel
theorem dX4_bestOf_117 : decode cX4_bestOf 117 = .ok (.if_icmp .eq 23, 3) := by decide +kernel
theorem dX4_bestOf_120 : decode cX4_bestOf 120 = .ok (.fload 7, 2) := by decide +kernel
theorem dX4_bestOf_122 : decode cX4_bestOf 122 = .ok (.fload_n 3, 1) := by decide +kernel
theorem dX4_bestOf_123 : decode cX4_bestOf 123 = .ok (.fcmp .l, 1) := by decide +kernel
theorem dX4_bestOf_124 : decode cX4_bestOf 124 = .ok (.ifCond .gt 16, 3) := by decide +kernel
theorem dX4_bestOf_127 : decode cX4_bestOf 127 = .ok (.fload 7, 2) := by decide +kernel
theorem dX4_bestOf_129 : decode cX4_bestOf 129 = .ok (.fload_n 3, 1) := by decide +kernel
theorem dX4_bestOf_130 : decode cX4_bestOf 130 = .ok (.fcmp .l, 1) := by decide +kernel
theorem dX4_bestOf_131 : decode cX4_bestOf 131 = .ok (.ifCond .ne 15, 3) := by decide +kernel
theorem dX4_bestOf_134 : decode cX4_bestOf 134 = .ok (.iload 5, 2) := by decide +kernel
theorem dX4_bestOf_136 : decode cX4_bestOf 136 = .ok (.iload_n 2, 1) := by decide +kernel
theorem dX4_bestOf_137 : decode cX4_bestOf 137 = .ok (.if_icmp .ge 9, 3) := by decide +kernel
theorem dX4_bestOf_140 : decode cX4_bestOf 140 = .ok (.iload 5, 2) := by decide +kernel
theorem dX4_bestOf_142 : decode cX4_bestOf 142 = .ok (.istore_n 2, 1) := by decide +kernel
theorem dX4_bestOf_143 : decode cX4_bestOf 143 = .ok (.fload 7, 2) := by decide +kernel
theorem dX4_bestOf_145 : decode cX4_bestOf 145 = .ok (.fstore_n 3, 1) := by decide +kernel
theorem dX4_bestOf_146 : decode cX4_bestOf 146 = .ok (.aload_n 0, 1) := by decide +kernel
theorem dX4_bestOf_147 : decode cX4_bestOf 147 = .ok (.iload_n 1, 1) := by decide +kernel
theorem dX4_bestOf_148 : decode cX4_bestOf 148 = .ok (.invokevirtual 183, 3) := by decide +kernel
theorem dX4_bestOf_151 : decode cX4_bestOf 151 = .ok (.istore 4, 2) := by decide +kernel
theorem dX4_bestOf_153 : decode cX4_bestOf 153 = .ok (.goto (-104), 3) := by decide +kernel
theorem dX4_bestOf_156 : decode cX4_bestOf 156 = .ok (.iload_n 2, 1) := by decide +kernel
theorem dX4_bestOf_157 : decode cX4_bestOf 157 = .ok (.ireturn, 1) := by decide +kernel
theorem dX4_best_0 : decode cX4_best 0 = .ok (.iload_n 1, 1) := by decide +kernel
theorem dX4_best_1 : decode cX4_best 1 = .ok (.iconst 1, 1) := by decide +kernel
theorem dX4_best_2 : decode cX4_best 2 = .ok (.iconst 4, 1) := by decide +kernel
theorem dX4_best_3 : decode cX4_best 3 = .ok (.invokestatic 49, 3) := by decide +kernel
theorem dX4_best_6 : decode cX4_best 6 = .ok (.ifCond .eq 11, 3) := by decide +kernel
theorem dX4_best_9 : decode cX4_best 9 = .ok (.aload_n 0, 1) := by decide +kernel
theorem dX4_best_10 : decode cX4_best 10 = .ok (.iload_n 1, 1) := by decide +kernel
theorem dX4_best_11 : decode cX4_best 11 = .ok (.invokevirtual 186, 3) := by decide +kernel
theorem dX4_best_14 : decode cX4_best 14 = .ok (.goto 7, 3) := by decide +kernel
theorem dX4_best_17 : decode cX4_best 17 = .ok (.aload_n 0, 1) := by decide +kernel
theorem dX4_best_18 : decode cX4_best 18 = .ok (.invokevirtual 68, 3) := by decide +kernel
theorem dX4_best_21 : decode cX4_best 21 = .ok (.ireturn, 1) := by decide +kernel
theorem dX4_mistaken_0 : decode cX4_mistaken 0 = .ok (.iload_n 1, 1) := by decide +kernel
theorem dX4_mistaken_1 : decode cX4_mistaken 1 = .ok (.invokestatic 84, 3) := by decide +kernel
theorem dX4_mistaken_4 : decode cX4_mistaken 4 = .ok (.ifCond .eq 14, 3) := by decide +kernel
theorem dX4_mistaken_7 : decode cX4_mistaken 7 = .ok (.iload_n 2, 1) := by decide +kernel
theorem dX4_mistaken_8 : decode cX4_mistaken 8 = .ok (.iconst 0, 1) := by decide +kernel
theorem dX4_mistaken_9 : decode cX4_mistaken 9 = .ok (.sipush 9999, 3) := by decide +kernel
theorem dX4_mistaken_12 : decode cX4_mistaken 12 = .ok (.invokestatic 49, 3) := by decide +kernel
theorem dX4_mistaken_15 : decode cX4_mistaken 15 = .ok (.ifCond .ne 8, 3) := by decide +kernel
theorem dX4_mistaken_18 : decode cX4_mistaken 18 = .ok (.aload_n 0, 1) := by decide +kernel
theorem dX4_mistaken_19 : decode cX4_mistaken 19 = .ok (.invokevirtual 68, 3) := by decide +kernel
theorem dX4_mistaken_22 : decode cX4_mistaken 22 = .ok (.ireturn, 1) := by decide +kernel
theorem dX4_mistaken_23 : decode cX4_mistaken 23 = .ok (.iconst 0, 1) := by decide +kernel
theorem dX4_mistaken_24 : decode cX4_mistaken 24 = .ok (.istore_n 3, 1) := by decide +kernel
theorem dX4_mistaken_25 : decode cX4_mistaken 25 = .ok (.iconst 0, 1) := by decide +kernel
theorem dX4_mistaken_26 : decode cX4_mistaken 26 = .ok (.istore 4, 2) := by decide +kernel
theorem dX4_mistaken_28 : decode cX4_mistaken 28 = .ok (.iload 4, 2) := by decide +kernel
theorem dX4_mistaken_30 : decode cX4_mistaken 30 = .ok (.aload_n 0, 1) := by decide +kernel
theorem dX4_mistaken_31 : decode cX4_mistaken 31 = .ok (.getfield 7, 3) := by decide +kernel
theorem dX4_mistaken_34 : decode cX4_mistaken 34 = .ok (.bipush 120, 2) := by decide +kernel
theorem dX4_mistaken_36 : decode cX4_mistaken 36 = .ok (.iaload, 1) := by decide +kernel
theorem dX4_mistaken_37 : decode cX4_mistaken 37 = .ok (.if_icmp .ge 72, 3) := by decide +kernel
theorem dX4_mistaken_40 : decode cX4_mistaken 40 = .ok (.iload 4, 2) := by decide +kernel
theorem dX4_mistaken_42 : decode cX4_mistaken 42 = .ok (.iconst 1, 1) := by decide +kernel
theorem dX4_mistaken_43 : decode cX4_mistaken 43 = .ok (.iadd, 1) := by decide +kernel
theorem dX4_mistaken_44 : decode cX4_mistaken 44 = .ok (.istore 5, 2) := by decide +kernel
theorem dX4_mistaken_46 : decode cX4_mistaken 46 = .ok (.iload 5, 2) := by decide +kernel
theorem dX4_mistaken_48 : decode cX4_mistaken 48 = .ok (.aload_n 0, 1) := by decide +kernel
theorem dX4_mistaken_49 : decode cX4_mistaken 49 = .ok (.getfield 7, 3) := by decide +kernel
theorem dX4_mistaken_52 : decode cX4_mistaken 52 = .ok (.bipush 120, 2) := by decide +kernel
theorem dX4_mistaken_54 : decode cX4_mistaken 54 = .ok (.iaload, 1) := by decide +kernel
theorem dX4_mistaken_55 : decode cX4_mistaken 55 = .ok (.if_icmp .ge 48, 3) := by decide +kernel
theorem dX4_mistaken_58 : decode cX4_mistaken 58 = .ok (.iload_n 3, 1) := by decide +kernel
theorem dX4_mistaken_59 : decode cX4_mistaken 59 = .ok (.aload_n 0, 1) := by decide +kernel
theorem dX4_mistaken_60 : decode cX4_mistaken 60 = .ok (.iload_n 1, 1) := by decide +kernel
theorem dX4_mistaken_61 : decode cX4_mistaken 61 = .ok (.aload_n 0, 1) := by decide +kernel
theorem dX4_mistaken_62 : decode cX4_mistaken 62 = .ok (.getfield 7, 3) := by decide +kernel
theorem dX4_mistaken_65 : decode cX4_mistaken 65 = .ok (.bipush 121, 2) := by decide +kernel
theorem dX4_mistaken_67 : decode cX4_mistaken 67 = .ok (.iload 4, 2) := by decide +kernel
theorem dX4_mistaken_69 : decode cX4_mistaken 69 = .ok (.iadd, 1) := by decide +kernel
theorem dX4_mistaken_70 : decode cX4_mistaken 70 = .ok (.iaload, 1) := by decide +kernel
theorem dX4_mistaken_71 : decode cX4_mistaken 71 = .ok (.aload_n 0, 1) := by decide +kernel
theorem dX4_mistaken_72 : decode cX4_mistaken 72 = .ok (.getfield 7, 3) := by decide +kernel
theorem dX4_mistaken_75 : decode cX4_mistaken 75 = .ok (.bipush 121, 2) := by decide +kernel
theorem dX4_mistaken_77 : decode cX4_mistaken 77 = .ok (.iload 5, 2) := by decide +kernel
theorem dX4_mistaken_79 : decode cX4_mistaken 79 = .ok (.iadd, 1) := by decide +kernel
theorem dX4_mistaken_80 : decode cX4_mistaken 80 = .ok (.iaload, 1) := by decide +kernel
theorem dX4_mistaken_81 : decode cX4_mistaken 81 = .ok (.invokevirtual 126, 3) := by decide +kernel
theorem dX4_mistaken_84 : decode cX4_mistaken 84 = .ok (.iload_n 2, 1) := by decide +kernel
theorem dX4_mistaken_85 : decode cX4_mistaken 85 = .ok (.i2f, 1) := by decide +kernel
theorem dX4_mistaken_86 : decode cX4_mistaken 86 = .ok (.fcmp .g, 1) := by decide +kernel
theorem dX4_mistaken_87 : decode cX4_mistaken 87 = .ok (.ifCond .ge 7, 3) := by decide +kernel
theorem dX4_mistaken_90 : decode cX4_mistaken 90 = .ok (.iconst 1, 1) := by decide +kernel
theorem dX4_mistaken_91 : decode cX4_mistaken 91 = .ok (.goto 4, 3) := by decide +kernel
theorem dX4_mistaken_94 : decode cX4_mistaken 94 = .ok (.iconst 0, 1) := by decide +kernel
theorem dX4_mistaken_95 : decode cX4_mistaken 95 = .ok (.iadd, 1) := by decide +kernel
theorem dX4_mistaken_96 : decode cX4_mistaken 96 = .ok (.istore_n 3, 1) := by decide +kernel
theorem dX4_mistaken_97 : decode cX4_mistaken 97 = .ok (.iinc 5 1, 3) := by decide +kernel
theorem dX4_mistaken_100 : decode cX4_mistaken 100 = .ok (.goto (-54), 3) := by decide +kernel
theorem dX4_mistaken_103 : decode cX4_mistaken 103 = .ok (.iinc 4 1, 3) := by decide +kernel
theorem dX4_mistaken_106 : decode cX4_mistaken 106 = .ok (.goto (-78), 3) := by decide +kernel
theorem dX4_mistaken_109 : decode cX4_mistaken 109 = .ok (.iload_n 3, 1) := by decide +kernel
theorem dX4_mistaken_110 : decode cX4_mistaken 110 = .ok (.ireturn, 1) := by decide +kernel
theorem dX4_countsSet_0 : decode cX4_countsSet 0 = .ok (.iconst 0, 1) := by decide +kernel
theorem dX4_countsSet_1 : decode cX4_countsSet 1 = .ok (.istore_n 1, 1) := by decide +kernel
theorem dX4_countsSet_2 : decode cX4_countsSet 2 = .ok (.iconst 0, 1) := by decide +kernel
theorem dX4_countsSet_3 : decode cX4_countsSet 3 = .ok (.istore_n 2, 1) := by decide +kernel
theorem dX4_countsSet_4 : decode cX4_countsSet 4 = .ok (.iload_n 2, 1) := by decide +kernel
theorem dX4_countsSet_5 : decode cX4_countsSet 5 = .ok (.iconst 4, 1) := by decide +kernel
theorem dX4_countsSet_6 : decode cX4_countsSet 6 = .ok (.if_icmp .ge 29, 3) := by decide +kernel
theorem dX4_countsSet_9 : decode cX4_countsSet 9 = .ok (.iload_n 1, 1) := by decide +kernel
theorem dX4_countsSet_10 : decode cX4_countsSet 10 = .ok (.aload_n 0, 1) := by decide +kernel
theorem dX4_countsSet_11 : decode cX4_countsSet 11 = .ok (.getfield 7, 3) := by decide +kernel
theorem dX4_countsSet_14 : decode cX4_countsSet 14 = .ok (.bipush 62, 2) := by decide +kernel
theorem dX4_countsSet_16 : decode cX4_countsSet 16 = .ok (.bipush 13, 2) := by decide +kernel
theorem dX4_countsSet_18 : decode cX4_countsSet 18 = .ok (.iload_n 2, 1) := by decide +kernel
theorem dX4_countsSet_19 : decode cX4_countsSet 19 = .ok (.imul, 1) := by decide +kernel
theorem dX4_countsSet_20 : decode cX4_countsSet 20 = .ok (.iadd, 1) := by decide +kernel
theorem dX4_countsSet_21 : decode cX4_countsSet 21 = .ok (.bipush 12, 2) := by decide +kernel
theorem dX4_countsSet_23 : decode cX4_countsSet 23 = .ok (.iadd, 1) := by decide +kernel
theorem dX4_countsSet_24 : decode cX4_countsSet 24 = .ok (.iaload, 1) := by decide +kernel
theorem dX4_countsSet_25 : decode cX4_countsSet 25 = .ok (.iload_n 2, 1) := by decide +kernel
theorem dX4_countsSet_26 : decode cX4_countsSet 26 = .ok (.ishl, 1) := by decide +kernel
theorem dX4_countsSet_27 : decode cX4_countsSet 27 = .ok (.ior, 1) := by decide +kernel
theorem dX4_countsSet_28 : decode cX4_countsSet 28 = .ok (.istore_n 1, 1) := by decide +kernel
theorem dX4_countsSet_29 : decode cX4_countsSet 29 = .ok (.iinc 2 1, 3) := by decide +kernel
theorem dX4_countsSet_32 : decode cX4_countsSet 32 = .ok (.goto (-28), 3) := by decide +kernel
theorem dX4_countsSet_35 : decode cX4_countsSet 35 = .ok (.iload_n 1, 1) := by decide +kernel
theorem dX4_countsSet_36 : decode cX4_countsSet 36 = .ok (.ireturn, 1) := by decide +kernel
theorem dX4_fittingMany_0 : decode cX4_fittingMany 0 = .ok (.iconst 0, 1) := by decide +kernel
theorem dX4_fittingMany_1 : decode cX4_fittingMany 1 = .ok (.istore_n 1, 1) := by decide +kernel
theorem dX4_fittingMany_2 : decode cX4_fittingMany 2 = .ok (.iconst 0, 1) := by decide +kernel
theorem dX4_fittingMany_3 : decode cX4_fittingMany 3 = .ok (.istore_n 2, 1) := by decide +kernel
theorem dX4_fittingMany_4 : decode cX4_fittingMany 4 = .ok (.iload_n 2, 1) := by decide +kernel
theorem dX4_fittingMany_5 : decode cX4_fittingMany 5 = .ok (.aload_n 0, 1) := by decide +kernel
theorem dX4_fittingMany_6 : decode cX4_fittingMany 6 = .ok (.getfield 7, 3) := by decide +kernel
theorem dX4_fittingMany_9 : decode cX4_fittingMany 9 = .ok (.iconst 0, 1) := by decide +kernel
theorem dX4_fittingMany_10 : decode cX4_fittingMany 10 = .ok (.iaload, 1) := by decide +kernel
theorem dX4_fittingMany_11 : decode cX4_fittingMany 11 = .ok (.if_icmp .ge 25, 3) := by decide +kernel
theorem dX4_fittingMany_14 : decode cX4_fittingMany 14 = .ok (.iload_n 1, 1) := by decide +kernel
theorem dX4_fittingMany_15 : decode cX4_fittingMany 15 = .ok (.aload_n 0, 1) := by decide +kernel
theorem dX4_fittingMany_16 : decode cX4_fittingMany 16 = .ok (.iload_n 2, 1) := by decide +kernel
theorem dX4_fittingMany_17 : decode cX4_fittingMany 17 = .ok (.invokevirtual 108, 3) := by decide +kernel
theorem dX4_fittingMany_20 : decode cX4_fittingMany 20 = .ok (.ifCond .eq 7, 3) := by decide +kernel
theorem dX4_fittingMany_23 : decode cX4_fittingMany 23 = .ok (.iconst 1, 1) := by decide +kernel
theorem dX4_fittingMany_24 : decode cX4_fittingMany 24 = .ok (.goto 4, 3) := by decide +kernel
theorem dX4_fittingMany_27 : decode cX4_fittingMany 27 = .ok (.iconst 0, 1) := by decide +kernel
theorem dX4_fittingMany_28 : decode cX4_fittingMany 28 = .ok (.iadd, 1) := by decide +kernel
theorem dX4_fittingMany_29 : decode cX4_fittingMany 29 = .ok (.istore_n 1, 1) := by decide +kernel
theorem dX4_fittingMany_30 : decode cX4_fittingMany 30 = .ok (.iinc 2 1, 3) := by decide +kernel
theorem dX4_fittingMany_33 : decode cX4_fittingMany 33 = .ok (.goto (-29), 3) := by decide +kernel
theorem dX4_fittingMany_36 : decode cX4_fittingMany 36 = .ok (.iload_n 1, 1) := by decide +kernel
theorem dX4_fittingMany_37 : decode cX4_fittingMany 37 = .ok (.ireturn, 1) := by decide +kernel
theorem dX4_countOf_0 : decode cX4_countOf 0 = .ok (.iload_n 1, 1) := by decide +kernel
theorem dX4_countOf_1 : decode cX4_countOf 1 = .ok (.tableswitch 68 0 4 #[35, 42, 47, 55, 63], 35) := by decide +kernel
theorem dX4_countOf_36 : decode cX4_countOf 36 = .ok (.aload_n 0, 1) := by decide +kernel
theorem dX4_countOf_37 : decode cX4_countOf 37 = .ok (.getfield 7, 3) := by decide +kernel
theorem dX4_countOf_40 : decode cX4_countOf 40 = .ok (.iconst 0, 1) := by decide +kernel
theorem dX4_countOf_41 : decode cX4_countOf 41 = .ok (.iaload, 1) := by decide +kernel
theorem dX4_countOf_42 : decode cX4_countOf 42 = .ok (.ireturn, 1) := by decide +kernel
theorem dX4_countOf_43 : decode cX4_countOf 43 = .ok (.aload_n 0, 1) := by decide +kernel
theorem dX4_countOf_44 : decode cX4_countOf 44 = .ok (.invokevirtual 189, 3) := by decide +kernel
theorem dX4_countOf_47 : decode cX4_countOf 47 = .ok (.ireturn, 1) := by decide +kernel
theorem dX4_countOf_48 : decode cX4_countOf 48 = .ok (.aload_n 0, 1) := by decide +kernel
theorem dX4_countOf_49 : decode cX4_countOf 49 = .ok (.getfield 7, 3) := by decide +kernel
theorem dX4_countOf_52 : decode cX4_countOf 52 = .ok (.bipush 61, 2) := by decide +kernel
theorem dX4_countOf_54 : decode cX4_countOf 54 = .ok (.iaload, 1) := by decide +kernel
theorem dX4_countOf_55 : decode cX4_countOf 55 = .ok (.ireturn, 1) := by decide +kernel
theorem dX4_countOf_56 : decode cX4_countOf 56 = .ok (.aload_n 0, 1) := by decide +kernel
theorem dX4_countOf_57 : decode cX4_countOf 57 = .ok (.getfield 7, 3) := by decide +kernel
theorem dX4_countOf_60 : decode cX4_countOf 60 = .ok (.bipush 120, 2) := by decide +kernel
theorem dX4_countOf_62 : decode cX4_countOf 62 = .ok (.iaload, 1) := by decide +kernel
theorem dX4_countOf_63 : decode cX4_countOf 63 = .ok (.ireturn, 1) := by decide +kernel
theorem dX4_countOf_64 : decode cX4_countOf 64 = .ok (.aload_n 0, 1) := by decide +kernel
theorem dX4_countOf_65 : decode cX4_countOf 65 = .ok (.invokevirtual 192, 3) := by decide +kernel
theorem dX4_countOf_68 : decode cX4_countOf 68 = .ok (.ireturn, 1) := by decide +kernel
theorem dX4_countOf_69 : decode cX4_countOf 69 = .ok (.aload_n 0, 1) := by decide +kernel
theorem dX4_countOf_70 : decode cX4_countOf 70 = .ok (.getfield 7, 3) := by decide +kernel
theorem dX4_countOf_73 : decode cX4_countOf 73 = .ok (.bipush 117, 2) := by decide +kernel
theorem dX4_countOf_75 : decode cX4_countOf 75 = .ok (.iload_n 1, 1) := by decide +kernel
theorem dX4_countOf_76 : decode cX4_countOf 76 = .ok (.iadd, 1) := by decide +kernel
theorem dX4_countOf_77 : decode cX4_countOf 77 = .ok (.iconst 5, 1) := by decide +kernel
theorem dX4_countOf_78 : decode cX4_countOf 78 = .ok (.isub, 1) := by decide +kernel
theorem dX4_countOf_79 : decode cX4_countOf 79 = .ok (.iaload, 1) := by decide +kernel
theorem dX4_countOf_80 : decode cX4_countOf 80 = .ok (.ireturn, 1) := by decide +kernel
theorem dX4_count_0 : decode cX4_count 0 = .ok (.iload_n 1, 1) := by decide +kernel
theorem dX4_count_1 : decode cX4_count 1 = .ok (.iconst 0, 1) := by decide +kernel
theorem dX4_count_2 : decode cX4_count 2 = .ok (.bipush 7, 2) := by decide +kernel
theorem dX4_count_4 : decode cX4_count 4 = .ok (.invokestatic 49, 3) := by decide +kernel
theorem dX4_count_7 : decode cX4_count 7 = .ok (.ifCond .eq 11, 3) := by decide +kernel
theorem dX4_count_10 : decode cX4_count 10 = .ok (.aload_n 0, 1) := by decide +kernel
theorem dX4_count_11 : decode cX4_count 11 = .ok (.iload_n 1, 1) := by decide +kernel
theorem dX4_count_12 : decode cX4_count 12 = .ok (.invokevirtual 195, 3) := by decide +kernel
theorem dX4_count_15 : decode cX4_count 15 = .ok (.goto 7, 3) := by decide +kernel
theorem dX4_count_18 : decode cX4_count 18 = .ok (.aload_n 0, 1) := by decide +kernel
theorem dX4_count_19 : decode cX4_count 19 = .ok (.invokevirtual 68, 3) := by decide +kernel
theorem dX4_count_22 : decode cX4_count 22 = .ok (.ireturn, 1) := by decide +kernel
theorem dX4_type_0 : decode cX4_type 0 = .ok (.iload_n 1, 1) := by decide +kernel
theorem dX4_type_1 : decode cX4_type 1 = .ok (.iconst 0, 1) := by decide +kernel
theorem dX4_type_2 : decode cX4_type 2 = .ok (.bipush 127, 2) := by decide +kernel
theorem dX4_type_4 : decode cX4_type 4 = .ok (.invokestatic 49, 3) := by decide +kernel
theorem dX4_type_7 : decode cX4_type 7 = .ok (.ifCond .ne 8, 3) := by decide +kernel
theorem dX4_type_10 : decode cX4_type 10 = .ok (.aload_n 0, 1) := by decide +kernel
theorem dX4_type_11 : decode cX4_type 11 = .ok (.invokevirtual 68, 3) := by decide +kernel
theorem dX4_type_14 : decode cX4_type 14 = .ok (.ireturn, 1) := by decide +kernel
theorem dX4_type_15 : decode cX4_type 15 = .ok (.aload_n 0, 1) := by decide +kernel
theorem dX4_type_16 : decode cX4_type 16 = .ok (.getfield 198, 3) := by decide +kernel
theorem dX4_type_19 : decode cX4_type 19 = .ok (.bipush 120, 2) := by decide +kernel
theorem dX4_type_21 : decode cX4_type 21 = .ok (.if_icmp .ne 8, 3) := by decide +kernel
theorem dX4_type_24 : decode cX4_type 24 = .ok (.aload_n 0, 1) := by decide +kernel
theorem dX4_type_25 : decode cX4_type 25 = .ok (.invokevirtual 71, 3) := by decide +kernel
theorem dX4_type_28 : decode cX4_type 28 = .ok (.ireturn, 1) := by decide +kernel
theorem dX4_type_29 : decode cX4_type 29 = .ok (.aload_n 0, 1) := by decide +kernel
theorem dX4_type_30 : decode cX4_type 30 = .ok (.getfield 22, 3) := by decide +kernel
theorem dX4_type_33 : decode cX4_type 33 = .ok (.aload_n 0, 1) := by decide +kernel
theorem dX4_type_34 : decode cX4_type 34 = .ok (.getfield 198, 3) := by decide +kernel
theorem dX4_type_37 : decode cX4_type 37 = .ok (.iload_n 1, 1) := by decide +kernel
theorem dX4_type_38 : decode cX4_type 38 = .ok (.iastore, 1) := by decide +kernel
theorem dX4_type_39 : decode cX4_type 39 = .ok (.aload_n 0, 1) := by decide +kernel
theorem dX4_type_40 : decode cX4_type 40 = .ok (.dup, 1) := by decide +kernel
theorem dX4_type_41 : decode cX4_type 41 = .ok (.getfield 198, 3) := by decide +kernel
theorem dX4_type_44 : decode cX4_type 44 = .ok (.iconst 1, 1) := by decide +kernel
theorem dX4_type_45 : decode cX4_type 45 = .ok (.iadd, 1) := by decide +kernel
theorem dX4_type_46 : decode cX4_type 46 = .ok (.putfield 198, 3) := by decide +kernel
theorem dX4_type_49 : decode cX4_type 49 = .ok (.aload_n 0, 1) := by decide +kernel
theorem dX4_type_50 : decode cX4_type 50 = .ok (.getfield 198, 3) := by decide +kernel
theorem dX4_type_53 : decode cX4_type 53 = .ok (.ireturn, 1) := by decide +kernel
theorem dX4_clear_0 : decode cX4_clear 0 = .ok (.aload_n 0, 1) := by decide +kernel
theorem dX4_clear_1 : decode cX4_clear 1 = .ok (.getfield 198, 3) := by decide +kernel
theorem dX4_clear_4 : decode cX4_clear 4 = .ok (.istore_n 1, 1) := by decide +kernel
theorem dX4_clear_5 : decode cX4_clear 5 = .ok (.aload_n 0, 1) := by decide +kernel
theorem dX4_clear_6 : decode cX4_clear 6 = .ok (.iconst 0, 1) := by decide +kernel
theorem dX4_clear_7 : decode cX4_clear 7 = .ok (.putfield 198, 3) := by decide +kernel
theorem dX4_clear_10 : decode cX4_clear 10 = .ok (.iload_n 1, 1) := by decide +kernel
theorem dX4_clear_11 : decode cX4_clear 11 = .ok (.ireturn, 1) := by decide +kernel
theorem dX4_isAt_0 : decode cX4_isAt 0 = .ok (.aload_n 0, 1) := by decide +kernel
theorem dX4_isAt_1 : decode cX4_isAt 1 = .ok (.getfield 201, 3) := by decide +kernel
theorem dX4_isAt_4 : decode cX4_isAt 4 = .ok (.aload_n 0, 1) := by decide +kernel
theorem dX4_isAt_5 : decode cX4_isAt 5 = .ok (.getfield 198, 3) := by decide +kernel
theorem dX4_isAt_8 : decode cX4_isAt 8 = .ok (.if_icmp .ge 24, 3) := by decide +kernel
theorem dX4_isAt_11 : decode cX4_isAt 11 = .ok (.aload_n 0, 1) := by decide +kernel
theorem dX4_isAt_12 : decode cX4_isAt 12 = .ok (.getfield 22, 3) := by decide +kernel
theorem dX4_isAt_15 : decode cX4_isAt 15 = .ok (.aload_n 0, 1) := by decide +kernel
theorem dX4_isAt_16 : decode cX4_isAt 16 = .ok (.getfield 201, 3) := by decide +kernel
theorem dX4_isAt_19 : decode cX4_isAt 19 = .ok (.iaload, 1) := by decide +kernel
theorem dX4_isAt_20 : decode cX4_isAt 20 = .ok (.iload_n 1, 1) := by decide +kernel
theorem dX4_isAt_21 : decode cX4_isAt 21 = .ok (.iload_n 2, 1) := by decide +kernel
theorem dX4_isAt_22 : decode cX4_isAt 22 = .ok (.invokestatic 49, 3) := by decide +kernel
theorem dX4_isAt_25 : decode cX4_isAt 25 = .ok (.ifCond .eq 7, 3) := by decide +kernel
theorem dX4_isAt_28 : decode cX4_isAt 28 = .ok (.iconst 1, 1) := by decide +kernel
theorem dX4_isAt_29 : decode cX4_isAt 29 = .ok (.goto 4, 3) := by decide +kernel
theorem dX4_isAt_32 : decode cX4_isAt 32 = .ok (.iconst 0, 1) := by decide +kernel
theorem dX4_isAt_33 : decode cX4_isAt 33 = .ok (.ireturn, 1) := by decide +kernel
theorem dX4_blanks_0 : decode cX4_blanks 0 = .ok (.aload_n 0, 1) := by decide +kernel
theorem dX4_blanks_1 : decode cX4_blanks 1 = .ok (.bipush 32, 2) := by decide +kernel
theorem dX4_blanks_3 : decode cX4_blanks 3 = .ok (.bipush 32, 2) := by decide +kernel
theorem dX4_blanks_5 : decode cX4_blanks 5 = .ok (.invokevirtual 204, 3) := by decide +kernel
theorem dX4_blanks_8 : decode cX4_blanks 8 = .ok (.ifCond .eq 16, 3) := by decide +kernel
theorem dX4_blanks_11 : decode cX4_blanks 11 = .ok (.aload_n 0, 1) := by decide +kernel
theorem dX4_blanks_12 : decode cX4_blanks 12 = .ok (.dup, 1) := by decide +kernel
theorem dX4_blanks_13 : decode cX4_blanks 13 = .ok (.getfield 201, 3) := by decide +kernel
theorem dX4_blanks_16 : decode cX4_blanks 16 = .ok (.iconst 1, 1) := by decide +kernel
theorem dX4_blanks_17 : decode cX4_blanks 17 = .ok (.iadd, 1) := by decide +kernel
theorem dX4_blanks_18 : decode cX4_blanks 18 = .ok (.putfield 201, 3) := by decide +kernel
theorem dX4_blanks_21 : decode cX4_blanks 21 = .ok (.goto (-21), 3) := by decide +kernel
theorem dX4_blanks_24 : decode cX4_blanks 24 = .ok (.return_, 1) := by decide +kernel
theorem dX4_fails_0 : decode cX4_fails 0 = .ok (.aload_n 0, 1) := by decide +kernel
theorem dX4_fails_1 : decode cX4_fails 1 = .ok (.iload_n 1, 1) := by decide +kernel
theorem dX4_fails_2 : decode cX4_fails 2 = .ok (.putfield 207, 3) := by decide +kernel
theorem dX4_fails_5 : decode cX4_fails 5 = .ok (.iconst 0, 1) := by decide +kernel
theorem dX4_fails_6 : decode cX4_fails 6 = .ok (.ireturn, 1) := by decide +kernel
theorem dX4_takesSix_0 : decode cX4_takesSix 0 = .ok (.aload_n 0, 1) := by decide +kernel
theorem dX4_takesSix_1 : decode cX4_takesSix 1 = .ok (.invokevirtual 210, 3) := by decide +kernel
theorem dX4_takesSix_4 : decode cX4_takesSix 4 = .ok (.iconst 0, 1) := by decide +kernel
theorem dX4_takesSix_5 : decode cX4_takesSix 5 = .ok (.istore_n 2, 1) := by decide +kernel
theorem dX4_takesSix_6 : decode cX4_takesSix 6 = .ok (.iconst 0, 1) := by decide +kernel
theorem dX4_takesSix_7 : decode cX4_takesSix 7 = .ok (.istore_n 3, 1) := by decide +kernel
theorem dX4_takesSix_8 : decode cX4_takesSix 8 = .ok (.iload_n 3, 1) := by decide +kernel
theorem dX4_takesSix_9 : decode cX4_takesSix 9 = .ok (.bipush 6, 2) := by decide +kernel
theorem dX4_takesSix_11 : decode cX4_takesSix 11 = .ok (.if_icmp .ge 82, 3) := by decide +kernel
theorem dX4_takesSix_14 : decode cX4_takesSix 14 = .ok (.aload_n 0, 1) := by decide +kernel
theorem dX4_takesSix_15 : decode cX4_takesSix 15 = .ok (.bipush 48, 2) := by decide +kernel
theorem dX4_takesSix_17 : decode cX4_takesSix 17 = .ok (.bipush 57, 2) := by decide +kernel
theorem dX4_takesSix_19 : decode cX4_takesSix 19 = .ok (.invokevirtual 204, 3) := by decide +kernel
theorem dX4_takesSix_22 : decode cX4_takesSix 22 = .ok (.istore 4, 2) := by decide +kernel
theorem dX4_takesSix_24 : decode cX4_takesSix 24 = .ok (.iload 4, 2) := by decide +kernel
theorem dX4_takesSix_26 : decode cX4_takesSix 26 = .ok (.ifCond .ne 23, 3) := by decide +kernel
theorem dX4_takesSix_29 : decode cX4_takesSix 29 = .ok (.aload_n 0, 1) := by decide +kernel
theorem dX4_takesSix_30 : decode cX4_takesSix 30 = .ok (.bipush 97, 2) := by decide +kernel
theorem dX4_takesSix_32 : decode cX4_takesSix 32 = .ok (.bipush 102, 2) := by decide +kernel
theorem dX4_takesSix_34 : decode cX4_takesSix 34 = .ok (.invokevirtual 204, 3) := by decide +kernel
theorem dX4_takesSix_37 : decode cX4_takesSix 37 = .ok (.ifCond .ne 12, 3) := by decide +kernel
theorem dX4_takesSix_40 : decode cX4_takesSix 40 = .ok (.aload_n 0, 1) := by decide +kernel
theorem dX4_takesSix_41 : decode cX4_takesSix 41 = .ok (.aload_n 0, 1) := by decide +kernel
theorem dX4_takesSix_42 : decode cX4_takesSix 42 = .ok (.getfield 201, 3) := by decide +kernel
theorem dX4_takesSix_45 : decode cX4_takesSix 45 = .ok (.invokevirtual 213, 3) := by decide +kernel
theorem dX4_takesSix_48 : decode cX4_takesSix 48 = .ok (.ireturn, 1) := by decide +kernel
theorem dX4_takesSix_49 : decode cX4_takesSix 49 = .ok (.bipush 16, 2) := by decide +kernel
theorem dX4_takesSix_51 : decode cX4_takesSix 51 = .ok (.iload_n 2, 1) := by decide +kernel
theorem dX4_takesSix_52 : decode cX4_takesSix 52 = .ok (.imul, 1) := by decide +kernel
theorem dX4_takesSix_53 : decode cX4_takesSix 53 = .ok (.aload_n 0, 1) := by decide +kernel
theorem dX4_takesSix_54 : decode cX4_takesSix 54 = .ok (.getfield 22, 3) := by decide +kernel
theorem dX4_takesSix_57 : decode cX4_takesSix 57 = .ok (.aload_n 0, 1) := by decide +kernel
theorem dX4_takesSix_58 : decode cX4_takesSix 58 = .ok (.getfield 201, 3) := by decide +kernel
theorem dX4_takesSix_61 : decode cX4_takesSix 61 = .ok (.iaload, 1) := by decide +kernel
theorem dX4_takesSix_62 : decode cX4_takesSix 62 = .ok (.iadd, 1) := by decide +kernel
theorem dX4_takesSix_63 : decode cX4_takesSix 63 = .ok (.iload 4, 2) := by decide +kernel
theorem dX4_takesSix_65 : decode cX4_takesSix 65 = .ok (.ifCond .eq 8, 3) := by decide +kernel
theorem dX4_takesSix_68 : decode cX4_takesSix 68 = .ok (.bipush 48, 2) := by decide +kernel
theorem dX4_takesSix_70 : decode cX4_takesSix 70 = .ok (.goto 5, 3) := by decide +kernel
theorem dX4_takesSix_73 : decode cX4_takesSix 73 = .ok (.bipush 87, 2) := by decide +kernel
theorem dX4_takesSix_75 : decode cX4_takesSix 75 = .ok (.isub, 1) := by decide +kernel
theorem dX4_takesSix_76 : decode cX4_takesSix 76 = .ok (.istore_n 2, 1) := by decide +kernel
theorem dX4_takesSix_77 : decode cX4_takesSix 77 = .ok (.aload_n 0, 1) := by decide +kernel
theorem dX4_takesSix_78 : decode cX4_takesSix 78 = .ok (.dup, 1) := by decide +kernel
theorem dX4_takesSix_79 : decode cX4_takesSix 79 = .ok (.getfield 201, 3) := by decide +kernel
theorem dX4_takesSix_82 : decode cX4_takesSix 82 = .ok (.iconst 1, 1) := by decide +kernel
theorem dX4_takesSix_83 : decode cX4_takesSix 83 = .ok (.iadd, 1) := by decide +kernel
theorem dX4_takesSix_84 : decode cX4_takesSix 84 = .ok (.putfield 201, 3) := by decide +kernel
theorem dX4_takesSix_87 : decode cX4_takesSix 87 = .ok (.iinc 3 1, 3) := by decide +kernel
theorem dX4_takesSix_90 : decode cX4_takesSix 90 = .ok (.goto (-82), 3) := by decide +kernel
theorem dX4_takesSix_93 : decode cX4_takesSix 93 = .ok (.aload_n 0, 1) := by decide +kernel
theorem dX4_takesSix_94 : decode cX4_takesSix 94 = .ok (.getfield 35, 3) := by decide +kernel
theorem dX4_takesSix_97 : decode cX4_takesSix 97 = .ok (.iload_n 1, 1) := by decide +kernel
theorem dX4_takesSix_98 : decode cX4_takesSix 98 = .ok (.iload_n 2, 1) := by decide +kernel
theorem dX4_takesSix_99 : decode cX4_takesSix 99 = .ok (.iastore, 1) := by decide +kernel
theorem dX4_takesSix_100 : decode cX4_takesSix 100 = .ok (.iconst 1, 1) := by decide +kernel
theorem dX4_takesSix_101 : decode cX4_takesSix 101 = .ok (.ireturn, 1) := by decide +kernel
theorem dX4_takesNumber_0 : decode cX4_takesNumber 0 = .ok (.aload_n 0, 1) := by decide +kernel
theorem dX4_takesNumber_1 : decode cX4_takesNumber 1 = .ok (.invokevirtual 210, 3) := by decide +kernel
theorem dX4_takesNumber_4 : decode cX4_takesNumber 4 = .ok (.aload_n 0, 1) := by decide +kernel
theorem dX4_takesNumber_5 : decode cX4_takesNumber 5 = .ok (.getfield 201, 3) := by decide +kernel
theorem dX4_takesNumber_8 : decode cX4_takesNumber 8 = .ok (.istore_n 2, 1) := by decide +kernel
theorem dX4_takesNumber_9 : decode cX4_takesNumber 9 = .ok (.iconst 0, 1) := by decide +kernel
theorem dX4_takesNumber_10 : decode cX4_takesNumber 10 = .ok (.istore_n 3, 1) := by decide +kernel
theorem dX4_takesNumber_11 : decode cX4_takesNumber 11 = .ok (.aload_n 0, 1) := by decide +kernel
theorem dX4_takesNumber_12 : decode cX4_takesNumber 12 = .ok (.bipush 48, 2) := by decide +kernel
theorem dX4_takesNumber_14 : decode cX4_takesNumber 14 = .ok (.bipush 57, 2) := by decide +kernel
theorem dX4_takesNumber_16 : decode cX4_takesNumber 16 = .ok (.invokevirtual 204, 3) := by decide +kernel
theorem dX4_takesNumber_19 : decode cX4_takesNumber 19 = .ok (.ifCond .eq 53, 3) := by decide +kernel
theorem dX4_takesNumber_22 : decode cX4_takesNumber 22 = .ok (.aload_n 0, 1) := by decide +kernel
theorem dX4_takesNumber_23 : decode cX4_takesNumber 23 = .ok (.getfield 201, 3) := by decide +kernel
theorem dX4_takesNumber_26 : decode cX4_takesNumber 26 = .ok (.iload_n 2, 1) := by decide +kernel
theorem dX4_takesNumber_27 : decode cX4_takesNumber 27 = .ok (.iconst 3, 1) := by decide +kernel
theorem dX4_takesNumber_28 : decode cX4_takesNumber 28 = .ok (.iadd, 1) := by decide +kernel
theorem dX4_takesNumber_29 : decode cX4_takesNumber 29 = .ok (.if_icmp .ne 12, 3) := by decide +kernel
theorem dX4_takesNumber_32 : decode cX4_takesNumber 32 = .ok (.aload_n 0, 1) := by decide +kernel
theorem dX4_takesNumber_33 : decode cX4_takesNumber 33 = .ok (.aload_n 0, 1) := by decide +kernel
theorem dX4_takesNumber_34 : decode cX4_takesNumber 34 = .ok (.getfield 201, 3) := by decide +kernel
theorem dX4_takesNumber_37 : decode cX4_takesNumber 37 = .ok (.invokevirtual 213, 3) := by decide +kernel
theorem dX4_takesNumber_40 : decode cX4_takesNumber 40 = .ok (.ireturn, 1) := by decide +kernel
theorem dX4_takesNumber_41 : decode cX4_takesNumber 41 = .ok (.bipush 10, 2) := by decide +kernel
theorem dX4_takesNumber_43 : decode cX4_takesNumber 43 = .ok (.iload_n 3, 1) := by decide +kernel
theorem dX4_takesNumber_44 : decode cX4_takesNumber 44 = .ok (.imul, 1) := by decide +kernel
theorem dX4_takesNumber_45 : decode cX4_takesNumber 45 = .ok (.aload_n 0, 1) := by decide +kernel
theorem dX4_takesNumber_46 : decode cX4_takesNumber 46 = .ok (.getfield 22, 3) := by decide +kernel
theorem dX4_takesNumber_49 : decode cX4_takesNumber 49 = .ok (.aload_n 0, 1) := by decide +kernel
theorem dX4_takesNumber_50 : decode cX4_takesNumber 50 = .ok (.getfield 201, 3) := by decide +kernel
theorem dX4_takesNumber_53 : decode cX4_takesNumber 53 = .ok (.iaload, 1) := by decide +kernel
theorem dX4_takesNumber_54 : decode cX4_takesNumber 54 = .ok (.iadd, 1) := by decide +kernel
theorem dX4_takesNumber_55 : decode cX4_takesNumber 55 = .ok (.bipush 48, 2) := by decide +kernel
theorem dX4_takesNumber_57 : decode cX4_takesNumber 57 = .ok (.isub, 1) := by decide +kernel
theorem dX4_takesNumber_58 : decode cX4_takesNumber 58 = .ok (.istore_n 3, 1) := by decide +kernel
theorem dX4_takesNumber_59 : decode cX4_takesNumber 59 = .ok (.aload_n 0, 1) := by decide +kernel
theorem dX4_takesNumber_60 : decode cX4_takesNumber 60 = .ok (.dup, 1) := by decide +kernel
theorem dX4_takesNumber_61 : decode cX4_takesNumber 61 = .ok (.getfield 201, 3) := by decide +kernel
theorem dX4_takesNumber_64 : decode cX4_takesNumber 64 = .ok (.iconst 1, 1) := by decide +kernel
theorem dX4_takesNumber_65 : decode cX4_takesNumber 65 = .ok (.iadd, 1) := by decide +kernel
theorem dX4_takesNumber_66 : decode cX4_takesNumber 66 = .ok (.putfield 201, 3) := by decide +kernel
theorem dX4_takesNumber_69 : decode cX4_takesNumber 69 = .ok (.goto (-58), 3) := by decide +kernel
theorem dX4_takesNumber_72 : decode cX4_takesNumber 72 = .ok (.aload_n 0, 1) := by decide +kernel
theorem dX4_takesNumber_73 : decode cX4_takesNumber 73 = .ok (.getfield 35, 3) := by decide +kernel
theorem dX4_takesNumber_76 : decode cX4_takesNumber 76 = .ok (.iload_n 1, 1) := by decide +kernel
theorem dX4_takesNumber_77 : decode cX4_takesNumber 77 = .ok (.iload_n 3, 1) := by decide +kernel
theorem dX4_takesNumber_78 : decode cX4_takesNumber 78 = .ok (.iastore, 1) := by decide +kernel
theorem dX4_takesNumber_79 : decode cX4_takesNumber 79 = .ok (.aload_n 0, 1) := by decide +kernel
theorem dX4_takesNumber_80 : decode cX4_takesNumber 80 = .ok (.getfield 201, 3) := by decide +kernel
theorem dX4_takesNumber_83 : decode cX4_takesNumber 83 = .ok (.iload_n 2, 1) := by decide +kernel
theorem dX4_takesNumber_84 : decode cX4_takesNumber 84 = .ok (.if_icmp .gt 14, 3) := by decide +kernel
theorem dX4_takesNumber_87 : decode cX4_takesNumber 87 = .ok (.aload_n 0, 1) := by decide +kernel
theorem dX4_takesNumber_88 : decode cX4_takesNumber 88 = .ok (.aload_n 0, 1) := by decide +kernel
theorem dX4_takesNumber_89 : decode cX4_takesNumber 89 = .ok (.getfield 201, 3) := by decide +kernel
theorem dX4_takesNumber_92 : decode cX4_takesNumber 92 = .ok (.invokevirtual 213, 3) := by decide +kernel
theorem dX4_takesNumber_95 : decode cX4_takesNumber 95 = .ok (.ifCond .eq 7, 3) := by decide +kernel
theorem dX4_takesNumber_98 : decode cX4_takesNumber 98 = .ok (.iconst 1, 1) := by decide +kernel
theorem dX4_takesNumber_99 : decode cX4_takesNumber 99 = .ok (.goto 4, 3) := by decide +kernel
theorem dX4_takesNumber_102 : decode cX4_takesNumber 102 = .ok (.iconst 0, 1) := by decide +kernel
theorem dX4_takesNumber_103 : decode cX4_takesNumber 103 = .ok (.ireturn, 1) := by decide +kernel
theorem dX4_takesNumbers_0 : decode cX4_takesNumbers 0 = .ok (.iconst 2, 1) := by decide +kernel
theorem dX4_takesNumbers_1 : decode cX4_takesNumbers 1 = .ok (.aload_n 0, 1) := by decide +kernel
theorem dX4_takesNumbers_2 : decode cX4_takesNumbers 2 = .ok (.getfield 216, 3) := by decide +kernel
theorem dX4_takesNumbers_5 : decode cX4_takesNumbers 5 = .ok (.imul, 1) := by decide +kernel
theorem dX4_takesNumbers_6 : decode cX4_takesNumbers 6 = .ok (.istore_n 2, 1) := by decide +kernel
theorem dX4_takesNumbers_7 : decode cX4_takesNumbers 7 = .ok (.iload_n 1, 1) := by decide +kernel
theorem dX4_takesNumbers_8 : decode cX4_takesNumbers 8 = .ok (.lookupswitch 80 #[(99, 44), (102, 56), (108, 56), (112, 50)], 44) := by decide +kernel
theorem dX4_takesNumbers_52 : decode cX4_takesNumbers 52 = .ok (.aload_n 0, 1) := by decide +kernel
theorem dX4_takesNumbers_53 : decode cX4_takesNumbers 53 = .ok (.iload_n 2, 1) := by decide +kernel
theorem dX4_takesNumbers_54 : decode cX4_takesNumbers 54 = .ok (.invokevirtual 219, 3) := by decide +kernel
theorem dX4_takesNumbers_57 : decode cX4_takesNumbers 57 = .ok (.ireturn, 1) := by decide +kernel
theorem dX4_takesNumbers_58 : decode cX4_takesNumbers 58 = .ok (.aload_n 0, 1) := by decide +kernel
theorem dX4_takesNumbers_59 : decode cX4_takesNumbers 59 = .ok (.iload_n 2, 1) := by decide +kernel
theorem dX4_takesNumbers_60 : decode cX4_takesNumbers 60 = .ok (.invokevirtual 222, 3) := by decide +kernel
theorem dX4_takesNumbers_63 : decode cX4_takesNumbers 63 = .ok (.ireturn, 1) := by decide +kernel
theorem dX4_takesNumbers_64 : decode cX4_takesNumbers 64 = .ok (.aload_n 0, 1) := by decide +kernel
theorem dX4_takesNumbers_65 : decode cX4_takesNumbers 65 = .ok (.iload_n 2, 1) := by decide +kernel
theorem dX4_takesNumbers_66 : decode cX4_takesNumbers 66 = .ok (.invokevirtual 222, 3) := by decide +kernel
theorem dX4_takesNumbers_69 : decode cX4_takesNumbers 69 = .ok (.ifCond .eq 17, 3) := by decide +kernel
theorem dX4_takesNumbers_72 : decode cX4_takesNumbers 72 = .ok (.aload_n 0, 1) := by decide +kernel
theorem dX4_takesNumbers_73 : decode cX4_takesNumbers 73 = .ok (.iload_n 2, 1) := by decide +kernel
theorem dX4_takesNumbers_74 : decode cX4_takesNumbers 74 = .ok (.iconst 1, 1) := by decide +kernel
theorem dX4_takesNumbers_75 : decode cX4_takesNumbers 75 = .ok (.iadd, 1) := by decide +kernel
theorem dX4_takesNumbers_76 : decode cX4_takesNumbers 76 = .ok (.invokevirtual 222, 3) := by decide +kernel
theorem dX4_takesNumbers_79 : decode cX4_takesNumbers 79 = .ok (.ifCond .eq 7, 3) := by decide +kernel
theorem dX4_takesNumbers_82 : decode cX4_takesNumbers 82 = .ok (.iconst 1, 1) := by decide +kernel
theorem dX4_takesNumbers_83 : decode cX4_takesNumbers 83 = .ok (.goto 4, 3) := by decide +kernel
theorem dX4_takesNumbers_86 : decode cX4_takesNumbers 86 = .ok (.iconst 0, 1) := by decide +kernel
theorem dX4_takesNumbers_87 : decode cX4_takesNumbers 87 = .ok (.ireturn, 1) := by decide +kernel
theorem dX4_takesNumbers_88 : decode cX4_takesNumbers 88 = .ok (.iconst 1, 1) := by decide +kernel
theorem dX4_takesNumbers_89 : decode cX4_takesNumbers 89 = .ok (.ireturn, 1) := by decide +kernel
theorem dX4_takesOrder_0 : decode cX4_takesOrder 0 = .ok (.aload_n 0, 1) := by decide +kernel
theorem dX4_takesOrder_1 : decode cX4_takesOrder 1 = .ok (.getfield 22, 3) := by decide +kernel
theorem dX4_takesOrder_4 : decode cX4_takesOrder 4 = .ok (.aload_n 0, 1) := by decide +kernel
theorem dX4_takesOrder_5 : decode cX4_takesOrder 5 = .ok (.getfield 201, 3) := by decide +kernel
theorem dX4_takesOrder_8 : decode cX4_takesOrder 8 = .ok (.iaload, 1) := by decide +kernel
theorem dX4_takesOrder_9 : decode cX4_takesOrder 9 = .ok (.istore_n 1, 1) := by decide +kernel
theorem dX4_takesOrder_10 : decode cX4_takesOrder 10 = .ok (.iload_n 1, 1) := by decide +kernel
theorem dX4_takesOrder_11 : decode cX4_takesOrder 11 = .ok (.bipush 99, 2) := by decide +kernel
theorem dX4_takesOrder_13 : decode cX4_takesOrder 13 = .ok (.if_icmp .eq 36, 3) := by decide +kernel
theorem dX4_takesOrder_16 : decode cX4_takesOrder 16 = .ok (.iload_n 1, 1) := by decide +kernel
theorem dX4_takesOrder_17 : decode cX4_takesOrder 17 = .ok (.bipush 102, 2) := by decide +kernel
theorem dX4_takesOrder_19 : decode cX4_takesOrder 19 = .ok (.if_icmp .eq 30, 3) := by decide +kernel
theorem dX4_takesOrder_22 : decode cX4_takesOrder 22 = .ok (.iload_n 1, 1) := by decide +kernel
theorem dX4_takesOrder_23 : decode cX4_takesOrder 23 = .ok (.bipush 108, 2) := by decide +kernel
theorem dX4_takesOrder_25 : decode cX4_takesOrder 25 = .ok (.if_icmp .eq 24, 3) := by decide +kernel
theorem dX4_takesOrder_28 : decode cX4_takesOrder 28 = .ok (.iload_n 1, 1) := by decide +kernel
theorem dX4_takesOrder_29 : decode cX4_takesOrder 29 = .ok (.bipush 112, 2) := by decide +kernel
theorem dX4_takesOrder_31 : decode cX4_takesOrder 31 = .ok (.if_icmp .eq 18, 3) := by decide +kernel
theorem dX4_takesOrder_34 : decode cX4_takesOrder 34 = .ok (.iload_n 1, 1) := by decide +kernel
theorem dX4_takesOrder_35 : decode cX4_takesOrder 35 = .ok (.bipush 115, 2) := by decide +kernel
theorem dX4_takesOrder_37 : decode cX4_takesOrder 37 = .ok (.if_icmp .eq 12, 3) := by decide +kernel
theorem dX4_takesOrder_40 : decode cX4_takesOrder 40 = .ok (.aload_n 0, 1) := by decide +kernel
theorem dX4_takesOrder_41 : decode cX4_takesOrder 41 = .ok (.aload_n 0, 1) := by decide +kernel
theorem dX4_takesOrder_42 : decode cX4_takesOrder 42 = .ok (.getfield 201, 3) := by decide +kernel
theorem dX4_takesOrder_45 : decode cX4_takesOrder 45 = .ok (.invokevirtual 213, 3) := by decide +kernel
theorem dX4_takesOrder_48 : decode cX4_takesOrder 48 = .ok (.ireturn, 1) := by decide +kernel
theorem dX4_takesOrder_49 : decode cX4_takesOrder 49 = .ok (.aload_n 0, 1) := by decide +kernel
theorem dX4_takesOrder_50 : decode cX4_takesOrder 50 = .ok (.getfield 32, 3) := by decide +kernel
theorem dX4_takesOrder_53 : decode cX4_takesOrder 53 = .ok (.aload_n 0, 1) := by decide +kernel
theorem dX4_takesOrder_54 : decode cX4_takesOrder 54 = .ok (.getfield 216, 3) := by decide +kernel
theorem dX4_takesOrder_57 : decode cX4_takesOrder 57 = .ok (.iload_n 1, 1) := by decide +kernel
theorem dX4_takesOrder_58 : decode cX4_takesOrder 58 = .ok (.iastore, 1) := by decide +kernel
theorem dX4_takesOrder_59 : decode cX4_takesOrder 59 = .ok (.aload_n 0, 1) := by decide +kernel
theorem dX4_takesOrder_60 : decode cX4_takesOrder 60 = .ok (.dup, 1) := by decide +kernel
theorem dX4_takesOrder_61 : decode cX4_takesOrder 61 = .ok (.getfield 201, 3) := by decide +kernel
theorem dX4_takesOrder_64 : decode cX4_takesOrder 64 = .ok (.iconst 1, 1) := by decide +kernel
theorem dX4_takesOrder_65 : decode cX4_takesOrder 65 = .ok (.iadd, 1) := by decide +kernel
theorem dX4_takesOrder_66 : decode cX4_takesOrder 66 = .ok (.putfield 201, 3) := by decide +kernel
theorem dX4_takesOrder_69 : decode cX4_takesOrder 69 = .ok (.aload_n 0, 1) := by decide +kernel
theorem dX4_takesOrder_70 : decode cX4_takesOrder 70 = .ok (.iload_n 1, 1) := by decide +kernel
theorem dX4_takesOrder_71 : decode cX4_takesOrder 71 = .ok (.invokevirtual 225, 3) := by decide +kernel
theorem dX4_takesOrder_74 : decode cX4_takesOrder 74 = .ok (.ifCond .ne 5, 3) := by decide +kernel
theorem dX4_takesOrder_77 : decode cX4_takesOrder 77 = .ok (.iconst 0, 1) := by decide +kernel
theorem dX4_takesOrder_78 : decode cX4_takesOrder 78 = .ok (.ireturn, 1) := by decide +kernel
theorem dX4_takesOrder_79 : decode cX4_takesOrder 79 = .ok (.aload_n 0, 1) := by decide +kernel
theorem dX4_takesOrder_80 : decode cX4_takesOrder 80 = .ok (.invokevirtual 210, 3) := by decide +kernel
theorem dX4_takesOrder_83 : decode cX4_takesOrder 83 = .ok (.aload_n 0, 1) := by decide +kernel
theorem dX4_takesOrder_84 : decode cX4_takesOrder 84 = .ok (.bipush 59, 2) := by decide +kernel
theorem dX4_takesOrder_86 : decode cX4_takesOrder 86 = .ok (.bipush 59, 2) := by decide +kernel
theorem dX4_takesOrder_88 : decode cX4_takesOrder 88 = .ok (.invokevirtual 204, 3) := by decide +kernel
theorem dX4_takesOrder_91 : decode cX4_takesOrder 91 = .ok (.ifCond .ne 12, 3) := by decide +kernel
theorem dX4_takesOrder_94 : decode cX4_takesOrder 94 = .ok (.aload_n 0, 1) := by decide +kernel
theorem dX4_takesOrder_95 : decode cX4_takesOrder 95 = .ok (.aload_n 0, 1) := by decide +kernel
theorem dX4_takesOrder_96 : decode cX4_takesOrder 96 = .ok (.getfield 201, 3) := by decide +kernel
theorem dX4_takesOrder_99 : decode cX4_takesOrder 99 = .ok (.invokevirtual 213, 3) := by decide +kernel
theorem dX4_takesOrder_102 : decode cX4_takesOrder 102 = .ok (.ireturn, 1) := by decide +kernel
theorem dX4_takesOrder_103 : decode cX4_takesOrder 103 = .ok (.aload_n 0, 1) := by decide +kernel
theorem dX4_takesOrder_104 : decode cX4_takesOrder 104 = .ok (.dup, 1) := by decide +kernel
theorem dX4_takesOrder_105 : decode cX4_takesOrder 105 = .ok (.getfield 201, 3) := by decide +kernel
theorem dX4_takesOrder_108 : decode cX4_takesOrder 108 = .ok (.iconst 1, 1) := by decide +kernel
theorem dX4_takesOrder_109 : decode cX4_takesOrder 109 = .ok (.iadd, 1) := by decide +kernel
theorem dX4_takesOrder_110 : decode cX4_takesOrder 110 = .ok (.putfield 201, 3) := by decide +kernel
theorem dX4_takesOrder_113 : decode cX4_takesOrder 113 = .ok (.aload_n 0, 1) := by decide +kernel
theorem dX4_takesOrder_114 : decode cX4_takesOrder 114 = .ok (.dup, 1) := by decide +kernel
theorem dX4_takesOrder_115 : decode cX4_takesOrder 115 = .ok (.getfield 216, 3) := by decide +kernel
theorem dX4_takesOrder_118 : decode cX4_takesOrder 118 = .ok (.iconst 1, 1) := by decide +kernel
theorem dX4_takesOrder_119 : decode cX4_takesOrder 119 = .ok (.iadd, 1) := by decide +kernel
theorem dX4_takesOrder_120 : decode cX4_takesOrder 120 = .ok (.putfield 216, 3) := by decide +kernel
theorem dX4_takesOrder_123 : decode cX4_takesOrder 123 = .ok (.iconst 1, 1) := by decide +kernel
theorem dX4_takesOrder_124 : decode cX4_takesOrder 124 = .ok (.ireturn, 1) := by decide +kernel
theorem dX4_isRead_0 : decode cX4_isRead 0 = .ok (.aload_n 0, 1) := by decide +kernel
theorem dX4_isRead_1 : decode cX4_isRead 1 = .ok (.iconst 0, 1) := by decide +kernel
theorem dX4_isRead_2 : decode cX4_isRead 2 = .ok (.putfield 201, 3) := by decide +kernel
theorem dX4_isRead_5 : decode cX4_isRead 5 = .ok (.aload_n 0, 1) := by decide +kernel
theorem dX4_isRead_6 : decode cX4_isRead 6 = .ok (.iconst 0, 1) := by decide +kernel
theorem dX4_isRead_7 : decode cX4_isRead 7 = .ok (.putfield 216, 3) := by decide +kernel
theorem dX4_isRead_10 : decode cX4_isRead 10 = .ok (.aload_n 0, 1) := by decide +kernel
theorem dX4_isRead_11 : decode cX4_isRead 11 = .ok (.invokevirtual 210, 3) := by decide +kernel
theorem dX4_isRead_14 : decode cX4_isRead 14 = .ok (.aload_n 0, 1) := by decide +kernel
theorem dX4_isRead_15 : decode cX4_isRead 15 = .ok (.getfield 201, 3) := by decide +kernel
theorem dX4_isRead_18 : decode cX4_isRead 18 = .ok (.aload_n 0, 1) := by decide +kernel
theorem dX4_isRead_19 : decode cX4_isRead 19 = .ok (.getfield 198, 3) := by decide +kernel
theorem dX4_isRead_22 : decode cX4_isRead 22 = .ok (.if_icmp .ge 19, 3) := by decide +kernel
theorem dX4_isRead_25 : decode cX4_isRead 25 = .ok (.aload_n 0, 1) := by decide +kernel
theorem dX4_isRead_26 : decode cX4_isRead 26 = .ok (.invokevirtual 228, 3) := by decide +kernel
theorem dX4_isRead_29 : decode cX4_isRead 29 = .ok (.ifCond .ne 5, 3) := by decide +kernel
theorem dX4_isRead_32 : decode cX4_isRead 32 = .ok (.iconst 0, 1) := by decide +kernel
theorem dX4_isRead_33 : decode cX4_isRead 33 = .ok (.ireturn, 1) := by decide +kernel
theorem dX4_isRead_34 : decode cX4_isRead 34 = .ok (.aload_n 0, 1) := by decide +kernel
theorem dX4_isRead_35 : decode cX4_isRead 35 = .ok (.invokevirtual 210, 3) := by decide +kernel
theorem dX4_isRead_38 : decode cX4_isRead 38 = .ok (.goto (-24), 3) := by decide +kernel
theorem dX4_isRead_41 : decode cX4_isRead 41 = .ok (.aload_n 0, 1) := by decide +kernel
theorem dX4_isRead_42 : decode cX4_isRead 42 = .ok (.getfield 216, 3) := by decide +kernel
theorem dX4_isRead_45 : decode cX4_isRead 45 = .ok (.ifCond .gt 14, 3) := by decide +kernel
theorem dX4_isRead_48 : decode cX4_isRead 48 = .ok (.aload_n 0, 1) := by decide +kernel
theorem dX4_isRead_49 : decode cX4_isRead 49 = .ok (.aload_n 0, 1) := by decide +kernel
theorem dX4_isRead_50 : decode cX4_isRead 50 = .ok (.getfield 198, 3) := by decide +kernel
theorem dX4_isRead_53 : decode cX4_isRead 53 = .ok (.invokevirtual 213, 3) := by decide +kernel
theorem dX4_isRead_56 : decode cX4_isRead 56 = .ok (.ifCond .eq 7, 3) := by decide +kernel
theorem dX4_isRead_59 : decode cX4_isRead 59 = .ok (.iconst 1, 1) := by decide +kernel
theorem dX4_isRead_60 : decode cX4_isRead 60 = .ok (.goto 4, 3) := by decide +kernel
theorem dX4_isRead_63 : decode cX4_isRead 63 = .ok (.iconst 0, 1) := by decide +kernel
theorem dX4_isRead_64 : decode cX4_isRead 64 = .ok (.ireturn, 1) := by decide +kernel
theorem dX4_comesTold_0 : decode cX4_comesTold 0 = .ok (.aload_n 0, 1) := by decide +kernel
theorem dX4_comesTold_1 : decode cX4_comesTold 1 = .ok (.getfield 7, 3) := by decide +kernel
theorem dX4_comesTold_4 : decode cX4_comesTold 4 = .ok (.iconst 0, 1) := by decide +kernel
theorem dX4_comesTold_5 : decode cX4_comesTold 5 = .ok (.iaload, 1) := by decide +kernel
theorem dX4_comesTold_6 : decode cX4_comesTold 6 = .ok (.bipush 20, 2) := by decide +kernel
theorem dX4_comesTold_8 : decode cX4_comesTold 8 = .ok (.if_icmp .ge 31, 3) := by decide +kernel
theorem dX4_comesTold_11 : decode cX4_comesTold 11 = .ok (.aload_n 0, 1) := by decide +kernel
theorem dX4_comesTold_12 : decode cX4_comesTold 12 = .ok (.iload_n 1, 1) := by decide +kernel
theorem dX4_comesTold_13 : decode cX4_comesTold 13 = .ok (.bipush 16, 2) := by decide +kernel
theorem dX4_comesTold_15 : decode cX4_comesTold 15 = .ok (.ishr, 1) := by decide +kernel
theorem dX4_comesTold_16 : decode cX4_comesTold 16 = .ok (.iload_n 1, 1) := by decide +kernel
theorem dX4_comesTold_17 : decode cX4_comesTold 17 = .ok (.bipush 8, 2) := by decide +kernel
theorem dX4_comesTold_19 : decode cX4_comesTold 19 = .ok (.ishr, 1) := by decide +kernel
theorem dX4_comesTold_20 : decode cX4_comesTold 20 = .ok (.sipush 255, 3) := by decide +kernel
theorem dX4_comesTold_23 : decode cX4_comesTold 23 = .ok (.iand, 1) := by decide +kernel
theorem dX4_comesTold_24 : decode cX4_comesTold 24 = .ok (.iload_n 1, 1) := by decide +kernel
theorem dX4_comesTold_25 : decode cX4_comesTold 25 = .ok (.sipush 255, 3) := by decide +kernel
theorem dX4_comesTold_28 : decode cX4_comesTold 28 = .ok (.iand, 1) := by decide +kernel
theorem dX4_comesTold_29 : decode cX4_comesTold 29 = .ok (.invokevirtual 77, 3) := by decide +kernel
theorem dX4_comesTold_32 : decode cX4_comesTold 32 = .ok (.ifCond .lt 7, 3) := by decide +kernel
theorem dX4_comesTold_35 : decode cX4_comesTold 35 = .ok (.iconst 1, 1) := by decide +kernel
theorem dX4_comesTold_36 : decode cX4_comesTold 36 = .ok (.goto 4, 3) := by decide +kernel
theorem dX4_comesTold_39 : decode cX4_comesTold 39 = .ok (.iconst 0, 1) := by decide +kernel
theorem dX4_comesTold_40 : decode cX4_comesTold 40 = .ok (.ireturn, 1) := by decide +kernel
theorem dX4_limits_0 : decode cX4_limits 0 = .ok (.iload_n 1, 1) := by decide +kernel
theorem dX4_limits_1 : decode cX4_limits 1 = .ok (.invokestatic 53, 3) := by decide +kernel
theorem dX4_limits_4 : decode cX4_limits 4 = .ok (.ifCond .eq 10, 3) := by decide +kernel
theorem dX4_limits_7 : decode cX4_limits 7 = .ok (.iload_n 2, 1) := by decide +kernel
theorem dX4_limits_8 : decode cX4_limits 8 = .ok (.invokestatic 53, 3) := by decide +kernel
theorem dX4_limits_11 : decode cX4_limits 11 = .ok (.ifCond .ne 5, 3) := by decide +kernel
theorem dX4_limits_14 : decode cX4_limits 14 = .ok (.iconst 0, 1) := by decide +kernel
theorem dX4_limits_15 : decode cX4_limits 15 = .ok (.ireturn, 1) := by decide +kernel
theorem dX4_limits_16 : decode cX4_limits 16 = .ok (.aload_n 0, 1) := by decide +kernel
theorem dX4_limits_17 : decode cX4_limits 17 = .ok (.getfield 7, 3) := by decide +kernel
theorem dX4_limits_20 : decode cX4_limits 20 = .ok (.bipush 114, 2) := by decide +kernel
theorem dX4_limits_22 : decode cX4_limits 22 = .ok (.iload_n 1, 1) := by decide +kernel
theorem dX4_limits_23 : decode cX4_limits 23 = .ok (.iastore, 1) := by decide +kernel
theorem dX4_limits_24 : decode cX4_limits 24 = .ok (.aload_n 0, 1) := by decide +kernel
theorem dX4_limits_25 : decode cX4_limits 25 = .ok (.getfield 7, 3) := by decide +kernel
theorem dX4_limits_28 : decode cX4_limits 28 = .ok (.bipush 115, 2) := by decide +kernel
theorem dX4_limits_30 : decode cX4_limits 30 = .ok (.iload_n 2, 1) := by decide +kernel
theorem dX4_limits_31 : decode cX4_limits 31 = .ok (.iastore, 1) := by decide +kernel
theorem dX4_limits_32 : decode cX4_limits 32 = .ok (.iconst 1, 1) := by decide +kernel
theorem dX4_limits_33 : decode cX4_limits 33 = .ok (.ireturn, 1) := by decide +kernel
theorem dX4_obeys_0 : decode cX4_obeys 0 = .ok (.aload_n 0, 1) := by decide +kernel
theorem dX4_obeys_1 : decode cX4_obeys 1 = .ok (.getfield 35, 3) := by decide +kernel
theorem dX4_obeys_4 : decode cX4_obeys 4 = .ok (.iconst 2, 1) := by decide +kernel
theorem dX4_obeys_5 : decode cX4_obeys 5 = .ok (.iload_n 1, 1) := by decide +kernel
theorem dX4_obeys_6 : decode cX4_obeys 6 = .ok (.imul, 1) := by decide +kernel
theorem dX4_obeys_7 : decode cX4_obeys 7 = .ok (.iaload, 1) := by decide +kernel
theorem dX4_obeys_8 : decode cX4_obeys 8 = .ok (.istore_n 2, 1) := by decide +kernel
theorem dX4_obeys_9 : decode cX4_obeys 9 = .ok (.aload_n 0, 1) := by decide +kernel
theorem dX4_obeys_10 : decode cX4_obeys 10 = .ok (.getfield 32, 3) := by decide +kernel
theorem dX4_obeys_13 : decode cX4_obeys 13 = .ok (.iload_n 1, 1) := by decide +kernel
theorem dX4_obeys_14 : decode cX4_obeys 14 = .ok (.iaload, 1) := by decide +kernel
theorem dX4_obeys_15 : decode cX4_obeys 15 = .ok (.lookupswitch 145 #[(99, 41), (102, 47), (108, 97), (112, 113)], 41) := by decide +kernel
theorem dX4_obeys_56 : decode cX4_obeys 56 = .ok (.aload_n 0, 1) := by decide +kernel
theorem dX4_obeys_57 : decode cX4_obeys 57 = .ok (.iload_n 2, 1) := by decide +kernel
theorem dX4_obeys_58 : decode cX4_obeys 58 = .ok (.invokevirtual 231, 3) := by decide +kernel
theorem dX4_obeys_61 : decode cX4_obeys 61 = .ok (.ireturn, 1) := by decide +kernel
theorem dX4_obeys_62 : decode cX4_obeys 62 = .ok (.aload_n 0, 1) := by decide +kernel
theorem dX4_obeys_63 : decode cX4_obeys 63 = .ok (.iload_n 2, 1) := by decide +kernel
theorem dX4_obeys_64 : decode cX4_obeys 64 = .ok (.invokevirtual 81, 3) := by decide +kernel
theorem dX4_obeys_67 : decode cX4_obeys 67 = .ok (.ifCond .eq 43, 3) := by decide +kernel
theorem dX4_obeys_70 : decode cX4_obeys 70 = .ok (.aload_n 0, 1) := by decide +kernel
theorem dX4_obeys_71 : decode cX4_obeys 71 = .ok (.getfield 35, 3) := by decide +kernel
theorem dX4_obeys_74 : decode cX4_obeys 74 = .ok (.iconst 2, 1) := by decide +kernel
theorem dX4_obeys_75 : decode cX4_obeys 75 = .ok (.iload_n 1, 1) := by decide +kernel
theorem dX4_obeys_76 : decode cX4_obeys 76 = .ok (.imul, 1) := by decide +kernel
theorem dX4_obeys_77 : decode cX4_obeys 77 = .ok (.iconst 1, 1) := by decide +kernel
theorem dX4_obeys_78 : decode cX4_obeys 78 = .ok (.iadd, 1) := by decide +kernel
theorem dX4_obeys_79 : decode cX4_obeys 79 = .ok (.iaload, 1) := by decide +kernel
theorem dX4_obeys_80 : decode cX4_obeys 80 = .ok (.iconst 0, 1) := by decide +kernel
theorem dX4_obeys_81 : decode cX4_obeys 81 = .ok (.iconst 1, 1) := by decide +kernel
theorem dX4_obeys_82 : decode cX4_obeys 82 = .ok (.invokestatic 49, 3) := by decide +kernel
theorem dX4_obeys_85 : decode cX4_obeys 85 = .ok (.ifCond .eq 25, 3) := by decide +kernel
theorem dX4_obeys_88 : decode cX4_obeys 88 = .ok (.aload_n 0, 1) := by decide +kernel
theorem dX4_obeys_89 : decode cX4_obeys 89 = .ok (.iload_n 2, 1) := by decide +kernel
theorem dX4_obeys_90 : decode cX4_obeys 90 = .ok (.aload_n 0, 1) := by decide +kernel
theorem dX4_obeys_91 : decode cX4_obeys 91 = .ok (.getfield 35, 3) := by decide +kernel
theorem dX4_obeys_94 : decode cX4_obeys 94 = .ok (.iconst 2, 1) := by decide +kernel
theorem dX4_obeys_95 : decode cX4_obeys 95 = .ok (.iload_n 1, 1) := by decide +kernel
theorem dX4_obeys_96 : decode cX4_obeys 96 = .ok (.imul, 1) := by decide +kernel
theorem dX4_obeys_97 : decode cX4_obeys 97 = .ok (.iconst 1, 1) := by decide +kernel
theorem dX4_obeys_98 : decode cX4_obeys 98 = .ok (.iadd, 1) := by decide +kernel
theorem dX4_obeys_99 : decode cX4_obeys 99 = .ok (.iaload, 1) := by decide +kernel
theorem dX4_obeys_100 : decode cX4_obeys 100 = .ok (.invokevirtual 98, 3) := by decide +kernel
theorem dX4_obeys_103 : decode cX4_obeys 103 = .ok (.ifCond .lt 7, 3) := by decide +kernel
theorem dX4_obeys_106 : decode cX4_obeys 106 = .ok (.iconst 1, 1) := by decide +kernel
theorem dX4_obeys_107 : decode cX4_obeys 107 = .ok (.goto 4, 3) := by decide +kernel
theorem dX4_obeys_110 : decode cX4_obeys 110 = .ok (.iconst 0, 1) := by decide +kernel
theorem dX4_obeys_111 : decode cX4_obeys 111 = .ok (.ireturn, 1) := by decide +kernel
theorem dX4_obeys_112 : decode cX4_obeys 112 = .ok (.aload_n 0, 1) := by decide +kernel
theorem dX4_obeys_113 : decode cX4_obeys 113 = .ok (.iload_n 2, 1) := by decide +kernel
theorem dX4_obeys_114 : decode cX4_obeys 114 = .ok (.aload_n 0, 1) := by decide +kernel
theorem dX4_obeys_115 : decode cX4_obeys 115 = .ok (.getfield 35, 3) := by decide +kernel
theorem dX4_obeys_118 : decode cX4_obeys 118 = .ok (.iconst 2, 1) := by decide +kernel
theorem dX4_obeys_119 : decode cX4_obeys 119 = .ok (.iload_n 1, 1) := by decide +kernel
theorem dX4_obeys_120 : decode cX4_obeys 120 = .ok (.imul, 1) := by decide +kernel
theorem dX4_obeys_121 : decode cX4_obeys 121 = .ok (.iconst 1, 1) := by decide +kernel
theorem dX4_obeys_122 : decode cX4_obeys 122 = .ok (.iadd, 1) := by decide +kernel
theorem dX4_obeys_123 : decode cX4_obeys 123 = .ok (.iaload, 1) := by decide +kernel
theorem dX4_obeys_124 : decode cX4_obeys 124 = .ok (.invokevirtual 234, 3) := by decide +kernel
theorem dX4_obeys_127 : decode cX4_obeys 127 = .ok (.ireturn, 1) := by decide +kernel
theorem dX4_obeys_128 : decode cX4_obeys 128 = .ok (.iload_n 2, 1) := by decide +kernel
theorem dX4_obeys_129 : decode cX4_obeys 129 = .ok (.iconst 1, 1) := by decide +kernel
theorem dX4_obeys_130 : decode cX4_obeys 130 = .ok (.bipush 8, 2) := by decide +kernel
theorem dX4_obeys_132 : decode cX4_obeys 132 = .ok (.invokestatic 49, 3) := by decide +kernel
theorem dX4_obeys_135 : decode cX4_obeys 135 = .ok (.ifCond .eq 23, 3) := by decide +kernel
theorem dX4_obeys_138 : decode cX4_obeys 138 = .ok (.aload_n 0, 1) := by decide +kernel
theorem dX4_obeys_139 : decode cX4_obeys 139 = .ok (.iload_n 2, 1) := by decide +kernel
theorem dX4_obeys_140 : decode cX4_obeys 140 = .ok (.invokevirtual 155, 3) := by decide +kernel
theorem dX4_obeys_143 : decode cX4_obeys 143 = .ok (.ifCond .eq 15, 3) := by decide +kernel
theorem dX4_obeys_146 : decode cX4_obeys 146 = .ok (.aload_n 0, 1) := by decide +kernel
theorem dX4_obeys_147 : decode cX4_obeys 147 = .ok (.iload_n 2, 1) := by decide +kernel
theorem dX4_obeys_148 : decode cX4_obeys 148 = .ok (.invokevirtual 158, 3) := by decide +kernel
theorem dX4_obeys_151 : decode cX4_obeys 151 = .ok (.ifCond .lt 7, 3) := by decide +kernel
theorem dX4_obeys_154 : decode cX4_obeys 154 = .ok (.iconst 1, 1) := by decide +kernel
theorem dX4_obeys_155 : decode cX4_obeys 155 = .ok (.goto 4, 3) := by decide +kernel
theorem dX4_obeys_158 : decode cX4_obeys 158 = .ok (.iconst 0, 1) := by decide +kernel
theorem dX4_obeys_159 : decode cX4_obeys 159 = .ok (.ireturn, 1) := by decide +kernel
theorem dX4_obeys_160 : decode cX4_obeys 160 = .ok (.aload_n 0, 1) := by decide +kernel
theorem dX4_obeys_161 : decode cX4_obeys 161 = .ok (.invokevirtual 171, 3) := by decide +kernel
theorem dX4_obeys_164 : decode cX4_obeys 164 = .ok (.ifCond .lt 7, 3) := by decide +kernel
theorem dX4_obeys_167 : decode cX4_obeys 167 = .ok (.iconst 1, 1) := by decide +kernel
theorem dX4_obeys_168 : decode cX4_obeys 168 = .ok (.goto 4, 3) := by decide +kernel
theorem dX4_obeys_171 : decode cX4_obeys 171 = .ok (.iconst 0, 1) := by decide +kernel
theorem dX4_obeys_172 : decode cX4_obeys 172 = .ok (.ireturn, 1) := by decide +kernel
theorem dX4_turns_0 : decode cX4_turns 0 = .ok (.iconst 0, 1) := by decide +kernel
theorem dX4_turns_1 : decode cX4_turns 1 = .ok (.istore_n 1, 1) := by decide +kernel
theorem dX4_turns_2 : decode cX4_turns 2 = .ok (.iload_n 1, 1) := by decide +kernel
theorem dX4_turns_3 : decode cX4_turns 3 = .ok (.sipush 129, 3) := by decide +kernel
theorem dX4_turns_6 : decode cX4_turns 6 = .ok (.if_icmp .ge 35, 3) := by decide +kernel
theorem dX4_turns_9 : decode cX4_turns 9 = .ok (.aload_n 0, 1) := by decide +kernel
theorem dX4_turns_10 : decode cX4_turns 10 = .ok (.getfield 7, 3) := by decide +kernel
theorem dX4_turns_13 : decode cX4_turns 13 = .ok (.iload_n 1, 1) := by decide +kernel
theorem dX4_turns_14 : decode cX4_turns 14 = .ok (.iaload, 1) := by decide +kernel
theorem dX4_turns_15 : decode cX4_turns 15 = .ok (.istore_n 2, 1) := by decide +kernel
theorem dX4_turns_16 : decode cX4_turns 16 = .ok (.aload_n 0, 1) := by decide +kernel
theorem dX4_turns_17 : decode cX4_turns 17 = .ok (.getfield 7, 3) := by decide +kernel
theorem dX4_turns_20 : decode cX4_turns 20 = .ok (.iload_n 1, 1) := by decide +kernel
theorem dX4_turns_21 : decode cX4_turns 21 = .ok (.aload_n 0, 1) := by decide +kernel
theorem dX4_turns_22 : decode cX4_turns 22 = .ok (.getfield 13, 3) := by decide +kernel
theorem dX4_turns_25 : decode cX4_turns 25 = .ok (.iload_n 1, 1) := by decide +kernel
theorem dX4_turns_26 : decode cX4_turns 26 = .ok (.iaload, 1) := by decide +kernel
theorem dX4_turns_27 : decode cX4_turns 27 = .ok (.iastore, 1) := by decide +kernel
theorem dX4_turns_28 : decode cX4_turns 28 = .ok (.aload_n 0, 1) := by decide +kernel
theorem dX4_turns_29 : decode cX4_turns 29 = .ok (.getfield 13, 3) := by decide +kernel
theorem dX4_turns_32 : decode cX4_turns 32 = .ok (.iload_n 1, 1) := by decide +kernel
theorem dX4_turns_33 : decode cX4_turns 33 = .ok (.iload_n 2, 1) := by decide +kernel
theorem dX4_turns_34 : decode cX4_turns 34 = .ok (.iastore, 1) := by decide +kernel
theorem dX4_turns_35 : decode cX4_turns 35 = .ok (.iinc 1 1, 3) := by decide +kernel
theorem dX4_turns_38 : decode cX4_turns 38 = .ok (.goto (-36), 3) := by decide +kernel
theorem dX4_turns_41 : decode cX4_turns 41 = .ok (.return_, 1) := by decide +kernel
theorem dX4_does_0 : decode cX4_does 0 = .ok (.aload_n 0, 1) := by decide +kernel
theorem dX4_does_1 : decode cX4_does 1 = .ok (.invokevirtual 237, 3) := by decide +kernel
theorem dX4_does_4 : decode cX4_does 4 = .ok (.ifCond .ne 11, 3) := by decide +kernel
theorem dX4_does_7 : decode cX4_does 7 = .ok (.bipush (-10), 2) := by decide +kernel
theorem dX4_does_9 : decode cX4_does 9 = .ok (.aload_n 0, 1) := by decide +kernel
theorem dX4_does_10 : decode cX4_does 10 = .ok (.getfield 207, 3) := by decide +kernel
theorem dX4_does_13 : decode cX4_does 13 = .ok (.isub, 1) := by decide +kernel
theorem dX4_does_14 : decode cX4_does 14 = .ok (.ireturn, 1) := by decide +kernel
theorem dX4_does_15 : decode cX4_does 15 = .ok (.iconst 0, 1) := by decide +kernel
theorem dX4_does_16 : decode cX4_does 16 = .ok (.istore_n 1, 1) := by decide +kernel
theorem dX4_does_17 : decode cX4_does 17 = .ok (.iload_n 1, 1) := by decide +kernel
theorem dX4_does_18 : decode cX4_does 18 = .ok (.sipush 129, 3) := by decide +kernel
theorem dX4_does_21 : decode cX4_does 21 = .ok (.if_icmp .ge 21, 3) := by decide +kernel
theorem dX4_does_24 : decode cX4_does 24 = .ok (.aload_n 0, 1) := by decide +kernel
theorem dX4_does_25 : decode cX4_does 25 = .ok (.getfield 13, 3) := by decide +kernel
theorem dX4_does_28 : decode cX4_does 28 = .ok (.iload_n 1, 1) := by decide +kernel
theorem dX4_does_29 : decode cX4_does 29 = .ok (.aload_n 0, 1) := by decide +kernel
theorem dX4_does_30 : decode cX4_does 30 = .ok (.getfield 7, 3) := by decide +kernel
theorem dX4_does_33 : decode cX4_does 33 = .ok (.iload_n 1, 1) := by decide +kernel
theorem dX4_does_34 : decode cX4_does 34 = .ok (.iaload, 1) := by decide +kernel
theorem dX4_does_35 : decode cX4_does 35 = .ok (.iastore, 1) := by decide +kernel
theorem dX4_does_36 : decode cX4_does 36 = .ok (.iinc 1 1, 3) := by decide +kernel
theorem dX4_does_39 : decode cX4_does 39 = .ok (.goto (-22), 3) := by decide +kernel
theorem dX4_does_42 : decode cX4_does 42 = .ok (.iconst 0, 1) := by decide +kernel
theorem dX4_does_43 : decode cX4_does 43 = .ok (.istore_n 1, 1) := by decide +kernel
theorem dX4_does_44 : decode cX4_does 44 = .ok (.iload_n 1, 1) := by decide +kernel
theorem dX4_does_45 : decode cX4_does 45 = .ok (.aload_n 0, 1) := by decide +kernel
theorem dX4_does_46 : decode cX4_does 46 = .ok (.getfield 216, 3) := by decide +kernel
theorem dX4_does_49 : decode cX4_does 49 = .ok (.if_icmp .ge 27, 3) := by decide +kernel
theorem dX4_does_52 : decode cX4_does 52 = .ok (.aload_n 0, 1) := by decide +kernel
theorem dX4_does_53 : decode cX4_does 53 = .ok (.iload_n 1, 1) := by decide +kernel
theorem dX4_does_54 : decode cX4_does 54 = .ok (.invokevirtual 240, 3) := by decide +kernel
theorem dX4_does_57 : decode cX4_does 57 = .ok (.ifCond .ne 13, 3) := by decide +kernel
theorem dX4_does_60 : decode cX4_does 60 = .ok (.aload_n 0, 1) := by decide +kernel
theorem dX4_does_61 : decode cX4_does 61 = .ok (.invokevirtual 243, 3) := by decide +kernel
theorem dX4_does_64 : decode cX4_does 64 = .ok (.sipush (-1000), 3) := by decide +kernel
theorem dX4_does_67 : decode cX4_does 67 = .ok (.iload_n 1, 1) := by decide +kernel
theorem dX4_does_68 : decode cX4_does 68 = .ok (.isub, 1) := by decide +kernel
theorem dX4_does_69 : decode cX4_does 69 = .ok (.ireturn, 1) := by decide +kernel
theorem dX4_does_70 : decode cX4_does 70 = .ok (.iinc 1 1, 3) := by decide +kernel
theorem dX4_does_73 : decode cX4_does 73 = .ok (.goto (-29), 3) := by decide +kernel
theorem dX4_does_76 : decode cX4_does 76 = .ok (.aload_n 0, 1) := by decide +kernel
theorem dX4_does_77 : decode cX4_does 77 = .ok (.invokevirtual 243, 3) := by decide +kernel
theorem dX4_does_80 : decode cX4_does 80 = .ok (.aload_n 0, 1) := by decide +kernel
theorem dX4_does_81 : decode cX4_does 81 = .ok (.invokevirtual 74, 3) := by decide +kernel
theorem dX4_does_84 : decode cX4_does 84 = .ok (.aload_n 0, 1) := by decide +kernel
theorem dX4_does_85 : decode cX4_does 85 = .ok (.invokevirtual 243, 3) := by decide +kernel
theorem dX4_does_88 : decode cX4_does 88 = .ok (.aload_n 0, 1) := by decide +kernel
theorem dX4_does_89 : decode cX4_does 89 = .ok (.getfield 216, 3) := by decide +kernel
theorem dX4_does_92 : decode cX4_does 92 = .ok (.ireturn, 1) := by decide +kernel
theorem dX4_toldOf_0 : decode cX4_toldOf 0 = .ok (.iload_n 1, 1) := by decide +kernel
theorem dX4_toldOf_1 : decode cX4_toldOf 1 = .ok (.iconst 3, 1) := by decide +kernel
theorem dX4_toldOf_2 : decode cX4_toldOf 2 = .ok (.if_icmp .ge 12, 3) := by decide +kernel
theorem dX4_toldOf_5 : decode cX4_toldOf 5 = .ok (.aload_n 0, 1) := by decide +kernel
theorem dX4_toldOf_6 : decode cX4_toldOf 6 = .ok (.getfield 19, 3) := by decide +kernel
theorem dX4_toldOf_9 : decode cX4_toldOf 9 = .ok (.iload_n 1, 1) := by decide +kernel
theorem dX4_toldOf_10 : decode cX4_toldOf 10 = .ok (.iaload, 1) := by decide +kernel
theorem dX4_toldOf_11 : decode cX4_toldOf 11 = .ok (.goto 40, 3) := by decide +kernel
theorem dX4_toldOf_14 : decode cX4_toldOf 14 = .ok (.iload_n 1, 1) := by decide +kernel
theorem dX4_toldOf_15 : decode cX4_toldOf 15 = .ok (.bipush 6, 2) := by decide +kernel
theorem dX4_toldOf_17 : decode cX4_toldOf 17 = .ok (.if_icmp .ge 17, 3) := by decide +kernel
theorem dX4_toldOf_20 : decode cX4_toldOf 20 = .ok (.aload_n 0, 1) := by decide +kernel
theorem dX4_toldOf_21 : decode cX4_toldOf 21 = .ok (.getfield 7, 3) := by decide +kernel
theorem dX4_toldOf_24 : decode cX4_toldOf 24 = .ok (.bipush 114, 2) := by decide +kernel
theorem dX4_toldOf_26 : decode cX4_toldOf 26 = .ok (.iload_n 1, 1) := by decide +kernel
theorem dX4_toldOf_27 : decode cX4_toldOf 27 = .ok (.iadd, 1) := by decide +kernel
theorem dX4_toldOf_28 : decode cX4_toldOf 28 = .ok (.iconst 3, 1) := by decide +kernel
theorem dX4_toldOf_29 : decode cX4_toldOf 29 = .ok (.isub, 1) := by decide +kernel
theorem dX4_toldOf_30 : decode cX4_toldOf 30 = .ok (.iaload, 1) := by decide +kernel
theorem dX4_toldOf_31 : decode cX4_toldOf 31 = .ok (.goto 20, 3) := by decide +kernel
theorem dX4_toldOf_34 : decode cX4_toldOf 34 = .ok (.iload_n 1, 1) := by decide +kernel
theorem dX4_toldOf_35 : decode cX4_toldOf 35 = .ok (.bipush 6, 2) := by decide +kernel
theorem dX4_toldOf_37 : decode cX4_toldOf 37 = .ok (.if_icmp .ne 10, 3) := by decide +kernel
theorem dX4_toldOf_40 : decode cX4_toldOf 40 = .ok (.aload_n 0, 1) := by decide +kernel
theorem dX4_toldOf_41 : decode cX4_toldOf 41 = .ok (.getfield 198, 3) := by decide +kernel
theorem dX4_toldOf_44 : decode cX4_toldOf 44 = .ok (.goto 7, 3) := by decide +kernel
theorem dX4_toldOf_47 : decode cX4_toldOf 47 = .ok (.aload_n 0, 1) := by decide +kernel
theorem dX4_toldOf_48 : decode cX4_toldOf 48 = .ok (.getfield 41, 3) := by decide +kernel
theorem dX4_toldOf_51 : decode cX4_toldOf 51 = .ok (.ireturn, 1) := by decide +kernel
theorem dX4_told_0 : decode cX4_told 0 = .ok (.iload_n 1, 1) := by decide +kernel
theorem dX4_told_1 : decode cX4_told 1 = .ok (.iconst 0, 1) := by decide +kernel
theorem dX4_told_2 : decode cX4_told 2 = .ok (.bipush 7, 2) := by decide +kernel
theorem dX4_told_4 : decode cX4_told 4 = .ok (.invokestatic 49, 3) := by decide +kernel
theorem dX4_told_7 : decode cX4_told 7 = .ok (.ifCond .eq 11, 3) := by decide +kernel
theorem dX4_told_10 : decode cX4_told 10 = .ok (.aload_n 0, 1) := by decide +kernel
theorem dX4_told_11 : decode cX4_told 11 = .ok (.iload_n 1, 1) := by decide +kernel
theorem dX4_told_12 : decode cX4_told 12 = .ok (.invokevirtual 246, 3) := by decide +kernel
theorem dX4_told_15 : decode cX4_told 15 = .ok (.goto 7, 3) := by decide +kernel
theorem dX4_told_18 : decode cX4_told 18 = .ok (.aload_n 0, 1) := by decide +kernel
theorem dX4_told_19 : decode cX4_told 19 = .ok (.invokevirtual 68, 3) := by decide +kernel
theorem dX4_told_22 : decode cX4_told 22 = .ok (.ireturn, 1) := by decide +kernel
theorem dX4_mix_0 : decode cX4_mix 0 = .ok (.aload_n 0, 1) := by decide +kernel
theorem dX4_mix_1 : decode cX4_mix 1 = .ok (.ldc2_w 249, 3) := by decide +kernel
theorem dX4_mix_4 : decode cX4_mix 4 = .ok (.aload_n 0, 1) := by decide +kernel
theorem dX4_mix_5 : decode cX4_mix 5 = .ok (.getfield 251, 3) := by decide +kernel
theorem dX4_mix_8 : decode cX4_mix 8 = .ok (.lmul, 1) := by decide +kernel
theorem dX4_mix_9 : decode cX4_mix 9 = .ok (.lload_n 1, 1) := by decide +kernel
theorem dX4_mix_10 : decode cX4_mix 10 = .ok (.ladd, 1) := by decide +kernel
theorem dX4_mix_11 : decode cX4_mix 11 = .ok (.putfield 251, 3) := by decide +kernel
theorem dX4_mix_14 : decode cX4_mix 14 = .ok (.return_, 1) := by decide +kernel
theorem dX4_digest_0 : decode cX4_digest 0 = .ok (.aload_n 0, 1) := by decide +kernel
theorem dX4_digest_1 : decode cX4_digest 1 = .ok (.ldc2_w 255, 3) := by decide +kernel
theorem dX4_digest_4 : decode cX4_digest 4 = .ok (.putfield 251, 3) := by decide +kernel
theorem dX4_digest_7 : decode cX4_digest 7 = .ok (.iconst 0, 1) := by decide +kernel
theorem dX4_digest_8 : decode cX4_digest 8 = .ok (.istore_n 1, 1) := by decide +kernel
theorem dX4_digest_9 : decode cX4_digest 9 = .ok (.iload_n 1, 1) := by decide +kernel
theorem dX4_digest_10 : decode cX4_digest 10 = .ok (.bipush 8, 2) := by decide +kernel
theorem dX4_digest_12 : decode cX4_digest 12 = .ok (.if_icmp .ge 19, 3) := by decide +kernel
theorem dX4_digest_15 : decode cX4_digest 15 = .ok (.aload_n 0, 1) := by decide +kernel
theorem dX4_digest_16 : decode cX4_digest 16 = .ok (.aload_n 0, 1) := by decide +kernel
theorem dX4_digest_17 : decode cX4_digest 17 = .ok (.iload_n 1, 1) := by decide +kernel
theorem dX4_digest_18 : decode cX4_digest 18 = .ok (.invokevirtual 246, 3) := by decide +kernel
theorem dX4_digest_21 : decode cX4_digest 21 = .ok (.i2l, 1) := by decide +kernel
theorem dX4_digest_22 : decode cX4_digest 22 = .ok (.invokevirtual 257, 3) := by decide +kernel
theorem dX4_digest_25 : decode cX4_digest 25 = .ok (.iinc 1 1, 3) := by decide +kernel
theorem dX4_digest_28 : decode cX4_digest 28 = .ok (.goto (-19), 3) := by decide +kernel
theorem dX4_digest_31 : decode cX4_digest 31 = .ok (.iconst 0, 1) := by decide +kernel
theorem dX4_digest_32 : decode cX4_digest 32 = .ok (.istore_n 1, 1) := by decide +kernel
theorem dX4_digest_33 : decode cX4_digest 33 = .ok (.iload_n 1, 1) := by decide +kernel
theorem dX4_digest_34 : decode cX4_digest 34 = .ok (.bipush 8, 2) := by decide +kernel
theorem dX4_digest_36 : decode cX4_digest 36 = .ok (.if_icmp .ge 19, 3) := by decide +kernel
theorem dX4_digest_39 : decode cX4_digest 39 = .ok (.aload_n 0, 1) := by decide +kernel
theorem dX4_digest_40 : decode cX4_digest 40 = .ok (.aload_n 0, 1) := by decide +kernel
theorem dX4_digest_41 : decode cX4_digest 41 = .ok (.iload_n 1, 1) := by decide +kernel
theorem dX4_digest_42 : decode cX4_digest 42 = .ok (.invokevirtual 195, 3) := by decide +kernel
theorem dX4_digest_45 : decode cX4_digest 45 = .ok (.i2l, 1) := by decide +kernel
theorem dX4_digest_46 : decode cX4_digest 46 = .ok (.invokevirtual 257, 3) := by decide +kernel
theorem dX4_digest_49 : decode cX4_digest 49 = .ok (.iinc 1 1, 3) := by decide +kernel
theorem dX4_digest_52 : decode cX4_digest 52 = .ok (.goto (-19), 3) := by decide +kernel
theorem dX4_digest_55 : decode cX4_digest 55 = .ok (.iconst 0, 1) := by decide +kernel
theorem dX4_digest_56 : decode cX4_digest 56 = .ok (.istore_n 1, 1) := by decide +kernel
theorem dX4_digest_57 : decode cX4_digest 57 = .ok (.iload_n 1, 1) := by decide +kernel
theorem dX4_digest_58 : decode cX4_digest 58 = .ok (.aload_n 0, 1) := by decide +kernel
theorem dX4_digest_59 : decode cX4_digest 59 = .ok (.getfield 7, 3) := by decide +kernel
theorem dX4_digest_62 : decode cX4_digest 62 = .ok (.iconst 0, 1) := by decide +kernel
theorem dX4_digest_63 : decode cX4_digest 63 = .ok (.iaload, 1) := by decide +kernel
theorem dX4_digest_64 : decode cX4_digest 64 = .ok (.if_icmp .ge 51, 3) := by decide +kernel
theorem dX4_digest_67 : decode cX4_digest 67 = .ok (.iconst 0, 1) := by decide +kernel
theorem dX4_digest_68 : decode cX4_digest 68 = .ok (.istore_n 2, 1) := by decide +kernel
theorem dX4_digest_69 : decode cX4_digest 69 = .ok (.iload_n 2, 1) := by decide +kernel
theorem dX4_digest_70 : decode cX4_digest 70 = .ok (.bipush 6, 2) := by decide +kernel
theorem dX4_digest_72 : decode cX4_digest 72 = .ok (.if_icmp .ge 20, 3) := by decide +kernel
theorem dX4_digest_75 : decode cX4_digest 75 = .ok (.aload_n 0, 1) := by decide +kernel
theorem dX4_digest_76 : decode cX4_digest 76 = .ok (.aload_n 0, 1) := by decide +kernel
theorem dX4_digest_77 : decode cX4_digest 77 = .ok (.iload_n 1, 1) := by decide +kernel
theorem dX4_digest_78 : decode cX4_digest 78 = .ok (.iload_n 2, 1) := by decide +kernel
theorem dX4_digest_79 : decode cX4_digest 79 = .ok (.invokevirtual 114, 3) := by decide +kernel
theorem dX4_digest_82 : decode cX4_digest 82 = .ok (.i2l, 1) := by decide +kernel
theorem dX4_digest_83 : decode cX4_digest 83 = .ok (.invokevirtual 257, 3) := by decide +kernel
theorem dX4_digest_86 : decode cX4_digest 86 = .ok (.iinc 2 1, 3) := by decide +kernel
theorem dX4_digest_89 : decode cX4_digest 89 = .ok (.goto (-20), 3) := by decide +kernel
theorem dX4_digest_92 : decode cX4_digest 92 = .ok (.aload_n 0, 1) := by decide +kernel
theorem dX4_digest_93 : decode cX4_digest 93 = .ok (.aload_n 0, 1) := by decide +kernel
theorem dX4_digest_94 : decode cX4_digest 94 = .ok (.aload_n 0, 1) := by decide +kernel
theorem dX4_digest_95 : decode cX4_digest 95 = .ok (.iload_n 1, 1) := by decide +kernel
theorem dX4_digest_96 : decode cX4_digest 96 = .ok (.invokevirtual 57, 3) := by decide +kernel
theorem dX4_digest_99 : decode cX4_digest 99 = .ok (.invokevirtual 104, 3) := by decide +kernel
theorem dX4_digest_102 : decode cX4_digest 102 = .ok (.invokestatic 117, 3) := by decide +kernel
theorem dX4_digest_105 : decode cX4_digest 105 = .ok (.i2l, 1) := by decide +kernel
theorem dX4_digest_106 : decode cX4_digest 106 = .ok (.invokevirtual 257, 3) := by decide +kernel
theorem dX4_digest_109 : decode cX4_digest 109 = .ok (.iinc 1 1, 3) := by decide +kernel
theorem dX4_digest_112 : decode cX4_digest 112 = .ok (.goto (-55), 3) := by decide +kernel
theorem dX4_digest_115 : decode cX4_digest 115 = .ok (.iconst 0, 1) := by decide +kernel
theorem dX4_digest_116 : decode cX4_digest 116 = .ok (.istore_n 1, 1) := by decide +kernel
theorem dX4_digest_117 : decode cX4_digest 117 = .ok (.iload_n 1, 1) := by decide +kernel
theorem dX4_digest_118 : decode cX4_digest 118 = .ok (.bipush 52, 2) := by decide +kernel
theorem dX4_digest_120 : decode cX4_digest 120 = .ok (.if_icmp .ge 23, 3) := by decide +kernel
theorem dX4_digest_123 : decode cX4_digest 123 = .ok (.aload_n 0, 1) := by decide +kernel
theorem dX4_digest_124 : decode cX4_digest 124 = .ok (.aload_n 0, 1) := by decide +kernel
theorem dX4_digest_125 : decode cX4_digest 125 = .ok (.getfield 7, 3) := by decide +kernel
theorem dX4_digest_128 : decode cX4_digest 128 = .ok (.bipush 62, 2) := by decide +kernel
theorem dX4_digest_130 : decode cX4_digest 130 = .ok (.iload_n 1, 1) := by decide +kernel
theorem dX4_digest_131 : decode cX4_digest 131 = .ok (.iadd, 1) := by decide +kernel
theorem dX4_digest_132 : decode cX4_digest 132 = .ok (.iaload, 1) := by decide +kernel
theorem dX4_digest_133 : decode cX4_digest 133 = .ok (.i2l, 1) := by decide +kernel
theorem dX4_digest_134 : decode cX4_digest 134 = .ok (.invokevirtual 257, 3) := by decide +kernel
theorem dX4_digest_137 : decode cX4_digest 137 = .ok (.iinc 1 1, 3) := by decide +kernel
theorem dX4_digest_140 : decode cX4_digest 140 = .ok (.goto (-23), 3) := by decide +kernel
theorem dX4_digest_143 : decode cX4_digest 143 = .ok (.iconst 0, 1) := by decide +kernel
theorem dX4_digest_144 : decode cX4_digest 144 = .ok (.istore_n 1, 1) := by decide +kernel
theorem dX4_digest_145 : decode cX4_digest 145 = .ok (.iload_n 1, 1) := by decide +kernel
theorem dX4_digest_146 : decode cX4_digest 146 = .ok (.aload_n 0, 1) := by decide +kernel
theorem dX4_digest_147 : decode cX4_digest 147 = .ok (.getfield 7, 3) := by decide +kernel
theorem dX4_digest_150 : decode cX4_digest 150 = .ok (.bipush 120, 2) := by decide +kernel
theorem dX4_digest_152 : decode cX4_digest 152 = .ok (.iaload, 1) := by decide +kernel
theorem dX4_digest_153 : decode cX4_digest 153 = .ok (.if_icmp .ge 23, 3) := by decide +kernel
theorem dX4_digest_156 : decode cX4_digest 156 = .ok (.aload_n 0, 1) := by decide +kernel
theorem dX4_digest_157 : decode cX4_digest 157 = .ok (.aload_n 0, 1) := by decide +kernel
theorem dX4_digest_158 : decode cX4_digest 158 = .ok (.getfield 7, 3) := by decide +kernel
theorem dX4_digest_161 : decode cX4_digest 161 = .ok (.bipush 121, 2) := by decide +kernel
theorem dX4_digest_163 : decode cX4_digest 163 = .ok (.iload_n 1, 1) := by decide +kernel
theorem dX4_digest_164 : decode cX4_digest 164 = .ok (.iadd, 1) := by decide +kernel
theorem dX4_digest_165 : decode cX4_digest 165 = .ok (.iaload, 1) := by decide +kernel
theorem dX4_digest_166 : decode cX4_digest 166 = .ok (.i2l, 1) := by decide +kernel
theorem dX4_digest_167 : decode cX4_digest 167 = .ok (.invokevirtual 257, 3) := by decide +kernel
theorem dX4_digest_170 : decode cX4_digest 170 = .ok (.iinc 1 1, 3) := by decide +kernel
theorem dX4_digest_173 : decode cX4_digest 173 = .ok (.goto (-28), 3) := by decide +kernel
theorem dX4_digest_176 : decode cX4_digest 176 = .ok (.aload_n 0, 1) := by decide +kernel
theorem dX4_digest_177 : decode cX4_digest 177 = .ok (.aload_n 0, 1) := by decide +kernel
theorem dX4_digest_178 : decode cX4_digest 178 = .ok (.invokevirtual 174, 3) := by decide +kernel
theorem dX4_digest_181 : decode cX4_digest 181 = .ok (.i2l, 1) := by decide +kernel
theorem dX4_digest_182 : decode cX4_digest 182 = .ok (.invokevirtual 257, 3) := by decide +kernel
theorem dX4_digest_185 : decode cX4_digest 185 = .ok (.aload_n 0, 1) := by decide +kernel
theorem dX4_digest_186 : decode cX4_digest 186 = .ok (.aload_n 0, 1) := by decide +kernel
theorem dX4_digest_187 : decode cX4_digest 187 = .ok (.invokevirtual 177, 3) := by decide +kernel
theorem dX4_digest_190 : decode cX4_digest 190 = .ok (.i2l, 1) := by decide +kernel
theorem dX4_digest_191 : decode cX4_digest 191 = .ok (.invokevirtual 257, 3) := by decide +kernel
theorem dX4_digest_194 : decode cX4_digest 194 = .ok (.aload_n 0, 1) := by decide +kernel
theorem dX4_digest_195 : decode cX4_digest 195 = .ok (.getfield 251, 3) := by decide +kernel
theorem dX4_digest_198 : decode cX4_digest 198 = .ok (.lreturn, 1) := by decide +kernel
