theorem dL_cell_0 : decode cL_cell 0 = .ok (.iload_n 1, 1) := by decide +kernel
theorem dL_cell_1 : decode cL_cell 1 = .ok (.aload_n 0, 1) := by decide +kernel
theorem dL_cell_2 : decode cL_cell 2 = .ok (.arraylength, 1) := by decide +kernel
theorem dL_cell_3 : decode cL_cell 3 = .ok (.if_icmp .ge 9, 3) := by decide +kernel
theorem dL_cell_6 : decode cL_cell 6 = .ok (.aload_n 0, 1) := by decide +kernel
theorem dL_cell_7 : decode cL_cell 7 = .ok (.iload_n 1, 1) := by decide +kernel
theorem dL_cell_8 : decode cL_cell 8 = .ok (.iaload, 1) := by decide +kernel
theorem dL_cell_9 : decode cL_cell 9 = .ok (.goto 14, 3) := by decide +kernel
theorem dL_cell_12 : decode cL_cell 12 = .ok (.ldc 7, 2) := by decide +kernel
theorem dL_cell_14 : decode cL_cell 14 = .ok (.iload_n 1, 1) := by decide +kernel
theorem dL_cell_15 : decode cL_cell 15 = .ok (.sipush 491, 3) := by decide +kernel
theorem dL_cell_18 : decode cL_cell 18 = .ok (.iadd, 1) := by decide +kernel
theorem dL_cell_19 : decode cL_cell 19 = .ok (.imul, 1) := by decide +kernel
theorem dL_cell_20 : decode cL_cell 20 = .ok (.ldc 8, 2) := by decide +kernel
theorem dL_cell_22 : decode cL_cell 22 = .ok (.iadd, 1) := by decide +kernel
theorem dL_cell_23 : decode cL_cell 23 = .ok (.ldc 9, 2) := by decide +kernel
theorem dL_cell_25 : decode cL_cell 25 = .ok (.iand, 1) := by decide +kernel
theorem dL_cell_26 : decode cL_cell 26 = .ok (.ireturn, 1) := by decide +kernel
theorem dL_seen_0 : decode cL_seen 0 = .ok (.ldc2_w 10, 3) := by decide +kernel
theorem dL_seen_3 : decode cL_seen 3 = .ok (.lstore_n 1, 1) := by decide +kernel
theorem dL_seen_4 : decode cL_seen 4 = .ok (.iconst 0, 1) := by decide +kernel
theorem dL_seen_5 : decode cL_seen 5 = .ok (.istore_n 3, 1) := by decide +kernel
theorem dL_seen_6 : decode cL_seen 6 = .ok (.iload_n 3, 1) := by decide +kernel
theorem dL_seen_7 : decode cL_seen 7 = .ok (.bipush 15, 2) := by decide +kernel
theorem dL_seen_9 : decode cL_seen 9 = .ok (.if_icmp .ge 22, 3) := by decide +kernel
theorem dL_seen_12 : decode cL_seen 12 = .ok (.ldc2_w 12, 3) := by decide +kernel
theorem dL_seen_15 : decode cL_seen 15 = .ok (.lload_n 1, 1) := by decide +kernel
theorem dL_seen_16 : decode cL_seen 16 = .ok (.lmul, 1) := by decide +kernel
theorem dL_seen_17 : decode cL_seen 17 = .ok (.aload_n 0, 1) := by decide +kernel
theorem dL_seen_18 : decode cL_seen 18 = .ok (.iload_n 3, 1) := by decide +kernel
theorem dL_seen_19 : decode cL_seen 19 = .ok (.invokevirtual 14, 3) := by decide +kernel
theorem dL_seen_22 : decode cL_seen 22 = .ok (.i2l, 1) := by decide +kernel
theorem dL_seen_23 : decode cL_seen 23 = .ok (.ladd, 1) := by decide +kernel
theorem dL_seen_24 : decode cL_seen 24 = .ok (.lstore_n 1, 1) := by decide +kernel
theorem dL_seen_25 : decode cL_seen 25 = .ok (.iinc 3 1, 3) := by decide +kernel
theorem dL_seen_28 : decode cL_seen 28 = .ok (.goto (-22), 3) := by decide +kernel
theorem dL_seen_31 : decode cL_seen 31 = .ok (.iconst 0, 1) := by decide +kernel
theorem dL_seen_32 : decode cL_seen 32 = .ok (.istore_n 3, 1) := by decide +kernel
theorem dL_seen_33 : decode cL_seen 33 = .ok (.iload_n 3, 1) := by decide +kernel
theorem dL_seen_34 : decode cL_seen 34 = .ok (.bipush 11, 2) := by decide +kernel
theorem dL_seen_36 : decode cL_seen 36 = .ok (.if_icmp .ge 22, 3) := by decide +kernel
theorem dL_seen_39 : decode cL_seen 39 = .ok (.ldc2_w 12, 3) := by decide +kernel
theorem dL_seen_42 : decode cL_seen 42 = .ok (.lload_n 1, 1) := by decide +kernel
theorem dL_seen_43 : decode cL_seen 43 = .ok (.lmul, 1) := by decide +kernel
theorem dL_seen_44 : decode cL_seen 44 = .ok (.aload_n 0, 1) := by decide +kernel
theorem dL_seen_45 : decode cL_seen 45 = .ok (.iload_n 3, 1) := by decide +kernel
theorem dL_seen_46 : decode cL_seen 46 = .ok (.invokevirtual 20, 3) := by decide +kernel
theorem dL_seen_49 : decode cL_seen 49 = .ok (.i2l, 1) := by decide +kernel
theorem dL_seen_50 : decode cL_seen 50 = .ok (.ladd, 1) := by decide +kernel
theorem dL_seen_51 : decode cL_seen 51 = .ok (.lstore_n 1, 1) := by decide +kernel
theorem dL_seen_52 : decode cL_seen 52 = .ok (.iinc 3 1, 3) := by decide +kernel
theorem dL_seen_55 : decode cL_seen 55 = .ok (.goto (-22), 3) := by decide +kernel
theorem dL_seen_58 : decode cL_seen 58 = .ok (.iconst 0, 1) := by decide +kernel
theorem dL_seen_59 : decode cL_seen 59 = .ok (.istore_n 3, 1) := by decide +kernel
theorem dL_seen_60 : decode cL_seen 60 = .ok (.iload_n 3, 1) := by decide +kernel
theorem dL_seen_61 : decode cL_seen 61 = .ok (.bipush 36, 2) := by decide +kernel
theorem dL_seen_63 : decode cL_seen 63 = .ok (.if_icmp .ge 27, 3) := by decide +kernel
theorem dL_seen_66 : decode cL_seen 66 = .ok (.ldc2_w 12, 3) := by decide +kernel
theorem dL_seen_69 : decode cL_seen 69 = .ok (.lload_n 1, 1) := by decide +kernel
theorem dL_seen_70 : decode cL_seen 70 = .ok (.lmul, 1) := by decide +kernel
theorem dL_seen_71 : decode cL_seen 71 = .ok (.aload_n 0, 1) := by decide +kernel
theorem dL_seen_72 : decode cL_seen 72 = .ok (.iload_n 3, 1) := by decide +kernel
theorem dL_seen_73 : decode cL_seen 73 = .ok (.iconst 3, 1) := by decide +kernel
theorem dL_seen_74 : decode cL_seen 74 = .ok (.idiv, 1) := by decide +kernel
theorem dL_seen_75 : decode cL_seen 75 = .ok (.iload_n 3, 1) := by decide +kernel
theorem dL_seen_76 : decode cL_seen 76 = .ok (.iconst 3, 1) := by decide +kernel
theorem dL_seen_77 : decode cL_seen 77 = .ok (.irem, 1) := by decide +kernel
theorem dL_seen_78 : decode cL_seen 78 = .ok (.invokevirtual 23, 3) := by decide +kernel
theorem dL_seen_81 : decode cL_seen 81 = .ok (.i2l, 1) := by decide +kernel
theorem dL_seen_82 : decode cL_seen 82 = .ok (.ladd, 1) := by decide +kernel
theorem dL_seen_83 : decode cL_seen 83 = .ok (.lstore_n 1, 1) := by decide +kernel
theorem dL_seen_84 : decode cL_seen 84 = .ok (.iinc 3 1, 3) := by decide +kernel
theorem dL_seen_87 : decode cL_seen 87 = .ok (.goto (-27), 3) := by decide +kernel
theorem dL_seen_90 : decode cL_seen 90 = .ok (.iconst 0, 1) := by decide +kernel
theorem dL_seen_91 : decode cL_seen 91 = .ok (.istore_n 3, 1) := by decide +kernel
theorem dL_seen_92 : decode cL_seen 92 = .ok (.iload_n 3, 1) := by decide +kernel
theorem dL_seen_93 : decode cL_seen 93 = .ok (.bipush 120, 2) := by decide +kernel
theorem dL_seen_95 : decode cL_seen 95 = .ok (.if_icmp .ge 49, 3) := by decide +kernel
theorem dL_seen_98 : decode cL_seen 98 = .ok (.ldc2_w 12, 3) := by decide +kernel
theorem dL_seen_101 : decode cL_seen 101 = .ok (.ldc2_w 12, 3) := by decide +kernel
theorem dL_seen_104 : decode cL_seen 104 = .ok (.lload_n 1, 1) := by decide +kernel
theorem dL_seen_105 : decode cL_seen 105 = .ok (.lmul, 1) := by decide +kernel
theorem dL_seen_106 : decode cL_seen 106 = .ok (.aload_n 0, 1) := by decide +kernel
theorem dL_seen_107 : decode cL_seen 107 = .ok (.iload_n 3, 1) := by decide +kernel
theorem dL_seen_108 : decode cL_seen 108 = .ok (.bipush 12, 2) := by decide +kernel
theorem dL_seen_110 : decode cL_seen 110 = .ok (.idiv, 1) := by decide +kernel
theorem dL_seen_111 : decode cL_seen 111 = .ok (.iload_n 3, 1) := by decide +kernel
theorem dL_seen_112 : decode cL_seen 112 = .ok (.bipush 12, 2) := by decide +kernel
theorem dL_seen_114 : decode cL_seen 114 = .ok (.irem, 1) := by decide +kernel
theorem dL_seen_115 : decode cL_seen 115 = .ok (.iconst 0, 1) := by decide +kernel
theorem dL_seen_116 : decode cL_seen 116 = .ok (.invokevirtual 27, 3) := by decide +kernel
theorem dL_seen_119 : decode cL_seen 119 = .ok (.i2l, 1) := by decide +kernel
theorem dL_seen_120 : decode cL_seen 120 = .ok (.ladd, 1) := by decide +kernel
theorem dL_seen_121 : decode cL_seen 121 = .ok (.lmul, 1) := by decide +kernel
theorem dL_seen_122 : decode cL_seen 122 = .ok (.aload_n 0, 1) := by decide +kernel
theorem dL_seen_123 : decode cL_seen 123 = .ok (.iload_n 3, 1) := by decide +kernel
theorem dL_seen_124 : decode cL_seen 124 = .ok (.bipush 12, 2) := by decide +kernel
theorem dL_seen_126 : decode cL_seen 126 = .ok (.idiv, 1) := by decide +kernel
theorem dL_seen_127 : decode cL_seen 127 = .ok (.iload_n 3, 1) := by decide +kernel
theorem dL_seen_128 : decode cL_seen 128 = .ok (.bipush 12, 2) := by decide +kernel
theorem dL_seen_130 : decode cL_seen 130 = .ok (.irem, 1) := by decide +kernel
theorem dL_seen_131 : decode cL_seen 131 = .ok (.iconst 1, 1) := by decide +kernel
theorem dL_seen_132 : decode cL_seen 132 = .ok (.invokevirtual 27, 3) := by decide +kernel
theorem dL_seen_135 : decode cL_seen 135 = .ok (.i2l, 1) := by decide +kernel
theorem dL_seen_136 : decode cL_seen 136 = .ok (.ladd, 1) := by decide +kernel
theorem dL_seen_137 : decode cL_seen 137 = .ok (.lstore_n 1, 1) := by decide +kernel
theorem dL_seen_138 : decode cL_seen 138 = .ok (.iinc 3 1, 3) := by decide +kernel
theorem dL_seen_141 : decode cL_seen 141 = .ok (.goto (-49), 3) := by decide +kernel
theorem dL_seen_144 : decode cL_seen 144 = .ok (.lload_n 1, 1) := by decide +kernel
theorem dL_seen_145 : decode cL_seen 145 = .ok (.lreturn, 1) := by decide +kernel
theorem dL_isSong_0 : decode cL_isSong 0 = .ok (.aload_n 0, 1) := by decide +kernel
theorem dL_isSong_1 : decode cL_isSong 1 = .ok (.bipush 6, 2) := by decide +kernel
theorem dL_isSong_3 : decode cL_isSong 3 = .ok (.invokevirtual 20, 3) := by decide +kernel
theorem dL_isSong_6 : decode cL_isSong 6 = .ok (.istore_n 1, 1) := by decide +kernel
theorem dL_isSong_7 : decode cL_isSong 7 = .ok (.iconst 0, 1) := by decide +kernel
theorem dL_isSong_8 : decode cL_isSong 8 = .ok (.istore_n 2, 1) := by decide +kernel
theorem dL_isSong_9 : decode cL_isSong 9 = .ok (.iconst 0, 1) := by decide +kernel
theorem dL_isSong_10 : decode cL_isSong 10 = .ok (.istore_n 3, 1) := by decide +kernel
theorem dL_isSong_11 : decode cL_isSong 11 = .ok (.iload_n 1, 1) := by decide +kernel
theorem dL_isSong_12 : decode cL_isSong 12 = .ok (.ifCond .lt 13, 3) := by decide +kernel
theorem dL_isSong_15 : decode cL_isSong 15 = .ok (.iload_n 1, 1) := by decide +kernel
theorem dL_isSong_16 : decode cL_isSong 16 = .ok (.bipush 10, 2) := by decide +kernel
theorem dL_isSong_18 : decode cL_isSong 18 = .ok (.if_icmp .gt 7, 3) := by decide +kernel
theorem dL_isSong_21 : decode cL_isSong 21 = .ok (.iconst 1, 1) := by decide +kernel
theorem dL_isSong_22 : decode cL_isSong 22 = .ok (.goto 4, 3) := by decide +kernel
theorem dL_isSong_25 : decode cL_isSong 25 = .ok (.iconst 0, 1) := by decide +kernel
theorem dL_isSong_26 : decode cL_isSong 26 = .ok (.istore 4, 2) := by decide +kernel
theorem dL_isSong_28 : decode cL_isSong 28 = .ok (.iconst 0, 1) := by decide +kernel
theorem dL_isSong_29 : decode cL_isSong 29 = .ok (.istore 5, 2) := by decide +kernel
theorem dL_isSong_31 : decode cL_isSong 31 = .ok (.iload 5, 2) := by decide +kernel
theorem dL_isSong_33 : decode cL_isSong 33 = .ok (.iload_n 1, 1) := by decide +kernel
theorem dL_isSong_34 : decode cL_isSong 34 = .ok (.if_icmp .ge 208, 3) := by decide +kernel
theorem dL_isSong_37 : decode cL_isSong 37 = .ok (.iload 4, 2) := by decide +kernel
theorem dL_isSong_39 : decode cL_isSong 39 = .ok (.ifCond .eq 203, 3) := by decide +kernel
theorem dL_isSong_42 : decode cL_isSong 42 = .ok (.aload_n 0, 1) := by decide +kernel
theorem dL_isSong_43 : decode cL_isSong 43 = .ok (.iload 5, 2) := by decide +kernel
theorem dL_isSong_45 : decode cL_isSong 45 = .ok (.iconst 0, 1) := by decide +kernel
theorem dL_isSong_46 : decode cL_isSong 46 = .ok (.invokevirtual 31, 3) := by decide +kernel
theorem dL_isSong_49 : decode cL_isSong 49 = .ok (.istore 6, 2) := by decide +kernel
theorem dL_isSong_51 : decode cL_isSong 51 = .ok (.iconst 0, 1) := by decide +kernel
theorem dL_isSong_52 : decode cL_isSong 52 = .ok (.istore 7, 2) := by decide +kernel
theorem dL_isSong_54 : decode cL_isSong 54 = .ok (.iconst 0, 1) := by decide +kernel
theorem dL_isSong_55 : decode cL_isSong 55 = .ok (.istore 8, 2) := by decide +kernel
theorem dL_isSong_57 : decode cL_isSong 57 = .ok (.iconst 0, 1) := by decide +kernel
theorem dL_isSong_58 : decode cL_isSong 58 = .ok (.istore 9, 2) := by decide +kernel
theorem dL_isSong_60 : decode cL_isSong 60 = .ok (.iload 9, 2) := by decide +kernel
theorem dL_isSong_62 : decode cL_isSong 62 = .ok (.iload 6, 2) := by decide +kernel
theorem dL_isSong_64 : decode cL_isSong 64 = .ok (.if_icmp .ge 80, 3) := by decide +kernel
theorem dL_isSong_67 : decode cL_isSong 67 = .ok (.iload 4, 2) := by decide +kernel
theorem dL_isSong_69 : decode cL_isSong 69 = .ok (.ifCond .eq 75, 3) := by decide +kernel
theorem dL_isSong_72 : decode cL_isSong 72 = .ok (.aload_n 0, 1) := by decide +kernel
theorem dL_isSong_73 : decode cL_isSong 73 = .ok (.iload 5, 2) := by decide +kernel
theorem dL_isSong_75 : decode cL_isSong 75 = .ok (.iload 9, 2) := by decide +kernel
theorem dL_isSong_77 : decode cL_isSong 77 = .ok (.iconst 0, 1) := by decide +kernel
theorem dL_isSong_78 : decode cL_isSong 78 = .ok (.invokevirtual 27, 3) := by decide +kernel
theorem dL_isSong_81 : decode cL_isSong 81 = .ok (.istore 10, 2) := by decide +kernel
theorem dL_isSong_83 : decode cL_isSong 83 = .ok (.aload_n 0, 1) := by decide +kernel
theorem dL_isSong_84 : decode cL_isSong 84 = .ok (.iload 5, 2) := by decide +kernel
theorem dL_isSong_86 : decode cL_isSong 86 = .ok (.iload 9, 2) := by decide +kernel
theorem dL_isSong_88 : decode cL_isSong 88 = .ok (.iconst 1, 1) := by decide +kernel
theorem dL_isSong_89 : decode cL_isSong 89 = .ok (.invokevirtual 27, 3) := by decide +kernel
theorem dL_isSong_92 : decode cL_isSong 92 = .ok (.istore 11, 2) := by decide +kernel
theorem dL_isSong_94 : decode cL_isSong 94 = .ok (.iload 7, 2) := by decide +kernel
theorem dL_isSong_96 : decode cL_isSong 96 = .ok (.iload 10, 2) := by decide +kernel
theorem dL_isSong_98 : decode cL_isSong 98 = .ok (.iadd, 1) := by decide +kernel
theorem dL_isSong_99 : decode cL_isSong 99 = .ok (.istore 7, 2) := by decide +kernel
theorem dL_isSong_101 : decode cL_isSong 101 = .ok (.iload 8, 2) := by decide +kernel
theorem dL_isSong_103 : decode cL_isSong 103 = .ok (.iload 11, 2) := by decide +kernel
theorem dL_isSong_105 : decode cL_isSong 105 = .ok (.iadd, 1) := by decide +kernel
theorem dL_isSong_106 : decode cL_isSong 106 = .ok (.istore 8, 2) := by decide +kernel
theorem dL_isSong_108 : decode cL_isSong 108 = .ok (.iload 10, 2) := by decide +kernel
theorem dL_isSong_110 : decode cL_isSong 110 = .ok (.iconst 1, 1) := by decide +kernel
theorem dL_isSong_111 : decode cL_isSong 111 = .ok (.if_icmp .le 24, 3) := by decide +kernel
theorem dL_isSong_114 : decode cL_isSong 114 = .ok (.iload 10, 2) := by decide +kernel
theorem dL_isSong_116 : decode cL_isSong 116 = .ok (.iconst 5, 1) := by decide +kernel
theorem dL_isSong_117 : decode cL_isSong 117 = .ok (.if_icmp .ge 18, 3) := by decide +kernel
theorem dL_isSong_120 : decode cL_isSong 120 = .ok (.iload 11, 2) := by decide +kernel
theorem dL_isSong_122 : decode cL_isSong 122 = .ok (.ifCond .lt 13, 3) := by decide +kernel
theorem dL_isSong_125 : decode cL_isSong 125 = .ok (.iload 11, 2) := by decide +kernel
theorem dL_isSong_127 : decode cL_isSong 127 = .ok (.iconst 2, 1) := by decide +kernel
theorem dL_isSong_128 : decode cL_isSong 128 = .ok (.if_icmp .ge 7, 3) := by decide +kernel
theorem dL_isSong_131 : decode cL_isSong 131 = .ok (.iconst 1, 1) := by decide +kernel
theorem dL_isSong_132 : decode cL_isSong 132 = .ok (.goto 4, 3) := by decide +kernel
theorem dL_isSong_135 : decode cL_isSong 135 = .ok (.iconst 0, 1) := by decide +kernel
theorem dL_isSong_136 : decode cL_isSong 136 = .ok (.istore 4, 2) := by decide +kernel
theorem dL_isSong_138 : decode cL_isSong 138 = .ok (.iinc 9 1, 3) := by decide +kernel
theorem dL_isSong_141 : decode cL_isSong 141 = .ok (.goto (-81), 3) := by decide +kernel
theorem dL_isSong_144 : decode cL_isSong 144 = .ok (.iload_n 2, 1) := by decide +kernel
theorem dL_isSong_145 : decode cL_isSong 145 = .ok (.iload 7, 2) := by decide +kernel
theorem dL_isSong_147 : decode cL_isSong 147 = .ok (.iadd, 1) := by decide +kernel
theorem dL_isSong_148 : decode cL_isSong 148 = .ok (.istore_n 2, 1) := by decide +kernel
theorem dL_isSong_149 : decode cL_isSong 149 = .ok (.iload_n 3, 1) := by decide +kernel
theorem dL_isSong_150 : decode cL_isSong 150 = .ok (.iload 8, 2) := by decide +kernel
theorem dL_isSong_152 : decode cL_isSong 152 = .ok (.iadd, 1) := by decide +kernel
theorem dL_isSong_153 : decode cL_isSong 153 = .ok (.istore_n 3, 1) := by decide +kernel
theorem dL_isSong_154 : decode cL_isSong 154 = .ok (.iload 4, 2) := by decide +kernel
theorem dL_isSong_156 : decode cL_isSong 156 = .ok (.ifCond .eq 77, 3) := by decide +kernel
theorem dL_isSong_159 : decode cL_isSong 159 = .ok (.iload 6, 2) := by decide +kernel
theorem dL_isSong_161 : decode cL_isSong 161 = .ok (.ifCond .le 72, 3) := by decide +kernel
theorem dL_isSong_164 : decode cL_isSong 164 = .ok (.iload 6, 2) := by decide +kernel
theorem dL_isSong_166 : decode cL_isSong 166 = .ok (.bipush 13, 2) := by decide +kernel
theorem dL_isSong_168 : decode cL_isSong 168 = .ok (.if_icmp .ge 65, 3) := by decide +kernel
theorem dL_isSong_171 : decode cL_isSong 171 = .ok (.aload_n 0, 1) := by decide +kernel
theorem dL_isSong_172 : decode cL_isSong 172 = .ok (.iload 5, 2) := by decide +kernel
theorem dL_isSong_174 : decode cL_isSong 174 = .ok (.iconst 1, 1) := by decide +kernel
theorem dL_isSong_175 : decode cL_isSong 175 = .ok (.invokevirtual 31, 3) := by decide +kernel
theorem dL_isSong_178 : decode cL_isSong 178 = .ok (.iload 7, 2) := by decide +kernel
theorem dL_isSong_180 : decode cL_isSong 180 = .ok (.if_icmp .ne 53, 3) := by decide +kernel
theorem dL_isSong_183 : decode cL_isSong 183 = .ok (.aload_n 0, 1) := by decide +kernel
theorem dL_isSong_184 : decode cL_isSong 184 = .ok (.iload 5, 2) := by decide +kernel
theorem dL_isSong_186 : decode cL_isSong 186 = .ok (.iconst 2, 1) := by decide +kernel
theorem dL_isSong_187 : decode cL_isSong 187 = .ok (.invokevirtual 31, 3) := by decide +kernel
theorem dL_isSong_190 : decode cL_isSong 190 = .ok (.iload 8, 2) := by decide +kernel
theorem dL_isSong_192 : decode cL_isSong 192 = .ok (.if_icmp .ne 41, 3) := by decide +kernel
theorem dL_isSong_195 : decode cL_isSong 195 = .ok (.aload_n 0, 1) := by decide +kernel
theorem dL_isSong_196 : decode cL_isSong 196 = .ok (.iload 5, 2) := by decide +kernel
theorem dL_isSong_198 : decode cL_isSong 198 = .ok (.iconst 3, 1) := by decide +kernel
theorem dL_isSong_199 : decode cL_isSong 199 = .ok (.invokevirtual 31, 3) := by decide +kernel
theorem dL_isSong_202 : decode cL_isSong 202 = .ok (.iload 7, 2) := by decide +kernel
theorem dL_isSong_204 : decode cL_isSong 204 = .ok (.iload 8, 2) := by decide +kernel
theorem dL_isSong_206 : decode cL_isSong 206 = .ok (.aload_n 0, 1) := by decide +kernel
theorem dL_isSong_207 : decode cL_isSong 207 = .ok (.iconst 1, 1) := by decide +kernel
theorem dL_isSong_208 : decode cL_isSong 208 = .ok (.invokevirtual 20, 3) := by decide +kernel
theorem dL_isSong_211 : decode cL_isSong 211 = .ok (.imul, 1) := by decide +kernel
theorem dL_isSong_212 : decode cL_isSong 212 = .ok (.iadd, 1) := by decide +kernel
theorem dL_isSong_213 : decode cL_isSong 213 = .ok (.if_icmp .ne 20, 3) := by decide +kernel
theorem dL_isSong_216 : decode cL_isSong 216 = .ok (.aload_n 0, 1) := by decide +kernel
theorem dL_isSong_217 : decode cL_isSong 217 = .ok (.iload 5, 2) := by decide +kernel
theorem dL_isSong_219 : decode cL_isSong 219 = .ok (.iload 6, 2) := by decide +kernel
theorem dL_isSong_221 : decode cL_isSong 221 = .ok (.iconst 0, 1) := by decide +kernel
theorem dL_isSong_222 : decode cL_isSong 222 = .ok (.invokevirtual 27, 3) := by decide +kernel
theorem dL_isSong_225 : decode cL_isSong 225 = .ok (.iconst (-1), 1) := by decide +kernel
theorem dL_isSong_226 : decode cL_isSong 226 = .ok (.if_icmp .ne 7, 3) := by decide +kernel
theorem dL_isSong_229 : decode cL_isSong 229 = .ok (.iconst 1, 1) := by decide +kernel
theorem dL_isSong_230 : decode cL_isSong 230 = .ok (.goto 4, 3) := by decide +kernel
theorem dL_isSong_233 : decode cL_isSong 233 = .ok (.iconst 0, 1) := by decide +kernel
theorem dL_isSong_234 : decode cL_isSong 234 = .ok (.istore 4, 2) := by decide +kernel
theorem dL_isSong_236 : decode cL_isSong 236 = .ok (.iinc 5 1, 3) := by decide +kernel
theorem dL_isSong_239 : decode cL_isSong 239 = .ok (.goto (-208), 3) := by decide +kernel
theorem dL_isSong_242 : decode cL_isSong 242 = .ok (.iconst 0, 1) := by decide +kernel
theorem dL_isSong_243 : decode cL_isSong 243 = .ok (.istore 5, 2) := by decide +kernel
theorem dL_isSong_245 : decode cL_isSong 245 = .ok (.iconst 0, 1) := by decide +kernel
theorem dL_isSong_246 : decode cL_isSong 246 = .ok (.istore 6, 2) := by decide +kernel
theorem dL_isSong_248 : decode cL_isSong 248 = .ok (.iload 6, 2) := by decide +kernel
theorem dL_isSong_250 : decode cL_isSong 250 = .ok (.aload_n 0, 1) := by decide +kernel
theorem dL_isSong_251 : decode cL_isSong 251 = .ok (.bipush 9, 2) := by decide +kernel
theorem dL_isSong_253 : decode cL_isSong 253 = .ok (.invokevirtual 20, 3) := by decide +kernel
theorem dL_isSong_256 : decode cL_isSong 256 = .ok (.if_icmp .ge 211, 3) := by decide +kernel
theorem dL_isSong_259 : decode cL_isSong 259 = .ok (.iload 4, 2) := by decide +kernel
theorem dL_isSong_261 : decode cL_isSong 261 = .ok (.ifCond .eq 206, 3) := by decide +kernel
theorem dL_isSong_264 : decode cL_isSong 264 = .ok (.aload_n 0, 1) := by decide +kernel
theorem dL_isSong_265 : decode cL_isSong 265 = .ok (.iload 6, 2) := by decide +kernel
theorem dL_isSong_267 : decode cL_isSong 267 = .ok (.iconst 0, 1) := by decide +kernel
theorem dL_isSong_268 : decode cL_isSong 268 = .ok (.invokevirtual 23, 3) := by decide +kernel
theorem dL_isSong_271 : decode cL_isSong 271 = .ok (.istore 7, 2) := by decide +kernel
theorem dL_isSong_273 : decode cL_isSong 273 = .ok (.aload_n 0, 1) := by decide +kernel
theorem dL_isSong_274 : decode cL_isSong 274 = .ok (.iload 6, 2) := by decide +kernel
theorem dL_isSong_276 : decode cL_isSong 276 = .ok (.iconst 3, 1) := by decide +kernel
theorem dL_isSong_277 : decode cL_isSong 277 = .ok (.invokevirtual 23, 3) := by decide +kernel
theorem dL_isSong_280 : decode cL_isSong 280 = .ok (.istore 8, 2) := by decide +kernel
theorem dL_isSong_282 : decode cL_isSong 282 = .ok (.iload 5, 2) := by decide +kernel
theorem dL_isSong_284 : decode cL_isSong 284 = .ok (.iload 7, 2) := by decide +kernel
theorem dL_isSong_286 : decode cL_isSong 286 = .ok (.iadd, 1) := by decide +kernel
theorem dL_isSong_287 : decode cL_isSong 287 = .ok (.istore 5, 2) := by decide +kernel
theorem dL_isSong_289 : decode cL_isSong 289 = .ok (.iload 7, 2) := by decide +kernel
theorem dL_isSong_291 : decode cL_isSong 291 = .ok (.ifCond .le 167, 3) := by decide +kernel
theorem dL_isSong_294 : decode cL_isSong 294 = .ok (.iload 7, 2) := by decide +kernel
theorem dL_isSong_296 : decode cL_isSong 296 = .ok (.bipush 100, 2) := by decide +kernel
theorem dL_isSong_298 : decode cL_isSong 298 = .ok (.if_icmp .ge 160, 3) := by decide +kernel
theorem dL_isSong_301 : decode cL_isSong 301 = .ok (.aload_n 0, 1) := by decide +kernel
theorem dL_isSong_302 : decode cL_isSong 302 = .ok (.iload 6, 2) := by decide +kernel
theorem dL_isSong_304 : decode cL_isSong 304 = .ok (.iconst 1, 1) := by decide +kernel
theorem dL_isSong_305 : decode cL_isSong 305 = .ok (.invokevirtual 23, 3) := by decide +kernel
theorem dL_isSong_308 : decode cL_isSong 308 = .ok (.ifCond .lt 150, 3) := by decide +kernel
theorem dL_isSong_311 : decode cL_isSong 311 = .ok (.aload_n 0, 1) := by decide +kernel
theorem dL_isSong_312 : decode cL_isSong 312 = .ok (.iload 6, 2) := by decide +kernel
theorem dL_isSong_314 : decode cL_isSong 314 = .ok (.iconst 1, 1) := by decide +kernel
theorem dL_isSong_315 : decode cL_isSong 315 = .ok (.invokevirtual 23, 3) := by decide +kernel
theorem dL_isSong_318 : decode cL_isSong 318 = .ok (.bipush 7, 2) := by decide +kernel
theorem dL_isSong_320 : decode cL_isSong 320 = .ok (.if_icmp .ge 138, 3) := by decide +kernel
theorem dL_isSong_323 : decode cL_isSong 323 = .ok (.aload_n 0, 1) := by decide +kernel
theorem dL_isSong_324 : decode cL_isSong 324 = .ok (.iload 6, 2) := by decide +kernel
theorem dL_isSong_326 : decode cL_isSong 326 = .ok (.iconst 2, 1) := by decide +kernel
theorem dL_isSong_327 : decode cL_isSong 327 = .ok (.invokevirtual 23, 3) := by decide +kernel
theorem dL_isSong_330 : decode cL_isSong 330 = .ok (.ifCond .ne 13, 3) := by decide +kernel
theorem dL_isSong_333 : decode cL_isSong 333 = .ok (.iload 8, 2) := by decide +kernel
theorem dL_isSong_335 : decode cL_isSong 335 = .ok (.iload 7, 2) := by decide +kernel
theorem dL_isSong_337 : decode cL_isSong 337 = .ok (.if_icmp .ne 121, 3) := by decide +kernel
theorem dL_isSong_340 : decode cL_isSong 340 = .ok (.goto 41, 3) := by decide +kernel
theorem dL_isSong_343 : decode cL_isSong 343 = .ok (.aload_n 0, 1) := by decide +kernel
theorem dL_isSong_344 : decode cL_isSong 344 = .ok (.iload 6, 2) := by decide +kernel
theorem dL_isSong_346 : decode cL_isSong 346 = .ok (.iconst 2, 1) := by decide +kernel
theorem dL_isSong_347 : decode cL_isSong 347 = .ok (.invokevirtual 23, 3) := by decide +kernel
theorem dL_isSong_350 : decode cL_isSong 350 = .ok (.iconst 1, 1) := by decide +kernel
theorem dL_isSong_351 : decode cL_isSong 351 = .ok (.if_icmp .ne 107, 3) := by decide +kernel
theorem dL_isSong_354 : decode cL_isSong 354 = .ok (.iload 8, 2) := by decide +kernel
theorem dL_isSong_356 : decode cL_isSong 356 = .ok (.iload 8, 2) := by decide +kernel
theorem dL_isSong_358 : decode cL_isSong 358 = .ok (.aload_n 0, 1) := by decide +kernel
theorem dL_isSong_359 : decode cL_isSong 359 = .ok (.iconst 5, 1) := by decide +kernel
theorem dL_isSong_360 : decode cL_isSong 360 = .ok (.invokevirtual 20, 3) := by decide +kernel
theorem dL_isSong_363 : decode cL_isSong 363 = .ok (.idiv, 1) := by decide +kernel
theorem dL_isSong_364 : decode cL_isSong 364 = .ok (.isub, 1) := by decide +kernel
theorem dL_isSong_365 : decode cL_isSong 365 = .ok (.iload 7, 2) := by decide +kernel
theorem dL_isSong_367 : decode cL_isSong 367 = .ok (.if_icmp .ne 91, 3) := by decide +kernel
theorem dL_isSong_370 : decode cL_isSong 370 = .ok (.iload 8, 2) := by decide +kernel
theorem dL_isSong_372 : decode cL_isSong 372 = .ok (.aload_n 0, 1) := by decide +kernel
theorem dL_isSong_373 : decode cL_isSong 373 = .ok (.iconst 5, 1) := by decide +kernel
theorem dL_isSong_374 : decode cL_isSong 374 = .ok (.invokevirtual 20, 3) := by decide +kernel
theorem dL_isSong_377 : decode cL_isSong 377 = .ok (.irem, 1) := by decide +kernel
theorem dL_isSong_378 : decode cL_isSong 378 = .ok (.ifCond .eq 80, 3) := by decide +kernel
theorem dL_isSong_381 : decode cL_isSong 381 = .ok (.iload_n 1, 1) := by decide +kernel
theorem dL_isSong_382 : decode cL_isSong 382 = .ok (.ifCond .ne 18, 3) := by decide +kernel
theorem dL_isSong_385 : decode cL_isSong 385 = .ok (.aload_n 0, 1) := by decide +kernel
theorem dL_isSong_386 : decode cL_isSong 386 = .ok (.iload 6, 2) := by decide +kernel
theorem dL_isSong_388 : decode cL_isSong 388 = .ok (.iconst 0, 1) := by decide +kernel
theorem dL_isSong_389 : decode cL_isSong 389 = .ok (.invokevirtual 36, 3) := by decide +kernel
theorem dL_isSong_392 : decode cL_isSong 392 = .ok (.bipush (-5), 2) := by decide +kernel
theorem dL_isSong_394 : decode cL_isSong 394 = .ok (.if_icmp .ne 64, 3) := by decide +kernel
theorem dL_isSong_397 : decode cL_isSong 397 = .ok (.goto 57, 3) := by decide +kernel
theorem dL_isSong_400 : decode cL_isSong 400 = .ok (.aload_n 0, 1) := by decide +kernel
theorem dL_isSong_401 : decode cL_isSong 401 = .ok (.iload 6, 2) := by decide +kernel
theorem dL_isSong_403 : decode cL_isSong 403 = .ok (.iconst 0, 1) := by decide +kernel
theorem dL_isSong_404 : decode cL_isSong 404 = .ok (.invokevirtual 36, 3) := by decide +kernel
theorem dL_isSong_407 : decode cL_isSong 407 = .ok (.aload_n 0, 1) := by decide +kernel
theorem dL_isSong_408 : decode cL_isSong 408 = .ok (.iload 6, 2) := by decide +kernel
theorem dL_isSong_410 : decode cL_isSong 410 = .ok (.iconst 1, 1) := by decide +kernel
theorem dL_isSong_411 : decode cL_isSong 411 = .ok (.invokevirtual 36, 3) := by decide +kernel
theorem dL_isSong_414 : decode cL_isSong 414 = .ok (.if_icmp .ne 44, 3) := by decide +kernel
theorem dL_isSong_417 : decode cL_isSong 417 = .ok (.aload_n 0, 1) := by decide +kernel
theorem dL_isSong_418 : decode cL_isSong 418 = .ok (.iload 6, 2) := by decide +kernel
theorem dL_isSong_420 : decode cL_isSong 420 = .ok (.iconst 0, 1) := by decide +kernel
theorem dL_isSong_421 : decode cL_isSong 421 = .ok (.invokevirtual 36, 3) := by decide +kernel
theorem dL_isSong_424 : decode cL_isSong 424 = .ok (.ifCond .le 34, 3) := by decide +kernel
theorem dL_isSong_427 : decode cL_isSong 427 = .ok (.aload_n 0, 1) := by decide +kernel
theorem dL_isSong_428 : decode cL_isSong 428 = .ok (.iload 6, 2) := by decide +kernel
theorem dL_isSong_430 : decode cL_isSong 430 = .ok (.iconst 0, 1) := by decide +kernel
theorem dL_isSong_431 : decode cL_isSong 431 = .ok (.invokevirtual 36, 3) := by decide +kernel
theorem dL_isSong_434 : decode cL_isSong 434 = .ok (.iload 7, 2) := by decide +kernel
theorem dL_isSong_436 : decode cL_isSong 436 = .ok (.if_icmp .gt 22, 3) := by decide +kernel
theorem dL_isSong_439 : decode cL_isSong 439 = .ok (.aload_n 0, 1) := by decide +kernel
theorem dL_isSong_440 : decode cL_isSong 440 = .ok (.iload 6, 2) := by decide +kernel
theorem dL_isSong_442 : decode cL_isSong 442 = .ok (.iconst 0, 1) := by decide +kernel
theorem dL_isSong_443 : decode cL_isSong 443 = .ok (.invokevirtual 36, 3) := by decide +kernel
theorem dL_isSong_446 : decode cL_isSong 446 = .ok (.iload_n 2, 1) := by decide +kernel
theorem dL_isSong_447 : decode cL_isSong 447 = .ok (.imul, 1) := by decide +kernel
theorem dL_isSong_448 : decode cL_isSong 448 = .ok (.iload 7, 2) := by decide +kernel
theorem dL_isSong_450 : decode cL_isSong 450 = .ok (.irem, 1) := by decide +kernel
theorem dL_isSong_451 : decode cL_isSong 451 = .ok (.ifCond .ne 7, 3) := by decide +kernel
theorem dL_isSong_454 : decode cL_isSong 454 = .ok (.iconst 1, 1) := by decide +kernel
theorem dL_isSong_455 : decode cL_isSong 455 = .ok (.goto 4, 3) := by decide +kernel
theorem dL_isSong_458 : decode cL_isSong 458 = .ok (.iconst 0, 1) := by decide +kernel
theorem dL_isSong_459 : decode cL_isSong 459 = .ok (.istore 4, 2) := by decide +kernel
theorem dL_isSong_461 : decode cL_isSong 461 = .ok (.iinc 6 1, 3) := by decide +kernel
theorem dL_isSong_464 : decode cL_isSong 464 = .ok (.goto (-216), 3) := by decide +kernel
theorem dL_isSong_467 : decode cL_isSong 467 = .ok (.iload 4, 2) := by decide +kernel
theorem dL_isSong_469 : decode cL_isSong 469 = .ok (.ifCond .eq 38, 3) := by decide +kernel
theorem dL_isSong_472 : decode cL_isSong 472 = .ok (.iload_n 2, 1) := by decide +kernel
theorem dL_isSong_473 : decode cL_isSong 473 = .ok (.aload_n 0, 1) := by decide +kernel
theorem dL_isSong_474 : decode cL_isSong 474 = .ok (.bipush 7, 2) := by decide +kernel
theorem dL_isSong_476 : decode cL_isSong 476 = .ok (.invokevirtual 20, 3) := by decide +kernel
theorem dL_isSong_479 : decode cL_isSong 479 = .ok (.if_icmp .ne 28, 3) := by decide +kernel
theorem dL_isSong_482 : decode cL_isSong 482 = .ok (.iload_n 3, 1) := by decide +kernel
theorem dL_isSong_483 : decode cL_isSong 483 = .ok (.aload_n 0, 1) := by decide +kernel
theorem dL_isSong_484 : decode cL_isSong 484 = .ok (.bipush 8, 2) := by decide +kernel
theorem dL_isSong_486 : decode cL_isSong 486 = .ok (.invokevirtual 20, 3) := by decide +kernel
theorem dL_isSong_489 : decode cL_isSong 489 = .ok (.if_icmp .ne 18, 3) := by decide +kernel
theorem dL_isSong_492 : decode cL_isSong 492 = .ok (.iload 5, 2) := by decide +kernel
theorem dL_isSong_494 : decode cL_isSong 494 = .ok (.aload_n 0, 1) := by decide +kernel
theorem dL_isSong_495 : decode cL_isSong 495 = .ok (.bipush 10, 2) := by decide +kernel
theorem dL_isSong_497 : decode cL_isSong 497 = .ok (.invokevirtual 20, 3) := by decide +kernel
theorem dL_isSong_500 : decode cL_isSong 500 = .ok (.if_icmp .ne 7, 3) := by decide +kernel
theorem dL_isSong_503 : decode cL_isSong 503 = .ok (.iconst 1, 1) := by decide +kernel
theorem dL_isSong_504 : decode cL_isSong 504 = .ok (.goto 4, 3) := by decide +kernel
theorem dL_isSong_507 : decode cL_isSong 507 = .ok (.iconst 0, 1) := by decide +kernel
theorem dL_isSong_508 : decode cL_isSong 508 = .ok (.ireturn, 1) := by decide +kernel
theorem dL_refuses_0 : decode cL_refuses 0 = .ok (.aload_n 0, 1) := by decide +kernel
theorem dL_refuses_1 : decode cL_refuses 1 = .ok (.invokestatic 80, 3) := by decide +kernel
theorem dL_refuses_4 : decode cL_refuses 4 = .ok (.lstore_n 2, 1) := by decide +kernel
theorem dL_refuses_5 : decode cL_refuses 5 = .ok (.aload_n 0, 1) := by decide +kernel
theorem dL_refuses_6 : decode cL_refuses 6 = .ok (.bipush 12, 2) := by decide +kernel
theorem dL_refuses_8 : decode cL_refuses 8 = .ok (.invokevirtual 20, 3) := by decide +kernel
theorem dL_refuses_11 : decode cL_refuses 11 = .ok (.istore 4, 2) := by decide +kernel
theorem dL_refuses_13 : decode cL_refuses 13 = .ok (.aload_n 0, 1) := by decide +kernel
theorem dL_refuses_14 : decode cL_refuses 14 = .ok (.iload_n 1, 1) := by decide +kernel
theorem dL_refuses_15 : decode cL_refuses 15 = .ok (.invokestatic 84, 3) := by decide +kernel
theorem dL_refuses_18 : decode cL_refuses 18 = .ok (.ifCond .eq 27, 3) := by decide +kernel
theorem dL_refuses_21 : decode cL_refuses 21 = .ok (.aload_n 0, 1) := by decide +kernel
theorem dL_refuses_22 : decode cL_refuses 22 = .ok (.invokestatic 80, 3) := by decide +kernel
theorem dL_refuses_25 : decode cL_refuses 25 = .ok (.lload_n 2, 1) := by decide +kernel
theorem dL_refuses_26 : decode cL_refuses 26 = .ok (.lcmp, 1) := by decide +kernel
theorem dL_refuses_27 : decode cL_refuses 27 = .ok (.ifCond .ne 18, 3) := by decide +kernel
theorem dL_refuses_30 : decode cL_refuses 30 = .ok (.aload_n 0, 1) := by decide +kernel
theorem dL_refuses_31 : decode cL_refuses 31 = .ok (.bipush 12, 2) := by decide +kernel
theorem dL_refuses_33 : decode cL_refuses 33 = .ok (.invokevirtual 20, 3) := by decide +kernel
theorem dL_refuses_36 : decode cL_refuses 36 = .ok (.iload 4, 2) := by decide +kernel
theorem dL_refuses_38 : decode cL_refuses 38 = .ok (.if_icmp .ne 7, 3) := by decide +kernel
theorem dL_refuses_41 : decode cL_refuses 41 = .ok (.iconst 1, 1) := by decide +kernel
theorem dL_refuses_42 : decode cL_refuses 42 = .ok (.goto 4, 3) := by decide +kernel
theorem dL_refuses_45 : decode cL_refuses 45 = .ok (.iconst 0, 1) := by decide +kernel
theorem dL_refuses_46 : decode cL_refuses 46 = .ok (.ireturn, 1) := by decide +kernel
theorem dL_isBegun_0 : decode cL_isBegun 0 = .ok (.aload_n 0, 1) := by decide +kernel
theorem dL_isBegun_1 : decode cL_isBegun 1 = .ok (.bipush 7, 2) := by decide +kernel
theorem dL_isBegun_3 : decode cL_isBegun 3 = .ok (.invokevirtual 14, 3) := by decide +kernel
theorem dL_isBegun_6 : decode cL_isBegun 6 = .ok (.aload_n 0, 1) := by decide +kernel
theorem dL_isBegun_7 : decode cL_isBegun 7 = .ok (.iconst 4, 1) := by decide +kernel
theorem dL_isBegun_8 : decode cL_isBegun 8 = .ok (.invokevirtual 20, 3) := by decide +kernel
theorem dL_isBegun_11 : decode cL_isBegun 11 = .ok (.if_icmp .ne 7, 3) := by decide +kernel
theorem dL_isBegun_14 : decode cL_isBegun 14 = .ok (.iconst 1, 1) := by decide +kernel
theorem dL_isBegun_15 : decode cL_isBegun 15 = .ok (.goto 4, 3) := by decide +kernel
theorem dL_isBegun_18 : decode cL_isBegun 18 = .ok (.iconst 0, 1) := by decide +kernel
theorem dL_isBegun_19 : decode cL_isBegun 19 = .ok (.istore_n 1, 1) := by decide +kernel
theorem dL_isBegun_20 : decode cL_isBegun 20 = .ok (.iconst 0, 1) := by decide +kernel
theorem dL_isBegun_21 : decode cL_isBegun 21 = .ok (.istore_n 2, 1) := by decide +kernel
theorem dL_isBegun_22 : decode cL_isBegun 22 = .ok (.iload_n 2, 1) := by decide +kernel
theorem dL_isBegun_23 : decode cL_isBegun 23 = .ok (.bipush 15, 2) := by decide +kernel
theorem dL_isBegun_25 : decode cL_isBegun 25 = .ok (.if_icmp .ge 33, 3) := by decide +kernel
theorem dL_isBegun_28 : decode cL_isBegun 28 = .ok (.iload_n 1, 1) := by decide +kernel
theorem dL_isBegun_29 : decode cL_isBegun 29 = .ok (.ifCond .eq 29, 3) := by decide +kernel
theorem dL_isBegun_32 : decode cL_isBegun 32 = .ok (.iload_n 2, 1) := by decide +kernel
theorem dL_isBegun_33 : decode cL_isBegun 33 = .ok (.bipush 7, 2) := by decide +kernel
theorem dL_isBegun_35 : decode cL_isBegun 35 = .ok (.if_icmp .eq 11, 3) := by decide +kernel
theorem dL_isBegun_38 : decode cL_isBegun 38 = .ok (.aload_n 0, 1) := by decide +kernel
theorem dL_isBegun_39 : decode cL_isBegun 39 = .ok (.iload_n 2, 1) := by decide +kernel
theorem dL_isBegun_40 : decode cL_isBegun 40 = .ok (.invokevirtual 14, 3) := by decide +kernel
theorem dL_isBegun_43 : decode cL_isBegun 43 = .ok (.ifCond .ne 7, 3) := by decide +kernel
theorem dL_isBegun_46 : decode cL_isBegun 46 = .ok (.iconst 1, 1) := by decide +kernel
theorem dL_isBegun_47 : decode cL_isBegun 47 = .ok (.goto 4, 3) := by decide +kernel
theorem dL_isBegun_50 : decode cL_isBegun 50 = .ok (.iconst 0, 1) := by decide +kernel
theorem dL_isBegun_51 : decode cL_isBegun 51 = .ok (.istore_n 1, 1) := by decide +kernel
theorem dL_isBegun_52 : decode cL_isBegun 52 = .ok (.iinc 2 1, 3) := by decide +kernel
theorem dL_isBegun_55 : decode cL_isBegun 55 = .ok (.goto (-33), 3) := by decide +kernel
theorem dL_isBegun_58 : decode cL_isBegun 58 = .ok (.iload_n 1, 1) := by decide +kernel
theorem dL_isBegun_59 : decode cL_isBegun 59 = .ok (.ireturn, 1) := by decide +kernel
