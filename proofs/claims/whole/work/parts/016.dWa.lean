/-! decode rows -/
theorem dW_add_0 : decode cW_add 0 = .ok (.aload 4, 2) := by decide +kernel
theorem dW_add_2 : decode cW_add 2 = .ok (.iconst 0, 1) := by decide +kernel
theorem dW_add_3 : decode cW_add 3 = .ok (.aload_n 0, 1) := by decide +kernel
theorem dW_add_4 : decode cW_add 4 = .ok (.iload_n 1, 1) := by decide +kernel
theorem dW_add_5 : decode cW_add 5 = .ok (.iload_n 2, 1) := by decide +kernel
theorem dW_add_6 : decode cW_add 6 = .ok (.iload_n 3, 1) := by decide +kernel
theorem dW_add_7 : decode cW_add 7 = .ok (.invokevirtual 7, 3) := by decide +kernel
theorem dW_add_10 : decode cW_add 10 = .ok (.i2l, 1) := by decide +kernel
theorem dW_add_11 : decode cW_add 11 = .ok (.lastore, 1) := by decide +kernel
theorem dW_add_12 : decode cW_add 12 = .ok (.goto 11, 3) := by decide +kernel
theorem dW_add_15 : decode cW_add 15 = .ok (.astore 5, 2) := by decide +kernel
theorem dW_add_17 : decode cW_add 17 = .ok (.iconst 1, 1) := by decide +kernel
theorem dW_add_18 : decode cW_add 18 = .ok (.ireturn, 1) := by decide +kernel
theorem dW_add_19 : decode cW_add 19 = .ok (.astore 5, 2) := by decide +kernel
theorem dW_add_21 : decode cW_add 21 = .ok (.iconst 2, 1) := by decide +kernel
theorem dW_add_22 : decode cW_add 22 = .ok (.ireturn, 1) := by decide +kernel
theorem dW_add_23 : decode cW_add 23 = .ok (.iconst 0, 1) := by decide +kernel
theorem dW_add_24 : decode cW_add 24 = .ok (.ireturn, 1) := by decide +kernel
theorem dW_close_0 : decode cW_close 0 = .ok (.aload_n 1, 1) := by decide +kernel
theorem dW_close_1 : decode cW_close 1 = .ok (.iconst 0, 1) := by decide +kernel
theorem dW_close_2 : decode cW_close 2 = .ok (.aload_n 0, 1) := by decide +kernel
theorem dW_close_3 : decode cW_close 3 = .ok (.invokevirtual 17, 3) := by decide +kernel
theorem dW_close_6 : decode cW_close 6 = .ok (.i2l, 1) := by decide +kernel
theorem dW_close_7 : decode cW_close 7 = .ok (.lastore, 1) := by decide +kernel
theorem dW_close_8 : decode cW_close 8 = .ok (.goto 6, 3) := by decide +kernel
theorem dW_close_11 : decode cW_close 11 = .ok (.astore_n 2, 1) := by decide +kernel
theorem dW_close_12 : decode cW_close 12 = .ok (.iconst 1, 1) := by decide +kernel
theorem dW_close_13 : decode cW_close 13 = .ok (.ireturn, 1) := by decide +kernel
theorem dW_close_14 : decode cW_close 14 = .ok (.iconst 0, 1) := by decide +kernel
theorem dW_close_15 : decode cW_close 15 = .ok (.ireturn, 1) := by decide +kernel
theorem dW_move_0 : decode cW_move 0 = .ok (.aload_n 0, 1) := by decide +kernel
theorem dW_move_1 : decode cW_move 1 = .ok (.iload_n 1, 1) := by decide +kernel
theorem dW_move_2 : decode cW_move 2 = .ok (.iload_n 2, 1) := by decide +kernel
theorem dW_move_3 : decode cW_move 3 = .ok (.invokevirtual 21, 3) := by decide +kernel
theorem dW_move_6 : decode cW_move 6 = .ok (.goto 6, 3) := by decide +kernel
theorem dW_move_9 : decode cW_move 9 = .ok (.astore_n 3, 1) := by decide +kernel
theorem dW_move_10 : decode cW_move 10 = .ok (.iconst 1, 1) := by decide +kernel
theorem dW_move_11 : decode cW_move 11 = .ok (.ireturn, 1) := by decide +kernel
theorem dW_move_12 : decode cW_move 12 = .ok (.iconst 0, 1) := by decide +kernel
theorem dW_move_13 : decode cW_move 13 = .ok (.ireturn, 1) := by decide +kernel
theorem dW_winding_0 : decode cW_winding 0 = .ok (.aload_n 3, 1) := by decide +kernel
theorem dW_winding_1 : decode cW_winding 1 = .ok (.iconst 0, 1) := by decide +kernel
theorem dW_winding_2 : decode cW_winding 2 = .ok (.aload_n 0, 1) := by decide +kernel
theorem dW_winding_3 : decode cW_winding 3 = .ok (.iload_n 1, 1) := by decide +kernel
theorem dW_winding_4 : decode cW_winding 4 = .ok (.iload_n 2, 1) := by decide +kernel
theorem dW_winding_5 : decode cW_winding 5 = .ok (.invokevirtual 25, 3) := by decide +kernel
theorem dW_winding_8 : decode cW_winding 8 = .ok (.i2l, 1) := by decide +kernel
theorem dW_winding_9 : decode cW_winding 9 = .ok (.lastore, 1) := by decide +kernel
theorem dW_winding_10 : decode cW_winding 10 = .ok (.goto 7, 3) := by decide +kernel
theorem dW_winding_13 : decode cW_winding 13 = .ok (.astore 4, 2) := by decide +kernel
theorem dW_winding_15 : decode cW_winding 15 = .ok (.iconst 1, 1) := by decide +kernel
theorem dW_winding_16 : decode cW_winding 16 = .ok (.ireturn, 1) := by decide +kernel
theorem dW_winding_17 : decode cW_winding 17 = .ok (.iconst 0, 1) := by decide +kernel
theorem dW_winding_18 : decode cW_winding 18 = .ok (.ireturn, 1) := by decide +kernel
theorem dW_row_0 : decode cW_row 0 = .ok (.aload_n 2, 1) := by decide +kernel
theorem dW_row_1 : decode cW_row 1 = .ok (.iconst 0, 1) := by decide +kernel
theorem dW_row_2 : decode cW_row 2 = .ok (.aload_n 0, 1) := by decide +kernel
theorem dW_row_3 : decode cW_row 3 = .ok (.iload_n 1, 1) := by decide +kernel
theorem dW_row_4 : decode cW_row 4 = .ok (.invokevirtual 29, 3) := by decide +kernel
theorem dW_row_7 : decode cW_row 7 = .ok (.lastore, 1) := by decide +kernel
theorem dW_row_8 : decode cW_row 8 = .ok (.goto 6, 3) := by decide +kernel
theorem dW_row_11 : decode cW_row 11 = .ok (.astore_n 3, 1) := by decide +kernel
theorem dW_row_12 : decode cW_row 12 = .ok (.iconst 1, 1) := by decide +kernel
theorem dW_row_13 : decode cW_row 13 = .ok (.ireturn, 1) := by decide +kernel
theorem dW_row_14 : decode cW_row 14 = .ok (.iconst 0, 1) := by decide +kernel
theorem dW_row_15 : decode cW_row 15 = .ok (.ireturn, 1) := by decide +kernel
theorem dW_share_0 : decode cW_share 0 = .ok (.aload_n 3, 1) := by decide +kernel
theorem dW_share_1 : decode cW_share 1 = .ok (.iconst 0, 1) := by decide +kernel
theorem dW_share_2 : decode cW_share 2 = .ok (.aload_n 0, 1) := by decide +kernel
theorem dW_share_3 : decode cW_share 3 = .ok (.iload_n 1, 1) := by decide +kernel
theorem dW_share_4 : decode cW_share 4 = .ok (.iload_n 2, 1) := by decide +kernel
theorem dW_share_5 : decode cW_share 5 = .ok (.invokevirtual 35, 3) := by decide +kernel
theorem dW_share_8 : decode cW_share 8 = .ok (.i2l, 1) := by decide +kernel
theorem dW_share_9 : decode cW_share 9 = .ok (.lastore, 1) := by decide +kernel
theorem dW_share_10 : decode cW_share 10 = .ok (.goto 7, 3) := by decide +kernel
theorem dW_share_13 : decode cW_share 13 = .ok (.astore 4, 2) := by decide +kernel
theorem dW_share_15 : decode cW_share 15 = .ok (.iconst 1, 1) := by decide +kernel
theorem dW_share_16 : decode cW_share 16 = .ok (.ireturn, 1) := by decide +kernel
theorem dW_share_17 : decode cW_share 17 = .ok (.iconst 0, 1) := by decide +kernel
theorem dW_share_18 : decode cW_share 18 = .ok (.ireturn, 1) := by decide +kernel
theorem dW_spans_0 : decode cW_spans 0 = .ok (.aload_n 2, 1) := by decide +kernel
theorem dW_spans_1 : decode cW_spans 1 = .ok (.iconst 0, 1) := by decide +kernel
theorem dW_spans_2 : decode cW_spans 2 = .ok (.aload_n 0, 1) := by decide +kernel
theorem dW_spans_3 : decode cW_spans 3 = .ok (.iload_n 1, 1) := by decide +kernel
theorem dW_spans_4 : decode cW_spans 4 = .ok (.invokevirtual 38, 3) := by decide +kernel
theorem dW_spans_7 : decode cW_spans 7 = .ok (.i2l, 1) := by decide +kernel
theorem dW_spans_8 : decode cW_spans 8 = .ok (.lastore, 1) := by decide +kernel
theorem dW_spans_9 : decode cW_spans 9 = .ok (.goto 6, 3) := by decide +kernel
theorem dW_spans_12 : decode cW_spans 12 = .ok (.astore_n 3, 1) := by decide +kernel
theorem dW_spans_13 : decode cW_spans 13 = .ok (.iconst 1, 1) := by decide +kernel
theorem dW_spans_14 : decode cW_spans 14 = .ok (.ireturn, 1) := by decide +kernel
theorem dW_spans_15 : decode cW_spans 15 = .ok (.iconst 0, 1) := by decide +kernel
theorem dW_spans_16 : decode cW_spans 16 = .ok (.ireturn, 1) := by decide +kernel
theorem dW_span_0 : decode cW_span 0 = .ok (.aload 4, 2) := by decide +kernel
theorem dW_span_2 : decode cW_span 2 = .ok (.iconst 0, 1) := by decide +kernel
theorem dW_span_3 : decode cW_span 3 = .ok (.aload_n 0, 1) := by decide +kernel
theorem dW_span_4 : decode cW_span 4 = .ok (.iload_n 1, 1) := by decide +kernel
theorem dW_span_5 : decode cW_span 5 = .ok (.iload_n 2, 1) := by decide +kernel
theorem dW_span_6 : decode cW_span 6 = .ok (.iload_n 3, 1) := by decide +kernel
theorem dW_span_7 : decode cW_span 7 = .ok (.invokevirtual 42, 3) := by decide +kernel
theorem dW_span_10 : decode cW_span 10 = .ok (.i2l, 1) := by decide +kernel
theorem dW_span_11 : decode cW_span 11 = .ok (.lastore, 1) := by decide +kernel
theorem dW_span_12 : decode cW_span 12 = .ok (.goto 7, 3) := by decide +kernel
theorem dW_span_15 : decode cW_span 15 = .ok (.astore 5, 2) := by decide +kernel
theorem dW_span_17 : decode cW_span 17 = .ok (.iconst 1, 1) := by decide +kernel
theorem dW_span_18 : decode cW_span 18 = .ok (.ireturn, 1) := by decide +kernel
theorem dW_span_19 : decode cW_span 19 = .ok (.iconst 0, 1) := by decide +kernel
theorem dW_span_20 : decode cW_span 20 = .ok (.ireturn, 1) := by decide +kernel
theorem dW_extent_0 : decode cW_extent 0 = .ok (.aload_n 2, 1) := by decide +kernel
theorem dW_extent_1 : decode cW_extent 1 = .ok (.iconst 0, 1) := by decide +kernel
theorem dW_extent_2 : decode cW_extent 2 = .ok (.aload_n 0, 1) := by decide +kernel
theorem dW_extent_3 : decode cW_extent 3 = .ok (.iload_n 1, 1) := by decide +kernel
theorem dW_extent_4 : decode cW_extent 4 = .ok (.invokevirtual 45, 3) := by decide +kernel
theorem dW_extent_7 : decode cW_extent 7 = .ok (.i2l, 1) := by decide +kernel
theorem dW_extent_8 : decode cW_extent 8 = .ok (.lastore, 1) := by decide +kernel
theorem dW_extent_9 : decode cW_extent 9 = .ok (.goto 9, 3) := by decide +kernel
theorem dW_extent_12 : decode cW_extent 12 = .ok (.astore_n 3, 1) := by decide +kernel
theorem dW_extent_13 : decode cW_extent 13 = .ok (.iconst 1, 1) := by decide +kernel
theorem dW_extent_14 : decode cW_extent 14 = .ok (.ireturn, 1) := by decide +kernel
theorem dW_extent_15 : decode cW_extent 15 = .ok (.astore_n 3, 1) := by decide +kernel
theorem dW_extent_16 : decode cW_extent 16 = .ok (.iconst 2, 1) := by decide +kernel
theorem dW_extent_17 : decode cW_extent 17 = .ok (.ireturn, 1) := by decide +kernel
theorem dW_extent_18 : decode cW_extent 18 = .ok (.iconst 0, 1) := by decide +kernel
theorem dW_extent_19 : decode cW_extent 19 = .ok (.ireturn, 1) := by decide +kernel
theorem dW_law_0 : decode cW_law 0 = .ok (.new 8, 3) := by decide +kernel
theorem dW_law_3 : decode cW_law 3 = .ok (.dup, 1) := by decide +kernel
theorem dW_law_4 : decode cW_law 4 = .ok (.invokespecial 48, 3) := by decide +kernel
theorem dW_law_7 : decode cW_law 7 = .ok (.astore_n 1, 1) := by decide +kernel
theorem dW_law_8 : decode cW_law 8 = .ok (.new 49, 3) := by decide +kernel
theorem dW_law_11 : decode cW_law 11 = .ok (.dup, 1) := by decide +kernel
theorem dW_law_12 : decode cW_law 12 = .ok (.invokespecial 51, 3) := by decide +kernel
theorem dW_law_15 : decode cW_law 15 = .ok (.astore_n 2, 1) := by decide +kernel
theorem dW_law_16 : decode cW_law 16 = .ok (.iconst 1, 1) := by decide +kernel
theorem dW_law_17 : decode cW_law 17 = .ok (.newarray .long, 2) := by decide +kernel
theorem dW_law_19 : decode cW_law 19 = .ok (.astore_n 3, 1) := by decide +kernel
theorem dW_law_20 : decode cW_law 20 = .ok (.iconst 0, 1) := by decide +kernel
theorem dW_law_21 : decode cW_law 21 = .ok (.istore 4, 2) := by decide +kernel
theorem dW_law_23 : decode cW_law 23 = .ok (.iload 4, 2) := by decide +kernel
theorem dW_law_25 : decode cW_law 25 = .ok (.aload_n 0, 1) := by decide +kernel
theorem dW_law_26 : decode cW_law 26 = .ok (.arraylength, 1) := by decide +kernel
theorem dW_law_27 : decode cW_law 27 = .ok (.iconst 4, 1) := by decide +kernel
theorem dW_law_28 : decode cW_law 28 = .ok (.isub, 1) := by decide +kernel
theorem dW_law_29 : decode cW_law 29 = .ok (.if_icmp .gt 760, 3) := by decide +kernel
theorem dW_law_32 : decode cW_law 32 = .ok (.aload_n 0, 1) := by decide +kernel
theorem dW_law_33 : decode cW_law 33 = .ok (.iload 4, 2) := by decide +kernel
theorem dW_law_35 : decode cW_law 35 = .ok (.iaload, 1) := by decide +kernel
theorem dW_law_36 : decode cW_law 36 = .ok (.bipush 15, 2) := by decide +kernel
theorem dW_law_38 : decode cW_law 38 = .ok (.iand, 1) := by decide +kernel
theorem dW_law_39 : decode cW_law 39 = .ok (.tableswitch 744 0 12 #[65, 161, 205, 218, 231, 279, 320, 345, 413, 468, 536, 592, 688], 65) := by decide +kernel
theorem dW_law_104 : decode cW_law 104 = .ok (.aload_n 1, 1) := by decide +kernel
theorem dW_law_105 : decode cW_law 105 = .ok (.aload_n 0, 1) := by decide +kernel
theorem dW_law_106 : decode cW_law 106 = .ok (.iload 4, 2) := by decide +kernel
theorem dW_law_108 : decode cW_law 108 = .ok (.iconst 1, 1) := by decide +kernel
theorem dW_law_109 : decode cW_law 109 = .ok (.iadd, 1) := by decide +kernel
theorem dW_law_110 : decode cW_law 110 = .ok (.iaload, 1) := by decide +kernel
theorem dW_law_111 : decode cW_law 111 = .ok (.aload_n 0, 1) := by decide +kernel
theorem dW_law_112 : decode cW_law 112 = .ok (.iload 4, 2) := by decide +kernel
theorem dW_law_114 : decode cW_law 114 = .ok (.iconst 2, 1) := by decide +kernel
theorem dW_law_115 : decode cW_law 115 = .ok (.iadd, 1) := by decide +kernel
theorem dW_law_116 : decode cW_law 116 = .ok (.iaload, 1) := by decide +kernel
theorem dW_law_117 : decode cW_law 117 = .ok (.aload_n 0, 1) := by decide +kernel
theorem dW_law_118 : decode cW_law 118 = .ok (.iload 4, 2) := by decide +kernel
theorem dW_law_120 : decode cW_law 120 = .ok (.iconst 3, 1) := by decide +kernel
theorem dW_law_121 : decode cW_law 121 = .ok (.iadd, 1) := by decide +kernel
theorem dW_law_122 : decode cW_law 122 = .ok (.iaload, 1) := by decide +kernel
theorem dW_law_123 : decode cW_law 123 = .ok (.ifCond .eq 7, 3) := by decide +kernel
theorem dW_law_126 : decode cW_law 126 = .ok (.iconst 1, 1) := by decide +kernel
theorem dW_law_127 : decode cW_law 127 = .ok (.goto 4, 3) := by decide +kernel
theorem dW_law_130 : decode cW_law 130 = .ok (.iconst 0, 1) := by decide +kernel
theorem dW_law_131 : decode cW_law 131 = .ok (.aload_n 3, 1) := by decide +kernel
theorem dW_law_132 : decode cW_law 132 = .ok (.invokestatic 52, 3) := by decide +kernel
theorem dW_law_135 : decode cW_law 135 = .ok (.istore 5, 2) := by decide +kernel
theorem dW_law_137 : decode cW_law 137 = .ok (.aload_n 2, 1) := by decide +kernel
theorem dW_law_138 : decode cW_law 138 = .ok (.aload_n 0, 1) := by decide +kernel
theorem dW_law_139 : decode cW_law 139 = .ok (.iload 4, 2) := by decide +kernel
theorem dW_law_141 : decode cW_law 141 = .ok (.iconst 1, 1) := by decide +kernel
theorem dW_law_142 : decode cW_law 142 = .ok (.iadd, 1) := by decide +kernel
theorem dW_law_143 : decode cW_law 143 = .ok (.iaload, 1) := by decide +kernel
theorem dW_law_144 : decode cW_law 144 = .ok (.aload_n 0, 1) := by decide +kernel
theorem dW_law_145 : decode cW_law 145 = .ok (.iload 4, 2) := by decide +kernel
theorem dW_law_147 : decode cW_law 147 = .ok (.iconst 2, 1) := by decide +kernel
theorem dW_law_148 : decode cW_law 148 = .ok (.iadd, 1) := by decide +kernel
theorem dW_law_149 : decode cW_law 149 = .ok (.iaload, 1) := by decide +kernel
theorem dW_law_150 : decode cW_law 150 = .ok (.aload_n 0, 1) := by decide +kernel
theorem dW_law_151 : decode cW_law 151 = .ok (.iload 4, 2) := by decide +kernel
theorem dW_law_153 : decode cW_law 153 = .ok (.iconst 3, 1) := by decide +kernel
theorem dW_law_154 : decode cW_law 154 = .ok (.iadd, 1) := by decide +kernel
theorem dW_law_155 : decode cW_law 155 = .ok (.iaload, 1) := by decide +kernel
theorem dW_law_156 : decode cW_law 156 = .ok (.ifCond .eq 7, 3) := by decide +kernel
theorem dW_law_159 : decode cW_law 159 = .ok (.iconst 1, 1) := by decide +kernel
theorem dW_law_160 : decode cW_law 160 = .ok (.goto 4, 3) := by decide +kernel
theorem dW_law_163 : decode cW_law 163 = .ok (.iconst 0, 1) := by decide +kernel
theorem dW_law_164 : decode cW_law 164 = .ok (.invokevirtual 57, 3) := by decide +kernel
theorem dW_law_167 : decode cW_law 167 = .ok (.istore 6, 2) := by decide +kernel
theorem dW_law_169 : decode cW_law 169 = .ok (.aload_n 2, 1) := by decide +kernel
theorem dW_law_170 : decode cW_law 170 = .ok (.invokevirtual 58, 3) := by decide +kernel
theorem dW_law_173 : decode cW_law 173 = .ok (.iload 5, 2) := by decide +kernel
theorem dW_law_175 : decode cW_law 175 = .ok (.if_icmp .eq 5, 3) := by decide +kernel
theorem dW_law_178 : decode cW_law 178 = .ok (.iconst 0, 1) := by decide +kernel
theorem dW_law_179 : decode cW_law 179 = .ok (.ireturn, 1) := by decide +kernel
theorem dW_law_180 : decode cW_law 180 = .ok (.iload 5, 2) := by decide +kernel
theorem dW_law_182 : decode cW_law 182 = .ok (.ifCond .ne 15, 3) := by decide +kernel
theorem dW_law_185 : decode cW_law 185 = .ok (.aload_n 3, 1) := by decide +kernel
theorem dW_law_186 : decode cW_law 186 = .ok (.iconst 0, 1) := by decide +kernel
theorem dW_law_187 : decode cW_law 187 = .ok (.laload, 1) := by decide +kernel
theorem dW_law_188 : decode cW_law 188 = .ok (.iload 6, 2) := by decide +kernel
theorem dW_law_190 : decode cW_law 190 = .ok (.i2l, 1) := by decide +kernel
theorem dW_law_191 : decode cW_law 191 = .ok (.lcmp, 1) := by decide +kernel
theorem dW_law_192 : decode cW_law 192 = .ok (.ifCond .eq 5, 3) := by decide +kernel
theorem dW_law_195 : decode cW_law 195 = .ok (.iconst 0, 1) := by decide +kernel
theorem dW_law_196 : decode cW_law 196 = .ok (.ireturn, 1) := by decide +kernel
theorem dW_law_197 : decode cW_law 197 = .ok (.goto 586, 3) := by decide +kernel
theorem dW_law_200 : decode cW_law 200 = .ok (.aload_n 1, 1) := by decide +kernel
theorem dW_law_201 : decode cW_law 201 = .ok (.aload_n 3, 1) := by decide +kernel
theorem dW_law_202 : decode cW_law 202 = .ok (.invokestatic 61, 3) := by decide +kernel
theorem dW_law_205 : decode cW_law 205 = .ok (.istore 5, 2) := by decide +kernel
theorem dW_law_207 : decode cW_law 207 = .ok (.aload_n 2, 1) := by decide +kernel
theorem dW_law_208 : decode cW_law 208 = .ok (.invokevirtual 64, 3) := by decide +kernel
theorem dW_law_211 : decode cW_law 211 = .ok (.istore 6, 2) := by decide +kernel
theorem dW_law_213 : decode cW_law 213 = .ok (.aload_n 2, 1) := by decide +kernel
theorem dW_law_214 : decode cW_law 214 = .ok (.invokevirtual 58, 3) := by decide +kernel
theorem dW_law_217 : decode cW_law 217 = .ok (.iload 5, 2) := by decide +kernel
theorem dW_law_219 : decode cW_law 219 = .ok (.if_icmp .eq 5, 3) := by decide +kernel
theorem dW_law_222 : decode cW_law 222 = .ok (.iconst 0, 1) := by decide +kernel
theorem dW_law_223 : decode cW_law 223 = .ok (.ireturn, 1) := by decide +kernel
theorem dW_law_224 : decode cW_law 224 = .ok (.iload 5, 2) := by decide +kernel
theorem dW_law_226 : decode cW_law 226 = .ok (.ifCond .ne 15, 3) := by decide +kernel
theorem dW_law_229 : decode cW_law 229 = .ok (.aload_n 3, 1) := by decide +kernel
theorem dW_law_230 : decode cW_law 230 = .ok (.iconst 0, 1) := by decide +kernel
theorem dW_law_231 : decode cW_law 231 = .ok (.laload, 1) := by decide +kernel
theorem dW_law_232 : decode cW_law 232 = .ok (.iload 6, 2) := by decide +kernel
theorem dW_law_234 : decode cW_law 234 = .ok (.i2l, 1) := by decide +kernel
theorem dW_law_235 : decode cW_law 235 = .ok (.lcmp, 1) := by decide +kernel
theorem dW_law_236 : decode cW_law 236 = .ok (.ifCond .eq 5, 3) := by decide +kernel
theorem dW_law_239 : decode cW_law 239 = .ok (.iconst 0, 1) := by decide +kernel
theorem dW_law_240 : decode cW_law 240 = .ok (.ireturn, 1) := by decide +kernel
theorem dW_law_241 : decode cW_law 241 = .ok (.goto 542, 3) := by decide +kernel
theorem dW_law_244 : decode cW_law 244 = .ok (.aload_n 1, 1) := by decide +kernel
theorem dW_law_245 : decode cW_law 245 = .ok (.invokevirtual 65, 3) := by decide +kernel
theorem dW_law_248 : decode cW_law 248 = .ok (.aload_n 2, 1) := by decide +kernel
theorem dW_law_249 : decode cW_law 249 = .ok (.invokevirtual 68, 3) := by decide +kernel
theorem dW_law_252 : decode cW_law 252 = .ok (.if_icmp .eq 531, 3) := by decide +kernel
theorem dW_law_255 : decode cW_law 255 = .ok (.iconst 0, 1) := by decide +kernel
theorem dW_law_256 : decode cW_law 256 = .ok (.ireturn, 1) := by decide +kernel
theorem dW_law_257 : decode cW_law 257 = .ok (.aload_n 1, 1) := by decide +kernel
theorem dW_law_258 : decode cW_law 258 = .ok (.invokevirtual 69, 3) := by decide +kernel
theorem dW_law_261 : decode cW_law 261 = .ok (.aload_n 2, 1) := by decide +kernel
theorem dW_law_262 : decode cW_law 262 = .ok (.invokevirtual 72, 3) := by decide +kernel
theorem dW_law_265 : decode cW_law 265 = .ok (.if_icmp .eq 518, 3) := by decide +kernel
theorem dW_law_268 : decode cW_law 268 = .ok (.iconst 0, 1) := by decide +kernel
theorem dW_law_269 : decode cW_law 269 = .ok (.ireturn, 1) := by decide +kernel
theorem dW_law_270 : decode cW_law 270 = .ok (.aload_n 1, 1) := by decide +kernel
theorem dW_law_271 : decode cW_law 271 = .ok (.aload_n 0, 1) := by decide +kernel
theorem dW_law_272 : decode cW_law 272 = .ok (.iload 4, 2) := by decide +kernel
theorem dW_law_274 : decode cW_law 274 = .ok (.iconst 1, 1) := by decide +kernel
theorem dW_law_275 : decode cW_law 275 = .ok (.iadd, 1) := by decide +kernel
theorem dW_law_276 : decode cW_law 276 = .ok (.iaload, 1) := by decide +kernel
theorem dW_law_277 : decode cW_law 277 = .ok (.aload_n 0, 1) := by decide +kernel
theorem dW_law_278 : decode cW_law 278 = .ok (.iload 4, 2) := by decide +kernel
theorem dW_law_280 : decode cW_law 280 = .ok (.iconst 2, 1) := by decide +kernel
theorem dW_law_281 : decode cW_law 281 = .ok (.iadd, 1) := by decide +kernel
theorem dW_law_282 : decode cW_law 282 = .ok (.iaload, 1) := by decide +kernel
theorem dW_law_283 : decode cW_law 283 = .ok (.invokestatic 73, 3) := by decide +kernel
theorem dW_law_286 : decode cW_law 286 = .ok (.istore 5, 2) := by decide +kernel
theorem dW_law_288 : decode cW_law 288 = .ok (.aload_n 2, 1) := by decide +kernel
theorem dW_law_289 : decode cW_law 289 = .ok (.aload_n 0, 1) := by decide +kernel
theorem dW_law_290 : decode cW_law 290 = .ok (.iload 4, 2) := by decide +kernel
theorem dW_law_292 : decode cW_law 292 = .ok (.iconst 1, 1) := by decide +kernel
theorem dW_law_293 : decode cW_law 293 = .ok (.iadd, 1) := by decide +kernel
theorem dW_law_294 : decode cW_law 294 = .ok (.iaload, 1) := by decide +kernel
theorem dW_law_295 : decode cW_law 295 = .ok (.aload_n 0, 1) := by decide +kernel
theorem dW_law_296 : decode cW_law 296 = .ok (.iload 4, 2) := by decide +kernel
theorem dW_law_298 : decode cW_law 298 = .ok (.iconst 2, 1) := by decide +kernel
theorem dW_law_299 : decode cW_law 299 = .ok (.iadd, 1) := by decide +kernel
theorem dW_law_300 : decode cW_law 300 = .ok (.iaload, 1) := by decide +kernel
theorem dW_law_301 : decode cW_law 301 = .ok (.invokevirtual 76, 3) := by decide +kernel
theorem dW_law_304 : decode cW_law 304 = .ok (.aload_n 2, 1) := by decide +kernel
theorem dW_law_305 : decode cW_law 305 = .ok (.invokevirtual 58, 3) := by decide +kernel
theorem dW_law_308 : decode cW_law 308 = .ok (.iload 5, 2) := by decide +kernel
theorem dW_law_310 : decode cW_law 310 = .ok (.if_icmp .eq 5, 3) := by decide +kernel
theorem dW_law_313 : decode cW_law 313 = .ok (.iconst 0, 1) := by decide +kernel
theorem dW_law_314 : decode cW_law 314 = .ok (.ireturn, 1) := by decide +kernel
theorem dW_law_315 : decode cW_law 315 = .ok (.goto 468, 3) := by decide +kernel
theorem dW_law_318 : decode cW_law 318 = .ok (.aload_n 1, 1) := by decide +kernel
theorem dW_law_319 : decode cW_law 319 = .ok (.aload_n 0, 1) := by decide +kernel
theorem dW_law_320 : decode cW_law 320 = .ok (.iload 4, 2) := by decide +kernel
theorem dW_law_322 : decode cW_law 322 = .ok (.iconst 1, 1) := by decide +kernel
theorem dW_law_323 : decode cW_law 323 = .ok (.iadd, 1) := by decide +kernel
theorem dW_law_324 : decode cW_law 324 = .ok (.iaload, 1) := by decide +kernel
theorem dW_law_325 : decode cW_law 325 = .ok (.ifCond .eq 7, 3) := by decide +kernel
theorem dW_law_328 : decode cW_law 328 = .ok (.iconst 1, 1) := by decide +kernel
theorem dW_law_329 : decode cW_law 329 = .ok (.goto 4, 3) := by decide +kernel
theorem dW_law_332 : decode cW_law 332 = .ok (.iconst 0, 1) := by decide +kernel
theorem dW_law_333 : decode cW_law 333 = .ok (.invokevirtual 77, 3) := by decide +kernel
theorem dW_law_336 : decode cW_law 336 = .ok (.aload_n 2, 1) := by decide +kernel
theorem dW_law_337 : decode cW_law 337 = .ok (.aload_n 0, 1) := by decide +kernel
theorem dW_law_338 : decode cW_law 338 = .ok (.iload 4, 2) := by decide +kernel
theorem dW_law_340 : decode cW_law 340 = .ok (.iconst 1, 1) := by decide +kernel
theorem dW_law_341 : decode cW_law 341 = .ok (.iadd, 1) := by decide +kernel
theorem dW_law_342 : decode cW_law 342 = .ok (.iaload, 1) := by decide +kernel
theorem dW_law_343 : decode cW_law 343 = .ok (.ifCond .eq 7, 3) := by decide +kernel
theorem dW_law_346 : decode cW_law 346 = .ok (.iconst 1, 1) := by decide +kernel
theorem dW_law_347 : decode cW_law 347 = .ok (.goto 4, 3) := by decide +kernel
theorem dW_law_350 : decode cW_law 350 = .ok (.iconst 0, 1) := by decide +kernel
theorem dW_law_351 : decode cW_law 351 = .ok (.invokevirtual 81, 3) := by decide +kernel
theorem dW_law_354 : decode cW_law 354 = .ok (.if_icmp .eq 429, 3) := by decide +kernel
theorem dW_law_357 : decode cW_law 357 = .ok (.iconst 0, 1) := by decide +kernel
theorem dW_law_358 : decode cW_law 358 = .ok (.ireturn, 1) := by decide +kernel
theorem dW_law_359 : decode cW_law 359 = .ok (.aload_n 1, 1) := by decide +kernel
theorem dW_law_360 : decode cW_law 360 = .ok (.aload_n 0, 1) := by decide +kernel
theorem dW_law_361 : decode cW_law 361 = .ok (.iload 4, 2) := by decide +kernel
theorem dW_law_363 : decode cW_law 363 = .ok (.iconst 1, 1) := by decide +kernel
theorem dW_law_364 : decode cW_law 364 = .ok (.iadd, 1) := by decide +kernel
theorem dW_law_365 : decode cW_law 365 = .ok (.iaload, 1) := by decide +kernel
theorem dW_law_366 : decode cW_law 366 = .ok (.invokevirtual 82, 3) := by decide +kernel
theorem dW_law_369 : decode cW_law 369 = .ok (.aload_n 2, 1) := by decide +kernel
theorem dW_law_370 : decode cW_law 370 = .ok (.aload_n 0, 1) := by decide +kernel
theorem dW_law_371 : decode cW_law 371 = .ok (.iload 4, 2) := by decide +kernel
theorem dW_law_373 : decode cW_law 373 = .ok (.iconst 1, 1) := by decide +kernel
theorem dW_law_374 : decode cW_law 374 = .ok (.iadd, 1) := by decide +kernel
theorem dW_law_375 : decode cW_law 375 = .ok (.iaload, 1) := by decide +kernel
theorem dW_law_376 : decode cW_law 376 = .ok (.invokevirtual 85, 3) := by decide +kernel
theorem dW_law_379 : decode cW_law 379 = .ok (.if_icmp .eq 404, 3) := by decide +kernel
theorem dW_law_382 : decode cW_law 382 = .ok (.iconst 0, 1) := by decide +kernel
theorem dW_law_383 : decode cW_law 383 = .ok (.ireturn, 1) := by decide +kernel
theorem dW_law_384 : decode cW_law 384 = .ok (.aload_n 1, 1) := by decide +kernel
theorem dW_law_385 : decode cW_law 385 = .ok (.aload_n 0, 1) := by decide +kernel
theorem dW_law_386 : decode cW_law 386 = .ok (.iload 4, 2) := by decide +kernel
theorem dW_law_388 : decode cW_law 388 = .ok (.iconst 1, 1) := by decide +kernel
theorem dW_law_389 : decode cW_law 389 = .ok (.iadd, 1) := by decide +kernel
theorem dW_law_390 : decode cW_law 390 = .ok (.iaload, 1) := by decide +kernel
theorem dW_law_391 : decode cW_law 391 = .ok (.aload_n 0, 1) := by decide +kernel
theorem dW_law_392 : decode cW_law 392 = .ok (.iload 4, 2) := by decide +kernel
theorem dW_law_394 : decode cW_law 394 = .ok (.iconst 2, 1) := by decide +kernel
theorem dW_law_395 : decode cW_law 395 = .ok (.iadd, 1) := by decide +kernel
theorem dW_law_396 : decode cW_law 396 = .ok (.iaload, 1) := by decide +kernel
theorem dW_law_397 : decode cW_law 397 = .ok (.aload_n 3, 1) := by decide +kernel
theorem dW_law_398 : decode cW_law 398 = .ok (.invokestatic 86, 3) := by decide +kernel
theorem dW_law_401 : decode cW_law 401 = .ok (.istore 5, 2) := by decide +kernel
theorem dW_law_403 : decode cW_law 403 = .ok (.aload_n 2, 1) := by decide +kernel
theorem dW_law_404 : decode cW_law 404 = .ok (.aload_n 0, 1) := by decide +kernel
theorem dW_law_405 : decode cW_law 405 = .ok (.iload 4, 2) := by decide +kernel
theorem dW_law_407 : decode cW_law 407 = .ok (.iconst 1, 1) := by decide +kernel
theorem dW_law_408 : decode cW_law 408 = .ok (.iadd, 1) := by decide +kernel
theorem dW_law_409 : decode cW_law 409 = .ok (.iaload, 1) := by decide +kernel
theorem dW_law_410 : decode cW_law 410 = .ok (.aload_n 0, 1) := by decide +kernel
theorem dW_law_411 : decode cW_law 411 = .ok (.iload 4, 2) := by decide +kernel
theorem dW_law_413 : decode cW_law 413 = .ok (.iconst 2, 1) := by decide +kernel
theorem dW_law_414 : decode cW_law 414 = .ok (.iadd, 1) := by decide +kernel
theorem dW_law_415 : decode cW_law 415 = .ok (.iaload, 1) := by decide +kernel
theorem dW_law_416 : decode cW_law 416 = .ok (.invokevirtual 89, 3) := by decide +kernel
theorem dW_law_419 : decode cW_law 419 = .ok (.istore 6, 2) := by decide +kernel
theorem dW_law_421 : decode cW_law 421 = .ok (.aload_n 2, 1) := by decide +kernel
theorem dW_law_422 : decode cW_law 422 = .ok (.invokevirtual 58, 3) := by decide +kernel
theorem dW_law_425 : decode cW_law 425 = .ok (.iload 5, 2) := by decide +kernel
theorem dW_law_427 : decode cW_law 427 = .ok (.if_icmp .eq 5, 3) := by decide +kernel
theorem dW_law_430 : decode cW_law 430 = .ok (.iconst 0, 1) := by decide +kernel
theorem dW_law_431 : decode cW_law 431 = .ok (.ireturn, 1) := by decide +kernel
theorem dW_law_432 : decode cW_law 432 = .ok (.iload 5, 2) := by decide +kernel
theorem dW_law_434 : decode cW_law 434 = .ok (.ifCond .ne 15, 3) := by decide +kernel
theorem dW_law_437 : decode cW_law 437 = .ok (.aload_n 3, 1) := by decide +kernel
theorem dW_law_438 : decode cW_law 438 = .ok (.iconst 0, 1) := by decide +kernel
theorem dW_law_439 : decode cW_law 439 = .ok (.laload, 1) := by decide +kernel
theorem dW_law_440 : decode cW_law 440 = .ok (.iload 6, 2) := by decide +kernel
theorem dW_law_442 : decode cW_law 442 = .ok (.i2l, 1) := by decide +kernel
theorem dW_law_443 : decode cW_law 443 = .ok (.lcmp, 1) := by decide +kernel
theorem dW_law_444 : decode cW_law 444 = .ok (.ifCond .eq 5, 3) := by decide +kernel
theorem dW_law_447 : decode cW_law 447 = .ok (.iconst 0, 1) := by decide +kernel
theorem dW_law_448 : decode cW_law 448 = .ok (.ireturn, 1) := by decide +kernel
theorem dW_law_449 : decode cW_law 449 = .ok (.goto 334, 3) := by decide +kernel
theorem dW_law_452 : decode cW_law 452 = .ok (.aload_n 1, 1) := by decide +kernel
theorem dW_law_453 : decode cW_law 453 = .ok (.aload_n 0, 1) := by decide +kernel
theorem dW_law_454 : decode cW_law 454 = .ok (.iload 4, 2) := by decide +kernel
theorem dW_law_456 : decode cW_law 456 = .ok (.iconst 1, 1) := by decide +kernel
theorem dW_law_457 : decode cW_law 457 = .ok (.iadd, 1) := by decide +kernel
theorem dW_law_458 : decode cW_law 458 = .ok (.iaload, 1) := by decide +kernel
theorem dW_law_459 : decode cW_law 459 = .ok (.aload_n 3, 1) := by decide +kernel
theorem dW_law_460 : decode cW_law 460 = .ok (.invokestatic 90, 3) := by decide +kernel
theorem dW_law_463 : decode cW_law 463 = .ok (.istore 5, 2) := by decide +kernel
theorem dW_law_465 : decode cW_law 465 = .ok (.aload_n 2, 1) := by decide +kernel
theorem dW_law_466 : decode cW_law 466 = .ok (.aload_n 0, 1) := by decide +kernel
theorem dW_law_467 : decode cW_law 467 = .ok (.iload 4, 2) := by decide +kernel
theorem dW_law_469 : decode cW_law 469 = .ok (.iconst 1, 1) := by decide +kernel
theorem dW_law_470 : decode cW_law 470 = .ok (.iadd, 1) := by decide +kernel
theorem dW_law_471 : decode cW_law 471 = .ok (.iaload, 1) := by decide +kernel
theorem dW_law_472 : decode cW_law 472 = .ok (.invokevirtual 93, 3) := by decide +kernel
theorem dW_law_475 : decode cW_law 475 = .ok (.lstore 6, 2) := by decide +kernel
theorem dW_law_477 : decode cW_law 477 = .ok (.aload_n 2, 1) := by decide +kernel
theorem dW_law_478 : decode cW_law 478 = .ok (.invokevirtual 58, 3) := by decide +kernel
theorem dW_law_481 : decode cW_law 481 = .ok (.iload 5, 2) := by decide +kernel
theorem dW_law_483 : decode cW_law 483 = .ok (.if_icmp .eq 5, 3) := by decide +kernel
theorem dW_law_486 : decode cW_law 486 = .ok (.iconst 0, 1) := by decide +kernel
theorem dW_law_487 : decode cW_law 487 = .ok (.ireturn, 1) := by decide +kernel
theorem dW_law_488 : decode cW_law 488 = .ok (.iload 5, 2) := by decide +kernel
theorem dW_law_490 : decode cW_law 490 = .ok (.ifCond .ne 14, 3) := by decide +kernel
theorem dW_law_493 : decode cW_law 493 = .ok (.aload_n 3, 1) := by decide +kernel
theorem dW_law_494 : decode cW_law 494 = .ok (.iconst 0, 1) := by decide +kernel
theorem dW_law_495 : decode cW_law 495 = .ok (.laload, 1) := by decide +kernel
theorem dW_law_496 : decode cW_law 496 = .ok (.lload 6, 2) := by decide +kernel
theorem dW_law_498 : decode cW_law 498 = .ok (.lcmp, 1) := by decide +kernel
theorem dW_law_499 : decode cW_law 499 = .ok (.ifCond .eq 5, 3) := by decide +kernel
theorem dW_law_502 : decode cW_law 502 = .ok (.iconst 0, 1) := by decide +kernel
theorem dW_law_503 : decode cW_law 503 = .ok (.ireturn, 1) := by decide +kernel
theorem dW_law_504 : decode cW_law 504 = .ok (.goto 279, 3) := by decide +kernel
theorem dW_law_507 : decode cW_law 507 = .ok (.aload_n 1, 1) := by decide +kernel
theorem dW_law_508 : decode cW_law 508 = .ok (.aload_n 0, 1) := by decide +kernel
theorem dW_law_509 : decode cW_law 509 = .ok (.iload 4, 2) := by decide +kernel
theorem dW_law_511 : decode cW_law 511 = .ok (.iconst 1, 1) := by decide +kernel
theorem dW_law_512 : decode cW_law 512 = .ok (.iadd, 1) := by decide +kernel
theorem dW_law_513 : decode cW_law 513 = .ok (.iaload, 1) := by decide +kernel
theorem dW_law_514 : decode cW_law 514 = .ok (.aload_n 0, 1) := by decide +kernel
theorem dW_law_515 : decode cW_law 515 = .ok (.iload 4, 2) := by decide +kernel
theorem dW_law_517 : decode cW_law 517 = .ok (.iconst 2, 1) := by decide +kernel
theorem dW_law_518 : decode cW_law 518 = .ok (.iadd, 1) := by decide +kernel
theorem dW_law_519 : decode cW_law 519 = .ok (.iaload, 1) := by decide +kernel
theorem dW_law_520 : decode cW_law 520 = .ok (.aload_n 3, 1) := by decide +kernel
theorem dW_law_521 : decode cW_law 521 = .ok (.invokestatic 94, 3) := by decide +kernel
theorem dW_law_524 : decode cW_law 524 = .ok (.istore 5, 2) := by decide +kernel
theorem dW_law_526 : decode cW_law 526 = .ok (.aload_n 2, 1) := by decide +kernel
theorem dW_law_527 : decode cW_law 527 = .ok (.aload_n 0, 1) := by decide +kernel
theorem dW_law_528 : decode cW_law 528 = .ok (.iload 4, 2) := by decide +kernel
theorem dW_law_530 : decode cW_law 530 = .ok (.iconst 1, 1) := by decide +kernel
theorem dW_law_531 : decode cW_law 531 = .ok (.iadd, 1) := by decide +kernel
theorem dW_law_532 : decode cW_law 532 = .ok (.iaload, 1) := by decide +kernel
theorem dW_law_533 : decode cW_law 533 = .ok (.aload_n 0, 1) := by decide +kernel
theorem dW_law_534 : decode cW_law 534 = .ok (.iload 4, 2) := by decide +kernel
theorem dW_law_536 : decode cW_law 536 = .ok (.iconst 2, 1) := by decide +kernel
theorem dW_law_537 : decode cW_law 537 = .ok (.iadd, 1) := by decide +kernel
theorem dW_law_538 : decode cW_law 538 = .ok (.iaload, 1) := by decide +kernel
theorem dW_law_539 : decode cW_law 539 = .ok (.invokevirtual 96, 3) := by decide +kernel
theorem dW_law_542 : decode cW_law 542 = .ok (.istore 6, 2) := by decide +kernel
theorem dW_law_544 : decode cW_law 544 = .ok (.aload_n 2, 1) := by decide +kernel
theorem dW_law_545 : decode cW_law 545 = .ok (.invokevirtual 58, 3) := by decide +kernel
theorem dW_law_548 : decode cW_law 548 = .ok (.iload 5, 2) := by decide +kernel
theorem dW_law_550 : decode cW_law 550 = .ok (.if_icmp .eq 5, 3) := by decide +kernel
theorem dW_law_553 : decode cW_law 553 = .ok (.iconst 0, 1) := by decide +kernel
theorem dW_law_554 : decode cW_law 554 = .ok (.ireturn, 1) := by decide +kernel
theorem dW_law_555 : decode cW_law 555 = .ok (.iload 5, 2) := by decide +kernel
theorem dW_law_557 : decode cW_law 557 = .ok (.ifCond .ne 15, 3) := by decide +kernel
theorem dW_law_560 : decode cW_law 560 = .ok (.aload_n 3, 1) := by decide +kernel
theorem dW_law_561 : decode cW_law 561 = .ok (.iconst 0, 1) := by decide +kernel
theorem dW_law_562 : decode cW_law 562 = .ok (.laload, 1) := by decide +kernel
theorem dW_law_563 : decode cW_law 563 = .ok (.iload 6, 2) := by decide +kernel
theorem dW_law_565 : decode cW_law 565 = .ok (.i2l, 1) := by decide +kernel
theorem dW_law_566 : decode cW_law 566 = .ok (.lcmp, 1) := by decide +kernel
theorem dW_law_567 : decode cW_law 567 = .ok (.ifCond .eq 5, 3) := by decide +kernel
theorem dW_law_570 : decode cW_law 570 = .ok (.iconst 0, 1) := by decide +kernel
theorem dW_law_571 : decode cW_law 571 = .ok (.ireturn, 1) := by decide +kernel
theorem dW_law_572 : decode cW_law 572 = .ok (.goto 211, 3) := by decide +kernel
theorem dW_law_575 : decode cW_law 575 = .ok (.aload_n 1, 1) := by decide +kernel
