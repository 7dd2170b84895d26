theorem dJ7_fill_53178_0 : decode cJ7_fill_53178 0 = .ok (.iconst 0, 1) := by decide +kernel
theorem dJ7_fill_53178_1 : decode cJ7_fill_53178 1 = .ok (.istore_n 2, 1) := by decide +kernel
theorem dJ7_fill_53178_2 : decode cJ7_fill_53178 2 = .ok (.aload_n 0, 1) := by decide +kernel
theorem dJ7_fill_53178_3 : decode cJ7_fill_53178 3 = .ok (.arraylength, 1) := by decide +kernel
theorem dJ7_fill_53178_4 : decode cJ7_fill_53178 4 = .ok (.istore_n 3, 1) := by decide +kernel
theorem dJ7_fill_53178_5 : decode cJ7_fill_53178 5 = .ok (.iload_n 2, 1) := by decide +kernel
theorem dJ7_fill_53178_6 : decode cJ7_fill_53178 6 = .ok (.iload_n 3, 1) := by decide +kernel
theorem dJ7_fill_53178_7 : decode cJ7_fill_53178 7 = .ok (.if_icmp .ge 13, 3) := by decide +kernel
theorem dJ7_fill_53178_10 : decode cJ7_fill_53178 10 = .ok (.aload_n 0, 1) := by decide +kernel
theorem dJ7_fill_53178_11 : decode cJ7_fill_53178 11 = .ok (.iload_n 2, 1) := by decide +kernel
theorem dJ7_fill_53178_12 : decode cJ7_fill_53178 12 = .ok (.iload_n 1, 1) := by decide +kernel
theorem dJ7_fill_53178_13 : decode cJ7_fill_53178 13 = .ok (.iastore, 1) := by decide +kernel
theorem dJ7_fill_53178_14 : decode cJ7_fill_53178 14 = .ok (.iinc 2 1, 3) := by decide +kernel
theorem dJ7_fill_53178_17 : decode cJ7_fill_53178 17 = .ok (.goto (-12), 3) := by decide +kernel
theorem dJ7_fill_53178_20 : decode cJ7_fill_53178 20 = .ok (.return_, 1) := by decide +kernel
theorem dL_put_0 : decode cL_put 0 = .ok (.aload_n 2, 1) := by decide +kernel
theorem dL_put_1 : decode cL_put 1 = .ok (.iconst 0, 1) := by decide +kernel
theorem dL_put_2 : decode cL_put 2 = .ok (.aload_n 0, 1) := by decide +kernel
theorem dL_put_3 : decode cL_put 3 = .ok (.iload_n 1, 1) := by decide +kernel
theorem dL_put_4 : decode cL_put 4 = .ok (.invokevirtual 7, 3) := by decide +kernel
theorem dL_put_7 : decode cL_put 7 = .ok (.i2l, 1) := by decide +kernel
theorem dL_put_8 : decode cL_put 8 = .ok (.lastore, 1) := by decide +kernel
theorem dL_put_9 : decode cL_put 9 = .ok (.goto 9, 3) := by decide +kernel
theorem dL_put_12 : decode cL_put 12 = .ok (.astore_n 3, 1) := by decide +kernel
theorem dL_put_13 : decode cL_put 13 = .ok (.iconst 1, 1) := by decide +kernel
theorem dL_put_14 : decode cL_put 14 = .ok (.ireturn, 1) := by decide +kernel
theorem dL_put_15 : decode cL_put 15 = .ok (.astore_n 3, 1) := by decide +kernel
theorem dL_put_16 : decode cL_put 16 = .ok (.iconst 2, 1) := by decide +kernel
theorem dL_put_17 : decode cL_put 17 = .ok (.ireturn, 1) := by decide +kernel
theorem dL_put_18 : decode cL_put 18 = .ok (.iconst 0, 1) := by decide +kernel
theorem dL_put_19 : decode cL_put 19 = .ok (.ireturn, 1) := by decide +kernel
theorem dL_fill_0 : decode cL_fill 0 = .ok (.aload 4, 2) := by decide +kernel
theorem dL_fill_2 : decode cL_fill 2 = .ok (.iconst 0, 1) := by decide +kernel
theorem dL_fill_3 : decode cL_fill 3 = .ok (.aload_n 0, 1) := by decide +kernel
theorem dL_fill_4 : decode cL_fill 4 = .ok (.iload_n 1, 1) := by decide +kernel
theorem dL_fill_5 : decode cL_fill 5 = .ok (.iload_n 2, 1) := by decide +kernel
theorem dL_fill_6 : decode cL_fill 6 = .ok (.iload_n 3, 1) := by decide +kernel
theorem dL_fill_7 : decode cL_fill 7 = .ok (.invokevirtual 17, 3) := by decide +kernel
theorem dL_fill_10 : decode cL_fill 10 = .ok (.i2l, 1) := by decide +kernel
theorem dL_fill_11 : decode cL_fill 11 = .ok (.lastore, 1) := by decide +kernel
theorem dL_fill_12 : decode cL_fill 12 = .ok (.goto 11, 3) := by decide +kernel
theorem dL_fill_15 : decode cL_fill 15 = .ok (.astore 5, 2) := by decide +kernel
theorem dL_fill_17 : decode cL_fill 17 = .ok (.iconst 1, 1) := by decide +kernel
theorem dL_fill_18 : decode cL_fill 18 = .ok (.ireturn, 1) := by decide +kernel
theorem dL_fill_19 : decode cL_fill 19 = .ok (.astore 5, 2) := by decide +kernel
theorem dL_fill_21 : decode cL_fill 21 = .ok (.iconst 2, 1) := by decide +kernel
theorem dL_fill_22 : decode cL_fill 22 = .ok (.ireturn, 1) := by decide +kernel
theorem dL_fill_23 : decode cL_fill 23 = .ok (.iconst 0, 1) := by decide +kernel
theorem dL_fill_24 : decode cL_fill 24 = .ok (.ireturn, 1) := by decide +kernel
theorem dL_encode_0 : decode cL_encode 0 = .ok (.aload_n 1, 1) := by decide +kernel
theorem dL_encode_1 : decode cL_encode 1 = .ok (.iconst 0, 1) := by decide +kernel
theorem dL_encode_2 : decode cL_encode 2 = .ok (.aload_n 0, 1) := by decide +kernel
theorem dL_encode_3 : decode cL_encode 3 = .ok (.invokevirtual 21, 3) := by decide +kernel
theorem dL_encode_6 : decode cL_encode 6 = .ok (.i2l, 1) := by decide +kernel
theorem dL_encode_7 : decode cL_encode 7 = .ok (.lastore, 1) := by decide +kernel
theorem dL_encode_8 : decode cL_encode 8 = .ok (.goto 6, 3) := by decide +kernel
theorem dL_encode_11 : decode cL_encode 11 = .ok (.astore_n 2, 1) := by decide +kernel
theorem dL_encode_12 : decode cL_encode 12 = .ok (.iconst 1, 1) := by decide +kernel
theorem dL_encode_13 : decode cL_encode 13 = .ok (.ireturn, 1) := by decide +kernel
theorem dL_encode_14 : decode cL_encode 14 = .ok (.iconst 0, 1) := by decide +kernel
theorem dL_encode_15 : decode cL_encode 15 = .ok (.ireturn, 1) := by decide +kernel
theorem dL_parameter_0 : decode cL_parameter 0 = .ok (.aload_n 2, 1) := by decide +kernel
theorem dL_parameter_1 : decode cL_parameter 1 = .ok (.iconst 0, 1) := by decide +kernel
theorem dL_parameter_2 : decode cL_parameter 2 = .ok (.aload_n 0, 1) := by decide +kernel
theorem dL_parameter_3 : decode cL_parameter 3 = .ok (.iload_n 1, 1) := by decide +kernel
theorem dL_parameter_4 : decode cL_parameter 4 = .ok (.invokevirtual 25, 3) := by decide +kernel
theorem dL_parameter_7 : decode cL_parameter 7 = .ok (.i2l, 1) := by decide +kernel
theorem dL_parameter_8 : decode cL_parameter 8 = .ok (.lastore, 1) := by decide +kernel
theorem dL_parameter_9 : decode cL_parameter 9 = .ok (.goto 6, 3) := by decide +kernel
theorem dL_parameter_12 : decode cL_parameter 12 = .ok (.astore_n 3, 1) := by decide +kernel
theorem dL_parameter_13 : decode cL_parameter 13 = .ok (.iconst 1, 1) := by decide +kernel
theorem dL_parameter_14 : decode cL_parameter 14 = .ok (.ireturn, 1) := by decide +kernel
theorem dL_parameter_15 : decode cL_parameter 15 = .ok (.iconst 0, 1) := by decide +kernel
theorem dL_parameter_16 : decode cL_parameter 16 = .ok (.ireturn, 1) := by decide +kernel
theorem dL_feed_0 : decode cL_feed 0 = .ok (.aload 4, 2) := by decide +kernel
theorem dL_feed_2 : decode cL_feed 2 = .ok (.iconst 0, 1) := by decide +kernel
theorem dL_feed_3 : decode cL_feed 3 = .ok (.aload_n 0, 1) := by decide +kernel
theorem dL_feed_4 : decode cL_feed 4 = .ok (.lload_n 1, 1) := by decide +kernel
theorem dL_feed_5 : decode cL_feed 5 = .ok (.iload_n 3, 1) := by decide +kernel
theorem dL_feed_6 : decode cL_feed 6 = .ok (.invokevirtual 28, 3) := by decide +kernel
theorem dL_feed_9 : decode cL_feed 9 = .ok (.i2l, 1) := by decide +kernel
theorem dL_feed_10 : decode cL_feed 10 = .ok (.lastore, 1) := by decide +kernel
theorem dL_feed_11 : decode cL_feed 11 = .ok (.goto 11, 3) := by decide +kernel
theorem dL_feed_14 : decode cL_feed 14 = .ok (.astore 5, 2) := by decide +kernel
theorem dL_feed_16 : decode cL_feed 16 = .ok (.iconst 1, 1) := by decide +kernel
theorem dL_feed_17 : decode cL_feed 17 = .ok (.ireturn, 1) := by decide +kernel
theorem dL_feed_18 : decode cL_feed 18 = .ok (.astore 5, 2) := by decide +kernel
theorem dL_feed_20 : decode cL_feed 20 = .ok (.iconst 2, 1) := by decide +kernel
theorem dL_feed_21 : decode cL_feed 21 = .ok (.ireturn, 1) := by decide +kernel
theorem dL_feed_22 : decode cL_feed 22 = .ok (.iconst 0, 1) := by decide +kernel
theorem dL_feed_23 : decode cL_feed 23 = .ok (.ireturn, 1) := by decide +kernel
theorem dL_sample_0 : decode cL_sample 0 = .ok (.aload_n 2, 1) := by decide +kernel
theorem dL_sample_1 : decode cL_sample 1 = .ok (.iconst 0, 1) := by decide +kernel
theorem dL_sample_2 : decode cL_sample 2 = .ok (.aload_n 0, 1) := by decide +kernel
theorem dL_sample_3 : decode cL_sample 3 = .ok (.iload_n 1, 1) := by decide +kernel
theorem dL_sample_4 : decode cL_sample 4 = .ok (.invokevirtual 32, 3) := by decide +kernel
theorem dL_sample_7 : decode cL_sample 7 = .ok (.i2l, 1) := by decide +kernel
theorem dL_sample_8 : decode cL_sample 8 = .ok (.lastore, 1) := by decide +kernel
theorem dL_sample_9 : decode cL_sample 9 = .ok (.goto 6, 3) := by decide +kernel
theorem dL_sample_12 : decode cL_sample 12 = .ok (.astore_n 3, 1) := by decide +kernel
theorem dL_sample_13 : decode cL_sample 13 = .ok (.iconst 1, 1) := by decide +kernel
theorem dL_sample_14 : decode cL_sample 14 = .ok (.ireturn, 1) := by decide +kernel
theorem dL_sample_15 : decode cL_sample 15 = .ok (.iconst 0, 1) := by decide +kernel
theorem dL_sample_16 : decode cL_sample 16 = .ok (.ireturn, 1) := by decide +kernel
theorem dL_reset_0 : decode cL_reset 0 = .ok (.aload_n 0, 1) := by decide +kernel
theorem dL_reset_1 : decode cL_reset 1 = .ok (.iload_n 1, 1) := by decide +kernel
theorem dL_reset_2 : decode cL_reset 2 = .ok (.invokevirtual 35, 3) := by decide +kernel
theorem dL_reset_5 : decode cL_reset 5 = .ok (.goto 6, 3) := by decide +kernel
theorem dL_reset_8 : decode cL_reset 8 = .ok (.astore_n 2, 1) := by decide +kernel
theorem dL_reset_9 : decode cL_reset 9 = .ok (.iconst 1, 1) := by decide +kernel
theorem dL_reset_10 : decode cL_reset 10 = .ok (.ireturn, 1) := by decide +kernel
theorem dL_reset_11 : decode cL_reset 11 = .ok (.iconst 0, 1) := by decide +kernel
theorem dL_reset_12 : decode cL_reset 12 = .ok (.ireturn, 1) := by decide +kernel
theorem dL_state_0 : decode cL_state 0 = .ok (.aload_n 3, 1) := by decide +kernel
theorem dL_state_1 : decode cL_state 1 = .ok (.iconst 0, 1) := by decide +kernel
theorem dL_state_2 : decode cL_state 2 = .ok (.aload_n 0, 1) := by decide +kernel
theorem dL_state_3 : decode cL_state 3 = .ok (.iload_n 1, 1) := by decide +kernel
theorem dL_state_4 : decode cL_state 4 = .ok (.iload_n 2, 1) := by decide +kernel
theorem dL_state_5 : decode cL_state 5 = .ok (.invokevirtual 39, 3) := by decide +kernel
theorem dL_state_8 : decode cL_state 8 = .ok (.i2l, 1) := by decide +kernel
theorem dL_state_9 : decode cL_state 9 = .ok (.lastore, 1) := by decide +kernel
theorem dL_state_10 : decode cL_state 10 = .ok (.goto 7, 3) := by decide +kernel
theorem dL_state_13 : decode cL_state 13 = .ok (.astore 4, 2) := by decide +kernel
theorem dL_state_15 : decode cL_state 15 = .ok (.iconst 1, 1) := by decide +kernel
theorem dL_state_16 : decode cL_state 16 = .ok (.ireturn, 1) := by decide +kernel
theorem dL_state_17 : decode cL_state 17 = .ok (.iconst 0, 1) := by decide +kernel
theorem dL_state_18 : decode cL_state 18 = .ok (.ireturn, 1) := by decide +kernel
theorem dL_about_0 : decode cL_about 0 = .ok (.aload_n 2, 1) := by decide +kernel
theorem dL_about_1 : decode cL_about 1 = .ok (.iconst 0, 1) := by decide +kernel
theorem dL_about_2 : decode cL_about 2 = .ok (.aload_n 0, 1) := by decide +kernel
theorem dL_about_3 : decode cL_about 3 = .ok (.iload_n 1, 1) := by decide +kernel
theorem dL_about_4 : decode cL_about 4 = .ok (.invokevirtual 43, 3) := by decide +kernel
theorem dL_about_7 : decode cL_about 7 = .ok (.i2l, 1) := by decide +kernel
theorem dL_about_8 : decode cL_about 8 = .ok (.lastore, 1) := by decide +kernel
theorem dL_about_9 : decode cL_about 9 = .ok (.goto 6, 3) := by decide +kernel
theorem dL_about_12 : decode cL_about 12 = .ok (.astore_n 3, 1) := by decide +kernel
theorem dL_about_13 : decode cL_about 13 = .ok (.iconst 1, 1) := by decide +kernel
theorem dL_about_14 : decode cL_about 14 = .ok (.ireturn, 1) := by decide +kernel
theorem dL_about_15 : decode cL_about 15 = .ok (.iconst 0, 1) := by decide +kernel
theorem dL_about_16 : decode cL_about 16 = .ok (.ireturn, 1) := by decide +kernel
theorem dL_law_0 : decode cL_law 0 = .ok (.new 8, 3) := by decide +kernel
theorem dL_law_3 : decode cL_law 3 = .ok (.dup, 1) := by decide +kernel
theorem dL_law_4 : decode cL_law 4 = .ok (.invokespecial 46, 3) := by decide +kernel
theorem dL_law_7 : decode cL_law 7 = .ok (.astore_n 1, 1) := by decide +kernel
theorem dL_law_8 : decode cL_law 8 = .ok (.new 47, 3) := by decide +kernel
theorem dL_law_11 : decode cL_law 11 = .ok (.dup, 1) := by decide +kernel
theorem dL_law_12 : decode cL_law 12 = .ok (.invokespecial 49, 3) := by decide +kernel
theorem dL_law_15 : decode cL_law 15 = .ok (.astore_n 2, 1) := by decide +kernel
theorem dL_law_16 : decode cL_law 16 = .ok (.iconst 1, 1) := by decide +kernel
theorem dL_law_17 : decode cL_law 17 = .ok (.newarray .long, 2) := by decide +kernel
theorem dL_law_19 : decode cL_law 19 = .ok (.astore_n 3, 1) := by decide +kernel
theorem dL_law_20 : decode cL_law 20 = .ok (.iconst 0, 1) := by decide +kernel
theorem dL_law_21 : decode cL_law 21 = .ok (.istore 4, 2) := by decide +kernel
theorem dL_law_23 : decode cL_law 23 = .ok (.iload 4, 2) := by decide +kernel
theorem dL_law_25 : decode cL_law 25 = .ok (.aload_n 0, 1) := by decide +kernel
theorem dL_law_26 : decode cL_law 26 = .ok (.arraylength, 1) := by decide +kernel
theorem dL_law_27 : decode cL_law 27 = .ok (.iconst 4, 1) := by decide +kernel
theorem dL_law_28 : decode cL_law 28 = .ok (.isub, 1) := by decide +kernel
theorem dL_law_29 : decode cL_law 29 = .ok (.if_icmp .gt 680, 3) := by decide +kernel
theorem dL_law_32 : decode cL_law 32 = .ok (.aload_n 0, 1) := by decide +kernel
theorem dL_law_33 : decode cL_law 33 = .ok (.iload 4, 2) := by decide +kernel
theorem dL_law_35 : decode cL_law 35 = .ok (.iaload, 1) := by decide +kernel
theorem dL_law_36 : decode cL_law 36 = .ok (.bipush 15, 2) := by decide +kernel
theorem dL_law_38 : decode cL_law 38 = .ok (.iand, 1) := by decide +kernel
theorem dL_law_39 : decode cL_law 39 = .ok (.tableswitch 664 0 11 #[61, 117, 197, 241, 297, 397, 410, 423, 448, 504, 540, 608], 61) := by decide +kernel
theorem dL_law_100 : decode cL_law 100 = .ok (.aload_n 1, 1) := by decide +kernel
theorem dL_law_101 : decode cL_law 101 = .ok (.aload_n 0, 1) := by decide +kernel
theorem dL_law_102 : decode cL_law 102 = .ok (.iload 4, 2) := by decide +kernel
theorem dL_law_104 : decode cL_law 104 = .ok (.iconst 1, 1) := by decide +kernel
theorem dL_law_105 : decode cL_law 105 = .ok (.iadd, 1) := by decide +kernel
theorem dL_law_106 : decode cL_law 106 = .ok (.iaload, 1) := by decide +kernel
theorem dL_law_107 : decode cL_law 107 = .ok (.aload_n 3, 1) := by decide +kernel
theorem dL_law_108 : decode cL_law 108 = .ok (.invokestatic 50, 3) := by decide +kernel
theorem dL_law_111 : decode cL_law 111 = .ok (.istore 5, 2) := by decide +kernel
theorem dL_law_113 : decode cL_law 113 = .ok (.aload_n 2, 1) := by decide +kernel
theorem dL_law_114 : decode cL_law 114 = .ok (.aload_n 0, 1) := by decide +kernel
theorem dL_law_115 : decode cL_law 115 = .ok (.iload 4, 2) := by decide +kernel
theorem dL_law_117 : decode cL_law 117 = .ok (.iconst 1, 1) := by decide +kernel
theorem dL_law_118 : decode cL_law 118 = .ok (.iadd, 1) := by decide +kernel
theorem dL_law_119 : decode cL_law 119 = .ok (.iaload, 1) := by decide +kernel
theorem dL_law_120 : decode cL_law 120 = .ok (.invokevirtual 55, 3) := by decide +kernel
theorem dL_law_123 : decode cL_law 123 = .ok (.istore 6, 2) := by decide +kernel
theorem dL_law_125 : decode cL_law 125 = .ok (.aload_n 2, 1) := by decide +kernel
theorem dL_law_126 : decode cL_law 126 = .ok (.invokevirtual 56, 3) := by decide +kernel
theorem dL_law_129 : decode cL_law 129 = .ok (.iload 5, 2) := by decide +kernel
theorem dL_law_131 : decode cL_law 131 = .ok (.if_icmp .eq 5, 3) := by decide +kernel
theorem dL_law_134 : decode cL_law 134 = .ok (.iconst 0, 1) := by decide +kernel
theorem dL_law_135 : decode cL_law 135 = .ok (.ireturn, 1) := by decide +kernel
theorem dL_law_136 : decode cL_law 136 = .ok (.iload 5, 2) := by decide +kernel
theorem dL_law_138 : decode cL_law 138 = .ok (.ifCond .ne 15, 3) := by decide +kernel
theorem dL_law_141 : decode cL_law 141 = .ok (.aload_n 3, 1) := by decide +kernel
theorem dL_law_142 : decode cL_law 142 = .ok (.iconst 0, 1) := by decide +kernel
theorem dL_law_143 : decode cL_law 143 = .ok (.laload, 1) := by decide +kernel
theorem dL_law_144 : decode cL_law 144 = .ok (.iload 6, 2) := by decide +kernel
theorem dL_law_146 : decode cL_law 146 = .ok (.i2l, 1) := by decide +kernel
theorem dL_law_147 : decode cL_law 147 = .ok (.lcmp, 1) := by decide +kernel
theorem dL_law_148 : decode cL_law 148 = .ok (.ifCond .eq 5, 3) := by decide +kernel
theorem dL_law_151 : decode cL_law 151 = .ok (.iconst 0, 1) := by decide +kernel
theorem dL_law_152 : decode cL_law 152 = .ok (.ireturn, 1) := by decide +kernel
theorem dL_law_153 : decode cL_law 153 = .ok (.goto 550, 3) := by decide +kernel
theorem dL_law_156 : decode cL_law 156 = .ok (.aload_n 1, 1) := by decide +kernel
theorem dL_law_157 : decode cL_law 157 = .ok (.aload_n 0, 1) := by decide +kernel
theorem dL_law_158 : decode cL_law 158 = .ok (.iload 4, 2) := by decide +kernel
theorem dL_law_160 : decode cL_law 160 = .ok (.iconst 1, 1) := by decide +kernel
theorem dL_law_161 : decode cL_law 161 = .ok (.iadd, 1) := by decide +kernel
theorem dL_law_162 : decode cL_law 162 = .ok (.iaload, 1) := by decide +kernel
theorem dL_law_163 : decode cL_law 163 = .ok (.aload_n 0, 1) := by decide +kernel
theorem dL_law_164 : decode cL_law 164 = .ok (.iload 4, 2) := by decide +kernel
theorem dL_law_166 : decode cL_law 166 = .ok (.iconst 2, 1) := by decide +kernel
theorem dL_law_167 : decode cL_law 167 = .ok (.iadd, 1) := by decide +kernel
theorem dL_law_168 : decode cL_law 168 = .ok (.iaload, 1) := by decide +kernel
theorem dL_law_169 : decode cL_law 169 = .ok (.aload_n 0, 1) := by decide +kernel
theorem dL_law_170 : decode cL_law 170 = .ok (.iload 4, 2) := by decide +kernel
theorem dL_law_172 : decode cL_law 172 = .ok (.iconst 3, 1) := by decide +kernel
theorem dL_law_173 : decode cL_law 173 = .ok (.iadd, 1) := by decide +kernel
theorem dL_law_174 : decode cL_law 174 = .ok (.iaload, 1) := by decide +kernel
theorem dL_law_175 : decode cL_law 175 = .ok (.aload_n 3, 1) := by decide +kernel
theorem dL_law_176 : decode cL_law 176 = .ok (.invokestatic 59, 3) := by decide +kernel
theorem dL_law_179 : decode cL_law 179 = .ok (.istore 5, 2) := by decide +kernel
theorem dL_law_181 : decode cL_law 181 = .ok (.aload_n 2, 1) := by decide +kernel
theorem dL_law_182 : decode cL_law 182 = .ok (.aload_n 0, 1) := by decide +kernel
theorem dL_law_183 : decode cL_law 183 = .ok (.iload 4, 2) := by decide +kernel
theorem dL_law_185 : decode cL_law 185 = .ok (.iconst 1, 1) := by decide +kernel
theorem dL_law_186 : decode cL_law 186 = .ok (.iadd, 1) := by decide +kernel
theorem dL_law_187 : decode cL_law 187 = .ok (.iaload, 1) := by decide +kernel
theorem dL_law_188 : decode cL_law 188 = .ok (.aload_n 0, 1) := by decide +kernel
theorem dL_law_189 : decode cL_law 189 = .ok (.iload 4, 2) := by decide +kernel
theorem dL_law_191 : decode cL_law 191 = .ok (.iconst 2, 1) := by decide +kernel
theorem dL_law_192 : decode cL_law 192 = .ok (.iadd, 1) := by decide +kernel
theorem dL_law_193 : decode cL_law 193 = .ok (.iaload, 1) := by decide +kernel
theorem dL_law_194 : decode cL_law 194 = .ok (.aload_n 0, 1) := by decide +kernel
theorem dL_law_195 : decode cL_law 195 = .ok (.iload 4, 2) := by decide +kernel
theorem dL_law_197 : decode cL_law 197 = .ok (.iconst 3, 1) := by decide +kernel
theorem dL_law_198 : decode cL_law 198 = .ok (.iadd, 1) := by decide +kernel
theorem dL_law_199 : decode cL_law 199 = .ok (.iaload, 1) := by decide +kernel
theorem dL_law_200 : decode cL_law 200 = .ok (.invokevirtual 62, 3) := by decide +kernel
theorem dL_law_203 : decode cL_law 203 = .ok (.istore 6, 2) := by decide +kernel
theorem dL_law_205 : decode cL_law 205 = .ok (.aload_n 2, 1) := by decide +kernel
theorem dL_law_206 : decode cL_law 206 = .ok (.invokevirtual 56, 3) := by decide +kernel
theorem dL_law_209 : decode cL_law 209 = .ok (.iload 5, 2) := by decide +kernel
theorem dL_law_211 : decode cL_law 211 = .ok (.if_icmp .eq 5, 3) := by decide +kernel
theorem dL_law_214 : decode cL_law 214 = .ok (.iconst 0, 1) := by decide +kernel
theorem dL_law_215 : decode cL_law 215 = .ok (.ireturn, 1) := by decide +kernel
theorem dL_law_216 : decode cL_law 216 = .ok (.iload 5, 2) := by decide +kernel
theorem dL_law_218 : decode cL_law 218 = .ok (.ifCond .ne 15, 3) := by decide +kernel
theorem dL_law_221 : decode cL_law 221 = .ok (.aload_n 3, 1) := by decide +kernel
theorem dL_law_222 : decode cL_law 222 = .ok (.iconst 0, 1) := by decide +kernel
theorem dL_law_223 : decode cL_law 223 = .ok (.laload, 1) := by decide +kernel
theorem dL_law_224 : decode cL_law 224 = .ok (.iload 6, 2) := by decide +kernel
theorem dL_law_226 : decode cL_law 226 = .ok (.i2l, 1) := by decide +kernel
theorem dL_law_227 : decode cL_law 227 = .ok (.lcmp, 1) := by decide +kernel
theorem dL_law_228 : decode cL_law 228 = .ok (.ifCond .eq 5, 3) := by decide +kernel
theorem dL_law_231 : decode cL_law 231 = .ok (.iconst 0, 1) := by decide +kernel
theorem dL_law_232 : decode cL_law 232 = .ok (.ireturn, 1) := by decide +kernel
theorem dL_law_233 : decode cL_law 233 = .ok (.goto 470, 3) := by decide +kernel
theorem dL_law_236 : decode cL_law 236 = .ok (.aload_n 1, 1) := by decide +kernel
theorem dL_law_237 : decode cL_law 237 = .ok (.aload_n 3, 1) := by decide +kernel
theorem dL_law_238 : decode cL_law 238 = .ok (.invokestatic 63, 3) := by decide +kernel
theorem dL_law_241 : decode cL_law 241 = .ok (.istore 5, 2) := by decide +kernel
theorem dL_law_243 : decode cL_law 243 = .ok (.aload_n 2, 1) := by decide +kernel
theorem dL_law_244 : decode cL_law 244 = .ok (.invokevirtual 66, 3) := by decide +kernel
theorem dL_law_247 : decode cL_law 247 = .ok (.istore 6, 2) := by decide +kernel
theorem dL_law_249 : decode cL_law 249 = .ok (.aload_n 2, 1) := by decide +kernel
theorem dL_law_250 : decode cL_law 250 = .ok (.invokevirtual 56, 3) := by decide +kernel
theorem dL_law_253 : decode cL_law 253 = .ok (.iload 5, 2) := by decide +kernel
theorem dL_law_255 : decode cL_law 255 = .ok (.if_icmp .eq 5, 3) := by decide +kernel
theorem dL_law_258 : decode cL_law 258 = .ok (.iconst 0, 1) := by decide +kernel
theorem dL_law_259 : decode cL_law 259 = .ok (.ireturn, 1) := by decide +kernel
theorem dL_law_260 : decode cL_law 260 = .ok (.iload 5, 2) := by decide +kernel
theorem dL_law_262 : decode cL_law 262 = .ok (.ifCond .ne 15, 3) := by decide +kernel
theorem dL_law_265 : decode cL_law 265 = .ok (.aload_n 3, 1) := by decide +kernel
theorem dL_law_266 : decode cL_law 266 = .ok (.iconst 0, 1) := by decide +kernel
theorem dL_law_267 : decode cL_law 267 = .ok (.laload, 1) := by decide +kernel
theorem dL_law_268 : decode cL_law 268 = .ok (.iload 6, 2) := by decide +kernel
theorem dL_law_270 : decode cL_law 270 = .ok (.i2l, 1) := by decide +kernel
theorem dL_law_271 : decode cL_law 271 = .ok (.lcmp, 1) := by decide +kernel
theorem dL_law_272 : decode cL_law 272 = .ok (.ifCond .eq 5, 3) := by decide +kernel
theorem dL_law_275 : decode cL_law 275 = .ok (.iconst 0, 1) := by decide +kernel
theorem dL_law_276 : decode cL_law 276 = .ok (.ireturn, 1) := by decide +kernel
theorem dL_law_277 : decode cL_law 277 = .ok (.goto 426, 3) := by decide +kernel
theorem dL_law_280 : decode cL_law 280 = .ok (.aload_n 1, 1) := by decide +kernel
theorem dL_law_281 : decode cL_law 281 = .ok (.aload_n 0, 1) := by decide +kernel
theorem dL_law_282 : decode cL_law 282 = .ok (.iload 4, 2) := by decide +kernel
theorem dL_law_284 : decode cL_law 284 = .ok (.iconst 1, 1) := by decide +kernel
theorem dL_law_285 : decode cL_law 285 = .ok (.iadd, 1) := by decide +kernel
theorem dL_law_286 : decode cL_law 286 = .ok (.iaload, 1) := by decide +kernel
theorem dL_law_287 : decode cL_law 287 = .ok (.aload_n 3, 1) := by decide +kernel
theorem dL_law_288 : decode cL_law 288 = .ok (.invokestatic 67, 3) := by decide +kernel
theorem dL_law_291 : decode cL_law 291 = .ok (.istore 5, 2) := by decide +kernel
theorem dL_law_293 : decode cL_law 293 = .ok (.aload_n 2, 1) := by decide +kernel
theorem dL_law_294 : decode cL_law 294 = .ok (.aload_n 0, 1) := by decide +kernel
theorem dL_law_295 : decode cL_law 295 = .ok (.iload 4, 2) := by decide +kernel
theorem dL_law_297 : decode cL_law 297 = .ok (.iconst 1, 1) := by decide +kernel
theorem dL_law_298 : decode cL_law 298 = .ok (.iadd, 1) := by decide +kernel
theorem dL_law_299 : decode cL_law 299 = .ok (.iaload, 1) := by decide +kernel
theorem dL_law_300 : decode cL_law 300 = .ok (.invokevirtual 69, 3) := by decide +kernel
theorem dL_law_303 : decode cL_law 303 = .ok (.istore 6, 2) := by decide +kernel
theorem dL_law_305 : decode cL_law 305 = .ok (.aload_n 2, 1) := by decide +kernel
theorem dL_law_306 : decode cL_law 306 = .ok (.invokevirtual 56, 3) := by decide +kernel
theorem dL_law_309 : decode cL_law 309 = .ok (.iload 5, 2) := by decide +kernel
theorem dL_law_311 : decode cL_law 311 = .ok (.if_icmp .eq 5, 3) := by decide +kernel
theorem dL_law_314 : decode cL_law 314 = .ok (.iconst 0, 1) := by decide +kernel
theorem dL_law_315 : decode cL_law 315 = .ok (.ireturn, 1) := by decide +kernel
theorem dL_law_316 : decode cL_law 316 = .ok (.iload 5, 2) := by decide +kernel
theorem dL_law_318 : decode cL_law 318 = .ok (.ifCond .ne 15, 3) := by decide +kernel
theorem dL_law_321 : decode cL_law 321 = .ok (.aload_n 3, 1) := by decide +kernel
theorem dL_law_322 : decode cL_law 322 = .ok (.iconst 0, 1) := by decide +kernel
theorem dL_law_323 : decode cL_law 323 = .ok (.laload, 1) := by decide +kernel
theorem dL_law_324 : decode cL_law 324 = .ok (.iload 6, 2) := by decide +kernel
theorem dL_law_326 : decode cL_law 326 = .ok (.i2l, 1) := by decide +kernel
theorem dL_law_327 : decode cL_law 327 = .ok (.lcmp, 1) := by decide +kernel
theorem dL_law_328 : decode cL_law 328 = .ok (.ifCond .eq 5, 3) := by decide +kernel
theorem dL_law_331 : decode cL_law 331 = .ok (.iconst 0, 1) := by decide +kernel
theorem dL_law_332 : decode cL_law 332 = .ok (.ireturn, 1) := by decide +kernel
theorem dL_law_333 : decode cL_law 333 = .ok (.goto 370, 3) := by decide +kernel
theorem dL_law_336 : decode cL_law 336 = .ok (.aload_n 1, 1) := by decide +kernel
theorem dL_law_337 : decode cL_law 337 = .ok (.aload_n 0, 1) := by decide +kernel
theorem dL_law_338 : decode cL_law 338 = .ok (.iload 4, 2) := by decide +kernel
theorem dL_law_340 : decode cL_law 340 = .ok (.iconst 1, 1) := by decide +kernel
theorem dL_law_341 : decode cL_law 341 = .ok (.iadd, 1) := by decide +kernel
theorem dL_law_342 : decode cL_law 342 = .ok (.iaload, 1) := by decide +kernel
theorem dL_law_343 : decode cL_law 343 = .ok (.i2l, 1) := by decide +kernel
theorem dL_law_344 : decode cL_law 344 = .ok (.bipush 32, 2) := by decide +kernel
theorem dL_law_346 : decode cL_law 346 = .ok (.lshl, 1) := by decide +kernel
theorem dL_law_347 : decode cL_law 347 = .ok (.aload_n 0, 1) := by decide +kernel
theorem dL_law_348 : decode cL_law 348 = .ok (.iload 4, 2) := by decide +kernel
theorem dL_law_350 : decode cL_law 350 = .ok (.iconst 2, 1) := by decide +kernel
theorem dL_law_351 : decode cL_law 351 = .ok (.iadd, 1) := by decide +kernel
theorem dL_law_352 : decode cL_law 352 = .ok (.iaload, 1) := by decide +kernel
theorem dL_law_353 : decode cL_law 353 = .ok (.i2l, 1) := by decide +kernel
theorem dL_law_354 : decode cL_law 354 = .ok (.ldc2_w 70, 3) := by decide +kernel
theorem dL_law_357 : decode cL_law 357 = .ok (.land, 1) := by decide +kernel
theorem dL_law_358 : decode cL_law 358 = .ok (.lor, 1) := by decide +kernel
theorem dL_law_359 : decode cL_law 359 = .ok (.aload_n 0, 1) := by decide +kernel
theorem dL_law_360 : decode cL_law 360 = .ok (.iload 4, 2) := by decide +kernel
theorem dL_law_362 : decode cL_law 362 = .ok (.iconst 3, 1) := by decide +kernel
theorem dL_law_363 : decode cL_law 363 = .ok (.iadd, 1) := by decide +kernel
theorem dL_law_364 : decode cL_law 364 = .ok (.iaload, 1) := by decide +kernel
theorem dL_law_365 : decode cL_law 365 = .ok (.aload_n 3, 1) := by decide +kernel
theorem dL_law_366 : decode cL_law 366 = .ok (.invokestatic 72, 3) := by decide +kernel
theorem dL_law_369 : decode cL_law 369 = .ok (.istore 5, 2) := by decide +kernel
theorem dL_law_371 : decode cL_law 371 = .ok (.aload_n 2, 1) := by decide +kernel
theorem dL_law_372 : decode cL_law 372 = .ok (.aload_n 0, 1) := by decide +kernel
theorem dL_law_373 : decode cL_law 373 = .ok (.iload 4, 2) := by decide +kernel
theorem dL_law_375 : decode cL_law 375 = .ok (.iconst 1, 1) := by decide +kernel
theorem dL_law_376 : decode cL_law 376 = .ok (.iadd, 1) := by decide +kernel
theorem dL_law_377 : decode cL_law 377 = .ok (.iaload, 1) := by decide +kernel
theorem dL_law_378 : decode cL_law 378 = .ok (.i2l, 1) := by decide +kernel
theorem dL_law_379 : decode cL_law 379 = .ok (.bipush 32, 2) := by decide +kernel
theorem dL_law_381 : decode cL_law 381 = .ok (.lshl, 1) := by decide +kernel
theorem dL_law_382 : decode cL_law 382 = .ok (.aload_n 0, 1) := by decide +kernel
theorem dL_law_383 : decode cL_law 383 = .ok (.iload 4, 2) := by decide +kernel
theorem dL_law_385 : decode cL_law 385 = .ok (.iconst 2, 1) := by decide +kernel
theorem dL_law_386 : decode cL_law 386 = .ok (.iadd, 1) := by decide +kernel
theorem dL_law_387 : decode cL_law 387 = .ok (.iaload, 1) := by decide +kernel
theorem dL_law_388 : decode cL_law 388 = .ok (.i2l, 1) := by decide +kernel
theorem dL_law_389 : decode cL_law 389 = .ok (.ldc2_w 70, 3) := by decide +kernel
theorem dL_law_392 : decode cL_law 392 = .ok (.land, 1) := by decide +kernel
theorem dL_law_393 : decode cL_law 393 = .ok (.lor, 1) := by decide +kernel
theorem dL_law_394 : decode cL_law 394 = .ok (.aload_n 0, 1) := by decide +kernel
theorem dL_law_395 : decode cL_law 395 = .ok (.iload 4, 2) := by decide +kernel
theorem dL_law_397 : decode cL_law 397 = .ok (.iconst 3, 1) := by decide +kernel
theorem dL_law_398 : decode cL_law 398 = .ok (.iadd, 1) := by decide +kernel
theorem dL_law_399 : decode cL_law 399 = .ok (.iaload, 1) := by decide +kernel
theorem dL_law_400 : decode cL_law 400 = .ok (.invokevirtual 75, 3) := by decide +kernel
theorem dL_law_403 : decode cL_law 403 = .ok (.istore 6, 2) := by decide +kernel
theorem dL_law_405 : decode cL_law 405 = .ok (.aload_n 2, 1) := by decide +kernel
theorem dL_law_406 : decode cL_law 406 = .ok (.invokevirtual 56, 3) := by decide +kernel
theorem dL_law_409 : decode cL_law 409 = .ok (.iload 5, 2) := by decide +kernel
theorem dL_law_411 : decode cL_law 411 = .ok (.if_icmp .eq 5, 3) := by decide +kernel
theorem dL_law_414 : decode cL_law 414 = .ok (.iconst 0, 1) := by decide +kernel
theorem dL_law_415 : decode cL_law 415 = .ok (.ireturn, 1) := by decide +kernel
theorem dL_law_416 : decode cL_law 416 = .ok (.iload 5, 2) := by decide +kernel
theorem dL_law_418 : decode cL_law 418 = .ok (.ifCond .ne 15, 3) := by decide +kernel
theorem dL_law_421 : decode cL_law 421 = .ok (.aload_n 3, 1) := by decide +kernel
theorem dL_law_422 : decode cL_law 422 = .ok (.iconst 0, 1) := by decide +kernel
theorem dL_law_423 : decode cL_law 423 = .ok (.laload, 1) := by decide +kernel
theorem dL_law_424 : decode cL_law 424 = .ok (.iload 6, 2) := by decide +kernel
theorem dL_law_426 : decode cL_law 426 = .ok (.i2l, 1) := by decide +kernel
theorem dL_law_427 : decode cL_law 427 = .ok (.lcmp, 1) := by decide +kernel
theorem dL_law_428 : decode cL_law 428 = .ok (.ifCond .eq 5, 3) := by decide +kernel
theorem dL_law_431 : decode cL_law 431 = .ok (.iconst 0, 1) := by decide +kernel
theorem dL_law_432 : decode cL_law 432 = .ok (.ireturn, 1) := by decide +kernel
theorem dL_law_433 : decode cL_law 433 = .ok (.goto 270, 3) := by decide +kernel
theorem dL_law_436 : decode cL_law 436 = .ok (.aload_n 1, 1) := by decide +kernel
theorem dL_law_437 : decode cL_law 437 = .ok (.invokevirtual 76, 3) := by decide +kernel
theorem dL_law_440 : decode cL_law 440 = .ok (.aload_n 2, 1) := by decide +kernel
theorem dL_law_441 : decode cL_law 441 = .ok (.invokevirtual 79, 3) := by decide +kernel
theorem dL_law_444 : decode cL_law 444 = .ok (.if_icmp .eq 259, 3) := by decide +kernel
theorem dL_law_447 : decode cL_law 447 = .ok (.iconst 0, 1) := by decide +kernel
theorem dL_law_448 : decode cL_law 448 = .ok (.ireturn, 1) := by decide +kernel
theorem dL_law_449 : decode cL_law 449 = .ok (.aload_n 1, 1) := by decide +kernel
theorem dL_law_450 : decode cL_law 450 = .ok (.invokevirtual 80, 3) := by decide +kernel
theorem dL_law_453 : decode cL_law 453 = .ok (.aload_n 2, 1) := by decide +kernel
theorem dL_law_454 : decode cL_law 454 = .ok (.invokevirtual 83, 3) := by decide +kernel
theorem dL_law_457 : decode cL_law 457 = .ok (.if_icmp .eq 246, 3) := by decide +kernel
theorem dL_law_460 : decode cL_law 460 = .ok (.iconst 0, 1) := by decide +kernel
theorem dL_law_461 : decode cL_law 461 = .ok (.ireturn, 1) := by decide +kernel
theorem dL_law_462 : decode cL_law 462 = .ok (.aload_n 1, 1) := by decide +kernel
theorem dL_law_463 : decode cL_law 463 = .ok (.aload_n 0, 1) := by decide +kernel
theorem dL_law_464 : decode cL_law 464 = .ok (.iload 4, 2) := by decide +kernel
theorem dL_law_466 : decode cL_law 466 = .ok (.iconst 1, 1) := by decide +kernel
theorem dL_law_467 : decode cL_law 467 = .ok (.iadd, 1) := by decide +kernel
theorem dL_law_468 : decode cL_law 468 = .ok (.iaload, 1) := by decide +kernel
theorem dL_law_469 : decode cL_law 469 = .ok (.invokevirtual 84, 3) := by decide +kernel
theorem dL_law_472 : decode cL_law 472 = .ok (.aload_n 2, 1) := by decide +kernel
theorem dL_law_473 : decode cL_law 473 = .ok (.aload_n 0, 1) := by decide +kernel
theorem dL_law_474 : decode cL_law 474 = .ok (.iload 4, 2) := by decide +kernel
theorem dL_law_476 : decode cL_law 476 = .ok (.iconst 1, 1) := by decide +kernel
theorem dL_law_477 : decode cL_law 477 = .ok (.iadd, 1) := by decide +kernel
theorem dL_law_478 : decode cL_law 478 = .ok (.iaload, 1) := by decide +kernel
theorem dL_law_479 : decode cL_law 479 = .ok (.invokevirtual 87, 3) := by decide +kernel
theorem dL_law_482 : decode cL_law 482 = .ok (.if_icmp .eq 221, 3) := by decide +kernel
theorem dL_law_485 : decode cL_law 485 = .ok (.iconst 0, 1) := by decide +kernel
theorem dL_law_486 : decode cL_law 486 = .ok (.ireturn, 1) := by decide +kernel
theorem dL_law_487 : decode cL_law 487 = .ok (.aload_n 1, 1) := by decide +kernel
theorem dL_law_488 : decode cL_law 488 = .ok (.aload_n 0, 1) := by decide +kernel
theorem dL_law_489 : decode cL_law 489 = .ok (.iload 4, 2) := by decide +kernel
theorem dL_law_491 : decode cL_law 491 = .ok (.iconst 1, 1) := by decide +kernel
theorem dL_law_492 : decode cL_law 492 = .ok (.iadd, 1) := by decide +kernel
theorem dL_law_493 : decode cL_law 493 = .ok (.iaload, 1) := by decide +kernel
theorem dL_law_494 : decode cL_law 494 = .ok (.aload_n 3, 1) := by decide +kernel
theorem dL_law_495 : decode cL_law 495 = .ok (.invokestatic 88, 3) := by decide +kernel
theorem dL_law_498 : decode cL_law 498 = .ok (.istore 5, 2) := by decide +kernel
theorem dL_law_500 : decode cL_law 500 = .ok (.aload_n 2, 1) := by decide +kernel
theorem dL_law_501 : decode cL_law 501 = .ok (.aload_n 0, 1) := by decide +kernel
theorem dL_law_502 : decode cL_law 502 = .ok (.iload 4, 2) := by decide +kernel
theorem dL_law_504 : decode cL_law 504 = .ok (.iconst 1, 1) := by decide +kernel
theorem dL_law_505 : decode cL_law 505 = .ok (.iadd, 1) := by decide +kernel
theorem dL_law_506 : decode cL_law 506 = .ok (.iaload, 1) := by decide +kernel
theorem dL_law_507 : decode cL_law 507 = .ok (.invokevirtual 90, 3) := by decide +kernel
theorem dL_law_510 : decode cL_law 510 = .ok (.istore 6, 2) := by decide +kernel
theorem dL_law_512 : decode cL_law 512 = .ok (.aload_n 2, 1) := by decide +kernel
theorem dL_law_513 : decode cL_law 513 = .ok (.invokevirtual 56, 3) := by decide +kernel
theorem dL_law_516 : decode cL_law 516 = .ok (.iload 5, 2) := by decide +kernel
theorem dL_law_518 : decode cL_law 518 = .ok (.if_icmp .eq 5, 3) := by decide +kernel
theorem dL_law_521 : decode cL_law 521 = .ok (.iconst 0, 1) := by decide +kernel
theorem dL_law_522 : decode cL_law 522 = .ok (.ireturn, 1) := by decide +kernel
theorem dL_law_523 : decode cL_law 523 = .ok (.iload 5, 2) := by decide +kernel
theorem dL_law_525 : decode cL_law 525 = .ok (.ifCond .ne 15, 3) := by decide +kernel
theorem dL_law_528 : decode cL_law 528 = .ok (.aload_n 3, 1) := by decide +kernel
theorem dL_law_529 : decode cL_law 529 = .ok (.iconst 0, 1) := by decide +kernel
theorem dL_law_530 : decode cL_law 530 = .ok (.laload, 1) := by decide +kernel
theorem dL_law_531 : decode cL_law 531 = .ok (.iload 6, 2) := by decide +kernel
theorem dL_law_533 : decode cL_law 533 = .ok (.i2l, 1) := by decide +kernel
theorem dL_law_534 : decode cL_law 534 = .ok (.lcmp, 1) := by decide +kernel
theorem dL_law_535 : decode cL_law 535 = .ok (.ifCond .eq 5, 3) := by decide +kernel
theorem dL_law_538 : decode cL_law 538 = .ok (.iconst 0, 1) := by decide +kernel
theorem dL_law_539 : decode cL_law 539 = .ok (.ireturn, 1) := by decide +kernel
theorem dL_law_540 : decode cL_law 540 = .ok (.goto 163, 3) := by decide +kernel
theorem dL_law_543 : decode cL_law 543 = .ok (.aload_n 1, 1) := by decide +kernel
theorem dL_law_544 : decode cL_law 544 = .ok (.aload_n 0, 1) := by decide +kernel
theorem dL_law_545 : decode cL_law 545 = .ok (.iload 4, 2) := by decide +kernel
theorem dL_law_547 : decode cL_law 547 = .ok (.iconst 1, 1) := by decide +kernel
theorem dL_law_548 : decode cL_law 548 = .ok (.iadd, 1) := by decide +kernel
theorem dL_law_549 : decode cL_law 549 = .ok (.iaload, 1) := by decide +kernel
theorem dL_law_550 : decode cL_law 550 = .ok (.invokestatic 91, 3) := by decide +kernel
theorem dL_law_553 : decode cL_law 553 = .ok (.istore 5, 2) := by decide +kernel
theorem dL_law_555 : decode cL_law 555 = .ok (.aload_n 2, 1) := by decide +kernel
theorem dL_law_556 : decode cL_law 556 = .ok (.aload_n 0, 1) := by decide +kernel
theorem dL_law_557 : decode cL_law 557 = .ok (.iload 4, 2) := by decide +kernel
theorem dL_law_559 : decode cL_law 559 = .ok (.iconst 1, 1) := by decide +kernel
theorem dL_law_560 : decode cL_law 560 = .ok (.iadd, 1) := by decide +kernel
theorem dL_law_561 : decode cL_law 561 = .ok (.iaload, 1) := by decide +kernel
theorem dL_law_562 : decode cL_law 562 = .ok (.invokevirtual 94, 3) := by decide +kernel
theorem dL_law_565 : decode cL_law 565 = .ok (.aload_n 2, 1) := by decide +kernel
theorem dL_law_566 : decode cL_law 566 = .ok (.invokevirtual 56, 3) := by decide +kernel
theorem dL_law_569 : decode cL_law 569 = .ok (.iload 5, 2) := by decide +kernel
theorem dL_law_571 : decode cL_law 571 = .ok (.if_icmp .eq 5, 3) := by decide +kernel
theorem dL_law_574 : decode cL_law 574 = .ok (.iconst 0, 1) := by decide +kernel
theorem dL_law_575 : decode cL_law 575 = .ok (.ireturn, 1) := by decide +kernel
theorem dL_law_576 : decode cL_law 576 = .ok (.goto 127, 3) := by decide +kernel
theorem dL_law_579 : decode cL_law 579 = .ok (.aload_n 1, 1) := by decide +kernel
theorem dL_law_580 : decode cL_law 580 = .ok (.aload_n 0, 1) := by decide +kernel
theorem dL_law_581 : decode cL_law 581 = .ok (.iload 4, 2) := by decide +kernel
theorem dL_law_583 : decode cL_law 583 = .ok (.iconst 1, 1) := by decide +kernel
theorem dL_law_584 : decode cL_law 584 = .ok (.iadd, 1) := by decide +kernel
theorem dL_law_585 : decode cL_law 585 = .ok (.iaload, 1) := by decide +kernel
theorem dL_law_586 : decode cL_law 586 = .ok (.aload_n 0, 1) := by decide +kernel
theorem dL_law_587 : decode cL_law 587 = .ok (.iload 4, 2) := by decide +kernel
theorem dL_law_589 : decode cL_law 589 = .ok (.iconst 2, 1) := by decide +kernel
theorem dL_law_590 : decode cL_law 590 = .ok (.iadd, 1) := by decide +kernel
theorem dL_law_591 : decode cL_law 591 = .ok (.iaload, 1) := by decide +kernel
theorem dL_law_592 : decode cL_law 592 = .ok (.aload_n 3, 1) := by decide +kernel
theorem dL_law_593 : decode cL_law 593 = .ok (.invokestatic 95, 3) := by decide +kernel
theorem dL_law_596 : decode cL_law 596 = .ok (.istore 5, 2) := by decide +kernel
theorem dL_law_598 : decode cL_law 598 = .ok (.aload_n 2, 1) := by decide +kernel
theorem dL_law_599 : decode cL_law 599 = .ok (.aload_n 0, 1) := by decide +kernel
theorem dL_law_600 : decode cL_law 600 = .ok (.iload 4, 2) := by decide +kernel
theorem dL_law_602 : decode cL_law 602 = .ok (.iconst 1, 1) := by decide +kernel
theorem dL_law_603 : decode cL_law 603 = .ok (.iadd, 1) := by decide +kernel
theorem dL_law_604 : decode cL_law 604 = .ok (.iaload, 1) := by decide +kernel
theorem dL_law_605 : decode cL_law 605 = .ok (.aload_n 0, 1) := by decide +kernel
theorem dL_law_606 : decode cL_law 606 = .ok (.iload 4, 2) := by decide +kernel
theorem dL_law_608 : decode cL_law 608 = .ok (.iconst 2, 1) := by decide +kernel
theorem dL_law_609 : decode cL_law 609 = .ok (.iadd, 1) := by decide +kernel
theorem dL_law_610 : decode cL_law 610 = .ok (.iaload, 1) := by decide +kernel
theorem dL_law_611 : decode cL_law 611 = .ok (.invokevirtual 98, 3) := by decide +kernel
theorem dL_law_614 : decode cL_law 614 = .ok (.istore 6, 2) := by decide +kernel
theorem dL_law_616 : decode cL_law 616 = .ok (.aload_n 2, 1) := by decide +kernel
theorem dL_law_617 : decode cL_law 617 = .ok (.invokevirtual 56, 3) := by decide +kernel
theorem dL_law_620 : decode cL_law 620 = .ok (.iload 5, 2) := by decide +kernel
theorem dL_law_622 : decode cL_law 622 = .ok (.if_icmp .eq 5, 3) := by decide +kernel
theorem dL_law_625 : decode cL_law 625 = .ok (.iconst 0, 1) := by decide +kernel
theorem dL_law_626 : decode cL_law 626 = .ok (.ireturn, 1) := by decide +kernel
theorem dL_law_627 : decode cL_law 627 = .ok (.iload 5, 2) := by decide +kernel
theorem dL_law_629 : decode cL_law 629 = .ok (.ifCond .ne 15, 3) := by decide +kernel
theorem dL_law_632 : decode cL_law 632 = .ok (.aload_n 3, 1) := by decide +kernel
theorem dL_law_633 : decode cL_law 633 = .ok (.iconst 0, 1) := by decide +kernel
theorem dL_law_634 : decode cL_law 634 = .ok (.laload, 1) := by decide +kernel
theorem dL_law_635 : decode cL_law 635 = .ok (.iload 6, 2) := by decide +kernel
theorem dL_law_637 : decode cL_law 637 = .ok (.i2l, 1) := by decide +kernel
theorem dL_law_638 : decode cL_law 638 = .ok (.lcmp, 1) := by decide +kernel
theorem dL_law_639 : decode cL_law 639 = .ok (.ifCond .eq 5, 3) := by decide +kernel
theorem dL_law_642 : decode cL_law 642 = .ok (.iconst 0, 1) := by decide +kernel
theorem dL_law_643 : decode cL_law 643 = .ok (.ireturn, 1) := by decide +kernel
theorem dL_law_644 : decode cL_law 644 = .ok (.goto 59, 3) := by decide +kernel
theorem dL_law_647 : decode cL_law 647 = .ok (.aload_n 1, 1) := by decide +kernel
theorem dL_law_648 : decode cL_law 648 = .ok (.aload_n 0, 1) := by decide +kernel
theorem dL_law_649 : decode cL_law 649 = .ok (.iload 4, 2) := by decide +kernel
theorem dL_law_651 : decode cL_law 651 = .ok (.iconst 1, 1) := by decide +kernel
theorem dL_law_652 : decode cL_law 652 = .ok (.iadd, 1) := by decide +kernel
theorem dL_law_653 : decode cL_law 653 = .ok (.iaload, 1) := by decide +kernel
theorem dL_law_654 : decode cL_law 654 = .ok (.aload_n 3, 1) := by decide +kernel
theorem dL_law_655 : decode cL_law 655 = .ok (.invokestatic 99, 3) := by decide +kernel
theorem dL_law_658 : decode cL_law 658 = .ok (.istore 5, 2) := by decide +kernel
theorem dL_law_660 : decode cL_law 660 = .ok (.aload_n 2, 1) := by decide +kernel
theorem dL_law_661 : decode cL_law 661 = .ok (.aload_n 0, 1) := by decide +kernel
theorem dL_law_662 : decode cL_law 662 = .ok (.iload 4, 2) := by decide +kernel
theorem dL_law_664 : decode cL_law 664 = .ok (.iconst 1, 1) := by decide +kernel
theorem dL_law_665 : decode cL_law 665 = .ok (.iadd, 1) := by decide +kernel
theorem dL_law_666 : decode cL_law 666 = .ok (.iaload, 1) := by decide +kernel
theorem dL_law_667 : decode cL_law 667 = .ok (.invokevirtual 101, 3) := by decide +kernel
theorem dL_law_670 : decode cL_law 670 = .ok (.istore 6, 2) := by decide +kernel
theorem dL_law_672 : decode cL_law 672 = .ok (.aload_n 2, 1) := by decide +kernel
theorem dL_law_673 : decode cL_law 673 = .ok (.invokevirtual 56, 3) := by decide +kernel
theorem dL_law_676 : decode cL_law 676 = .ok (.iload 5, 2) := by decide +kernel
theorem dL_law_678 : decode cL_law 678 = .ok (.if_icmp .eq 5, 3) := by decide +kernel
theorem dL_law_681 : decode cL_law 681 = .ok (.iconst 0, 1) := by decide +kernel
theorem dL_law_682 : decode cL_law 682 = .ok (.ireturn, 1) := by decide +kernel
theorem dL_law_683 : decode cL_law 683 = .ok (.iload 5, 2) := by decide +kernel
theorem dL_law_685 : decode cL_law 685 = .ok (.ifCond .ne 15, 3) := by decide +kernel
theorem dL_law_688 : decode cL_law 688 = .ok (.aload_n 3, 1) := by decide +kernel
theorem dL_law_689 : decode cL_law 689 = .ok (.iconst 0, 1) := by decide +kernel
theorem dL_law_690 : decode cL_law 690 = .ok (.laload, 1) := by decide +kernel
theorem dL_law_691 : decode cL_law 691 = .ok (.iload 6, 2) := by decide +kernel
theorem dL_law_693 : decode cL_law 693 = .ok (.i2l, 1) := by decide +kernel
theorem dL_law_694 : decode cL_law 694 = .ok (.lcmp, 1) := by decide +kernel
theorem dL_law_695 : decode cL_law 695 = .ok (.ifCond .eq 5, 3) := by decide +kernel
theorem dL_law_698 : decode cL_law 698 = .ok (.iconst 0, 1) := by decide +kernel
theorem dL_law_699 : decode cL_law 699 = .ok (.ireturn, 1) := by decide +kernel
theorem dL_law_700 : decode cL_law 700 = .ok (.goto 3, 3) := by decide +kernel
theorem dL_law_703 : decode cL_law 703 = .ok (.iinc 4 4, 3) := by decide +kernel
theorem dL_law_706 : decode cL_law 706 = .ok (.goto (-683), 3) := by decide +kernel
theorem dL_law_709 : decode cL_law 709 = .ok (.iconst 1, 1) := by decide +kernel
theorem dL_law_710 : decode cL_law 710 = .ok (.ireturn, 1) := by decide +kernel
