theorem dX9_silence_13 : decode cX9_silence 13 = .ok (.getfield 12, 3) := by decide +kernel
theorem dX9_silence_16 : decode cX9_silence 16 = .ok (.getfield 127, 3) := by decide +kernel
theorem dX9_silence_19 : decode cX9_silence 19 = .ok (.getfield 136, 3) := by decide +kernel
theorem dX9_silence_22 : decode cX9_silence 22 = .ok (.aload_n 0, 1) := by decide +kernel
theorem dX9_silence_23 : decode cX9_silence 23 = .ok (.getfield 12, 3) := by decide +kernel
theorem dX9_silence_26 : decode cX9_silence 26 = .ok (.getfield 127, 3) := by decide +kernel
theorem dX9_silence_29 : decode cX9_silence 29 = .ok (.getfield 139, 3) := by decide +kernel
theorem dX9_silence_32 : decode cX9_silence 32 = .ok (.iadd, 1) := by decide +kernel
theorem dX9_silence_33 : decode cX9_silence 33 = .ok (.i2f, 1) := by decide +kernel
theorem dX9_silence_34 : decode cX9_silence 34 = .ok (.fstore_n 2, 1) := by decide +kernel
theorem dX9_silence_35 : decode cX9_silence 35 = .ok (.fload_n 2, 1) := by decide +kernel
theorem dX9_silence_36 : decode cX9_silence 36 = .ok (.fconst 0, 1) := by decide +kernel
theorem dX9_silence_37 : decode cX9_silence 37 = .ok (.fcmp .l, 1) := by decide +kernel
theorem dX9_silence_38 : decode cX9_silence 38 = .ok (.ifCond .le 9, 3) := by decide +kernel
theorem dX9_silence_41 : decode cX9_silence 41 = .ok (.fload_n 1, 1) := by decide +kernel
theorem dX9_silence_42 : decode cX9_silence 42 = .ok (.fload_n 2, 1) := by decide +kernel
theorem dX9_silence_43 : decode cX9_silence 43 = .ok (.fdiv, 1) := by decide +kernel
theorem dX9_silence_44 : decode cX9_silence 44 = .ok (.goto 4, 3) := by decide +kernel
theorem dX9_silence_47 : decode cX9_silence 47 = .ok (.fconst 0, 1) := by decide +kernel
theorem dX9_silence_48 : decode cX9_silence 48 = .ok (.freturn, 1) := by decide +kernel
theorem dX9_bestWait_0 : decode cX9_bestWait 0 = .ok (.ldc 231, 2) := by decide +kernel
theorem dX9_bestWait_2 : decode cX9_bestWait 2 = .ok (.istore_n 1, 1) := by decide +kernel
theorem dX9_bestWait_3 : decode cX9_bestWait 3 = .ok (.iconst 0, 1) := by decide +kernel
theorem dX9_bestWait_4 : decode cX9_bestWait 4 = .ok (.istore_n 2, 1) := by decide +kernel
theorem dX9_bestWait_5 : decode cX9_bestWait 5 = .ok (.getstatic 241, 3) := by decide +kernel
theorem dX9_bestWait_8 : decode cX9_bestWait 8 = .ok (.astore_n 3, 1) := by decide +kernel
theorem dX9_bestWait_9 : decode cX9_bestWait 9 = .ok (.aload_n 3, 1) := by decide +kernel
theorem dX9_bestWait_10 : decode cX9_bestWait 10 = .ok (.arraylength, 1) := by decide +kernel
theorem dX9_bestWait_11 : decode cX9_bestWait 11 = .ok (.istore 4, 2) := by decide +kernel
theorem dX9_bestWait_13 : decode cX9_bestWait 13 = .ok (.iconst 0, 1) := by decide +kernel
theorem dX9_bestWait_14 : decode cX9_bestWait 14 = .ok (.istore 5, 2) := by decide +kernel
theorem dX9_bestWait_16 : decode cX9_bestWait 16 = .ok (.iload 5, 2) := by decide +kernel
theorem dX9_bestWait_18 : decode cX9_bestWait 18 = .ok (.iload 4, 2) := by decide +kernel
theorem dX9_bestWait_20 : decode cX9_bestWait 20 = .ok (.if_icmp .ge 48, 3) := by decide +kernel
theorem dX9_bestWait_23 : decode cX9_bestWait 23 = .ok (.aload_n 3, 1) := by decide +kernel
theorem dX9_bestWait_24 : decode cX9_bestWait 24 = .ok (.iload 5, 2) := by decide +kernel
theorem dX9_bestWait_26 : decode cX9_bestWait 26 = .ok (.iaload, 1) := by decide +kernel
theorem dX9_bestWait_27 : decode cX9_bestWait 27 = .ok (.istore 6, 2) := by decide +kernel
theorem dX9_bestWait_29 : decode cX9_bestWait 29 = .ok (.aload_n 0, 1) := by decide +kernel
theorem dX9_bestWait_30 : decode cX9_bestWait 30 = .ok (.iload 6, 2) := by decide +kernel
theorem dX9_bestWait_32 : decode cX9_bestWait 32 = .ok (.invokevirtual 245, 3) := by decide +kernel
theorem dX9_bestWait_35 : decode cX9_bestWait 35 = .ok (.istore 7, 2) := by decide +kernel
theorem dX9_bestWait_37 : decode cX9_bestWait 37 = .ok (.iload 7, 2) := by decide +kernel
theorem dX9_bestWait_39 : decode cX9_bestWait 39 = .ok (.ldc 231, 2) := by decide +kernel
theorem dX9_bestWait_41 : decode cX9_bestWait 41 = .ok (.if_icmp .eq 21, 3) := by decide +kernel
theorem dX9_bestWait_44 : decode cX9_bestWait 44 = .ok (.iload_n 1, 1) := by decide +kernel
theorem dX9_bestWait_45 : decode cX9_bestWait 45 = .ok (.ldc 231, 2) := by decide +kernel
theorem dX9_bestWait_47 : decode cX9_bestWait 47 = .ok (.if_icmp .eq 9, 3) := by decide +kernel
theorem dX9_bestWait_50 : decode cX9_bestWait 50 = .ok (.iload 7, 2) := by decide +kernel
theorem dX9_bestWait_52 : decode cX9_bestWait 52 = .ok (.iload_n 2, 1) := by decide +kernel
theorem dX9_bestWait_53 : decode cX9_bestWait 53 = .ok (.if_icmp .ge 9, 3) := by decide +kernel
theorem dX9_bestWait_56 : decode cX9_bestWait 56 = .ok (.iload 6, 2) := by decide +kernel
theorem dX9_bestWait_58 : decode cX9_bestWait 58 = .ok (.istore_n 1, 1) := by decide +kernel
theorem dX9_bestWait_59 : decode cX9_bestWait 59 = .ok (.iload 7, 2) := by decide +kernel
theorem dX9_bestWait_61 : decode cX9_bestWait 61 = .ok (.istore_n 2, 1) := by decide +kernel
theorem dX9_bestWait_62 : decode cX9_bestWait 62 = .ok (.iinc 5 1, 3) := by decide +kernel
theorem dX9_bestWait_65 : decode cX9_bestWait 65 = .ok (.goto (-49), 3) := by decide +kernel
theorem dX9_bestWait_68 : decode cX9_bestWait 68 = .ok (.iload_n 1, 1) := by decide +kernel
theorem dX9_bestWait_69 : decode cX9_bestWait 69 = .ok (.ireturn, 1) := by decide +kernel
theorem dX9_undo_0 : decode cX9_undo 0 = .ok (.aload_n 0, 1) := by decide +kernel
theorem dX9_undo_1 : decode cX9_undo 1 = .ok (.getfield 19, 3) := by decide +kernel
theorem dX9_undo_4 : decode cX9_undo 4 = .ok (.getfield 248, 3) := by decide +kernel
theorem dX9_undo_7 : decode cX9_undo 7 = .ok (.ifCond .ne 6, 3) := by decide +kernel
theorem dX9_undo_10 : decode cX9_undo 10 = .ok (.ldc 231, 2) := by decide +kernel
theorem dX9_undo_12 : decode cX9_undo 12 = .ok (.ireturn, 1) := by decide +kernel
theorem dX9_undo_13 : decode cX9_undo 13 = .ok (.aload_n 0, 1) := by decide +kernel
theorem dX9_undo_14 : decode cX9_undo 14 = .ok (.getfield 19, 3) := by decide +kernel
theorem dX9_undo_17 : decode cX9_undo 17 = .ok (.aload_n 0, 1) := by decide +kernel
theorem dX9_undo_18 : decode cX9_undo 18 = .ok (.getfield 12, 3) := by decide +kernel
theorem dX9_undo_21 : decode cX9_undo 21 = .ok (.invokevirtual 249, 3) := by decide +kernel
theorem dX9_undo_24 : decode cX9_undo 24 = .ok (.aload_n 0, 1) := by decide +kernel
theorem dX9_undo_25 : decode cX9_undo 25 = .ok (.getfield 19, 3) := by decide +kernel
theorem dX9_undo_28 : decode cX9_undo 28 = .ok (.getfield 248, 3) := by decide +kernel
theorem dX9_undo_31 : decode cX9_undo 31 = .ok (.ireturn, 1) := by decide +kernel
theorem dX9_fingerprint_0 : decode cX9_fingerprint 0 = .ok (.ldc2_w 252, 3) := by decide +kernel
theorem dX9_fingerprint_3 : decode cX9_fingerprint 3 = .ok (.lstore_n 1, 1) := by decide +kernel
theorem dX9_fingerprint_4 : decode cX9_fingerprint 4 = .ok (.iconst 0, 1) := by decide +kernel
theorem dX9_fingerprint_5 : decode cX9_fingerprint 5 = .ok (.istore_n 3, 1) := by decide +kernel
theorem dX9_fingerprint_6 : decode cX9_fingerprint 6 = .ok (.iload_n 3, 1) := by decide +kernel
theorem dX9_fingerprint_7 : decode cX9_fingerprint 7 = .ok (.bipush 9, 2) := by decide +kernel
theorem dX9_fingerprint_9 : decode cX9_fingerprint 9 = .ok (.if_icmp .gt 22, 3) := by decide +kernel
theorem dX9_fingerprint_12 : decode cX9_fingerprint 12 = .ok (.ldc2_w 254, 3) := by decide +kernel
theorem dX9_fingerprint_15 : decode cX9_fingerprint 15 = .ok (.lload_n 1, 1) := by decide +kernel
theorem dX9_fingerprint_16 : decode cX9_fingerprint 16 = .ok (.lmul, 1) := by decide +kernel
theorem dX9_fingerprint_17 : decode cX9_fingerprint 17 = .ok (.aload_n 0, 1) := by decide +kernel
theorem dX9_fingerprint_18 : decode cX9_fingerprint 18 = .ok (.iload_n 3, 1) := by decide +kernel
theorem dX9_fingerprint_19 : decode cX9_fingerprint 19 = .ok (.invokevirtual 256, 3) := by decide +kernel
theorem dX9_fingerprint_22 : decode cX9_fingerprint 22 = .ok (.i2l, 1) := by decide +kernel
theorem dX9_fingerprint_23 : decode cX9_fingerprint 23 = .ok (.ladd, 1) := by decide +kernel
theorem dX9_fingerprint_24 : decode cX9_fingerprint 24 = .ok (.lstore_n 1, 1) := by decide +kernel
theorem dX9_fingerprint_25 : decode cX9_fingerprint 25 = .ok (.iinc 3 1, 3) := by decide +kernel
theorem dX9_fingerprint_28 : decode cX9_fingerprint 28 = .ok (.goto (-22), 3) := by decide +kernel
theorem dX9_fingerprint_31 : decode cX9_fingerprint 31 = .ok (.iconst 0, 1) := by decide +kernel
theorem dX9_fingerprint_32 : decode cX9_fingerprint 32 = .ok (.istore_n 3, 1) := by decide +kernel
theorem dX9_fingerprint_33 : decode cX9_fingerprint 33 = .ok (.iload_n 3, 1) := by decide +kernel
theorem dX9_fingerprint_34 : decode cX9_fingerprint 34 = .ok (.aload_n 0, 1) := by decide +kernel
theorem dX9_fingerprint_35 : decode cX9_fingerprint 35 = .ok (.getfield 12, 3) := by decide +kernel
theorem dX9_fingerprint_38 : decode cX9_fingerprint 38 = .ok (.getfield 52, 3) := by decide +kernel
theorem dX9_fingerprint_41 : decode cX9_fingerprint 41 = .ok (.getfield 56, 3) := by decide +kernel
theorem dX9_fingerprint_44 : decode cX9_fingerprint 44 = .ok (.if_icmp .ge 40, 3) := by decide +kernel
theorem dX9_fingerprint_47 : decode cX9_fingerprint 47 = .ok (.iconst 0, 1) := by decide +kernel
theorem dX9_fingerprint_48 : decode cX9_fingerprint 48 = .ok (.istore 4, 2) := by decide +kernel
theorem dX9_fingerprint_50 : decode cX9_fingerprint 50 = .ok (.iload 4, 2) := by decide +kernel
theorem dX9_fingerprint_52 : decode cX9_fingerprint 52 = .ok (.bipush 8, 2) := by decide +kernel
theorem dX9_fingerprint_54 : decode cX9_fingerprint 54 = .ok (.if_icmp .gt 24, 3) := by decide +kernel
theorem dX9_fingerprint_57 : decode cX9_fingerprint 57 = .ok (.ldc2_w 254, 3) := by decide +kernel
theorem dX9_fingerprint_60 : decode cX9_fingerprint 60 = .ok (.lload_n 1, 1) := by decide +kernel
theorem dX9_fingerprint_61 : decode cX9_fingerprint 61 = .ok (.lmul, 1) := by decide +kernel
theorem dX9_fingerprint_62 : decode cX9_fingerprint 62 = .ok (.aload_n 0, 1) := by decide +kernel
theorem dX9_fingerprint_63 : decode cX9_fingerprint 63 = .ok (.iload_n 3, 1) := by decide +kernel
theorem dX9_fingerprint_64 : decode cX9_fingerprint 64 = .ok (.iload 4, 2) := by decide +kernel
theorem dX9_fingerprint_66 : decode cX9_fingerprint 66 = .ok (.invokevirtual 259, 3) := by decide +kernel
theorem dX9_fingerprint_69 : decode cX9_fingerprint 69 = .ok (.i2l, 1) := by decide +kernel
theorem dX9_fingerprint_70 : decode cX9_fingerprint 70 = .ok (.ladd, 1) := by decide +kernel
theorem dX9_fingerprint_71 : decode cX9_fingerprint 71 = .ok (.lstore_n 1, 1) := by decide +kernel
theorem dX9_fingerprint_72 : decode cX9_fingerprint 72 = .ok (.iinc 4 1, 3) := by decide +kernel
theorem dX9_fingerprint_75 : decode cX9_fingerprint 75 = .ok (.goto (-25), 3) := by decide +kernel
theorem dX9_fingerprint_78 : decode cX9_fingerprint 78 = .ok (.iinc 3 1, 3) := by decide +kernel
theorem dX9_fingerprint_81 : decode cX9_fingerprint 81 = .ok (.goto (-48), 3) := by decide +kernel
theorem dX9_fingerprint_84 : decode cX9_fingerprint 84 = .ok (.ldc2_w 254, 3) := by decide +kernel
theorem dX9_fingerprint_87 : decode cX9_fingerprint 87 = .ok (.lload_n 1, 1) := by decide +kernel
theorem dX9_fingerprint_88 : decode cX9_fingerprint 88 = .ok (.lmul, 1) := by decide +kernel
theorem dX9_fingerprint_89 : decode cX9_fingerprint 89 = .ok (.aload_n 0, 1) := by decide +kernel
theorem dX9_fingerprint_90 : decode cX9_fingerprint 90 = .ok (.invokevirtual 262, 3) := by decide +kernel
theorem dX9_fingerprint_93 : decode cX9_fingerprint 93 = .ok (.ladd, 1) := by decide +kernel
theorem dX9_fingerprint_94 : decode cX9_fingerprint 94 = .ok (.lstore_n 1, 1) := by decide +kernel
theorem dX9_fingerprint_95 : decode cX9_fingerprint 95 = .ok (.iconst 0, 1) := by decide +kernel
theorem dX9_fingerprint_96 : decode cX9_fingerprint 96 = .ok (.istore_n 3, 1) := by decide +kernel
theorem dX9_fingerprint_97 : decode cX9_fingerprint 97 = .ok (.iload_n 3, 1) := by decide +kernel
theorem dX9_fingerprint_98 : decode cX9_fingerprint 98 = .ok (.aload_n 0, 1) := by decide +kernel
theorem dX9_fingerprint_99 : decode cX9_fingerprint 99 = .ok (.getfield 12, 3) := by decide +kernel
theorem dX9_fingerprint_102 : decode cX9_fingerprint 102 = .ok (.getfield 99, 3) := by decide +kernel
theorem dX9_fingerprint_105 : decode cX9_fingerprint 105 = .ok (.getfield 265, 3) := by decide +kernel
theorem dX9_fingerprint_108 : decode cX9_fingerprint 108 = .ok (.if_icmp .ge 22, 3) := by decide +kernel
theorem dX9_fingerprint_111 : decode cX9_fingerprint 111 = .ok (.ldc2_w 254, 3) := by decide +kernel
theorem dX9_fingerprint_114 : decode cX9_fingerprint 114 = .ok (.lload_n 1, 1) := by decide +kernel
theorem dX9_fingerprint_115 : decode cX9_fingerprint 115 = .ok (.lmul, 1) := by decide +kernel
theorem dX9_fingerprint_116 : decode cX9_fingerprint 116 = .ok (.aload_n 0, 1) := by decide +kernel
theorem dX9_fingerprint_117 : decode cX9_fingerprint 117 = .ok (.iload_n 3, 1) := by decide +kernel
theorem dX9_fingerprint_118 : decode cX9_fingerprint 118 = .ok (.invokevirtual 268, 3) := by decide +kernel
theorem dX9_fingerprint_121 : decode cX9_fingerprint 121 = .ok (.i2l, 1) := by decide +kernel
theorem dX9_fingerprint_122 : decode cX9_fingerprint 122 = .ok (.ladd, 1) := by decide +kernel
theorem dX9_fingerprint_123 : decode cX9_fingerprint 123 = .ok (.lstore_n 1, 1) := by decide +kernel
theorem dX9_fingerprint_124 : decode cX9_fingerprint 124 = .ok (.iinc 3 1, 3) := by decide +kernel
theorem dX9_fingerprint_127 : decode cX9_fingerprint 127 = .ok (.goto (-30), 3) := by decide +kernel
theorem dX9_fingerprint_130 : decode cX9_fingerprint 130 = .ok (.iconst 0, 1) := by decide +kernel
theorem dX9_fingerprint_131 : decode cX9_fingerprint 131 = .ok (.istore_n 3, 1) := by decide +kernel
theorem dX9_fingerprint_132 : decode cX9_fingerprint 132 = .ok (.iload_n 3, 1) := by decide +kernel
theorem dX9_fingerprint_133 : decode cX9_fingerprint 133 = .ok (.sipush 200, 3) := by decide +kernel
theorem dX9_fingerprint_136 : decode cX9_fingerprint 136 = .ok (.if_icmp .ge 49, 3) := by decide +kernel
theorem dX9_fingerprint_139 : decode cX9_fingerprint 139 = .ok (.aload_n 0, 1) := by decide +kernel
theorem dX9_fingerprint_140 : decode cX9_fingerprint 140 = .ok (.getfield 12, 3) := by decide +kernel
theorem dX9_fingerprint_143 : decode cX9_fingerprint 143 = .ok (.getfield 184, 3) := by decide +kernel
theorem dX9_fingerprint_146 : decode cX9_fingerprint 146 = .ok (.iload_n 3, 1) := by decide +kernel
theorem dX9_fingerprint_147 : decode cX9_fingerprint 147 = .ok (.invokevirtual 92, 3) := by decide +kernel
theorem dX9_fingerprint_150 : decode cX9_fingerprint 150 = .ok (.ifCond .eq 29, 3) := by decide +kernel
theorem dX9_fingerprint_153 : decode cX9_fingerprint 153 = .ok (.ldc2_w 254, 3) := by decide +kernel
theorem dX9_fingerprint_156 : decode cX9_fingerprint 156 = .ok (.ldc2_w 254, 3) := by decide +kernel
theorem dX9_fingerprint_159 : decode cX9_fingerprint 159 = .ok (.lload_n 1, 1) := by decide +kernel
theorem dX9_fingerprint_160 : decode cX9_fingerprint 160 = .ok (.lmul, 1) := by decide +kernel
theorem dX9_fingerprint_161 : decode cX9_fingerprint 161 = .ok (.iload_n 3, 1) := by decide +kernel
theorem dX9_fingerprint_162 : decode cX9_fingerprint 162 = .ok (.i2l, 1) := by decide +kernel
theorem dX9_fingerprint_163 : decode cX9_fingerprint 163 = .ok (.ladd, 1) := by decide +kernel
theorem dX9_fingerprint_164 : decode cX9_fingerprint 164 = .ok (.lmul, 1) := by decide +kernel
theorem dX9_fingerprint_165 : decode cX9_fingerprint 165 = .ok (.aload_n 0, 1) := by decide +kernel
theorem dX9_fingerprint_166 : decode cX9_fingerprint 166 = .ok (.getfield 12, 3) := by decide +kernel
theorem dX9_fingerprint_169 : decode cX9_fingerprint 169 = .ok (.getfield 184, 3) := by decide +kernel
theorem dX9_fingerprint_172 : decode cX9_fingerprint 172 = .ok (.iload_n 3, 1) := by decide +kernel
theorem dX9_fingerprint_173 : decode cX9_fingerprint 173 = .ok (.invokevirtual 92, 3) := by decide +kernel
theorem dX9_fingerprint_176 : decode cX9_fingerprint 176 = .ok (.i2l, 1) := by decide +kernel
theorem dX9_fingerprint_177 : decode cX9_fingerprint 177 = .ok (.ladd, 1) := by decide +kernel
theorem dX9_fingerprint_178 : decode cX9_fingerprint 178 = .ok (.lstore_n 1, 1) := by decide +kernel
theorem dX9_fingerprint_179 : decode cX9_fingerprint 179 = .ok (.iinc 3 1, 3) := by decide +kernel
theorem dX9_fingerprint_182 : decode cX9_fingerprint 182 = .ok (.goto (-50), 3) := by decide +kernel
theorem dX9_fingerprint_185 : decode cX9_fingerprint 185 = .ok (.iconst 0, 1) := by decide +kernel
theorem dX9_fingerprint_186 : decode cX9_fingerprint 186 = .ok (.istore_n 3, 1) := by decide +kernel
theorem dX9_fingerprint_187 : decode cX9_fingerprint 187 = .ok (.iload_n 3, 1) := by decide +kernel
theorem dX9_fingerprint_188 : decode cX9_fingerprint 188 = .ok (.aload_n 0, 1) := by decide +kernel
theorem dX9_fingerprint_189 : decode cX9_fingerprint 189 = .ok (.getfield 12, 3) := by decide +kernel
theorem dX9_fingerprint_192 : decode cX9_fingerprint 192 = .ok (.getfield 127, 3) := by decide +kernel
theorem dX9_fingerprint_195 : decode cX9_fingerprint 195 = .ok (.invokevirtual 271, 3) := by decide +kernel
theorem dX9_fingerprint_198 : decode cX9_fingerprint 198 = .ok (.if_icmp .ge 40, 3) := by decide +kernel
theorem dX9_fingerprint_201 : decode cX9_fingerprint 201 = .ok (.iconst 0, 1) := by decide +kernel
theorem dX9_fingerprint_202 : decode cX9_fingerprint 202 = .ok (.istore 4, 2) := by decide +kernel
theorem dX9_fingerprint_204 : decode cX9_fingerprint 204 = .ok (.iload 4, 2) := by decide +kernel
theorem dX9_fingerprint_206 : decode cX9_fingerprint 206 = .ok (.bipush 7, 2) := by decide +kernel
theorem dX9_fingerprint_208 : decode cX9_fingerprint 208 = .ok (.if_icmp .ge 24, 3) := by decide +kernel
theorem dX9_fingerprint_211 : decode cX9_fingerprint 211 = .ok (.ldc2_w 254, 3) := by decide +kernel
theorem dX9_fingerprint_214 : decode cX9_fingerprint 214 = .ok (.lload_n 1, 1) := by decide +kernel
theorem dX9_fingerprint_215 : decode cX9_fingerprint 215 = .ok (.lmul, 1) := by decide +kernel
theorem dX9_fingerprint_216 : decode cX9_fingerprint 216 = .ok (.aload_n 0, 1) := by decide +kernel
theorem dX9_fingerprint_217 : decode cX9_fingerprint 217 = .ok (.iload_n 3, 1) := by decide +kernel
theorem dX9_fingerprint_218 : decode cX9_fingerprint 218 = .ok (.iload 4, 2) := by decide +kernel
theorem dX9_fingerprint_220 : decode cX9_fingerprint 220 = .ok (.invokevirtual 274, 3) := by decide +kernel
theorem dX9_fingerprint_223 : decode cX9_fingerprint 223 = .ok (.i2l, 1) := by decide +kernel
theorem dX9_fingerprint_224 : decode cX9_fingerprint 224 = .ok (.ladd, 1) := by decide +kernel
theorem dX9_fingerprint_225 : decode cX9_fingerprint 225 = .ok (.lstore_n 1, 1) := by decide +kernel
theorem dX9_fingerprint_226 : decode cX9_fingerprint 226 = .ok (.iinc 4 1, 3) := by decide +kernel
theorem dX9_fingerprint_229 : decode cX9_fingerprint 229 = .ok (.goto (-25), 3) := by decide +kernel
theorem dX9_fingerprint_232 : decode cX9_fingerprint 232 = .ok (.iinc 3 1, 3) := by decide +kernel
theorem dX9_fingerprint_235 : decode cX9_fingerprint 235 = .ok (.goto (-48), 3) := by decide +kernel
theorem dX9_fingerprint_238 : decode cX9_fingerprint 238 = .ok (.lload_n 1, 1) := by decide +kernel
theorem dX9_fingerprint_239 : decode cX9_fingerprint 239 = .ok (.lreturn, 1) := by decide +kernel
theorem dX9_isMember_0 : decode cX9_isMember 0 = .ok (.iload_n 1, 1) := by decide +kernel
theorem dX9_isMember_1 : decode cX9_isMember 1 = .ok (.ifCond .lt 21, 3) := by decide +kernel
theorem dX9_isMember_4 : decode cX9_isMember 4 = .ok (.iload_n 1, 1) := by decide +kernel
theorem dX9_isMember_5 : decode cX9_isMember 5 = .ok (.aload_n 0, 1) := by decide +kernel
theorem dX9_isMember_6 : decode cX9_isMember 6 = .ok (.getfield 12, 3) := by decide +kernel
theorem dX9_isMember_9 : decode cX9_isMember 9 = .ok (.getfield 52, 3) := by decide +kernel
theorem dX9_isMember_12 : decode cX9_isMember 12 = .ok (.getfield 56, 3) := by decide +kernel
theorem dX9_isMember_15 : decode cX9_isMember 15 = .ok (.if_icmp .ge 7, 3) := by decide +kernel
theorem dX9_isMember_18 : decode cX9_isMember 18 = .ok (.iconst 1, 1) := by decide +kernel
theorem dX9_isMember_19 : decode cX9_isMember 19 = .ok (.goto 4, 3) := by decide +kernel
theorem dX9_isMember_22 : decode cX9_isMember 22 = .ok (.iconst 0, 1) := by decide +kernel
theorem dX9_isMember_23 : decode cX9_isMember 23 = .ok (.ireturn, 1) := by decide +kernel
theorem dX9_isBlock_0 : decode cX9_isBlock 0 = .ok (.iload_n 0, 1) := by decide +kernel
theorem dX9_isBlock_1 : decode cX9_isBlock 1 = .ok (.ifCond .lt 14, 3) := by decide +kernel
theorem dX9_isBlock_4 : decode cX9_isBlock 4 = .ok (.iload_n 0, 1) := by decide +kernel
theorem dX9_isBlock_5 : decode cX9_isBlock 5 = .ok (.sipush 200, 3) := by decide +kernel
theorem dX9_isBlock_8 : decode cX9_isBlock 8 = .ok (.if_icmp .ge 7, 3) := by decide +kernel
theorem dX9_isBlock_11 : decode cX9_isBlock 11 = .ok (.iconst 1, 1) := by decide +kernel
theorem dX9_isBlock_12 : decode cX9_isBlock 12 = .ok (.goto 4, 3) := by decide +kernel
theorem dX9_isBlock_15 : decode cX9_isBlock 15 = .ok (.iconst 0, 1) := by decide +kernel
theorem dX9_isBlock_16 : decode cX9_isBlock 16 = .ok (.ireturn, 1) := by decide +kernel
theorem dX9_isWeight_0 : decode cX9_isWeight 0 = .ok (.iload_n 0, 1) := by decide +kernel
theorem dX9_isWeight_1 : decode cX9_isWeight 1 = .ok (.iconst 1, 1) := by decide +kernel
theorem dX9_isWeight_2 : decode cX9_isWeight 2 = .ok (.if_icmp .lt 13, 3) := by decide +kernel
theorem dX9_isWeight_5 : decode cX9_isWeight 5 = .ok (.iload_n 0, 1) := by decide +kernel
theorem dX9_isWeight_6 : decode cX9_isWeight 6 = .ok (.bipush 9, 2) := by decide +kernel
theorem dX9_isWeight_8 : decode cX9_isWeight 8 = .ok (.if_icmp .gt 7, 3) := by decide +kernel
theorem dX9_isWeight_11 : decode cX9_isWeight 11 = .ok (.iconst 1, 1) := by decide +kernel
theorem dX9_isWeight_12 : decode cX9_isWeight 12 = .ok (.goto 4, 3) := by decide +kernel
theorem dX9_isWeight_15 : decode cX9_isWeight 15 = .ok (.iconst 0, 1) := by decide +kernel
theorem dX9_isWeight_16 : decode cX9_isWeight 16 = .ok (.ireturn, 1) := by decide +kernel
theorem dX9_isPosition_0 : decode cX9_isPosition 0 = .ok (.iload_n 0, 1) := by decide +kernel
theorem dX9_isPosition_1 : decode cX9_isPosition 1 = .ok (.ifCond .lt 14, 3) := by decide +kernel
theorem dX9_isPosition_4 : decode cX9_isPosition 4 = .ok (.iload_n 0, 1) := by decide +kernel
theorem dX9_isPosition_5 : decode cX9_isPosition 5 = .ok (.sipush 1000, 3) := by decide +kernel
theorem dX9_isPosition_8 : decode cX9_isPosition 8 = .ok (.if_icmp .gt 7, 3) := by decide +kernel
theorem dX9_isPosition_11 : decode cX9_isPosition 11 = .ok (.iconst 1, 1) := by decide +kernel
theorem dX9_isPosition_12 : decode cX9_isPosition 12 = .ok (.goto 4, 3) := by decide +kernel
theorem dX9_isPosition_15 : decode cX9_isPosition 15 = .ok (.iconst 0, 1) := by decide +kernel
theorem dX9_isPosition_16 : decode cX9_isPosition 16 = .ok (.ireturn, 1) := by decide +kernel
theorem dX9_isSettingValue_0 : decode cX9_isSettingValue 0 = .ok (.iload_n 0, 1) := by decide +kernel
theorem dX9_isSettingValue_1 : decode cX9_isSettingValue 1 = .ok (.ifCond .lt 41, 3) := by decide +kernel
theorem dX9_isSettingValue_4 : decode cX9_isSettingValue 4 = .ok (.iload_n 0, 1) := by decide +kernel
theorem dX9_isSettingValue_5 : decode cX9_isSettingValue 5 = .ok (.getstatic 277, 3) := by decide +kernel
theorem dX9_isSettingValue_8 : decode cX9_isSettingValue 8 = .ok (.arraylength, 1) := by decide +kernel
theorem dX9_isSettingValue_9 : decode cX9_isSettingValue 9 = .ok (.if_icmp .ge 33, 3) := by decide +kernel
theorem dX9_isSettingValue_12 : decode cX9_isSettingValue 12 = .ok (.iload_n 0, 1) := by decide +kernel
theorem dX9_isSettingValue_13 : decode cX9_isSettingValue 13 = .ok (.getstatic 280, 3) := by decide +kernel
theorem dX9_isSettingValue_16 : decode cX9_isSettingValue 16 = .ok (.arraylength, 1) := by decide +kernel
theorem dX9_isSettingValue_17 : decode cX9_isSettingValue 17 = .ok (.if_icmp .ge 25, 3) := by decide +kernel
theorem dX9_isSettingValue_20 : decode cX9_isSettingValue 20 = .ok (.iload_n 1, 1) := by decide +kernel
theorem dX9_isSettingValue_21 : decode cX9_isSettingValue 21 = .ok (.getstatic 277, 3) := by decide +kernel
theorem dX9_isSettingValue_24 : decode cX9_isSettingValue 24 = .ok (.iload_n 0, 1) := by decide +kernel
theorem dX9_isSettingValue_25 : decode cX9_isSettingValue 25 = .ok (.iaload, 1) := by decide +kernel
theorem dX9_isSettingValue_26 : decode cX9_isSettingValue 26 = .ok (.if_icmp .lt 16, 3) := by decide +kernel
theorem dX9_isSettingValue_29 : decode cX9_isSettingValue 29 = .ok (.iload_n 1, 1) := by decide +kernel
theorem dX9_isSettingValue_30 : decode cX9_isSettingValue 30 = .ok (.getstatic 280, 3) := by decide +kernel
theorem dX9_isSettingValue_33 : decode cX9_isSettingValue 33 = .ok (.iload_n 0, 1) := by decide +kernel
theorem dX9_isSettingValue_34 : decode cX9_isSettingValue 34 = .ok (.iaload, 1) := by decide +kernel
theorem dX9_isSettingValue_35 : decode cX9_isSettingValue 35 = .ok (.if_icmp .gt 7, 3) := by decide +kernel
theorem dX9_isSettingValue_38 : decode cX9_isSettingValue 38 = .ok (.iconst 1, 1) := by decide +kernel
theorem dX9_isSettingValue_39 : decode cX9_isSettingValue 39 = .ok (.goto 4, 3) := by decide +kernel
theorem dX9_isSettingValue_42 : decode cX9_isSettingValue 42 = .ok (.iconst 0, 1) := by decide +kernel
theorem dX9_isSettingValue_43 : decode cX9_isSettingValue 43 = .ok (.ireturn, 1) := by decide +kernel
theorem dX9_areEnough_0 : decode cX9_areEnough 0 = .ok (.iload_n 1, 1) := by decide +kernel
theorem dX9_areEnough_1 : decode cX9_areEnough 1 = .ok (.invokestatic 187, 3) := by decide +kernel
theorem dX9_areEnough_4 : decode cX9_areEnough 4 = .ok (.aload_n 0, 1) := by decide +kernel
theorem dX9_areEnough_5 : decode cX9_areEnough 5 = .ok (.getfield 12, 3) := by decide +kernel
theorem dX9_areEnough_8 : decode cX9_areEnough 8 = .ok (.getfield 121, 3) := by decide +kernel
theorem dX9_areEnough_11 : decode cX9_areEnough 11 = .ok (.iconst 2, 1) := by decide +kernel
theorem dX9_areEnough_12 : decode cX9_areEnough 12 = .ok (.invokevirtual 92, 3) := by decide +kernel
theorem dX9_areEnough_15 : decode cX9_areEnough 15 = .ok (.if_icmp .lt 7, 3) := by decide +kernel
theorem dX9_areEnough_18 : decode cX9_areEnough 18 = .ok (.iconst 1, 1) := by decide +kernel
theorem dX9_areEnough_19 : decode cX9_areEnough 19 = .ok (.goto 4, 3) := by decide +kernel
theorem dX9_areEnough_22 : decode cX9_areEnough 22 = .ok (.iconst 0, 1) := by decide +kernel
theorem dX9_areEnough_23 : decode cX9_areEnough 23 = .ok (.ireturn, 1) := by decide +kernel
theorem dX9_sumOfTimes_0 : decode cX9_sumOfTimes 0 = .ok (.ldc 231, 2) := by decide +kernel
theorem dX9_sumOfTimes_2 : decode cX9_sumOfTimes 2 = .ok (.istore_n 2, 1) := by decide +kernel
theorem dX9_sumOfTimes_3 : decode cX9_sumOfTimes 3 = .ok (.iconst 0, 1) := by decide +kernel
theorem dX9_sumOfTimes_4 : decode cX9_sumOfTimes 4 = .ok (.istore_n 3, 1) := by decide +kernel
theorem dX9_sumOfTimes_5 : decode cX9_sumOfTimes 5 = .ok (.iload_n 3, 1) := by decide +kernel
theorem dX9_sumOfTimes_6 : decode cX9_sumOfTimes 6 = .ok (.sipush 200, 3) := by decide +kernel
theorem dX9_sumOfTimes_9 : decode cX9_sumOfTimes 9 = .ok (.if_icmp .ge 52, 3) := by decide +kernel
theorem dX9_sumOfTimes_12 : decode cX9_sumOfTimes 12 = .ok (.aload_n 0, 1) := by decide +kernel
theorem dX9_sumOfTimes_13 : decode cX9_sumOfTimes 13 = .ok (.getfield 33, 3) := by decide +kernel
theorem dX9_sumOfTimes_16 : decode cX9_sumOfTimes 16 = .ok (.aload_n 0, 1) := by decide +kernel
theorem dX9_sumOfTimes_17 : decode cX9_sumOfTimes 17 = .ok (.getfield 12, 3) := by decide +kernel
theorem dX9_sumOfTimes_20 : decode cX9_sumOfTimes 20 = .ok (.iload_n 3, 1) := by decide +kernel
theorem dX9_sumOfTimes_21 : decode cX9_sumOfTimes 21 = .ok (.iload_n 1, 1) := by decide +kernel
theorem dX9_sumOfTimes_22 : decode cX9_sumOfTimes 22 = .ok (.invokevirtual 211, 3) := by decide +kernel
theorem dX9_sumOfTimes_25 : decode cX9_sumOfTimes 25 = .ok (.aload_n 0, 1) := by decide +kernel
theorem dX9_sumOfTimes_26 : decode cX9_sumOfTimes 26 = .ok (.getfield 33, 3) := by decide +kernel
theorem dX9_sumOfTimes_29 : decode cX9_sumOfTimes 29 = .ok (.getfield 215, 3) := by decide +kernel
theorem dX9_sumOfTimes_32 : decode cX9_sumOfTimes 32 = .ok (.ifCond .ne 23, 3) := by decide +kernel
theorem dX9_sumOfTimes_35 : decode cX9_sumOfTimes 35 = .ok (.iload_n 2, 1) := by decide +kernel
theorem dX9_sumOfTimes_36 : decode cX9_sumOfTimes 36 = .ok (.ldc 231, 2) := by decide +kernel
theorem dX9_sumOfTimes_38 : decode cX9_sumOfTimes 38 = .ok (.if_icmp .ne 7, 3) := by decide +kernel
theorem dX9_sumOfTimes_41 : decode cX9_sumOfTimes 41 = .ok (.iconst 0, 1) := by decide +kernel
theorem dX9_sumOfTimes_42 : decode cX9_sumOfTimes 42 = .ok (.goto 4, 3) := by decide +kernel
theorem dX9_sumOfTimes_45 : decode cX9_sumOfTimes 45 = .ok (.iload_n 2, 1) := by decide +kernel
theorem dX9_sumOfTimes_46 : decode cX9_sumOfTimes 46 = .ok (.aload_n 0, 1) := by decide +kernel
theorem dX9_sumOfTimes_47 : decode cX9_sumOfTimes 47 = .ok (.getfield 33, 3) := by decide +kernel
theorem dX9_sumOfTimes_50 : decode cX9_sumOfTimes 50 = .ok (.getfield 222, 3) := by decide +kernel
theorem dX9_sumOfTimes_53 : decode cX9_sumOfTimes 53 = .ok (.iadd, 1) := by decide +kernel
theorem dX9_sumOfTimes_54 : decode cX9_sumOfTimes 54 = .ok (.istore_n 2, 1) := by decide +kernel
theorem dX9_sumOfTimes_55 : decode cX9_sumOfTimes 55 = .ok (.iinc 3 1, 3) := by decide +kernel
theorem dX9_sumOfTimes_58 : decode cX9_sumOfTimes 58 = .ok (.goto (-53), 3) := by decide +kernel
theorem dX9_sumOfTimes_61 : decode cX9_sumOfTimes 61 = .ok (.iload_n 2, 1) := by decide +kernel
theorem dX9_sumOfTimes_62 : decode cX9_sumOfTimes 62 = .ok (.ireturn, 1) := by decide +kernel
theorem dJ6_bitCount_0f7a4_0 : decode cJ6_bitCount_0f7a4 0 = .ok (.iload_n 0, 1) := by decide +kernel
theorem dJ6_bitCount_0f7a4_1 : decode cJ6_bitCount_0f7a4 1 = .ok (.iload_n 0, 1) := by decide +kernel
theorem dJ6_bitCount_0f7a4_2 : decode cJ6_bitCount_0f7a4 2 = .ok (.iconst 1, 1) := by decide +kernel
theorem dJ6_bitCount_0f7a4_3 : decode cJ6_bitCount_0f7a4 3 = .ok (.iushr, 1) := by decide +kernel
theorem dJ6_bitCount_0f7a4_4 : decode cJ6_bitCount_0f7a4 4 = .ok (.ldc_w 265, 3) := by decide +kernel
theorem dJ6_bitCount_0f7a4_7 : decode cJ6_bitCount_0f7a4 7 = .ok (.iand, 1) := by decide +kernel
theorem dJ6_bitCount_0f7a4_8 : decode cJ6_bitCount_0f7a4 8 = .ok (.isub, 1) := by decide +kernel
theorem dJ6_bitCount_0f7a4_9 : decode cJ6_bitCount_0f7a4 9 = .ok (.istore_n 0, 1) := by decide +kernel
theorem dJ6_bitCount_0f7a4_10 : decode cJ6_bitCount_0f7a4 10 = .ok (.iload_n 0, 1) := by decide +kernel
theorem dJ6_bitCount_0f7a4_11 : decode cJ6_bitCount_0f7a4 11 = .ok (.ldc_w 266, 3) := by decide +kernel
theorem dJ6_bitCount_0f7a4_14 : decode cJ6_bitCount_0f7a4 14 = .ok (.iand, 1) := by decide +kernel
theorem dJ6_bitCount_0f7a4_15 : decode cJ6_bitCount_0f7a4 15 = .ok (.iload_n 0, 1) := by decide +kernel
theorem dJ6_bitCount_0f7a4_16 : decode cJ6_bitCount_0f7a4 16 = .ok (.iconst 2, 1) := by decide +kernel
theorem dJ6_bitCount_0f7a4_17 : decode cJ6_bitCount_0f7a4 17 = .ok (.iushr, 1) := by decide +kernel
theorem dJ6_bitCount_0f7a4_18 : decode cJ6_bitCount_0f7a4 18 = .ok (.ldc_w 266, 3) := by decide +kernel
theorem dJ6_bitCount_0f7a4_21 : decode cJ6_bitCount_0f7a4 21 = .ok (.iand, 1) := by decide +kernel
theorem dJ6_bitCount_0f7a4_22 : decode cJ6_bitCount_0f7a4 22 = .ok (.iadd, 1) := by decide +kernel
theorem dJ6_bitCount_0f7a4_23 : decode cJ6_bitCount_0f7a4 23 = .ok (.istore_n 0, 1) := by decide +kernel
theorem dJ6_bitCount_0f7a4_24 : decode cJ6_bitCount_0f7a4 24 = .ok (.iload_n 0, 1) := by decide +kernel
theorem dJ6_bitCount_0f7a4_25 : decode cJ6_bitCount_0f7a4 25 = .ok (.iload_n 0, 1) := by decide +kernel
theorem dJ6_bitCount_0f7a4_26 : decode cJ6_bitCount_0f7a4 26 = .ok (.iconst 4, 1) := by decide +kernel
theorem dJ6_bitCount_0f7a4_27 : decode cJ6_bitCount_0f7a4 27 = .ok (.iushr, 1) := by decide +kernel
theorem dJ6_bitCount_0f7a4_28 : decode cJ6_bitCount_0f7a4 28 = .ok (.iadd, 1) := by decide +kernel
theorem dJ6_bitCount_0f7a4_29 : decode cJ6_bitCount_0f7a4 29 = .ok (.ldc_w 267, 3) := by decide +kernel
theorem dJ6_bitCount_0f7a4_32 : decode cJ6_bitCount_0f7a4 32 = .ok (.iand, 1) := by decide +kernel
theorem dJ6_bitCount_0f7a4_33 : decode cJ6_bitCount_0f7a4 33 = .ok (.istore_n 0, 1) := by decide +kernel
theorem dJ6_bitCount_0f7a4_34 : decode cJ6_bitCount_0f7a4 34 = .ok (.iload_n 0, 1) := by decide +kernel
theorem dJ6_bitCount_0f7a4_35 : decode cJ6_bitCount_0f7a4 35 = .ok (.iload_n 0, 1) := by decide +kernel
theorem dJ6_bitCount_0f7a4_36 : decode cJ6_bitCount_0f7a4 36 = .ok (.bipush 8, 2) := by decide +kernel
theorem dJ6_bitCount_0f7a4_38 : decode cJ6_bitCount_0f7a4 38 = .ok (.iushr, 1) := by decide +kernel
theorem dJ6_bitCount_0f7a4_39 : decode cJ6_bitCount_0f7a4 39 = .ok (.iadd, 1) := by decide +kernel
theorem dJ6_bitCount_0f7a4_40 : decode cJ6_bitCount_0f7a4 40 = .ok (.istore_n 0, 1) := by decide +kernel
theorem dJ6_bitCount_0f7a4_41 : decode cJ6_bitCount_0f7a4 41 = .ok (.iload_n 0, 1) := by decide +kernel
theorem dJ6_bitCount_0f7a4_42 : decode cJ6_bitCount_0f7a4 42 = .ok (.iload_n 0, 1) := by decide +kernel
theorem dJ6_bitCount_0f7a4_43 : decode cJ6_bitCount_0f7a4 43 = .ok (.bipush 16, 2) := by decide +kernel
theorem dJ6_bitCount_0f7a4_45 : decode cJ6_bitCount_0f7a4 45 = .ok (.iushr, 1) := by decide +kernel
theorem dJ6_bitCount_0f7a4_46 : decode cJ6_bitCount_0f7a4 46 = .ok (.iadd, 1) := by decide +kernel
theorem dJ6_bitCount_0f7a4_47 : decode cJ6_bitCount_0f7a4 47 = .ok (.istore_n 0, 1) := by decide +kernel
theorem dJ6_bitCount_0f7a4_48 : decode cJ6_bitCount_0f7a4 48 = .ok (.iload_n 0, 1) := by decide +kernel
theorem dJ6_bitCount_0f7a4_49 : decode cJ6_bitCount_0f7a4 49 = .ok (.bipush 63, 2) := by decide +kernel
theorem dJ6_bitCount_0f7a4_51 : decode cJ6_bitCount_0f7a4 51 = .ok (.iand, 1) := by decide +kernel
theorem dJ6_bitCount_0f7a4_52 : decode cJ6_bitCount_0f7a4 52 = .ok (.ireturn, 1) := by decide +kernel
theorem dL_cell_0 : decode cL_cell 0 = .ok (.iload_n 1, 1) := by decide +kernel
theorem dL_cell_1 : decode cL_cell 1 = .ok (.aload_n 0, 1) := by decide +kernel
theorem dL_cell_2 : decode cL_cell 2 = .ok (.arraylength, 1) := by decide +kernel
theorem dL_cell_3 : decode cL_cell 3 = .ok (.if_icmp .ge 9, 3) := by decide +kernel
theorem dL_cell_6 : decode cL_cell 6 = .ok (.aload_n 0, 1) := by decide +kernel
theorem dL_cell_7 : decode cL_cell 7 = .ok (.iload_n 1, 1) := by decide +kernel
theorem dL_cell_8 : decode cL_cell 8 = .ok (.iaload, 1) := by decide +kernel
theorem dL_cell_9 : decode cL_cell 9 = .ok (.goto 9, 3) := by decide +kernel
theorem dL_cell_12 : decode cL_cell 12 = .ok (.ldc 7, 2) := by decide +kernel
theorem dL_cell_14 : decode cL_cell 14 = .ok (.iload_n 1, 1) := by decide +kernel
theorem dL_cell_15 : decode cL_cell 15 = .ok (.iconst 3, 1) := by decide +kernel
theorem dL_cell_16 : decode cL_cell 16 = .ok (.iadd, 1) := by decide +kernel
theorem dL_cell_17 : decode cL_cell 17 = .ok (.imul, 1) := by decide +kernel
theorem dL_cell_18 : decode cL_cell 18 = .ok (.ireturn, 1) := by decide +kernel
theorem dL_up_0 : decode cL_up 0 = .ok (.iload_n 0, 1) := by decide +kernel
theorem dL_up_1 : decode cL_up 1 = .ok (.ldc 8, 2) := by decide +kernel
theorem dL_up_3 : decode cL_up 3 = .ok (.iand, 1) := by decide +kernel
theorem dL_up_4 : decode cL_up 4 = .ok (.iload_n 1, 1) := by decide +kernel
theorem dL_up_5 : decode cL_up 5 = .ok (.irem, 1) := by decide +kernel
theorem dL_up_6 : decode cL_up 6 = .ok (.ireturn, 1) := by decide +kernel
theorem dL_fails_0 : decode cL_fails 0 = .ok (.aload_n 0, 1) := by decide +kernel
theorem dL_fails_1 : decode cL_fails 1 = .ok (.invokevirtual 9, 3) := by decide +kernel
theorem dL_fails_4 : decode cL_fails 4 = .ok (.lstore_n 2, 1) := by decide +kernel
theorem dL_fails_5 : decode cL_fails 5 = .ok (.aload_n 0, 1) := by decide +kernel
theorem dL_fails_6 : decode cL_fails 6 = .ok (.iconst 0, 1) := by decide +kernel
theorem dL_fails_7 : decode cL_fails 7 = .ok (.iconst 0, 1) := by decide +kernel
theorem dL_fails_8 : decode cL_fails 8 = .ok (.invokevirtual 15, 3) := by decide +kernel
theorem dL_fails_11 : decode cL_fails 11 = .ok (.ldc 21, 2) := by decide +kernel
theorem dL_fails_13 : decode cL_fails 13 = .ok (.if_icmp .ne 195, 3) := by decide +kernel
theorem dL_fails_16 : decode cL_fails 16 = .ok (.aload_n 0, 1) := by decide +kernel
theorem dL_fails_17 : decode cL_fails 17 = .ok (.bipush 10, 2) := by decide +kernel
theorem dL_fails_19 : decode cL_fails 19 = .ok (.iconst 0, 1) := by decide +kernel
theorem dL_fails_20 : decode cL_fails 20 = .ok (.invokevirtual 15, 3) := by decide +kernel
theorem dL_fails_23 : decode cL_fails 23 = .ok (.ldc 21, 2) := by decide +kernel
theorem dL_fails_25 : decode cL_fails 25 = .ok (.if_icmp .ne 183, 3) := by decide +kernel
theorem dL_fails_28 : decode cL_fails 28 = .ok (.aload_n 0, 1) := by decide +kernel
theorem dL_fails_29 : decode cL_fails 29 = .ok (.iconst 1, 1) := by decide +kernel
theorem dL_fails_30 : decode cL_fails 30 = .ok (.sipush 1001, 3) := by decide +kernel
theorem dL_fails_33 : decode cL_fails 33 = .ok (.invokevirtual 15, 3) := by decide +kernel
theorem dL_fails_36 : decode cL_fails 36 = .ok (.ldc 21, 2) := by decide +kernel
theorem dL_fails_38 : decode cL_fails 38 = .ok (.if_icmp .ne 170, 3) := by decide +kernel
theorem dL_fails_41 : decode cL_fails 41 = .ok (.aload_n 0, 1) := by decide +kernel
theorem dL_fails_42 : decode cL_fails 42 = .ok (.iload_n 1, 1) := by decide +kernel
theorem dL_fails_43 : decode cL_fails 43 = .ok (.iconst 0, 1) := by decide +kernel
theorem dL_fails_44 : decode cL_fails 44 = .ok (.iconst 1, 1) := by decide +kernel
theorem dL_fails_45 : decode cL_fails 45 = .ok (.invokevirtual 22, 3) := by decide +kernel
theorem dL_fails_48 : decode cL_fails 48 = .ok (.ldc 21, 2) := by decide +kernel
theorem dL_fails_50 : decode cL_fails 50 = .ok (.if_icmp .ne 158, 3) := by decide +kernel
theorem dL_fails_53 : decode cL_fails 53 = .ok (.aload_n 0, 1) := by decide +kernel
theorem dL_fails_54 : decode cL_fails 54 = .ok (.iconst 0, 1) := by decide +kernel
theorem dL_fails_55 : decode cL_fails 55 = .ok (.iconst 2, 1) := by decide +kernel
theorem dL_fails_56 : decode cL_fails 56 = .ok (.iconst 1, 1) := by decide +kernel
theorem dL_fails_57 : decode cL_fails 57 = .ok (.invokevirtual 22, 3) := by decide +kernel
theorem dL_fails_60 : decode cL_fails 60 = .ok (.ldc 21, 2) := by decide +kernel
theorem dL_fails_62 : decode cL_fails 62 = .ok (.if_icmp .ne 146, 3) := by decide +kernel
theorem dL_fails_65 : decode cL_fails 65 = .ok (.aload_n 0, 1) := by decide +kernel
theorem dL_fails_66 : decode cL_fails 66 = .ok (.iconst 0, 1) := by decide +kernel
theorem dL_fails_67 : decode cL_fails 67 = .ok (.iconst 0, 1) := by decide +kernel
theorem dL_fails_68 : decode cL_fails 68 = .ok (.bipush 10, 2) := by decide +kernel
theorem dL_fails_70 : decode cL_fails 70 = .ok (.invokevirtual 22, 3) := by decide +kernel
theorem dL_fails_73 : decode cL_fails 73 = .ok (.ldc 21, 2) := by decide +kernel
theorem dL_fails_75 : decode cL_fails 75 = .ok (.if_icmp .ne 133, 3) := by decide +kernel
theorem dL_fails_78 : decode cL_fails 78 = .ok (.aload_n 0, 1) := by decide +kernel
theorem dL_fails_79 : decode cL_fails 79 = .ok (.iload_n 1, 1) := by decide +kernel
theorem dL_fails_80 : decode cL_fails 80 = .ok (.iconst 1, 1) := by decide +kernel
theorem dL_fails_81 : decode cL_fails 81 = .ok (.invokevirtual 26, 3) := by decide +kernel
theorem dL_fails_84 : decode cL_fails 84 = .ok (.ldc 21, 2) := by decide +kernel
theorem dL_fails_86 : decode cL_fails 86 = .ok (.if_icmp .ne 122, 3) := by decide +kernel
theorem dL_fails_89 : decode cL_fails 89 = .ok (.aload_n 0, 1) := by decide +kernel
theorem dL_fails_90 : decode cL_fails 90 = .ok (.iload_n 1, 1) := by decide +kernel
theorem dL_fails_91 : decode cL_fails 91 = .ok (.iconst 0, 1) := by decide +kernel
theorem dL_fails_92 : decode cL_fails 92 = .ok (.invokevirtual 30, 3) := by decide +kernel
theorem dL_fails_95 : decode cL_fails 95 = .ok (.ldc 21, 2) := by decide +kernel
theorem dL_fails_97 : decode cL_fails 97 = .ok (.if_icmp .ne 111, 3) := by decide +kernel
theorem dL_fails_100 : decode cL_fails 100 = .ok (.aload_n 0, 1) := by decide +kernel
theorem dL_fails_101 : decode cL_fails 101 = .ok (.iconst 0, 1) := by decide +kernel
theorem dL_fails_102 : decode cL_fails 102 = .ok (.bipush 9, 2) := by decide +kernel
theorem dL_fails_104 : decode cL_fails 104 = .ok (.invokevirtual 30, 3) := by decide +kernel
theorem dL_fails_107 : decode cL_fails 107 = .ok (.ldc 21, 2) := by decide +kernel
theorem dL_fails_109 : decode cL_fails 109 = .ok (.if_icmp .ne 99, 3) := by decide +kernel
theorem dL_fails_112 : decode cL_fails 112 = .ok (.aload_n 0, 1) := by decide +kernel
theorem dL_fails_113 : decode cL_fails 113 = .ok (.iconst 5, 1) := by decide +kernel
theorem dL_fails_114 : decode cL_fails 114 = .ok (.iconst 1, 1) := by decide +kernel
theorem dL_fails_115 : decode cL_fails 115 = .ok (.invokevirtual 33, 3) := by decide +kernel
theorem dL_fails_118 : decode cL_fails 118 = .ok (.ldc 21, 2) := by decide +kernel
theorem dL_fails_120 : decode cL_fails 120 = .ok (.if_icmp .ne 88, 3) := by decide +kernel
theorem dL_fails_123 : decode cL_fails 123 = .ok (.aload_n 0, 1) := by decide +kernel
theorem dL_fails_124 : decode cL_fails 124 = .ok (.iconst 0, 1) := by decide +kernel
theorem dL_fails_125 : decode cL_fails 125 = .ok (.iconst 0, 1) := by decide +kernel
theorem dL_fails_126 : decode cL_fails 126 = .ok (.invokevirtual 33, 3) := by decide +kernel
theorem dL_fails_129 : decode cL_fails 129 = .ok (.ldc 21, 2) := by decide +kernel
theorem dL_fails_131 : decode cL_fails 131 = .ok (.if_icmp .ne 77, 3) := by decide +kernel
theorem dL_fails_134 : decode cL_fails 134 = .ok (.aload_n 0, 1) := by decide +kernel
theorem dL_fails_135 : decode cL_fails 135 = .ok (.iconst 1, 1) := by decide +kernel
theorem dL_fails_136 : decode cL_fails 136 = .ok (.sipush 501, 3) := by decide +kernel
theorem dL_fails_139 : decode cL_fails 139 = .ok (.invokevirtual 33, 3) := by decide +kernel
theorem dL_fails_142 : decode cL_fails 142 = .ok (.ldc 21, 2) := by decide +kernel
theorem dL_fails_144 : decode cL_fails 144 = .ok (.if_icmp .ne 64, 3) := by decide +kernel
theorem dL_fails_147 : decode cL_fails 147 = .ok (.aload_n 0, 1) := by decide +kernel
theorem dL_fails_148 : decode cL_fails 148 = .ok (.iconst 2, 1) := by decide +kernel
theorem dL_fails_149 : decode cL_fails 149 = .ok (.bipush 11, 2) := by decide +kernel
theorem dL_fails_151 : decode cL_fails 151 = .ok (.invokevirtual 33, 3) := by decide +kernel
theorem dL_fails_154 : decode cL_fails 154 = .ok (.ldc 21, 2) := by decide +kernel
theorem dL_fails_156 : decode cL_fails 156 = .ok (.if_icmp .ne 52, 3) := by decide +kernel
theorem dL_fails_159 : decode cL_fails 159 = .ok (.aload_n 0, 1) := by decide +kernel
theorem dL_fails_160 : decode cL_fails 160 = .ok (.iconst 4, 1) := by decide +kernel
theorem dL_fails_161 : decode cL_fails 161 = .ok (.bipush 101, 2) := by decide +kernel
theorem dL_fails_163 : decode cL_fails 163 = .ok (.invokevirtual 33, 3) := by decide +kernel
theorem dL_fails_166 : decode cL_fails 166 = .ok (.ldc 21, 2) := by decide +kernel
theorem dL_fails_168 : decode cL_fails 168 = .ok (.if_icmp .ne 40, 3) := by decide +kernel
theorem dL_fails_171 : decode cL_fails 171 = .ok (.aload_n 0, 1) := by decide +kernel
theorem dL_fails_172 : decode cL_fails 172 = .ok (.bipush 10, 2) := by decide +kernel
theorem dL_fails_174 : decode cL_fails 174 = .ok (.invokevirtual 36, 3) := by decide +kernel
theorem dL_fails_177 : decode cL_fails 177 = .ok (.ldc 21, 2) := by decide +kernel
theorem dL_fails_179 : decode cL_fails 179 = .ok (.if_icmp .ne 29, 3) := by decide +kernel
theorem dL_fails_182 : decode cL_fails 182 = .ok (.aload_n 0, 1) := by decide +kernel
theorem dL_fails_183 : decode cL_fails 183 = .ok (.iload_n 1, 1) := by decide +kernel
theorem dL_fails_184 : decode cL_fails 184 = .ok (.iconst 1, 1) := by decide +kernel
theorem dL_fails_185 : decode cL_fails 185 = .ok (.invokevirtual 40, 3) := by decide +kernel
theorem dL_fails_188 : decode cL_fails 188 = .ok (.ldc 21, 2) := by decide +kernel
theorem dL_fails_190 : decode cL_fails 190 = .ok (.if_icmp .ne 18, 3) := by decide +kernel
theorem dL_fails_193 : decode cL_fails 193 = .ok (.aload_n 0, 1) := by decide +kernel
theorem dL_fails_194 : decode cL_fails 194 = .ok (.iconst (-1), 1) := by decide +kernel
theorem dL_fails_195 : decode cL_fails 195 = .ok (.iconst 1, 1) := by decide +kernel
theorem dL_fails_196 : decode cL_fails 196 = .ok (.invokevirtual 43, 3) := by decide +kernel
theorem dL_fails_199 : decode cL_fails 199 = .ok (.ldc 21, 2) := by decide +kernel
theorem dL_fails_201 : decode cL_fails 201 = .ok (.if_icmp .ne 7, 3) := by decide +kernel
theorem dL_fails_204 : decode cL_fails 204 = .ok (.iconst 1, 1) := by decide +kernel
theorem dL_fails_205 : decode cL_fails 205 = .ok (.goto 4, 3) := by decide +kernel
theorem dL_fails_208 : decode cL_fails 208 = .ok (.iconst 0, 1) := by decide +kernel
theorem dL_fails_209 : decode cL_fails 209 = .ok (.istore 4, 2) := by decide +kernel
theorem dL_fails_211 : decode cL_fails 211 = .ok (.iload 4, 2) := by decide +kernel
theorem dL_fails_213 : decode cL_fails 213 = .ok (.ifCond .eq 192, 3) := by decide +kernel
theorem dL_fails_216 : decode cL_fails 216 = .ok (.aload_n 0, 1) := by decide +kernel
theorem dL_fails_217 : decode cL_fails 217 = .ok (.iconst (-1), 1) := by decide +kernel
theorem dL_fails_218 : decode cL_fails 218 = .ok (.invokevirtual 46, 3) := by decide +kernel
theorem dL_fails_221 : decode cL_fails 221 = .ok (.ldc 21, 2) := by decide +kernel
theorem dL_fails_223 : decode cL_fails 223 = .ok (.if_icmp .ne 182, 3) := by decide +kernel
theorem dL_fails_226 : decode cL_fails 226 = .ok (.aload_n 0, 1) := by decide +kernel
theorem dL_fails_227 : decode cL_fails 227 = .ok (.bipush 10, 2) := by decide +kernel
theorem dL_fails_229 : decode cL_fails 229 = .ok (.invokevirtual 46, 3) := by decide +kernel
theorem dL_fails_232 : decode cL_fails 232 = .ok (.ldc 49, 2) := by decide +kernel
theorem dL_fails_234 : decode cL_fails 234 = .ok (.if_icmp .ne 171, 3) := by decide +kernel
theorem dL_fails_237 : decode cL_fails 237 = .ok (.aload_n 0, 1) := by decide +kernel
theorem dL_fails_238 : decode cL_fails 238 = .ok (.sipush 1024, 3) := by decide +kernel
theorem dL_fails_241 : decode cL_fails 241 = .ok (.iconst 0, 1) := by decide +kernel
theorem dL_fails_242 : decode cL_fails 242 = .ok (.invokevirtual 50, 3) := by decide +kernel
theorem dL_fails_245 : decode cL_fails 245 = .ok (.ldc 21, 2) := by decide +kernel
theorem dL_fails_247 : decode cL_fails 247 = .ok (.if_icmp .ne 158, 3) := by decide +kernel
theorem dL_fails_250 : decode cL_fails 250 = .ok (.aload_n 0, 1) := by decide +kernel
theorem dL_fails_251 : decode cL_fails 251 = .ok (.iconst 0, 1) := by decide +kernel
theorem dL_fails_252 : decode cL_fails 252 = .ok (.iconst (-1), 1) := by decide +kernel
theorem dL_fails_253 : decode cL_fails 253 = .ok (.invokevirtual 50, 3) := by decide +kernel
theorem dL_fails_256 : decode cL_fails 256 = .ok (.ldc 21, 2) := by decide +kernel
theorem dL_fails_258 : decode cL_fails 258 = .ok (.if_icmp .ne 147, 3) := by decide +kernel
theorem dL_fails_261 : decode cL_fails 261 = .ok (.aload_n 0, 1) := by decide +kernel
theorem dL_fails_262 : decode cL_fails 262 = .ok (.iload_n 1, 1) := by decide +kernel
theorem dL_fails_263 : decode cL_fails 263 = .ok (.iconst 0, 1) := by decide +kernel
theorem dL_fails_264 : decode cL_fails 264 = .ok (.invokevirtual 53, 3) := by decide +kernel
theorem dL_fails_267 : decode cL_fails 267 = .ok (.ldc 21, 2) := by decide +kernel
theorem dL_fails_269 : decode cL_fails 269 = .ok (.if_icmp .ne 136, 3) := by decide +kernel
theorem dL_fails_272 : decode cL_fails 272 = .ok (.aload_n 0, 1) := by decide +kernel
theorem dL_fails_273 : decode cL_fails 273 = .ok (.iconst 0, 1) := by decide +kernel
theorem dL_fails_274 : decode cL_fails 274 = .ok (.sipush 200, 3) := by decide +kernel
theorem dL_fails_277 : decode cL_fails 277 = .ok (.invokevirtual 53, 3) := by decide +kernel
theorem dL_fails_280 : decode cL_fails 280 = .ok (.ldc 21, 2) := by decide +kernel
theorem dL_fails_282 : decode cL_fails 282 = .ok (.if_icmp .ne 123, 3) := by decide +kernel
theorem dL_fails_285 : decode cL_fails 285 = .ok (.aload_n 0, 1) := by decide +kernel
theorem dL_fails_286 : decode cL_fails 286 = .ok (.bipush 31, 2) := by decide +kernel
theorem dL_fails_288 : decode cL_fails 288 = .ok (.invokevirtual 56, 3) := by decide +kernel
theorem dL_fails_291 : decode cL_fails 291 = .ok (.ldc 21, 2) := by decide +kernel
theorem dL_fails_293 : decode cL_fails 293 = .ok (.if_icmp .ne 112, 3) := by decide +kernel
theorem dL_fails_296 : decode cL_fails 296 = .ok (.aload_n 0, 1) := by decide +kernel
theorem dL_fails_297 : decode cL_fails 297 = .ok (.iload_n 1, 1) := by decide +kernel
theorem dL_fails_298 : decode cL_fails 298 = .ok (.iconst 0, 1) := by decide +kernel
theorem dL_fails_299 : decode cL_fails 299 = .ok (.invokevirtual 59, 3) := by decide +kernel
theorem dL_fails_302 : decode cL_fails 302 = .ok (.ldc 21, 2) := by decide +kernel
theorem dL_fails_304 : decode cL_fails 304 = .ok (.if_icmp .ne 101, 3) := by decide +kernel
theorem dL_fails_307 : decode cL_fails 307 = .ok (.aload_n 0, 1) := by decide +kernel
theorem dL_fails_308 : decode cL_fails 308 = .ok (.iconst 0, 1) := by decide +kernel
theorem dL_fails_309 : decode cL_fails 309 = .ok (.iconst (-1), 1) := by decide +kernel
theorem dL_fails_310 : decode cL_fails 310 = .ok (.invokevirtual 59, 3) := by decide +kernel
theorem dL_fails_313 : decode cL_fails 313 = .ok (.ldc 21, 2) := by decide +kernel
theorem dL_fails_315 : decode cL_fails 315 = .ok (.if_icmp .ne 90, 3) := by decide +kernel
theorem dL_fails_318 : decode cL_fails 318 = .ok (.aload_n 0, 1) := by decide +kernel
theorem dL_fails_319 : decode cL_fails 319 = .ok (.sipush 200, 3) := by decide +kernel
theorem dL_fails_322 : decode cL_fails 322 = .ok (.invokevirtual 62, 3) := by decide +kernel
theorem dL_fails_325 : decode cL_fails 325 = .ok (.ldc 21, 2) := by decide +kernel
theorem dL_fails_327 : decode cL_fails 327 = .ok (.if_icmp .ne 78, 3) := by decide +kernel
theorem dL_fails_330 : decode cL_fails 330 = .ok (.aload_n 0, 1) := by decide +kernel
theorem dL_fails_331 : decode cL_fails 331 = .ok (.iconst 0, 1) := by decide +kernel
theorem dL_fails_332 : decode cL_fails 332 = .ok (.iload_n 1, 1) := by decide +kernel
theorem dL_fails_333 : decode cL_fails 333 = .ok (.iconst 0, 1) := by decide +kernel
theorem dL_fails_334 : decode cL_fails 334 = .ok (.invokevirtual 65, 3) := by decide +kernel
theorem dL_fails_337 : decode cL_fails 337 = .ok (.ldc 21, 2) := by decide +kernel
theorem dL_fails_339 : decode cL_fails 339 = .ok (.if_icmp .ne 66, 3) := by decide +kernel
theorem dL_fails_342 : decode cL_fails 342 = .ok (.aload_n 0, 1) := by decide +kernel
theorem dL_fails_343 : decode cL_fails 343 = .ok (.iconst 0, 1) := by decide +kernel
theorem dL_fails_344 : decode cL_fails 344 = .ok (.iconst 0, 1) := by decide +kernel
theorem dL_fails_345 : decode cL_fails 345 = .ok (.iconst 3, 1) := by decide +kernel
theorem dL_fails_346 : decode cL_fails 346 = .ok (.invokevirtual 65, 3) := by decide +kernel
theorem dL_fails_349 : decode cL_fails 349 = .ok (.ldc 21, 2) := by decide +kernel
theorem dL_fails_351 : decode cL_fails 351 = .ok (.if_icmp .ne 54, 3) := by decide +kernel
theorem dL_fails_354 : decode cL_fails 354 = .ok (.aload_n 0, 1) := by decide +kernel
theorem dL_fails_355 : decode cL_fails 355 = .ok (.iconst (-1), 1) := by decide +kernel
theorem dL_fails_356 : decode cL_fails 356 = .ok (.iconst 0, 1) := by decide +kernel
theorem dL_fails_357 : decode cL_fails 357 = .ok (.invokevirtual 68, 3) := by decide +kernel
theorem dL_fails_360 : decode cL_fails 360 = .ok (.ldc 21, 2) := by decide +kernel
theorem dL_fails_362 : decode cL_fails 362 = .ok (.if_icmp .ne 43, 3) := by decide +kernel
theorem dL_fails_365 : decode cL_fails 365 = .ok (.aload_n 0, 1) := by decide +kernel
theorem dL_fails_366 : decode cL_fails 366 = .ok (.iconst 0, 1) := by decide +kernel
theorem dL_fails_367 : decode cL_fails 367 = .ok (.bipush 7, 2) := by decide +kernel
theorem dL_fails_369 : decode cL_fails 369 = .ok (.invokevirtual 68, 3) := by decide +kernel
theorem dL_fails_372 : decode cL_fails 372 = .ok (.ldc 21, 2) := by decide +kernel
theorem dL_fails_374 : decode cL_fails 374 = .ok (.if_icmp .ne 31, 3) := by decide +kernel
theorem dL_fails_377 : decode cL_fails 377 = .ok (.aload_n 0, 1) := by decide +kernel
theorem dL_fails_378 : decode cL_fails 378 = .ok (.bipush 20, 2) := by decide +kernel
theorem dL_fails_380 : decode cL_fails 380 = .ok (.iconst 0, 1) := by decide +kernel
theorem dL_fails_381 : decode cL_fails 381 = .ok (.invokevirtual 68, 3) := by decide +kernel
theorem dL_fails_384 : decode cL_fails 384 = .ok (.ldc 49, 2) := by decide +kernel
theorem dL_fails_386 : decode cL_fails 386 = .ok (.if_icmp .ne 19, 3) := by decide +kernel
theorem dL_fails_389 : decode cL_fails 389 = .ok (.aload_n 0, 1) := by decide +kernel
theorem dL_fails_390 : decode cL_fails 390 = .ok (.sipush 200, 3) := by decide +kernel
theorem dL_fails_393 : decode cL_fails 393 = .ok (.invokevirtual 71, 3) := by decide +kernel
theorem dL_fails_396 : decode cL_fails 396 = .ok (.ldc 21, 2) := by decide +kernel
theorem dL_fails_398 : decode cL_fails 398 = .ok (.if_icmp .ne 7, 3) := by decide +kernel
theorem dL_fails_401 : decode cL_fails 401 = .ok (.iconst 1, 1) := by decide +kernel
theorem dL_fails_402 : decode cL_fails 402 = .ok (.goto 4, 3) := by decide +kernel
theorem dL_fails_405 : decode cL_fails 405 = .ok (.iconst 0, 1) := by decide +kernel
theorem dL_fails_406 : decode cL_fails 406 = .ok (.istore 4, 2) := by decide +kernel
theorem dL_fails_408 : decode cL_fails 408 = .ok (.iload 4, 2) := by decide +kernel
theorem dL_fails_410 : decode cL_fails 410 = .ok (.ifCond .eq 16, 3) := by decide +kernel
theorem dL_fails_413 : decode cL_fails 413 = .ok (.aload_n 0, 1) := by decide +kernel
theorem dL_fails_414 : decode cL_fails 414 = .ok (.invokevirtual 9, 3) := by decide +kernel
theorem dL_fails_417 : decode cL_fails 417 = .ok (.lload_n 2, 1) := by decide +kernel
theorem dL_fails_418 : decode cL_fails 418 = .ok (.lcmp, 1) := by decide +kernel
theorem dL_fails_419 : decode cL_fails 419 = .ok (.ifCond .ne 7, 3) := by decide +kernel
theorem dL_fails_422 : decode cL_fails 422 = .ok (.iconst 1, 1) := by decide +kernel
theorem dL_fails_423 : decode cL_fails 423 = .ok (.goto 4, 3) := by decide +kernel
theorem dL_fails_426 : decode cL_fails 426 = .ok (.iconst 0, 1) := by decide +kernel
theorem dL_fails_427 : decode cL_fails 427 = .ok (.ireturn, 1) := by decide +kernel
theorem dL_agrees_0 : decode cL_agrees 0 = .ok (.iconst 0, 1) := by decide +kernel
theorem dL_agrees_1 : decode cL_agrees 1 = .ok (.istore_n 2, 1) := by decide +kernel
theorem dL_agrees_2 : decode cL_agrees 2 = .ok (.iconst 0, 1) := by decide +kernel
theorem dL_agrees_3 : decode cL_agrees 3 = .ok (.istore_n 3, 1) := by decide +kernel
theorem dL_agrees_4 : decode cL_agrees 4 = .ok (.iconst 0, 1) := by decide +kernel
theorem dL_agrees_5 : decode cL_agrees 5 = .ok (.istore 4, 2) := by decide +kernel
theorem dL_agrees_7 : decode cL_agrees 7 = .ok (.aload_n 0, 1) := by decide +kernel
theorem dL_agrees_8 : decode cL_agrees 8 = .ok (.iload 4, 2) := by decide +kernel
theorem dL_agrees_10 : decode cL_agrees 10 = .ok (.invokevirtual 46, 3) := by decide +kernel
theorem dL_agrees_13 : decode cL_agrees 13 = .ok (.ifCond .lt 51, 3) := by decide +kernel
theorem dL_agrees_16 : decode cL_agrees 16 = .ok (.aload_n 0, 1) := by decide +kernel
theorem dL_agrees_17 : decode cL_agrees 17 = .ok (.iload 4, 2) := by decide +kernel
theorem dL_agrees_19 : decode cL_agrees 19 = .ok (.invokevirtual 46, 3) := by decide +kernel
theorem dL_agrees_22 : decode cL_agrees 22 = .ok (.istore 5, 2) := by decide +kernel
theorem dL_agrees_24 : decode cL_agrees 24 = .ok (.iload_n 2, 1) := by decide +kernel
theorem dL_agrees_25 : decode cL_agrees 25 = .ok (.iload 5, 2) := by decide +kernel
theorem dL_agrees_27 : decode cL_agrees 27 = .ok (.ishr, 1) := by decide +kernel
theorem dL_agrees_28 : decode cL_agrees 28 = .ok (.iconst 1, 1) := by decide +kernel
theorem dL_agrees_29 : decode cL_agrees 29 = .ok (.iand, 1) := by decide +kernel
theorem dL_agrees_30 : decode cL_agrees 30 = .ok (.iconst 1, 1) := by decide +kernel
theorem dL_agrees_31 : decode cL_agrees 31 = .ok (.if_icmp .eq 15, 3) := by decide +kernel
theorem dL_agrees_34 : decode cL_agrees 34 = .ok (.aload_n 0, 1) := by decide +kernel
theorem dL_agrees_35 : decode cL_agrees 35 = .ok (.iload 5, 2) := by decide +kernel
theorem dL_agrees_37 : decode cL_agrees 37 = .ok (.iconst 4, 1) := by decide +kernel
theorem dL_agrees_38 : decode cL_agrees 38 = .ok (.invokevirtual 30, 3) := by decide +kernel
theorem dL_agrees_41 : decode cL_agrees 41 = .ok (.iload 4, 2) := by decide +kernel
theorem dL_agrees_43 : decode cL_agrees 43 = .ok (.if_icmp .eq 5, 3) := by decide +kernel
theorem dL_agrees_46 : decode cL_agrees 46 = .ok (.iconst 0, 1) := by decide +kernel
theorem dL_agrees_47 : decode cL_agrees 47 = .ok (.ireturn, 1) := by decide +kernel
theorem dL_agrees_48 : decode cL_agrees 48 = .ok (.iload_n 2, 1) := by decide +kernel
theorem dL_agrees_49 : decode cL_agrees 49 = .ok (.iconst 1, 1) := by decide +kernel
theorem dL_agrees_50 : decode cL_agrees 50 = .ok (.iload 5, 2) := by decide +kernel
theorem dL_agrees_52 : decode cL_agrees 52 = .ok (.ishl, 1) := by decide +kernel
theorem dL_agrees_53 : decode cL_agrees 53 = .ok (.ior, 1) := by decide +kernel
theorem dL_agrees_54 : decode cL_agrees 54 = .ok (.istore_n 2, 1) := by decide +kernel
theorem dL_agrees_55 : decode cL_agrees 55 = .ok (.iinc 3 1, 3) := by decide +kernel
theorem dL_agrees_58 : decode cL_agrees 58 = .ok (.iinc 4 1, 3) := by decide +kernel
theorem dL_agrees_61 : decode cL_agrees 61 = .ok (.goto (-54), 3) := by decide +kernel
theorem dL_agrees_64 : decode cL_agrees 64 = .ok (.iconst 0, 1) := by decide +kernel
theorem dL_agrees_65 : decode cL_agrees 65 = .ok (.istore 4, 2) := by decide +kernel
theorem dL_agrees_67 : decode cL_agrees 67 = .ok (.iconst 0, 1) := by decide +kernel
theorem dL_agrees_68 : decode cL_agrees 68 = .ok (.istore 5, 2) := by decide +kernel
theorem dL_agrees_70 : decode cL_agrees 70 = .ok (.iload 5, 2) := by decide +kernel
theorem dL_agrees_72 : decode cL_agrees 72 = .ok (.iload_n 1, 1) := by decide +kernel
theorem dL_agrees_73 : decode cL_agrees 73 = .ok (.if_icmp .ge 137, 3) := by decide +kernel
theorem dL_agrees_76 : decode cL_agrees 76 = .ok (.iconst 0, 1) := by decide +kernel
theorem dL_agrees_77 : decode cL_agrees 77 = .ok (.istore 6, 2) := by decide +kernel
theorem dL_agrees_79 : decode cL_agrees 79 = .ok (.iconst 0, 1) := by decide +kernel
theorem dL_agrees_80 : decode cL_agrees 80 = .ok (.istore 7, 2) := by decide +kernel
theorem dL_agrees_82 : decode cL_agrees 82 = .ok (.iload 7, 2) := by decide +kernel
theorem dL_agrees_84 : decode cL_agrees 84 = .ok (.sipush 200, 3) := by decide +kernel
theorem dL_agrees_87 : decode cL_agrees 87 = .ok (.if_icmp .ge 22, 3) := by decide +kernel
theorem dL_agrees_90 : decode cL_agrees 90 = .ok (.iload 6, 2) := by decide +kernel
theorem dL_agrees_92 : decode cL_agrees 92 = .ok (.aload_n 0, 1) := by decide +kernel
theorem dL_agrees_93 : decode cL_agrees 93 = .ok (.iload 5, 2) := by decide +kernel
theorem dL_agrees_95 : decode cL_agrees 95 = .ok (.iload 7, 2) := by decide +kernel
theorem dL_agrees_97 : decode cL_agrees 97 = .ok (.invokevirtual 59, 3) := by decide +kernel
theorem dL_agrees_100 : decode cL_agrees 100 = .ok (.iadd, 1) := by decide +kernel
theorem dL_agrees_101 : decode cL_agrees 101 = .ok (.istore 6, 2) := by decide +kernel
theorem dL_agrees_103 : decode cL_agrees 103 = .ok (.iinc 7 1, 3) := by decide +kernel
theorem dL_agrees_106 : decode cL_agrees 106 = .ok (.goto (-24), 3) := by decide +kernel
theorem dL_agrees_109 : decode cL_agrees 109 = .ok (.iload 4, 2) := by decide +kernel
theorem dL_agrees_111 : decode cL_agrees 111 = .ok (.aload_n 0, 1) := by decide +kernel
theorem dL_agrees_112 : decode cL_agrees 112 = .ok (.iload 5, 2) := by decide +kernel
theorem dL_agrees_114 : decode cL_agrees 114 = .ok (.bipush 6, 2) := by decide +kernel
theorem dL_agrees_116 : decode cL_agrees 116 = .ok (.invokevirtual 30, 3) := by decide +kernel
theorem dL_agrees_119 : decode cL_agrees 119 = .ok (.iadd, 1) := by decide +kernel
theorem dL_agrees_120 : decode cL_agrees 120 = .ok (.istore 4, 2) := by decide +kernel
theorem dL_agrees_122 : decode cL_agrees 122 = .ok (.aload_n 0, 1) := by decide +kernel
theorem dL_agrees_123 : decode cL_agrees 123 = .ok (.iload 5, 2) := by decide +kernel
theorem dL_agrees_125 : decode cL_agrees 125 = .ok (.iconst 5, 1) := by decide +kernel
theorem dL_agrees_126 : decode cL_agrees 126 = .ok (.invokevirtual 30, 3) := by decide +kernel
theorem dL_agrees_129 : decode cL_agrees 129 = .ok (.iload 6, 2) := by decide +kernel
theorem dL_agrees_131 : decode cL_agrees 131 = .ok (.if_icmp .ne 71, 3) := by decide +kernel
theorem dL_agrees_134 : decode cL_agrees 134 = .ok (.aload_n 0, 1) := by decide +kernel
theorem dL_agrees_135 : decode cL_agrees 135 = .ok (.iload 5, 2) := by decide +kernel
theorem dL_agrees_137 : decode cL_agrees 137 = .ok (.iconst 4, 1) := by decide +kernel
theorem dL_agrees_138 : decode cL_agrees 138 = .ok (.invokevirtual 30, 3) := by decide +kernel
theorem dL_agrees_141 : decode cL_agrees 141 = .ok (.ldc 49, 2) := by decide +kernel
theorem dL_agrees_143 : decode cL_agrees 143 = .ok (.if_icmp .ne 7, 3) := by decide +kernel
theorem dL_agrees_146 : decode cL_agrees 146 = .ok (.iconst 1, 1) := by decide +kernel
theorem dL_agrees_147 : decode cL_agrees 147 = .ok (.goto 4, 3) := by decide +kernel
theorem dL_agrees_150 : decode cL_agrees 150 = .ok (.iconst 0, 1) := by decide +kernel
theorem dL_agrees_151 : decode cL_agrees 151 = .ok (.iload_n 2, 1) := by decide +kernel
theorem dL_agrees_152 : decode cL_agrees 152 = .ok (.iload 5, 2) := by decide +kernel
theorem dL_agrees_154 : decode cL_agrees 154 = .ok (.ishr, 1) := by decide +kernel
theorem dL_agrees_155 : decode cL_agrees 155 = .ok (.iconst 1, 1) := by decide +kernel
theorem dL_agrees_156 : decode cL_agrees 156 = .ok (.iand, 1) := by decide +kernel
theorem dL_agrees_157 : decode cL_agrees 157 = .ok (.ifCond .ne 7, 3) := by decide +kernel
theorem dL_agrees_160 : decode cL_agrees 160 = .ok (.iconst 1, 1) := by decide +kernel
theorem dL_agrees_161 : decode cL_agrees 161 = .ok (.goto 4, 3) := by decide +kernel
theorem dL_agrees_164 : decode cL_agrees 164 = .ok (.iconst 0, 1) := by decide +kernel
theorem dL_agrees_165 : decode cL_agrees 165 = .ok (.if_icmp .ne 37, 3) := by decide +kernel
theorem dL_agrees_168 : decode cL_agrees 168 = .ok (.aload_n 0, 1) := by decide +kernel
theorem dL_agrees_169 : decode cL_agrees 169 = .ok (.iload 5, 2) := by decide +kernel
theorem dL_agrees_171 : decode cL_agrees 171 = .ok (.bipush 8, 2) := by decide +kernel
theorem dL_agrees_173 : decode cL_agrees 173 = .ok (.invokevirtual 30, 3) := by decide +kernel
theorem dL_agrees_176 : decode cL_agrees 176 = .ok (.ifCond .lt 26, 3) := by decide +kernel
theorem dL_agrees_179 : decode cL_agrees 179 = .ok (.aload_n 0, 1) := by decide +kernel
theorem dL_agrees_180 : decode cL_agrees 180 = .ok (.iload 5, 2) := by decide +kernel
theorem dL_agrees_182 : decode cL_agrees 182 = .ok (.bipush 8, 2) := by decide +kernel
theorem dL_agrees_184 : decode cL_agrees 184 = .ok (.invokevirtual 30, 3) := by decide +kernel
theorem dL_agrees_187 : decode cL_agrees 187 = .ok (.iconst 3, 1) := by decide +kernel
theorem dL_agrees_188 : decode cL_agrees 188 = .ok (.if_icmp .gt 14, 3) := by decide +kernel
theorem dL_agrees_191 : decode cL_agrees 191 = .ok (.aload_n 0, 1) := by decide +kernel
theorem dL_agrees_192 : decode cL_agrees 192 = .ok (.iload 5, 2) := by decide +kernel
theorem dL_agrees_194 : decode cL_agrees 194 = .ok (.bipush 7, 2) := by decide +kernel
theorem dL_agrees_196 : decode cL_agrees 196 = .ok (.invokevirtual 30, 3) := by decide +kernel
theorem dL_agrees_199 : decode cL_agrees 199 = .ok (.ifCond .ge 5, 3) := by decide +kernel
theorem dL_agrees_202 : decode cL_agrees 202 = .ok (.iconst 0, 1) := by decide +kernel
theorem dL_agrees_203 : decode cL_agrees 203 = .ok (.ireturn, 1) := by decide +kernel
theorem dL_agrees_204 : decode cL_agrees 204 = .ok (.iinc 5 1, 3) := by decide +kernel
theorem dL_agrees_207 : decode cL_agrees 207 = .ok (.goto (-137), 3) := by decide +kernel
theorem dL_agrees_210 : decode cL_agrees 210 = .ok (.iload_n 3, 1) := by decide +kernel
theorem dL_agrees_211 : decode cL_agrees 211 = .ok (.iload_n 1, 1) := by decide +kernel
theorem dL_agrees_212 : decode cL_agrees 212 = .ok (.if_icmp .gt 77, 3) := by decide +kernel
theorem dL_agrees_215 : decode cL_agrees 215 = .ok (.iload 4, 2) := by decide +kernel
theorem dL_agrees_217 : decode cL_agrees 217 = .ok (.aload_n 0, 1) := by decide +kernel
theorem dL_agrees_218 : decode cL_agrees 218 = .ok (.bipush 7, 2) := by decide +kernel
theorem dL_agrees_220 : decode cL_agrees 220 = .ok (.invokevirtual 36, 3) := by decide +kernel
theorem dL_agrees_223 : decode cL_agrees 223 = .ok (.if_icmp .ne 66, 3) := by decide +kernel
theorem dL_agrees_226 : decode cL_agrees 226 = .ok (.aload_n 0, 1) := by decide +kernel
theorem dL_agrees_227 : decode cL_agrees 227 = .ok (.bipush 6, 2) := by decide +kernel
theorem dL_agrees_229 : decode cL_agrees 229 = .ok (.invokevirtual 36, 3) := by decide +kernel
theorem dL_agrees_232 : decode cL_agrees 232 = .ok (.ifCond .ne 7, 3) := by decide +kernel
theorem dL_agrees_235 : decode cL_agrees 235 = .ok (.iconst 1, 1) := by decide +kernel
theorem dL_agrees_236 : decode cL_agrees 236 = .ok (.goto 4, 3) := by decide +kernel
theorem dL_agrees_239 : decode cL_agrees 239 = .ok (.iconst 0, 1) := by decide +kernel
theorem dL_agrees_240 : decode cL_agrees 240 = .ok (.iload_n 3, 1) := by decide +kernel
theorem dL_agrees_241 : decode cL_agrees 241 = .ok (.ifCond .ne 7, 3) := by decide +kernel
theorem dL_agrees_244 : decode cL_agrees 244 = .ok (.iconst 1, 1) := by decide +kernel
theorem dL_agrees_245 : decode cL_agrees 245 = .ok (.goto 4, 3) := by decide +kernel
theorem dL_agrees_248 : decode cL_agrees 248 = .ok (.iconst 0, 1) := by decide +kernel
theorem dL_agrees_249 : decode cL_agrees 249 = .ok (.if_icmp .ne 40, 3) := by decide +kernel
theorem dL_agrees_252 : decode cL_agrees 252 = .ok (.aload_n 0, 1) := by decide +kernel
theorem dL_agrees_253 : decode cL_agrees 253 = .ok (.invokevirtual 74, 3) := by decide +kernel
theorem dL_agrees_256 : decode cL_agrees 256 = .ok (.ldc2_w 77, 3) := by decide +kernel
theorem dL_agrees_259 : decode cL_agrees 259 = .ok (.lcmp, 1) := by decide +kernel
theorem dL_agrees_260 : decode cL_agrees 260 = .ok (.ifCond .ne 7, 3) := by decide +kernel
theorem dL_agrees_263 : decode cL_agrees 263 = .ok (.iconst 1, 1) := by decide +kernel
theorem dL_agrees_264 : decode cL_agrees 264 = .ok (.goto 4, 3) := by decide +kernel
theorem dL_agrees_267 : decode cL_agrees 267 = .ok (.iconst 0, 1) := by decide +kernel
theorem dL_agrees_268 : decode cL_agrees 268 = .ok (.aload_n 0, 1) := by decide +kernel
theorem dL_agrees_269 : decode cL_agrees 269 = .ok (.bipush 6, 2) := by decide +kernel
theorem dL_agrees_271 : decode cL_agrees 271 = .ok (.invokevirtual 36, 3) := by decide +kernel
theorem dL_agrees_274 : decode cL_agrees 274 = .ok (.ifCond .ne 7, 3) := by decide +kernel
theorem dL_agrees_277 : decode cL_agrees 277 = .ok (.iconst 1, 1) := by decide +kernel
theorem dL_agrees_278 : decode cL_agrees 278 = .ok (.goto 4, 3) := by decide +kernel
theorem dL_agrees_281 : decode cL_agrees 281 = .ok (.iconst 0, 1) := by decide +kernel
theorem dL_agrees_282 : decode cL_agrees 282 = .ok (.if_icmp .ne 7, 3) := by decide +kernel
theorem dL_agrees_285 : decode cL_agrees 285 = .ok (.iconst 1, 1) := by decide +kernel
theorem dL_agrees_286 : decode cL_agrees 286 = .ok (.goto 4, 3) := by decide +kernel
theorem dL_agrees_289 : decode cL_agrees 289 = .ok (.iconst 0, 1) := by decide +kernel
theorem dL_agrees_290 : decode cL_agrees 290 = .ok (.ireturn, 1) := by decide +kernel
theorem dL_many_0 : decode cL_many 0 = .ok (.iconst 0, 1) := by decide +kernel
theorem dL_many_1 : decode cL_many 1 = .ok (.istore_n 1, 1) := by decide +kernel
theorem dL_many_2 : decode cL_many 2 = .ok (.iconst 0, 1) := by decide +kernel
theorem dL_many_3 : decode cL_many 3 = .ok (.istore_n 2, 1) := by decide +kernel
theorem dL_many_4 : decode cL_many 4 = .ok (.iload_n 2, 1) := by decide +kernel
theorem dL_many_5 : decode cL_many 5 = .ok (.bipush 10, 2) := by decide +kernel
theorem dL_many_7 : decode cL_many 7 = .ok (.if_icmp .ge 17, 3) := by decide +kernel
theorem dL_many_10 : decode cL_many 10 = .ok (.iload_n 1, 1) := by decide +kernel
theorem dL_many_11 : decode cL_many 11 = .ok (.iload_n 0, 1) := by decide +kernel
theorem dL_many_12 : decode cL_many 12 = .ok (.iload_n 2, 1) := by decide +kernel
theorem dL_many_13 : decode cL_many 13 = .ok (.ishr, 1) := by decide +kernel
theorem dL_many_14 : decode cL_many 14 = .ok (.iconst 1, 1) := by decide +kernel
theorem dL_many_15 : decode cL_many 15 = .ok (.iand, 1) := by decide +kernel
theorem dL_many_16 : decode cL_many 16 = .ok (.iadd, 1) := by decide +kernel
theorem dL_many_17 : decode cL_many 17 = .ok (.istore_n 1, 1) := by decide +kernel
theorem dL_many_18 : decode cL_many 18 = .ok (.iinc 2 1, 3) := by decide +kernel
theorem dL_many_21 : decode cL_many 21 = .ok (.goto (-17), 3) := by decide +kernel
theorem dL_many_24 : decode cL_many 24 = .ok (.iload_n 1, 1) := by decide +kernel
theorem dL_many_25 : decode cL_many 25 = .ok (.ireturn, 1) := by decide +kernel
theorem dL_repairs_0 : decode cL_repairs 0 = .ok (.aload_n 0, 1) := by decide +kernel
theorem dL_repairs_1 : decode cL_repairs 1 = .ok (.iload_n 2, 1) := by decide +kernel
theorem dL_repairs_2 : decode cL_repairs 2 = .ok (.invokevirtual 71, 3) := by decide +kernel
theorem dL_repairs_5 : decode cL_repairs 5 = .ok (.istore_n 3, 1) := by decide +kernel
theorem dL_repairs_6 : decode cL_repairs 6 = .ok (.aload_n 0, 1) := by decide +kernel
theorem dL_repairs_7 : decode cL_repairs 7 = .ok (.invokevirtual 9, 3) := by decide +kernel
theorem dL_repairs_10 : decode cL_repairs 10 = .ok (.lstore 4, 2) := by decide +kernel
theorem dL_repairs_12 : decode cL_repairs 12 = .ok (.iload_n 3, 1) := by decide +kernel
theorem dL_repairs_13 : decode cL_repairs 13 = .ok (.ifCond .eq 77, 3) := by decide +kernel
theorem dL_repairs_16 : decode cL_repairs 16 = .ok (.aload_n 0, 1) := by decide +kernel
theorem dL_repairs_17 : decode cL_repairs 17 = .ok (.iload_n 2, 1) := by decide +kernel
theorem dL_repairs_18 : decode cL_repairs 18 = .ok (.invokevirtual 62, 3) := by decide +kernel
theorem dL_repairs_21 : decode cL_repairs 21 = .ok (.ldc 79, 2) := by decide +kernel
theorem dL_repairs_23 : decode cL_repairs 23 = .ok (.if_icmp .ne 65, 3) := by decide +kernel
theorem dL_repairs_26 : decode cL_repairs 26 = .ok (.aload_n 0, 1) := by decide +kernel
theorem dL_repairs_27 : decode cL_repairs 27 = .ok (.iload_n 2, 1) := by decide +kernel
theorem dL_repairs_28 : decode cL_repairs 28 = .ok (.iconst 0, 1) := by decide +kernel
theorem dL_repairs_29 : decode cL_repairs 29 = .ok (.iconst 0, 1) := by decide +kernel
theorem dL_repairs_30 : decode cL_repairs 30 = .ok (.invokevirtual 65, 3) := by decide +kernel
theorem dL_repairs_33 : decode cL_repairs 33 = .ok (.ldc 79, 2) := by decide +kernel
theorem dL_repairs_35 : decode cL_repairs 35 = .ok (.if_icmp .ne 53, 3) := by decide +kernel
theorem dL_repairs_38 : decode cL_repairs 38 = .ok (.iload_n 3, 1) := by decide +kernel
theorem dL_repairs_39 : decode cL_repairs 39 = .ok (.ifCond .le 49, 3) := by decide +kernel
theorem dL_repairs_42 : decode cL_repairs 42 = .ok (.iload_n 3, 1) := by decide +kernel
theorem dL_repairs_43 : decode cL_repairs 43 = .ok (.iconst 4, 1) := by decide +kernel
theorem dL_repairs_44 : decode cL_repairs 44 = .ok (.if_icmp .ge 44, 3) := by decide +kernel
theorem dL_repairs_47 : decode cL_repairs 47 = .ok (.iload_n 3, 1) := by decide +kernel
theorem dL_repairs_48 : decode cL_repairs 48 = .ok (.iconst 1, 1) := by decide +kernel
theorem dL_repairs_49 : decode cL_repairs 49 = .ok (.if_icmp .ne 7, 3) := by decide +kernel
theorem dL_repairs_52 : decode cL_repairs 52 = .ok (.iconst 1, 1) := by decide +kernel
theorem dL_repairs_53 : decode cL_repairs 53 = .ok (.goto 4, 3) := by decide +kernel
theorem dL_repairs_56 : decode cL_repairs 56 = .ok (.iconst 0, 1) := by decide +kernel
theorem dL_repairs_57 : decode cL_repairs 57 = .ok (.aload_n 0, 1) := by decide +kernel
theorem dL_repairs_58 : decode cL_repairs 58 = .ok (.bipush 6, 2) := by decide +kernel
theorem dL_repairs_60 : decode cL_repairs 60 = .ok (.invokevirtual 36, 3) := by decide +kernel
theorem dL_repairs_63 : decode cL_repairs 63 = .ok (.ifCond .ne 7, 3) := by decide +kernel
theorem dL_repairs_66 : decode cL_repairs 66 = .ok (.iconst 1, 1) := by decide +kernel
theorem dL_repairs_67 : decode cL_repairs 67 = .ok (.goto 4, 3) := by decide +kernel
theorem dL_repairs_70 : decode cL_repairs 70 = .ok (.iconst 0, 1) := by decide +kernel
theorem dL_repairs_71 : decode cL_repairs 71 = .ok (.if_icmp .ne 17, 3) := by decide +kernel
theorem dL_repairs_74 : decode cL_repairs 74 = .ok (.aload_n 0, 1) := by decide +kernel
theorem dL_repairs_75 : decode cL_repairs 75 = .ok (.invokevirtual 9, 3) := by decide +kernel
theorem dL_repairs_78 : decode cL_repairs 78 = .ok (.lload 4, 2) := by decide +kernel
theorem dL_repairs_80 : decode cL_repairs 80 = .ok (.lcmp, 1) := by decide +kernel
theorem dL_repairs_81 : decode cL_repairs 81 = .ok (.ifCond .ne 7, 3) := by decide +kernel
theorem dL_repairs_84 : decode cL_repairs 84 = .ok (.iconst 1, 1) := by decide +kernel
theorem dL_repairs_85 : decode cL_repairs 85 = .ok (.goto 4, 3) := by decide +kernel
theorem dL_repairs_88 : decode cL_repairs 88 = .ok (.iconst 0, 1) := by decide +kernel
theorem dL_repairs_89 : decode cL_repairs 89 = .ok (.ireturn, 1) := by decide +kernel
theorem dL_repairs_90 : decode cL_repairs 90 = .ok (.iconst 0, 1) := by decide +kernel
theorem dL_repairs_91 : decode cL_repairs 91 = .ok (.istore 6, 2) := by decide +kernel
theorem dL_repairs_93 : decode cL_repairs 93 = .ok (.iconst 0, 1) := by decide +kernel
theorem dL_repairs_94 : decode cL_repairs 94 = .ok (.istore 7, 2) := by decide +kernel
theorem dL_repairs_96 : decode cL_repairs 96 = .ok (.iconst 0, 1) := by decide +kernel
theorem dL_repairs_97 : decode cL_repairs 97 = .ok (.istore 8, 2) := by decide +kernel
theorem dL_repairs_99 : decode cL_repairs 99 = .ok (.iconst (-1), 1) := by decide +kernel
theorem dL_repairs_100 : decode cL_repairs 100 = .ok (.istore 9, 2) := by decide +kernel
theorem dL_repairs_102 : decode cL_repairs 102 = .ok (.iconst 0, 1) := by decide +kernel
theorem dL_repairs_103 : decode cL_repairs 103 = .ok (.istore 10, 2) := by decide +kernel
theorem dL_repairs_105 : decode cL_repairs 105 = .ok (.iconst 0, 1) := by decide +kernel
theorem dL_repairs_106 : decode cL_repairs 106 = .ok (.istore 11, 2) := by decide +kernel
theorem dL_repairs_108 : decode cL_repairs 108 = .ok (.bipush 10, 2) := by decide +kernel
theorem dL_repairs_110 : decode cL_repairs 110 = .ok (.newarray .int, 2) := by decide +kernel
theorem dL_repairs_112 : decode cL_repairs 112 = .ok (.astore 12, 2) := by decide +kernel
theorem dL_repairs_114 : decode cL_repairs 114 = .ok (.iconst 0, 1) := by decide +kernel
theorem dL_repairs_115 : decode cL_repairs 115 = .ok (.istore 13, 2) := by decide +kernel
theorem dL_repairs_117 : decode cL_repairs 117 = .ok (.iload 13, 2) := by decide +kernel
theorem dL_repairs_119 : decode cL_repairs 119 = .ok (.iload_n 1, 1) := by decide +kernel
theorem dL_repairs_120 : decode cL_repairs 120 = .ok (.if_icmp .ge 305, 3) := by decide +kernel
theorem dL_repairs_123 : decode cL_repairs 123 = .ok (.aload_n 0, 1) := by decide +kernel
theorem dL_repairs_124 : decode cL_repairs 124 = .ok (.iload_n 2, 1) := by decide +kernel
theorem dL_repairs_125 : decode cL_repairs 125 = .ok (.iload 13, 2) := by decide +kernel
theorem dL_repairs_127 : decode cL_repairs 127 = .ok (.iconst 0, 1) := by decide +kernel
theorem dL_repairs_128 : decode cL_repairs 128 = .ok (.invokevirtual 65, 3) := by decide +kernel
theorem dL_repairs_131 : decode cL_repairs 131 = .ok (.istore 14, 2) := by decide +kernel
theorem dL_repairs_133 : decode cL_repairs 133 = .ok (.iload 14, 2) := by decide +kernel
theorem dL_repairs_135 : decode cL_repairs 135 = .ok (.ifCond .le 13, 3) := by decide +kernel
theorem dL_repairs_138 : decode cL_repairs 138 = .ok (.iload 14, 2) := by decide +kernel
theorem dL_repairs_140 : decode cL_repairs 140 = .ok (.iconst 4, 1) := by decide +kernel
theorem dL_repairs_141 : decode cL_repairs 141 = .ok (.if_icmp .ge 7, 3) := by decide +kernel
theorem dL_repairs_144 : decode cL_repairs 144 = .ok (.iconst 1, 1) := by decide +kernel
theorem dL_repairs_145 : decode cL_repairs 145 = .ok (.goto 4, 3) := by decide +kernel
theorem dL_repairs_148 : decode cL_repairs 148 = .ok (.iconst 0, 1) := by decide +kernel
theorem dL_repairs_149 : decode cL_repairs 149 = .ok (.istore 15, 2) := by decide +kernel
theorem dL_repairs_151 : decode cL_repairs 151 = .ok (.aload 12, 2) := by decide +kernel
theorem dL_repairs_153 : decode cL_repairs 153 = .ok (.iload 13, 2) := by decide +kernel
theorem dL_repairs_155 : decode cL_repairs 155 = .ok (.aload_n 0, 1) := by decide +kernel
theorem dL_repairs_156 : decode cL_repairs 156 = .ok (.iload 13, 2) := by decide +kernel
theorem dL_repairs_158 : decode cL_repairs 158 = .ok (.iconst 3, 1) := by decide +kernel
theorem dL_repairs_159 : decode cL_repairs 159 = .ok (.invokevirtual 30, 3) := by decide +kernel
theorem dL_repairs_162 : decode cL_repairs 162 = .ok (.iastore, 1) := by decide +kernel
theorem dL_repairs_163 : decode cL_repairs 163 = .ok (.iload 6, 2) := by decide +kernel
theorem dL_repairs_165 : decode cL_repairs 165 = .ok (.iload 14, 2) := by decide +kernel
theorem dL_repairs_167 : decode cL_repairs 167 = .ok (.iconst 1, 1) := by decide +kernel
theorem dL_repairs_168 : decode cL_repairs 168 = .ok (.if_icmp .eq 9, 3) := by decide +kernel
theorem dL_repairs_171 : decode cL_repairs 171 = .ok (.iload 14, 2) := by decide +kernel
theorem dL_repairs_173 : decode cL_repairs 173 = .ok (.iconst 2, 1) := by decide +kernel
theorem dL_repairs_174 : decode cL_repairs 174 = .ok (.if_icmp .ne 10, 3) := by decide +kernel
theorem dL_repairs_177 : decode cL_repairs 177 = .ok (.iconst 1, 1) := by decide +kernel
theorem dL_repairs_178 : decode cL_repairs 178 = .ok (.iload 13, 2) := by decide +kernel
theorem dL_repairs_180 : decode cL_repairs 180 = .ok (.ishl, 1) := by decide +kernel
theorem dL_repairs_181 : decode cL_repairs 181 = .ok (.goto 4, 3) := by decide +kernel
theorem dL_repairs_184 : decode cL_repairs 184 = .ok (.iconst 0, 1) := by decide +kernel
theorem dL_repairs_185 : decode cL_repairs 185 = .ok (.ior, 1) := by decide +kernel
theorem dL_repairs_186 : decode cL_repairs 186 = .ok (.istore 6, 2) := by decide +kernel
theorem dL_repairs_188 : decode cL_repairs 188 = .ok (.iload 7, 2) := by decide +kernel
theorem dL_repairs_190 : decode cL_repairs 190 = .ok (.iload 14, 2) := by decide +kernel
theorem dL_repairs_192 : decode cL_repairs 192 = .ok (.iconst 3, 1) := by decide +kernel
theorem dL_repairs_193 : decode cL_repairs 193 = .ok (.if_icmp .ne 10, 3) := by decide +kernel
theorem dL_repairs_196 : decode cL_repairs 196 = .ok (.iconst 1, 1) := by decide +kernel
theorem dL_repairs_197 : decode cL_repairs 197 = .ok (.iload 13, 2) := by decide +kernel
theorem dL_repairs_199 : decode cL_repairs 199 = .ok (.ishl, 1) := by decide +kernel
theorem dL_repairs_200 : decode cL_repairs 200 = .ok (.goto 4, 3) := by decide +kernel
theorem dL_repairs_203 : decode cL_repairs 203 = .ok (.iconst 0, 1) := by decide +kernel
theorem dL_repairs_204 : decode cL_repairs 204 = .ok (.ior, 1) := by decide +kernel
theorem dL_repairs_205 : decode cL_repairs 205 = .ok (.istore 7, 2) := by decide +kernel
theorem dL_repairs_207 : decode cL_repairs 207 = .ok (.iload 8, 2) := by decide +kernel
theorem dL_repairs_209 : decode cL_repairs 209 = .ok (.iload 14, 2) := by decide +kernel
theorem dL_repairs_211 : decode cL_repairs 211 = .ok (.iconst 5, 1) := by decide +kernel
theorem dL_repairs_212 : decode cL_repairs 212 = .ok (.if_icmp .ne 10, 3) := by decide +kernel
theorem dL_repairs_215 : decode cL_repairs 215 = .ok (.iconst 1, 1) := by decide +kernel
theorem dL_repairs_216 : decode cL_repairs 216 = .ok (.iload 13, 2) := by decide +kernel
theorem dL_repairs_218 : decode cL_repairs 218 = .ok (.ishl, 1) := by decide +kernel
theorem dL_repairs_219 : decode cL_repairs 219 = .ok (.goto 4, 3) := by decide +kernel
theorem dL_repairs_222 : decode cL_repairs 222 = .ok (.iconst 0, 1) := by decide +kernel
theorem dL_repairs_223 : decode cL_repairs 223 = .ok (.ior, 1) := by decide +kernel
theorem dL_repairs_224 : decode cL_repairs 224 = .ok (.istore 8, 2) := by decide +kernel
theorem dL_repairs_226 : decode cL_repairs 226 = .ok (.iload 14, 2) := by decide +kernel
theorem dL_repairs_228 : decode cL_repairs 228 = .ok (.iconst 4, 1) := by decide +kernel
theorem dL_repairs_229 : decode cL_repairs 229 = .ok (.if_icmp .ne 8, 3) := by decide +kernel
theorem dL_repairs_232 : decode cL_repairs 232 = .ok (.iload 13, 2) := by decide +kernel
theorem dL_repairs_234 : decode cL_repairs 234 = .ok (.goto 5, 3) := by decide +kernel
theorem dL_repairs_237 : decode cL_repairs 237 = .ok (.iload 9, 2) := by decide +kernel
theorem dL_repairs_239 : decode cL_repairs 239 = .ok (.istore 9, 2) := by decide +kernel
theorem dL_repairs_241 : decode cL_repairs 241 = .ok (.iload 10, 2) := by decide +kernel
theorem dL_repairs_243 : decode cL_repairs 243 = .ok (.iload 14, 2) := by decide +kernel
theorem dL_repairs_245 : decode cL_repairs 245 = .ok (.iconst 1, 1) := by decide +kernel
theorem dL_repairs_246 : decode cL_repairs 246 = .ok (.if_icmp .ne 7, 3) := by decide +kernel
theorem dL_repairs_249 : decode cL_repairs 249 = .ok (.iconst 1, 1) := by decide +kernel
theorem dL_repairs_250 : decode cL_repairs 250 = .ok (.goto 4, 3) := by decide +kernel
theorem dL_repairs_253 : decode cL_repairs 253 = .ok (.iconst 0, 1) := by decide +kernel
theorem dL_repairs_254 : decode cL_repairs 254 = .ok (.iadd, 1) := by decide +kernel
theorem dL_repairs_255 : decode cL_repairs 255 = .ok (.istore 10, 2) := by decide +kernel
theorem dL_repairs_257 : decode cL_repairs 257 = .ok (.iload 15, 2) := by decide +kernel
theorem dL_repairs_259 : decode cL_repairs 259 = .ok (.aload_n 0, 1) := by decide +kernel
theorem dL_repairs_260 : decode cL_repairs 260 = .ok (.iload 13, 2) := by decide +kernel
theorem dL_repairs_262 : decode cL_repairs 262 = .ok (.iload_n 2, 1) := by decide +kernel
theorem dL_repairs_263 : decode cL_repairs 263 = .ok (.invokevirtual 59, 3) := by decide +kernel
theorem dL_repairs_266 : decode cL_repairs 266 = .ok (.iconst 1, 1) := by decide +kernel
theorem dL_repairs_267 : decode cL_repairs 267 = .ok (.if_icmp .ne 18, 3) := by decide +kernel
theorem dL_repairs_270 : decode cL_repairs 270 = .ok (.aload_n 0, 1) := by decide +kernel
theorem dL_repairs_271 : decode cL_repairs 271 = .ok (.iload 13, 2) := by decide +kernel
theorem dL_repairs_273 : decode cL_repairs 273 = .ok (.iconst 2, 1) := by decide +kernel
theorem dL_repairs_274 : decode cL_repairs 274 = .ok (.invokevirtual 30, 3) := by decide +kernel
theorem dL_repairs_277 : decode cL_repairs 277 = .ok (.iconst 1, 1) := by decide +kernel
theorem dL_repairs_278 : decode cL_repairs 278 = .ok (.if_icmp .ne 7, 3) := by decide +kernel
theorem dL_repairs_281 : decode cL_repairs 281 = .ok (.iconst 1, 1) := by decide +kernel
theorem dL_repairs_282 : decode cL_repairs 282 = .ok (.goto 4, 3) := by decide +kernel
theorem dL_repairs_285 : decode cL_repairs 285 = .ok (.iconst 0, 1) := by decide +kernel
theorem dL_repairs_286 : decode cL_repairs 286 = .ok (.if_icmp .ne 98, 3) := by decide +kernel
theorem dL_repairs_289 : decode cL_repairs 289 = .ok (.iload 15, 2) := by decide +kernel
theorem dL_repairs_291 : decode cL_repairs 291 = .ok (.aload_n 0, 1) := by decide +kernel
theorem dL_repairs_292 : decode cL_repairs 292 = .ok (.iload_n 2, 1) := by decide +kernel
theorem dL_repairs_293 : decode cL_repairs 293 = .ok (.iload 13, 2) := by decide +kernel
theorem dL_repairs_295 : decode cL_repairs 295 = .ok (.iconst 1, 1) := by decide +kernel
theorem dL_repairs_296 : decode cL_repairs 296 = .ok (.invokevirtual 65, 3) := by decide +kernel
theorem dL_repairs_299 : decode cL_repairs 299 = .ok (.ldc 49, 2) := by decide +kernel
theorem dL_repairs_301 : decode cL_repairs 301 = .ok (.if_icmp .ne 7, 3) := by decide +kernel
theorem dL_repairs_304 : decode cL_repairs 304 = .ok (.iconst 1, 1) := by decide +kernel
theorem dL_repairs_305 : decode cL_repairs 305 = .ok (.goto 4, 3) := by decide +kernel
theorem dL_repairs_308 : decode cL_repairs 308 = .ok (.iconst 0, 1) := by decide +kernel
theorem dL_repairs_309 : decode cL_repairs 309 = .ok (.if_icmp .eq 75, 3) := by decide +kernel
theorem dL_repairs_312 : decode cL_repairs 312 = .ok (.iload 15, 2) := by decide +kernel
theorem dL_repairs_314 : decode cL_repairs 314 = .ok (.aload_n 0, 1) := by decide +kernel
theorem dL_repairs_315 : decode cL_repairs 315 = .ok (.iload_n 2, 1) := by decide +kernel
theorem dL_repairs_316 : decode cL_repairs 316 = .ok (.iload 13, 2) := by decide +kernel
theorem dL_repairs_318 : decode cL_repairs 318 = .ok (.iconst 2, 1) := by decide +kernel
theorem dL_repairs_319 : decode cL_repairs 319 = .ok (.invokevirtual 65, 3) := by decide +kernel
theorem dL_repairs_322 : decode cL_repairs 322 = .ok (.ldc 49, 2) := by decide +kernel
theorem dL_repairs_324 : decode cL_repairs 324 = .ok (.if_icmp .ne 7, 3) := by decide +kernel
theorem dL_repairs_327 : decode cL_repairs 327 = .ok (.iconst 1, 1) := by decide +kernel
theorem dL_repairs_328 : decode cL_repairs 328 = .ok (.goto 4, 3) := by decide +kernel
theorem dL_repairs_331 : decode cL_repairs 331 = .ok (.iconst 0, 1) := by decide +kernel
theorem dL_repairs_332 : decode cL_repairs 332 = .ok (.if_icmp .eq 52, 3) := by decide +kernel
theorem dL_repairs_335 : decode cL_repairs 335 = .ok (.iload 15, 2) := by decide +kernel
theorem dL_repairs_337 : decode cL_repairs 337 = .ok (.ifCond .eq 30, 3) := by decide +kernel
theorem dL_repairs_340 : decode cL_repairs 340 = .ok (.aload_n 0, 1) := by decide +kernel
theorem dL_repairs_341 : decode cL_repairs 341 = .ok (.iload_n 2, 1) := by decide +kernel
theorem dL_repairs_342 : decode cL_repairs 342 = .ok (.iload 13, 2) := by decide +kernel
theorem dL_repairs_344 : decode cL_repairs 344 = .ok (.iconst 1, 1) := by decide +kernel
theorem dL_repairs_345 : decode cL_repairs 345 = .ok (.invokevirtual 65, 3) := by decide +kernel
theorem dL_repairs_348 : decode cL_repairs 348 = .ok (.aload_n 0, 1) := by decide +kernel
theorem dL_repairs_349 : decode cL_repairs 349 = .ok (.iconst 0, 1) := by decide +kernel
theorem dL_repairs_350 : decode cL_repairs 350 = .ok (.invokevirtual 36, 3) := by decide +kernel
theorem dL_repairs_353 : decode cL_repairs 353 = .ok (.if_icmp .ge 31, 3) := by decide +kernel
theorem dL_repairs_356 : decode cL_repairs 356 = .ok (.aload_n 0, 1) := by decide +kernel
theorem dL_repairs_357 : decode cL_repairs 357 = .ok (.iload_n 2, 1) := by decide +kernel
theorem dL_repairs_358 : decode cL_repairs 358 = .ok (.iload 13, 2) := by decide +kernel
theorem dL_repairs_360 : decode cL_repairs 360 = .ok (.iconst 2, 1) := by decide +kernel
theorem dL_repairs_361 : decode cL_repairs 361 = .ok (.invokevirtual 65, 3) := by decide +kernel
theorem dL_repairs_364 : decode cL_repairs 364 = .ok (.ifCond .lt 20, 3) := by decide +kernel
theorem dL_repairs_367 : decode cL_repairs 367 = .ok (.iload 14, 2) := by decide +kernel
theorem dL_repairs_369 : decode cL_repairs 369 = .ok (.iconst 5, 1) := by decide +kernel
theorem dL_repairs_370 : decode cL_repairs 370 = .ok (.if_icmp .ne 16, 3) := by decide +kernel
theorem dL_repairs_373 : decode cL_repairs 373 = .ok (.aload_n 0, 1) := by decide +kernel
theorem dL_repairs_374 : decode cL_repairs 374 = .ok (.iload 13, 2) := by decide +kernel
theorem dL_repairs_376 : decode cL_repairs 376 = .ok (.iconst 2, 1) := by decide +kernel
theorem dL_repairs_377 : decode cL_repairs 377 = .ok (.invokevirtual 30, 3) := by decide +kernel
theorem dL_repairs_380 : decode cL_repairs 380 = .ok (.iconst 1, 1) := by decide +kernel
theorem dL_repairs_381 : decode cL_repairs 381 = .ok (.if_icmp .ne 5, 3) := by decide +kernel
theorem dL_repairs_384 : decode cL_repairs 384 = .ok (.iconst 0, 1) := by decide +kernel
theorem dL_repairs_385 : decode cL_repairs 385 = .ok (.ireturn, 1) := by decide +kernel
theorem dL_repairs_386 : decode cL_repairs 386 = .ok (.iload 15, 2) := by decide +kernel
theorem dL_repairs_388 : decode cL_repairs 388 = .ok (.ifCond .eq 27, 3) := by decide +kernel
theorem dL_repairs_391 : decode cL_repairs 391 = .ok (.aload_n 0, 1) := by decide +kernel
theorem dL_repairs_392 : decode cL_repairs 392 = .ok (.iload_n 2, 1) := by decide +kernel
theorem dL_repairs_393 : decode cL_repairs 393 = .ok (.iload 13, 2) := by decide +kernel
theorem dL_repairs_395 : decode cL_repairs 395 = .ok (.iconst 2, 1) := by decide +kernel
theorem dL_repairs_396 : decode cL_repairs 396 = .ok (.invokevirtual 65, 3) := by decide +kernel
theorem dL_repairs_399 : decode cL_repairs 399 = .ok (.iload 11, 2) := by decide +kernel
theorem dL_repairs_401 : decode cL_repairs 401 = .ok (.if_icmp .le 14, 3) := by decide +kernel
theorem dL_repairs_404 : decode cL_repairs 404 = .ok (.aload_n 0, 1) := by decide +kernel
theorem dL_repairs_405 : decode cL_repairs 405 = .ok (.iload_n 2, 1) := by decide +kernel
theorem dL_repairs_406 : decode cL_repairs 406 = .ok (.iload 13, 2) := by decide +kernel
theorem dL_repairs_408 : decode cL_repairs 408 = .ok (.iconst 2, 1) := by decide +kernel
theorem dL_repairs_409 : decode cL_repairs 409 = .ok (.invokevirtual 65, 3) := by decide +kernel
theorem dL_repairs_412 : decode cL_repairs 412 = .ok (.goto 5, 3) := by decide +kernel
theorem dL_repairs_415 : decode cL_repairs 415 = .ok (.iload 11, 2) := by decide +kernel
theorem dL_repairs_417 : decode cL_repairs 417 = .ok (.istore 11, 2) := by decide +kernel
theorem dL_repairs_419 : decode cL_repairs 419 = .ok (.iinc 13 1, 3) := by decide +kernel
theorem dL_repairs_422 : decode cL_repairs 422 = .ok (.goto (-305), 3) := by decide +kernel
theorem dL_repairs_425 : decode cL_repairs 425 = .ok (.iload 10, 2) := by decide +kernel
theorem dL_repairs_427 : decode cL_repairs 427 = .ok (.iconst 1, 1) := by decide +kernel
theorem dL_repairs_428 : decode cL_repairs 428 = .ok (.if_icmp .ne 29, 3) := by decide +kernel
theorem dL_repairs_431 : decode cL_repairs 431 = .ok (.iload 9, 2) := by decide +kernel
theorem dL_repairs_433 : decode cL_repairs 433 = .ok (.ifCond .lt 24, 3) := by decide +kernel
theorem dL_repairs_436 : decode cL_repairs 436 = .ok (.aload_n 0, 1) := by decide +kernel
theorem dL_repairs_437 : decode cL_repairs 437 = .ok (.iload 9, 2) := by decide +kernel
theorem dL_repairs_439 : decode cL_repairs 439 = .ok (.iload_n 2, 1) := by decide +kernel
theorem dL_repairs_440 : decode cL_repairs 440 = .ok (.invokevirtual 59, 3) := by decide +kernel
theorem dL_repairs_443 : decode cL_repairs 443 = .ok (.iconst 1, 1) := by decide +kernel
theorem dL_repairs_444 : decode cL_repairs 444 = .ok (.if_icmp .eq 13, 3) := by decide +kernel
theorem dL_repairs_447 : decode cL_repairs 447 = .ok (.aload_n 0, 1) := by decide +kernel
theorem dL_repairs_448 : decode cL_repairs 448 = .ok (.iload 9, 2) := by decide +kernel
theorem dL_repairs_450 : decode cL_repairs 450 = .ok (.iconst 2, 1) := by decide +kernel
theorem dL_repairs_451 : decode cL_repairs 451 = .ok (.invokevirtual 30, 3) := by decide +kernel
theorem dL_repairs_454 : decode cL_repairs 454 = .ok (.ifCond .ne 5, 3) := by decide +kernel
theorem dL_repairs_457 : decode cL_repairs 457 = .ok (.iconst 0, 1) := by decide +kernel
theorem dL_repairs_458 : decode cL_repairs 458 = .ok (.ireturn, 1) := by decide +kernel
theorem dL_repairs_459 : decode cL_repairs 459 = .ok (.aload_n 0, 1) := by decide +kernel
theorem dL_repairs_460 : decode cL_repairs 460 = .ok (.bipush 8, 2) := by decide +kernel
theorem dL_repairs_462 : decode cL_repairs 462 = .ok (.invokevirtual 36, 3) := by decide +kernel
theorem dL_repairs_465 : decode cL_repairs 465 = .ok (.istore 13, 2) := by decide +kernel
theorem dL_repairs_467 : decode cL_repairs 467 = .ok (.aload_n 0, 1) := by decide +kernel
theorem dL_repairs_468 : decode cL_repairs 468 = .ok (.bipush 9, 2) := by decide +kernel
theorem dL_repairs_470 : decode cL_repairs 470 = .ok (.invokevirtual 36, 3) := by decide +kernel
theorem dL_repairs_473 : decode cL_repairs 473 = .ok (.istore 14, 2) := by decide +kernel
theorem dL_repairs_475 : decode cL_repairs 475 = .ok (.aload_n 0, 1) := by decide +kernel
theorem dL_repairs_476 : decode cL_repairs 476 = .ok (.iload_n 2, 1) := by decide +kernel
theorem dL_repairs_477 : decode cL_repairs 477 = .ok (.invokevirtual 62, 3) := by decide +kernel
theorem dL_repairs_480 : decode cL_repairs 480 = .ok (.istore 15, 2) := by decide +kernel
theorem dL_repairs_482 : decode cL_repairs 482 = .ok (.iload 15, 2) := by decide +kernel
theorem dL_repairs_484 : decode cL_repairs 484 = .ok (.iload 11, 2) := by decide +kernel
theorem dL_repairs_486 : decode cL_repairs 486 = .ok (.if_icmp .ne 127, 3) := by decide +kernel
theorem dL_repairs_489 : decode cL_repairs 489 = .ok (.aload_n 0, 1) := by decide +kernel
theorem dL_repairs_490 : decode cL_repairs 490 = .ok (.iload_n 2, 1) := by decide +kernel
theorem dL_repairs_491 : decode cL_repairs 491 = .ok (.invokevirtual 71, 3) := by decide +kernel
theorem dL_repairs_494 : decode cL_repairs 494 = .ok (.iconst 2, 1) := by decide +kernel
theorem dL_repairs_495 : decode cL_repairs 495 = .ok (.if_icmp .ne 118, 3) := by decide +kernel
theorem dL_repairs_498 : decode cL_repairs 498 = .ok (.aload_n 0, 1) := by decide +kernel
theorem dL_repairs_499 : decode cL_repairs 499 = .ok (.iconst 0, 1) := by decide +kernel
theorem dL_repairs_500 : decode cL_repairs 500 = .ok (.iconst 0, 1) := by decide +kernel
theorem dL_repairs_501 : decode cL_repairs 501 = .ok (.invokevirtual 68, 3) := by decide +kernel
theorem dL_repairs_504 : decode cL_repairs 504 = .ok (.iload_n 2, 1) := by decide +kernel
theorem dL_repairs_505 : decode cL_repairs 505 = .ok (.if_icmp .ne 108, 3) := by decide +kernel
theorem dL_repairs_508 : decode cL_repairs 508 = .ok (.aload_n 0, 1) := by decide +kernel
theorem dL_repairs_509 : decode cL_repairs 509 = .ok (.iconst 0, 1) := by decide +kernel
theorem dL_repairs_510 : decode cL_repairs 510 = .ok (.iconst 1, 1) := by decide +kernel
theorem dL_repairs_511 : decode cL_repairs 511 = .ok (.invokevirtual 68, 3) := by decide +kernel
theorem dL_repairs_514 : decode cL_repairs 514 = .ok (.aload_n 0, 1) := by decide +kernel
theorem dL_repairs_515 : decode cL_repairs 515 = .ok (.bipush 6, 2) := by decide +kernel
theorem dL_repairs_517 : decode cL_repairs 517 = .ok (.invokevirtual 36, 3) := by decide +kernel
theorem dL_repairs_520 : decode cL_repairs 520 = .ok (.if_icmp .ne 93, 3) := by decide +kernel
theorem dL_repairs_523 : decode cL_repairs 523 = .ok (.aload_n 0, 1) := by decide +kernel
theorem dL_repairs_524 : decode cL_repairs 524 = .ok (.iconst 0, 1) := by decide +kernel
theorem dL_repairs_525 : decode cL_repairs 525 = .ok (.iconst 2, 1) := by decide +kernel
theorem dL_repairs_526 : decode cL_repairs 526 = .ok (.invokevirtual 68, 3) := by decide +kernel
theorem dL_repairs_529 : decode cL_repairs 529 = .ok (.iload 9, 2) := by decide +kernel
theorem dL_repairs_531 : decode cL_repairs 531 = .ok (.if_icmp .ne 82, 3) := by decide +kernel
theorem dL_repairs_534 : decode cL_repairs 534 = .ok (.aload_n 0, 1) := by decide +kernel
theorem dL_repairs_535 : decode cL_repairs 535 = .ok (.iconst 0, 1) := by decide +kernel
theorem dL_repairs_536 : decode cL_repairs 536 = .ok (.iconst 3, 1) := by decide +kernel
theorem dL_repairs_537 : decode cL_repairs 537 = .ok (.invokevirtual 68, 3) := by decide +kernel
theorem dL_repairs_540 : decode cL_repairs 540 = .ok (.iload 6, 2) := by decide +kernel
theorem dL_repairs_542 : decode cL_repairs 542 = .ok (.if_icmp .ne 71, 3) := by decide +kernel
theorem dL_repairs_545 : decode cL_repairs 545 = .ok (.aload_n 0, 1) := by decide +kernel
theorem dL_repairs_546 : decode cL_repairs 546 = .ok (.iconst 0, 1) := by decide +kernel
theorem dL_repairs_547 : decode cL_repairs 547 = .ok (.iconst 4, 1) := by decide +kernel
theorem dL_repairs_548 : decode cL_repairs 548 = .ok (.invokevirtual 68, 3) := by decide +kernel
theorem dL_repairs_551 : decode cL_repairs 551 = .ok (.iload 7, 2) := by decide +kernel
theorem dL_repairs_553 : decode cL_repairs 553 = .ok (.if_icmp .ne 60, 3) := by decide +kernel
theorem dL_repairs_556 : decode cL_repairs 556 = .ok (.aload_n 0, 1) := by decide +kernel
theorem dL_repairs_557 : decode cL_repairs 557 = .ok (.iconst 0, 1) := by decide +kernel
theorem dL_repairs_558 : decode cL_repairs 558 = .ok (.iconst 5, 1) := by decide +kernel
theorem dL_repairs_559 : decode cL_repairs 559 = .ok (.invokevirtual 68, 3) := by decide +kernel
theorem dL_repairs_562 : decode cL_repairs 562 = .ok (.iload 8, 2) := by decide +kernel
theorem dL_repairs_564 : decode cL_repairs 564 = .ok (.if_icmp .ne 49, 3) := by decide +kernel
theorem dL_repairs_567 : decode cL_repairs 567 = .ok (.aload_n 0, 1) := by decide +kernel
theorem dL_repairs_568 : decode cL_repairs 568 = .ok (.iconst 0, 1) := by decide +kernel
theorem dL_repairs_569 : decode cL_repairs 569 = .ok (.bipush 6, 2) := by decide +kernel
theorem dL_repairs_571 : decode cL_repairs 571 = .ok (.invokevirtual 68, 3) := by decide +kernel
theorem dL_repairs_574 : decode cL_repairs 574 = .ok (.iload 15, 2) := by decide +kernel
theorem dL_repairs_576 : decode cL_repairs 576 = .ok (.if_icmp .ne 37, 3) := by decide +kernel
theorem dL_repairs_579 : decode cL_repairs 579 = .ok (.aload_n 0, 1) := by decide +kernel
theorem dL_repairs_580 : decode cL_repairs 580 = .ok (.bipush 8, 2) := by decide +kernel
theorem dL_repairs_582 : decode cL_repairs 582 = .ok (.invokevirtual 36, 3) := by decide +kernel
theorem dL_repairs_585 : decode cL_repairs 585 = .ok (.iload 13, 2) := by decide +kernel
theorem dL_repairs_587 : decode cL_repairs 587 = .ok (.iload 6, 2) := by decide +kernel
theorem dL_repairs_589 : decode cL_repairs 589 = .ok (.invokestatic 80, 3) := by decide +kernel
theorem dL_repairs_592 : decode cL_repairs 592 = .ok (.iadd, 1) := by decide +kernel
theorem dL_repairs_593 : decode cL_repairs 593 = .ok (.if_icmp .ne 20, 3) := by decide +kernel
theorem dL_repairs_596 : decode cL_repairs 596 = .ok (.aload_n 0, 1) := by decide +kernel
theorem dL_repairs_597 : decode cL_repairs 597 = .ok (.bipush 9, 2) := by decide +kernel
theorem dL_repairs_599 : decode cL_repairs 599 = .ok (.invokevirtual 36, 3) := by decide +kernel
theorem dL_repairs_602 : decode cL_repairs 602 = .ok (.iload 14, 2) := by decide +kernel
theorem dL_repairs_604 : decode cL_repairs 604 = .ok (.iload 7, 2) := by decide +kernel
theorem dL_repairs_606 : decode cL_repairs 606 = .ok (.invokestatic 80, 3) := by decide +kernel
theorem dL_repairs_609 : decode cL_repairs 609 = .ok (.iadd, 1) := by decide +kernel
theorem dL_repairs_610 : decode cL_repairs 610 = .ok (.if_icmp .eq 5, 3) := by decide +kernel
theorem dL_repairs_613 : decode cL_repairs 613 = .ok (.iconst 0, 1) := by decide +kernel
theorem dL_repairs_614 : decode cL_repairs 614 = .ok (.ireturn, 1) := by decide +kernel
theorem dL_repairs_615 : decode cL_repairs 615 = .ok (.iconst 0, 1) := by decide +kernel
theorem dL_repairs_616 : decode cL_repairs 616 = .ok (.istore 16, 2) := by decide +kernel
theorem dL_repairs_618 : decode cL_repairs 618 = .ok (.iload 16, 2) := by decide +kernel
theorem dL_repairs_620 : decode cL_repairs 620 = .ok (.iload_n 1, 1) := by decide +kernel
theorem dL_repairs_621 : decode cL_repairs 621 = .ok (.if_icmp .ge 89, 3) := by decide +kernel
theorem dL_repairs_624 : decode cL_repairs 624 = .ok (.aload 12, 2) := by decide +kernel
theorem dL_repairs_626 : decode cL_repairs 626 = .ok (.iload 16, 2) := by decide +kernel
theorem dL_repairs_628 : decode cL_repairs 628 = .ok (.iaload, 1) := by decide +kernel
theorem dL_repairs_629 : decode cL_repairs 629 = .ok (.iload 16, 2) := by decide +kernel
theorem dL_repairs_631 : decode cL_repairs 631 = .ok (.iload 9, 2) := by decide +kernel
theorem dL_repairs_633 : decode cL_repairs 633 = .ok (.if_icmp .ne 11, 3) := by decide +kernel
theorem dL_repairs_636 : decode cL_repairs 636 = .ok (.aload_n 0, 1) := by decide +kernel
theorem dL_repairs_637 : decode cL_repairs 637 = .ok (.iconst 3, 1) := by decide +kernel
theorem dL_repairs_638 : decode cL_repairs 638 = .ok (.invokevirtual 36, 3) := by decide +kernel
theorem dL_repairs_641 : decode cL_repairs 641 = .ok (.goto 4, 3) := by decide +kernel
theorem dL_repairs_644 : decode cL_repairs 644 = .ok (.iconst 0, 1) := by decide +kernel
theorem dL_repairs_645 : decode cL_repairs 645 = .ok (.iadd, 1) := by decide +kernel
theorem dL_repairs_646 : decode cL_repairs 646 = .ok (.iload 8, 2) := by decide +kernel
theorem dL_repairs_648 : decode cL_repairs 648 = .ok (.iload 16, 2) := by decide +kernel
theorem dL_repairs_650 : decode cL_repairs 650 = .ok (.ishr, 1) := by decide +kernel
theorem dL_repairs_651 : decode cL_repairs 651 = .ok (.iconst 1, 1) := by decide +kernel
theorem dL_repairs_652 : decode cL_repairs 652 = .ok (.iand, 1) := by decide +kernel
theorem dL_repairs_653 : decode cL_repairs 653 = .ok (.iconst 1, 1) := by decide +kernel
theorem dL_repairs_654 : decode cL_repairs 654 = .ok (.if_icmp .ne 11, 3) := by decide +kernel
theorem dL_repairs_657 : decode cL_repairs 657 = .ok (.aload_n 0, 1) := by decide +kernel
theorem dL_repairs_658 : decode cL_repairs 658 = .ok (.iconst 4, 1) := by decide +kernel
theorem dL_repairs_659 : decode cL_repairs 659 = .ok (.invokevirtual 36, 3) := by decide +kernel
theorem dL_repairs_662 : decode cL_repairs 662 = .ok (.goto 4, 3) := by decide +kernel
theorem dL_repairs_665 : decode cL_repairs 665 = .ok (.iconst 0, 1) := by decide +kernel
theorem dL_repairs_666 : decode cL_repairs 666 = .ok (.isub, 1) := by decide +kernel
theorem dL_repairs_667 : decode cL_repairs 667 = .ok (.istore 17, 2) := by decide +kernel
theorem dL_repairs_669 : decode cL_repairs 669 = .ok (.aload_n 0, 1) := by decide +kernel
theorem dL_repairs_670 : decode cL_repairs 670 = .ok (.iload 16, 2) := by decide +kernel
theorem dL_repairs_672 : decode cL_repairs 672 = .ok (.iconst 3, 1) := by decide +kernel
theorem dL_repairs_673 : decode cL_repairs 673 = .ok (.invokevirtual 30, 3) := by decide +kernel
theorem dL_repairs_676 : decode cL_repairs 676 = .ok (.iload 17, 2) := by decide +kernel
theorem dL_repairs_678 : decode cL_repairs 678 = .ok (.if_icmp .ne 24, 3) := by decide +kernel
theorem dL_repairs_681 : decode cL_repairs 681 = .ok (.aload_n 0, 1) := by decide +kernel
theorem dL_repairs_682 : decode cL_repairs 682 = .ok (.iload 16, 2) := by decide +kernel
theorem dL_repairs_684 : decode cL_repairs 684 = .ok (.iconst 2, 1) := by decide +kernel
theorem dL_repairs_685 : decode cL_repairs 685 = .ok (.invokevirtual 30, 3) := by decide +kernel
theorem dL_repairs_688 : decode cL_repairs 688 = .ok (.iconst 1, 1) := by decide +kernel
theorem dL_repairs_689 : decode cL_repairs 689 = .ok (.if_icmp .ne 15, 3) := by decide +kernel
theorem dL_repairs_692 : decode cL_repairs 692 = .ok (.aload_n 0, 1) := by decide +kernel
theorem dL_repairs_693 : decode cL_repairs 693 = .ok (.iload 16, 2) := by decide +kernel
theorem dL_repairs_695 : decode cL_repairs 695 = .ok (.iload_n 2, 1) := by decide +kernel
theorem dL_repairs_696 : decode cL_repairs 696 = .ok (.invokevirtual 59, 3) := by decide +kernel
theorem dL_repairs_699 : decode cL_repairs 699 = .ok (.ifCond .eq 5, 3) := by decide +kernel
theorem dL_repairs_702 : decode cL_repairs 702 = .ok (.iconst 0, 1) := by decide +kernel
theorem dL_repairs_703 : decode cL_repairs 703 = .ok (.ireturn, 1) := by decide +kernel
theorem dL_repairs_704 : decode cL_repairs 704 = .ok (.iinc 16 1, 3) := by decide +kernel
theorem dL_repairs_707 : decode cL_repairs 707 = .ok (.goto (-89), 3) := by decide +kernel
theorem dL_repairs_710 : decode cL_repairs 710 = .ok (.aload_n 0, 1) := by decide +kernel
theorem dL_repairs_711 : decode cL_repairs 711 = .ok (.invokevirtual 9, 3) := by decide +kernel
theorem dL_repairs_714 : decode cL_repairs 714 = .ok (.lstore 16, 2) := by decide +kernel
theorem dL_repairs_716 : decode cL_repairs 716 = .ok (.aload_n 0, 1) := by decide +kernel
theorem dL_repairs_717 : decode cL_repairs 717 = .ok (.invokevirtual 83, 3) := by decide +kernel
theorem dL_repairs_720 : decode cL_repairs 720 = .ok (.ifCond .lt 37, 3) := by decide +kernel
theorem dL_repairs_723 : decode cL_repairs 723 = .ok (.aload_n 0, 1) := by decide +kernel
theorem dL_repairs_724 : decode cL_repairs 724 = .ok (.invokevirtual 9, 3) := by decide +kernel
theorem dL_repairs_727 : decode cL_repairs 727 = .ok (.lload 4, 2) := by decide +kernel
theorem dL_repairs_729 : decode cL_repairs 729 = .ok (.lcmp, 1) := by decide +kernel
theorem dL_repairs_730 : decode cL_repairs 730 = .ok (.ifCond .ne 27, 3) := by decide +kernel
theorem dL_repairs_733 : decode cL_repairs 733 = .ok (.aload_n 0, 1) := by decide +kernel
theorem dL_repairs_734 : decode cL_repairs 734 = .ok (.iload_n 2, 1) := by decide +kernel
theorem dL_repairs_735 : decode cL_repairs 735 = .ok (.invokevirtual 62, 3) := by decide +kernel
theorem dL_repairs_738 : decode cL_repairs 738 = .ok (.iload 15, 2) := by decide +kernel
theorem dL_repairs_740 : decode cL_repairs 740 = .ok (.if_icmp .ne 17, 3) := by decide +kernel
theorem dL_repairs_743 : decode cL_repairs 743 = .ok (.aload_n 0, 1) := by decide +kernel
theorem dL_repairs_744 : decode cL_repairs 744 = .ok (.invokevirtual 9, 3) := by decide +kernel
theorem dL_repairs_747 : decode cL_repairs 747 = .ok (.lload 16, 2) := by decide +kernel
theorem dL_repairs_749 : decode cL_repairs 749 = .ok (.lcmp, 1) := by decide +kernel
theorem dL_repairs_750 : decode cL_repairs 750 = .ok (.ifCond .ne 7, 3) := by decide +kernel
theorem dL_repairs_753 : decode cL_repairs 753 = .ok (.iconst 1, 1) := by decide +kernel
theorem dL_repairs_754 : decode cL_repairs 754 = .ok (.goto 4, 3) := by decide +kernel
theorem dL_repairs_757 : decode cL_repairs 757 = .ok (.iconst 0, 1) := by decide +kernel
theorem dL_repairs_758 : decode cL_repairs 758 = .ok (.ireturn, 1) := by decide +kernel
theorem dL_draws_0 : decode cL_draws 0 = .ok (.iconst 0, 1) := by decide +kernel
theorem dL_draws_1 : decode cL_draws 1 = .ok (.istore_n 2, 1) := by decide +kernel
theorem dL_draws_2 : decode cL_draws 2 = .ok (.bipush 10, 2) := by decide +kernel
theorem dL_draws_4 : decode cL_draws 4 = .ok (.newarray .int, 2) := by decide +kernel
theorem dL_draws_6 : decode cL_draws 6 = .ok (.astore_n 3, 1) := by decide +kernel
theorem dL_draws_7 : decode cL_draws 7 = .ok (.bipush 10, 2) := by decide +kernel
theorem dL_draws_9 : decode cL_draws 9 = .ok (.newarray .int, 2) := by decide +kernel
theorem dL_draws_11 : decode cL_draws 11 = .ok (.astore 4, 2) := by decide +kernel
theorem dL_draws_13 : decode cL_draws 13 = .ok (.iconst 0, 1) := by decide +kernel
theorem dL_draws_14 : decode cL_draws 14 = .ok (.istore 5, 2) := by decide +kernel
theorem dL_draws_16 : decode cL_draws 16 = .ok (.iload 5, 2) := by decide +kernel
theorem dL_draws_18 : decode cL_draws 18 = .ok (.iload_n 1, 1) := by decide +kernel
theorem dL_draws_19 : decode cL_draws 19 = .ok (.if_icmp .ge 78, 3) := by decide +kernel
theorem dL_draws_22 : decode cL_draws 22 = .ok (.aload_n 0, 1) := by decide +kernel
theorem dL_draws_23 : decode cL_draws 23 = .ok (.iload 5, 2) := by decide +kernel
theorem dL_draws_25 : decode cL_draws 25 = .ok (.bipush 8, 2) := by decide +kernel
theorem dL_draws_27 : decode cL_draws 27 = .ok (.invokevirtual 30, 3) := by decide +kernel
theorem dL_draws_30 : decode cL_draws 30 = .ok (.istore 6, 2) := by decide +kernel
theorem dL_draws_32 : decode cL_draws 32 = .ok (.iload_n 2, 1) := by decide +kernel
theorem dL_draws_33 : decode cL_draws 33 = .ok (.iload 6, 2) := by decide +kernel
theorem dL_draws_35 : decode cL_draws 35 = .ok (.iconst 2, 1) := by decide +kernel
theorem dL_draws_36 : decode cL_draws 36 = .ok (.if_icmp .ne 7, 3) := by decide +kernel
theorem dL_draws_39 : decode cL_draws 39 = .ok (.iconst 1, 1) := by decide +kernel
theorem dL_draws_40 : decode cL_draws 40 = .ok (.goto 4, 3) := by decide +kernel
