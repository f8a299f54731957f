theorem dX10_makes_188 : decode cX10_makes 188 = .ok (.iconst 2, 1) := by decide +kernel
theorem dX10_makes_189 : decode cX10_makes 189 = .ok (.iadd, 1) := by decide +kernel
theorem dX10_makes_190 : decode cX10_makes 190 = .ok (.aload_n 0, 1) := by decide +kernel
theorem dX10_makes_191 : decode cX10_makes 191 = .ok (.getfield 119, 3) := by decide +kernel
theorem dX10_makes_194 : decode cX10_makes 194 = .ok (.iastore, 1) := by decide +kernel
theorem dX10_makes_195 : decode cX10_makes 195 = .ok (.aload_n 0, 1) := by decide +kernel
theorem dX10_makes_196 : decode cX10_makes 196 = .ok (.getfield 7, 3) := by decide +kernel
theorem dX10_makes_199 : decode cX10_makes 199 = .ok (.iload_n 2, 1) := by decide +kernel
theorem dX10_makes_200 : decode cX10_makes 200 = .ok (.iconst 3, 1) := by decide +kernel
theorem dX10_makes_201 : decode cX10_makes 201 = .ok (.iadd, 1) := by decide +kernel
theorem dX10_makes_202 : decode cX10_makes 202 = .ok (.aload_n 0, 1) := by decide +kernel
theorem dX10_makes_203 : decode cX10_makes 203 = .ok (.getfield 132, 3) := by decide +kernel
theorem dX10_makes_206 : decode cX10_makes 206 = .ok (.iastore, 1) := by decide +kernel
theorem dX10_makes_207 : decode cX10_makes 207 = .ok (.aload_n 0, 1) := by decide +kernel
theorem dX10_makes_208 : decode cX10_makes 208 = .ok (.getfield 7, 3) := by decide +kernel
theorem dX10_makes_211 : decode cX10_makes 211 = .ok (.iload_n 2, 1) := by decide +kernel
theorem dX10_makes_212 : decode cX10_makes 212 = .ok (.iconst 4, 1) := by decide +kernel
theorem dX10_makes_213 : decode cX10_makes 213 = .ok (.iadd, 1) := by decide +kernel
theorem dX10_makes_214 : decode cX10_makes 214 = .ok (.aload_n 0, 1) := by decide +kernel
theorem dX10_makes_215 : decode cX10_makes 215 = .ok (.getfield 135, 3) := by decide +kernel
theorem dX10_makes_218 : decode cX10_makes 218 = .ok (.iastore, 1) := by decide +kernel
theorem dX10_makes_219 : decode cX10_makes 219 = .ok (.aload_n 0, 1) := by decide +kernel
theorem dX10_makes_220 : decode cX10_makes 220 = .ok (.getfield 7, 3) := by decide +kernel
theorem dX10_makes_223 : decode cX10_makes 223 = .ok (.iload_n 2, 1) := by decide +kernel
theorem dX10_makes_224 : decode cX10_makes 224 = .ok (.iconst 5, 1) := by decide +kernel
theorem dX10_makes_225 : decode cX10_makes 225 = .ok (.iadd, 1) := by decide +kernel
theorem dX10_makes_226 : decode cX10_makes 226 = .ok (.aload_n 0, 1) := by decide +kernel
theorem dX10_makes_227 : decode cX10_makes 227 = .ok (.getfield 116, 3) := by decide +kernel
theorem dX10_makes_230 : decode cX10_makes 230 = .ok (.iastore, 1) := by decide +kernel
theorem dX10_makes_231 : decode cX10_makes 231 = .ok (.aload_n 0, 1) := by decide +kernel
theorem dX10_makes_232 : decode cX10_makes 232 = .ok (.getfield 7, 3) := by decide +kernel
theorem dX10_makes_235 : decode cX10_makes 235 = .ok (.iload_n 2, 1) := by decide +kernel
theorem dX10_makes_236 : decode cX10_makes 236 = .ok (.bipush 6, 2) := by decide +kernel
theorem dX10_makes_238 : decode cX10_makes 238 = .ok (.iadd, 1) := by decide +kernel
theorem dX10_makes_239 : decode cX10_makes 239 = .ok (.aload_n 0, 1) := by decide +kernel
theorem dX10_makes_240 : decode cX10_makes 240 = .ok (.getfield 144, 3) := by decide +kernel
theorem dX10_makes_243 : decode cX10_makes 243 = .ok (.iastore, 1) := by decide +kernel
theorem dX10_makes_244 : decode cX10_makes 244 = .ok (.aload_n 0, 1) := by decide +kernel
theorem dX10_makes_245 : decode cX10_makes 245 = .ok (.getfield 7, 3) := by decide +kernel
theorem dX10_makes_248 : decode cX10_makes 248 = .ok (.bipush 7, 2) := by decide +kernel
theorem dX10_makes_250 : decode cX10_makes 250 = .ok (.dup2, 1) := by decide +kernel
theorem dX10_makes_251 : decode cX10_makes 251 = .ok (.iaload, 1) := by decide +kernel
theorem dX10_makes_252 : decode cX10_makes 252 = .ok (.iconst 1, 1) := by decide +kernel
theorem dX10_makes_253 : decode cX10_makes 253 = .ok (.iadd, 1) := by decide +kernel
theorem dX10_makes_254 : decode cX10_makes 254 = .ok (.iastore, 1) := by decide +kernel
theorem dX10_makes_255 : decode cX10_makes 255 = .ok (.aload_n 0, 1) := by decide +kernel
theorem dX10_makes_256 : decode cX10_makes 256 = .ok (.getfield 7, 3) := by decide +kernel
theorem dX10_makes_259 : decode cX10_makes 259 = .ok (.bipush 8, 2) := by decide +kernel
theorem dX10_makes_261 : decode cX10_makes 261 = .ok (.dup2, 1) := by decide +kernel
theorem dX10_makes_262 : decode cX10_makes 262 = .ok (.iaload, 1) := by decide +kernel
theorem dX10_makes_263 : decode cX10_makes 263 = .ok (.aload_n 0, 1) := by decide +kernel
theorem dX10_makes_264 : decode cX10_makes 264 = .ok (.getfield 132, 3) := by decide +kernel
theorem dX10_makes_267 : decode cX10_makes 267 = .ok (.invokestatic 147, 3) := by decide +kernel
theorem dX10_makes_270 : decode cX10_makes 270 = .ok (.iadd, 1) := by decide +kernel
theorem dX10_makes_271 : decode cX10_makes 271 = .ok (.iastore, 1) := by decide +kernel
theorem dX10_makes_272 : decode cX10_makes 272 = .ok (.aload_n 0, 1) := by decide +kernel
theorem dX10_makes_273 : decode cX10_makes 273 = .ok (.getfield 7, 3) := by decide +kernel
theorem dX10_makes_276 : decode cX10_makes 276 = .ok (.bipush 9, 2) := by decide +kernel
theorem dX10_makes_278 : decode cX10_makes 278 = .ok (.dup2, 1) := by decide +kernel
theorem dX10_makes_279 : decode cX10_makes 279 = .ok (.iaload, 1) := by decide +kernel
theorem dX10_makes_280 : decode cX10_makes 280 = .ok (.aload_n 0, 1) := by decide +kernel
theorem dX10_makes_281 : decode cX10_makes 281 = .ok (.getfield 135, 3) := by decide +kernel
theorem dX10_makes_284 : decode cX10_makes 284 = .ok (.invokestatic 147, 3) := by decide +kernel
theorem dX10_makes_287 : decode cX10_makes 287 = .ok (.iadd, 1) := by decide +kernel
theorem dX10_makes_288 : decode cX10_makes 288 = .ok (.iastore, 1) := by decide +kernel
theorem dX10_makes_289 : decode cX10_makes 289 = .ok (.return_, 1) := by decide +kernel
theorem dX10_repair_0 : decode cX10_repair 0 = .ok (.iload_n 1, 1) := by decide +kernel
theorem dX10_repair_1 : decode cX10_repair 1 = .ok (.invokestatic 87, 3) := by decide +kernel
theorem dX10_repair_4 : decode cX10_repair 4 = .ok (.ifCond .ne 6, 3) := by decide +kernel
theorem dX10_repair_7 : decode cX10_repair 7 = .ok (.ldc 40, 2) := by decide +kernel
theorem dX10_repair_9 : decode cX10_repair 9 = .ok (.ireturn, 1) := by decide +kernel
theorem dX10_repair_10 : decode cX10_repair 10 = .ok (.aload_n 0, 1) := by decide +kernel
theorem dX10_repair_11 : decode cX10_repair 11 = .ok (.iload_n 1, 1) := by decide +kernel
theorem dX10_repair_12 : decode cX10_repair 12 = .ok (.aload_n 0, 1) := by decide +kernel
theorem dX10_repair_13 : decode cX10_repair 13 = .ok (.getfield 7, 3) := by decide +kernel
theorem dX10_repair_16 : decode cX10_repair 16 = .ok (.iconst 0, 1) := by decide +kernel
theorem dX10_repair_17 : decode cX10_repair 17 = .ok (.iaload, 1) := by decide +kernel
theorem dX10_repair_18 : decode cX10_repair 18 = .ok (.invokevirtual 150, 3) := by decide +kernel
theorem dX10_repair_21 : decode cX10_repair 21 = .ok (.ifCond .eq 6, 3) := by decide +kernel
theorem dX10_repair_24 : decode cX10_repair 24 = .ok (.ldc 68, 2) := by decide +kernel
theorem dX10_repair_26 : decode cX10_repair 26 = .ok (.ireturn, 1) := by decide +kernel
theorem dX10_repair_27 : decode cX10_repair 27 = .ok (.aload_n 0, 1) := by decide +kernel
theorem dX10_repair_28 : decode cX10_repair 28 = .ok (.invokevirtual 32, 3) := by decide +kernel
theorem dX10_repair_31 : decode cX10_repair 31 = .ok (.aload_n 0, 1) := by decide +kernel
theorem dX10_repair_32 : decode cX10_repair 32 = .ok (.iload_n 1, 1) := by decide +kernel
theorem dX10_repair_33 : decode cX10_repair 33 = .ok (.invokevirtual 153, 3) := by decide +kernel
theorem dX10_repair_36 : decode cX10_repair 36 = .ok (.aload_n 0, 1) := by decide +kernel
theorem dX10_repair_37 : decode cX10_repair 37 = .ok (.getfield 144, 3) := by decide +kernel
theorem dX10_repair_40 : decode cX10_repair 40 = .ok (.ireturn, 1) := by decide +kernel
theorem dX10_repairAll_0 : decode cX10_repairAll 0 = .ok (.aload_n 0, 1) := by decide +kernel
theorem dX10_repairAll_1 : decode cX10_repairAll 1 = .ok (.invokevirtual 32, 3) := by decide +kernel
theorem dX10_repairAll_4 : decode cX10_repairAll 4 = .ok (.iconst 0, 1) := by decide +kernel
theorem dX10_repairAll_5 : decode cX10_repairAll 5 = .ok (.istore_n 1, 1) := by decide +kernel
theorem dX10_repairAll_6 : decode cX10_repairAll 6 = .ok (.iconst 0, 1) := by decide +kernel
theorem dX10_repairAll_7 : decode cX10_repairAll 7 = .ok (.istore_n 2, 1) := by decide +kernel
theorem dX10_repairAll_8 : decode cX10_repairAll 8 = .ok (.iload_n 2, 1) := by decide +kernel
theorem dX10_repairAll_9 : decode cX10_repairAll 9 = .ok (.sipush 200, 3) := by decide +kernel
theorem dX10_repairAll_12 : decode cX10_repairAll 12 = .ok (.if_icmp .ge 31, 3) := by decide +kernel
theorem dX10_repairAll_15 : decode cX10_repairAll 15 = .ok (.aload_n 0, 1) := by decide +kernel
theorem dX10_repairAll_16 : decode cX10_repairAll 16 = .ok (.iload_n 2, 1) := by decide +kernel
theorem dX10_repairAll_17 : decode cX10_repairAll 17 = .ok (.aload_n 0, 1) := by decide +kernel
theorem dX10_repairAll_18 : decode cX10_repairAll 18 = .ok (.getfield 7, 3) := by decide +kernel
theorem dX10_repairAll_21 : decode cX10_repairAll 21 = .ok (.iconst 0, 1) := by decide +kernel
theorem dX10_repairAll_22 : decode cX10_repairAll 22 = .ok (.iaload, 1) := by decide +kernel
theorem dX10_repairAll_23 : decode cX10_repairAll 23 = .ok (.invokevirtual 150, 3) := by decide +kernel
theorem dX10_repairAll_26 : decode cX10_repairAll 26 = .ok (.ifCond .ne 11, 3) := by decide +kernel
theorem dX10_repairAll_29 : decode cX10_repairAll 29 = .ok (.aload_n 0, 1) := by decide +kernel
theorem dX10_repairAll_30 : decode cX10_repairAll 30 = .ok (.iload_n 2, 1) := by decide +kernel
theorem dX10_repairAll_31 : decode cX10_repairAll 31 = .ok (.invokevirtual 153, 3) := by decide +kernel
theorem dX10_repairAll_34 : decode cX10_repairAll 34 = .ok (.iinc 1 1, 3) := by decide +kernel
theorem dX10_repairAll_37 : decode cX10_repairAll 37 = .ok (.iinc 2 1, 3) := by decide +kernel
theorem dX10_repairAll_40 : decode cX10_repairAll 40 = .ok (.goto (-32), 3) := by decide +kernel
theorem dX10_repairAll_43 : decode cX10_repairAll 43 = .ok (.iload_n 1, 1) := by decide +kernel
theorem dX10_repairAll_44 : decode cX10_repairAll 44 = .ok (.ireturn, 1) := by decide +kernel
theorem dX10_roleOf_0 : decode cX10_roleOf 0 = .ok (.aload_n 0, 1) := by decide +kernel
theorem dX10_roleOf_1 : decode cX10_roleOf 1 = .ok (.aload_n 0, 1) := by decide +kernel
theorem dX10_roleOf_2 : decode cX10_roleOf 2 = .ok (.getfield 113, 3) := by decide +kernel
theorem dX10_roleOf_5 : decode cX10_roleOf 5 = .ok (.iload_n 1, 1) := by decide +kernel
theorem dX10_roleOf_6 : decode cX10_roleOf 6 = .ok (.invokevirtual 129, 3) := by decide +kernel
theorem dX10_roleOf_9 : decode cX10_roleOf 9 = .ok (.ifCond .eq 33, 3) := by decide +kernel
theorem dX10_roleOf_12 : decode cX10_roleOf 12 = .ok (.iload_n 1, 1) := by decide +kernel
theorem dX10_roleOf_13 : decode cX10_roleOf 13 = .ok (.aload_n 0, 1) := by decide +kernel
theorem dX10_roleOf_14 : decode cX10_roleOf 14 = .ok (.getfield 126, 3) := by decide +kernel
theorem dX10_roleOf_17 : decode cX10_roleOf 17 = .ok (.if_icmp .ne 7, 3) := by decide +kernel
theorem dX10_roleOf_20 : decode cX10_roleOf 20 = .ok (.iconst 1, 1) := by decide +kernel
theorem dX10_roleOf_21 : decode cX10_roleOf 21 = .ok (.goto 20, 3) := by decide +kernel
theorem dX10_roleOf_24 : decode cX10_roleOf 24 = .ok (.aload_n 0, 1) := by decide +kernel
theorem dX10_roleOf_25 : decode cX10_roleOf 25 = .ok (.aload_n 0, 1) := by decide +kernel
theorem dX10_roleOf_26 : decode cX10_roleOf 26 = .ok (.getfield 132, 3) := by decide +kernel
theorem dX10_roleOf_29 : decode cX10_roleOf 29 = .ok (.iload_n 1, 1) := by decide +kernel
theorem dX10_roleOf_30 : decode cX10_roleOf 30 = .ok (.invokevirtual 129, 3) := by decide +kernel
theorem dX10_roleOf_33 : decode cX10_roleOf 33 = .ok (.ifCond .eq 7, 3) := by decide +kernel
theorem dX10_roleOf_36 : decode cX10_roleOf 36 = .ok (.iconst 2, 1) := by decide +kernel
theorem dX10_roleOf_37 : decode cX10_roleOf 37 = .ok (.goto 4, 3) := by decide +kernel
theorem dX10_roleOf_40 : decode cX10_roleOf 40 = .ok (.iconst 3, 1) := by decide +kernel
theorem dX10_roleOf_41 : decode cX10_roleOf 41 = .ok (.ireturn, 1) := by decide +kernel
theorem dX10_roleOf_42 : decode cX10_roleOf 42 = .ok (.iload_n 1, 1) := by decide +kernel
theorem dX10_roleOf_43 : decode cX10_roleOf 43 = .ok (.aload_n 0, 1) := by decide +kernel
theorem dX10_roleOf_44 : decode cX10_roleOf 44 = .ok (.getfield 119, 3) := by decide +kernel
theorem dX10_roleOf_47 : decode cX10_roleOf 47 = .ok (.if_icmp .ne 7, 3) := by decide +kernel
theorem dX10_roleOf_50 : decode cX10_roleOf 50 = .ok (.iconst 4, 1) := by decide +kernel
theorem dX10_roleOf_51 : decode cX10_roleOf 51 = .ok (.goto 20, 3) := by decide +kernel
theorem dX10_roleOf_54 : decode cX10_roleOf 54 = .ok (.aload_n 0, 1) := by decide +kernel
theorem dX10_roleOf_55 : decode cX10_roleOf 55 = .ok (.aload_n 0, 1) := by decide +kernel
theorem dX10_roleOf_56 : decode cX10_roleOf 56 = .ok (.getfield 116, 3) := by decide +kernel
theorem dX10_roleOf_59 : decode cX10_roleOf 59 = .ok (.iload_n 1, 1) := by decide +kernel
theorem dX10_roleOf_60 : decode cX10_roleOf 60 = .ok (.invokevirtual 129, 3) := by decide +kernel
theorem dX10_roleOf_63 : decode cX10_roleOf 63 = .ok (.ifCond .eq 7, 3) := by decide +kernel
theorem dX10_roleOf_66 : decode cX10_roleOf 66 = .ok (.iconst 5, 1) := by decide +kernel
theorem dX10_roleOf_67 : decode cX10_roleOf 67 = .ok (.goto 4, 3) := by decide +kernel
theorem dX10_roleOf_70 : decode cX10_roleOf 70 = .ok (.iconst 0, 1) := by decide +kernel
theorem dX10_roleOf_71 : decode cX10_roleOf 71 = .ok (.ireturn, 1) := by decide +kernel
theorem dX10_look_0 : decode cX10_look 0 = .ok (.iload_n 1, 1) := by decide +kernel
theorem dX10_look_1 : decode cX10_look 1 = .ok (.invokestatic 87, 3) := by decide +kernel
theorem dX10_look_4 : decode cX10_look 4 = .ok (.ifCond .eq 20, 3) := by decide +kernel
theorem dX10_look_7 : decode cX10_look 7 = .ok (.aload_n 0, 1) := by decide +kernel
theorem dX10_look_8 : decode cX10_look 8 = .ok (.iload_n 2, 1) := by decide +kernel
theorem dX10_look_9 : decode cX10_look 9 = .ok (.invokevirtual 47, 3) := by decide +kernel
theorem dX10_look_12 : decode cX10_look 12 = .ok (.ifCond .eq 12, 3) := by decide +kernel
theorem dX10_look_15 : decode cX10_look 15 = .ok (.iload_n 3, 1) := by decide +kernel
theorem dX10_look_16 : decode cX10_look 16 = .ok (.iconst 0, 1) := by decide +kernel
theorem dX10_look_17 : decode cX10_look 17 = .ok (.iconst 2, 1) := by decide +kernel
theorem dX10_look_18 : decode cX10_look 18 = .ok (.invokestatic 35, 3) := by decide +kernel
theorem dX10_look_21 : decode cX10_look 21 = .ok (.ifCond .ne 6, 3) := by decide +kernel
theorem dX10_look_24 : decode cX10_look 24 = .ok (.ldc 40, 2) := by decide +kernel
theorem dX10_look_26 : decode cX10_look 26 = .ok (.ireturn, 1) := by decide +kernel
theorem dX10_look_27 : decode cX10_look 27 = .ok (.aload_n 0, 1) := by decide +kernel
theorem dX10_look_28 : decode cX10_look 28 = .ok (.iload_n 1, 1) := by decide +kernel
theorem dX10_look_29 : decode cX10_look 29 = .ok (.aload_n 0, 1) := by decide +kernel
theorem dX10_look_30 : decode cX10_look 30 = .ok (.getfield 7, 3) := by decide +kernel
theorem dX10_look_33 : decode cX10_look 33 = .ok (.iconst 0, 1) := by decide +kernel
theorem dX10_look_34 : decode cX10_look 34 = .ok (.iaload, 1) := by decide +kernel
theorem dX10_look_35 : decode cX10_look 35 = .ok (.invokevirtual 150, 3) := by decide +kernel
theorem dX10_look_38 : decode cX10_look 38 = .ok (.ifCond .eq 6, 3) := by decide +kernel
theorem dX10_look_41 : decode cX10_look 41 = .ok (.ldc 68, 2) := by decide +kernel
theorem dX10_look_43 : decode cX10_look 43 = .ok (.ireturn, 1) := by decide +kernel
theorem dX10_look_44 : decode cX10_look 44 = .ok (.iload_n 3, 1) := by decide +kernel
theorem dX10_look_45 : decode cX10_look 45 = .ok (.ifCond .ne 9, 3) := by decide +kernel
theorem dX10_look_48 : decode cX10_look 48 = .ok (.aload_n 0, 1) := by decide +kernel
theorem dX10_look_49 : decode cX10_look 49 = .ok (.iload_n 2, 1) := by decide +kernel
theorem dX10_look_50 : decode cX10_look 50 = .ok (.invokevirtual 156, 3) := by decide +kernel
theorem dX10_look_53 : decode cX10_look 53 = .ok (.ireturn, 1) := by decide +kernel
theorem dX10_look_54 : decode cX10_look 54 = .ok (.aload_n 0, 1) := by decide +kernel
theorem dX10_look_55 : decode cX10_look 55 = .ok (.aload_n 0, 1) := by decide +kernel
theorem dX10_look_56 : decode cX10_look 56 = .ok (.getfield 113, 3) := by decide +kernel
theorem dX10_look_59 : decode cX10_look 59 = .ok (.iload_n 2, 1) := by decide +kernel
theorem dX10_look_60 : decode cX10_look 60 = .ok (.invokevirtual 129, 3) := by decide +kernel
theorem dX10_look_63 : decode cX10_look 63 = .ok (.ifCond .ne 8, 3) := by decide +kernel
theorem dX10_look_66 : decode cX10_look 66 = .ok (.ldc 46, 2) := by decide +kernel
theorem dX10_look_68 : decode cX10_look 68 = .ok (.goto 31, 3) := by decide +kernel
theorem dX10_look_71 : decode cX10_look 71 = .ok (.iload_n 3, 1) := by decide +kernel
theorem dX10_look_72 : decode cX10_look 72 = .ok (.iconst 1, 1) := by decide +kernel
theorem dX10_look_73 : decode cX10_look 73 = .ok (.if_icmp .ne 12, 3) := by decide +kernel
theorem dX10_look_76 : decode cX10_look 76 = .ok (.aload_n 0, 1) := by decide +kernel
theorem dX10_look_77 : decode cX10_look 77 = .ok (.getfield 25, 3) := by decide +kernel
theorem dX10_look_80 : decode cX10_look 80 = .ok (.iload_n 2, 1) := by decide +kernel
theorem dX10_look_81 : decode cX10_look 81 = .ok (.iaload, 1) := by decide +kernel
theorem dX10_look_82 : decode cX10_look 82 = .ok (.goto 17, 3) := by decide +kernel
theorem dX10_look_85 : decode cX10_look 85 = .ok (.aload_n 0, 1) := by decide +kernel
theorem dX10_look_86 : decode cX10_look 86 = .ok (.getfield 141, 3) := by decide +kernel
theorem dX10_look_89 : decode cX10_look 89 = .ok (.aload_n 0, 1) := by decide +kernel
theorem dX10_look_90 : decode cX10_look 90 = .ok (.aload_n 0, 1) := by decide +kernel
theorem dX10_look_91 : decode cX10_look 91 = .ok (.getfield 119, 3) := by decide +kernel
theorem dX10_look_94 : decode cX10_look 94 = .ok (.iload_n 2, 1) := by decide +kernel
theorem dX10_look_95 : decode cX10_look 95 = .ok (.invokevirtual 138, 3) := by decide +kernel
theorem dX10_look_98 : decode cX10_look 98 = .ok (.iadd, 1) := by decide +kernel
theorem dX10_look_99 : decode cX10_look 99 = .ok (.ireturn, 1) := by decide +kernel
theorem dX10_pastOf_0 : decode cX10_pastOf 0 = .ok (.aload_n 0, 1) := by decide +kernel
theorem dX10_pastOf_1 : decode cX10_pastOf 1 = .ok (.getfield 7, 3) := by decide +kernel
theorem dX10_pastOf_4 : decode cX10_pastOf 4 = .ok (.sipush 360, 3) := by decide +kernel
theorem dX10_pastOf_7 : decode cX10_pastOf 7 = .ok (.bipush 7, 2) := by decide +kernel
theorem dX10_pastOf_9 : decode cX10_pastOf 9 = .ok (.aload_n 0, 1) := by decide +kernel
theorem dX10_pastOf_10 : decode cX10_pastOf 10 = .ok (.getfield 7, 3) := by decide +kernel
theorem dX10_pastOf_13 : decode cX10_pastOf 13 = .ok (.bipush 7, 2) := by decide +kernel
theorem dX10_pastOf_15 : decode cX10_pastOf 15 = .ok (.iaload, 1) := by decide +kernel
theorem dX10_pastOf_16 : decode cX10_pastOf 16 = .ok (.iconst 1, 1) := by decide +kernel
theorem dX10_pastOf_17 : decode cX10_pastOf 17 = .ok (.isub, 1) := by decide +kernel
theorem dX10_pastOf_18 : decode cX10_pastOf 18 = .ok (.iload_n 1, 1) := by decide +kernel
theorem dX10_pastOf_19 : decode cX10_pastOf 19 = .ok (.isub, 1) := by decide +kernel
theorem dX10_pastOf_20 : decode cX10_pastOf 20 = .ok (.bipush 20, 2) := by decide +kernel
theorem dX10_pastOf_22 : decode cX10_pastOf 22 = .ok (.irem, 1) := by decide +kernel
theorem dX10_pastOf_23 : decode cX10_pastOf 23 = .ok (.imul, 1) := by decide +kernel
theorem dX10_pastOf_24 : decode cX10_pastOf 24 = .ok (.iadd, 1) := by decide +kernel
theorem dX10_pastOf_25 : decode cX10_pastOf 25 = .ok (.iload_n 2, 1) := by decide +kernel
theorem dX10_pastOf_26 : decode cX10_pastOf 26 = .ok (.iadd, 1) := by decide +kernel
theorem dX10_pastOf_27 : decode cX10_pastOf 27 = .ok (.iaload, 1) := by decide +kernel
theorem dX10_pastOf_28 : decode cX10_pastOf 28 = .ok (.ireturn, 1) := by decide +kernel
theorem dX10_past_0 : decode cX10_past 0 = .ok (.iload_n 1, 1) := by decide +kernel
theorem dX10_past_1 : decode cX10_past 1 = .ok (.ifCond .lt 13, 3) := by decide +kernel
theorem dX10_past_4 : decode cX10_past 4 = .ok (.iload_n 2, 1) := by decide +kernel
theorem dX10_past_5 : decode cX10_past 5 = .ok (.iconst 0, 1) := by decide +kernel
theorem dX10_past_6 : decode cX10_past 6 = .ok (.bipush 6, 2) := by decide +kernel
theorem dX10_past_8 : decode cX10_past 8 = .ok (.invokestatic 35, 3) := by decide +kernel
theorem dX10_past_11 : decode cX10_past 11 = .ok (.ifCond .ne 6, 3) := by decide +kernel
theorem dX10_past_14 : decode cX10_past 14 = .ok (.ldc 40, 2) := by decide +kernel
theorem dX10_past_16 : decode cX10_past 16 = .ok (.ireturn, 1) := by decide +kernel
theorem dX10_past_17 : decode cX10_past 17 = .ok (.iload_n 1, 1) := by decide +kernel
theorem dX10_past_18 : decode cX10_past 18 = .ok (.bipush 20, 2) := by decide +kernel
theorem dX10_past_20 : decode cX10_past 20 = .ok (.if_icmp .ge 23, 3) := by decide +kernel
theorem dX10_past_23 : decode cX10_past 23 = .ok (.iload_n 1, 1) := by decide +kernel
theorem dX10_past_24 : decode cX10_past 24 = .ok (.aload_n 0, 1) := by decide +kernel
theorem dX10_past_25 : decode cX10_past 25 = .ok (.getfield 7, 3) := by decide +kernel
theorem dX10_past_28 : decode cX10_past 28 = .ok (.bipush 7, 2) := by decide +kernel
theorem dX10_past_30 : decode cX10_past 30 = .ok (.iaload, 1) := by decide +kernel
theorem dX10_past_31 : decode cX10_past 31 = .ok (.if_icmp .ge 12, 3) := by decide +kernel
theorem dX10_past_34 : decode cX10_past 34 = .ok (.aload_n 0, 1) := by decide +kernel
theorem dX10_past_35 : decode cX10_past 35 = .ok (.iload_n 1, 1) := by decide +kernel
theorem dX10_past_36 : decode cX10_past 36 = .ok (.iload_n 2, 1) := by decide +kernel
theorem dX10_past_37 : decode cX10_past 37 = .ok (.invokevirtual 159, 3) := by decide +kernel
theorem dX10_past_40 : decode cX10_past 40 = .ok (.goto 5, 3) := by decide +kernel
theorem dX10_past_43 : decode cX10_past 43 = .ok (.ldc 46, 2) := by decide +kernel
theorem dX10_past_45 : decode cX10_past 45 = .ok (.ireturn, 1) := by decide +kernel
theorem dX10_why_0 : decode cX10_why 0 = .ok (.iload_n 1, 1) := by decide +kernel
theorem dX10_why_1 : decode cX10_why 1 = .ok (.invokestatic 87, 3) := by decide +kernel
theorem dX10_why_4 : decode cX10_why 4 = .ok (.ifCond .eq 17, 3) := by decide +kernel
theorem dX10_why_7 : decode cX10_why 7 = .ok (.aload_n 0, 1) := by decide +kernel
theorem dX10_why_8 : decode cX10_why 8 = .ok (.iload_n 1, 1) := by decide +kernel
theorem dX10_why_9 : decode cX10_why 9 = .ok (.aload_n 0, 1) := by decide +kernel
theorem dX10_why_10 : decode cX10_why 10 = .ok (.getfield 7, 3) := by decide +kernel
theorem dX10_why_13 : decode cX10_why 13 = .ok (.iconst 0, 1) := by decide +kernel
theorem dX10_why_14 : decode cX10_why 14 = .ok (.iaload, 1) := by decide +kernel
theorem dX10_why_15 : decode cX10_why 15 = .ok (.invokevirtual 150, 3) := by decide +kernel
theorem dX10_why_18 : decode cX10_why 18 = .ok (.goto 5, 3) := by decide +kernel
theorem dX10_why_21 : decode cX10_why 21 = .ok (.ldc 40, 2) := by decide +kernel
theorem dX10_why_23 : decode cX10_why 23 = .ok (.ireturn, 1) := by decide +kernel
theorem dX10_silence_0 : decode cX10_silence 0 = .ok (.aload_n 0, 1) := by decide +kernel
theorem dX10_silence_1 : decode cX10_silence 1 = .ok (.getfield 7, 3) := by decide +kernel
theorem dX10_silence_4 : decode cX10_silence 4 = .ok (.bipush 8, 2) := by decide +kernel
theorem dX10_silence_6 : decode cX10_silence 6 = .ok (.iaload, 1) := by decide +kernel
theorem dX10_silence_7 : decode cX10_silence 7 = .ok (.aload_n 0, 1) := by decide +kernel
theorem dX10_silence_8 : decode cX10_silence 8 = .ok (.getfield 7, 3) := by decide +kernel
theorem dX10_silence_11 : decode cX10_silence 11 = .ok (.bipush 9, 2) := by decide +kernel
theorem dX10_silence_13 : decode cX10_silence 13 = .ok (.iaload, 1) := by decide +kernel
theorem dX10_silence_14 : decode cX10_silence 14 = .ok (.iadd, 1) := by decide +kernel
theorem dX10_silence_15 : decode cX10_silence 15 = .ok (.istore_n 1, 1) := by decide +kernel
theorem dX10_silence_16 : decode cX10_silence 16 = .ok (.iload_n 1, 1) := by decide +kernel
theorem dX10_silence_17 : decode cX10_silence 17 = .ok (.ifCond .ne 7, 3) := by decide +kernel
theorem dX10_silence_20 : decode cX10_silence 20 = .ok (.fconst 0, 1) := by decide +kernel
theorem dX10_silence_21 : decode cX10_silence 21 = .ok (.goto 14, 3) := by decide +kernel
theorem dX10_silence_24 : decode cX10_silence 24 = .ok (.aload_n 0, 1) := by decide +kernel
theorem dX10_silence_25 : decode cX10_silence 25 = .ok (.getfield 7, 3) := by decide +kernel
theorem dX10_silence_28 : decode cX10_silence 28 = .ok (.bipush 9, 2) := by decide +kernel
theorem dX10_silence_30 : decode cX10_silence 30 = .ok (.iaload, 1) := by decide +kernel
theorem dX10_silence_31 : decode cX10_silence 31 = .ok (.i2f, 1) := by decide +kernel
theorem dX10_silence_32 : decode cX10_silence 32 = .ok (.iload_n 1, 1) := by decide +kernel
theorem dX10_silence_33 : decode cX10_silence 33 = .ok (.i2f, 1) := by decide +kernel
theorem dX10_silence_34 : decode cX10_silence 34 = .ok (.fdiv, 1) := by decide +kernel
theorem dX10_silence_35 : decode cX10_silence 35 = .ok (.freturn, 1) := by decide +kernel
theorem dX10_waitOf_0 : decode cX10_waitOf 0 = .ok (.iload_n 0, 1) := by decide +kernel
theorem dX10_waitOf_1 : decode cX10_waitOf 1 = .ok (.ifCond .ne 7, 3) := by decide +kernel
theorem dX10_waitOf_4 : decode cX10_waitOf 4 = .ok (.iconst 1, 1) := by decide +kernel
theorem dX10_waitOf_5 : decode cX10_waitOf 5 = .ok (.goto 47, 3) := by decide +kernel
theorem dX10_waitOf_8 : decode cX10_waitOf 8 = .ok (.iload_n 0, 1) := by decide +kernel
theorem dX10_waitOf_9 : decode cX10_waitOf 9 = .ok (.iconst 1, 1) := by decide +kernel
theorem dX10_waitOf_10 : decode cX10_waitOf 10 = .ok (.if_icmp .ne 8, 3) := by decide +kernel
theorem dX10_waitOf_13 : decode cX10_waitOf 13 = .ok (.bipush 10, 2) := by decide +kernel
theorem dX10_waitOf_15 : decode cX10_waitOf 15 = .ok (.goto 37, 3) := by decide +kernel
theorem dX10_waitOf_18 : decode cX10_waitOf 18 = .ok (.iload_n 0, 1) := by decide +kernel
theorem dX10_waitOf_19 : decode cX10_waitOf 19 = .ok (.iconst 2, 1) := by decide +kernel
theorem dX10_waitOf_20 : decode cX10_waitOf 20 = .ok (.if_icmp .ne 8, 3) := by decide +kernel
theorem dX10_waitOf_23 : decode cX10_waitOf 23 = .ok (.bipush 30, 2) := by decide +kernel
theorem dX10_waitOf_25 : decode cX10_waitOf 25 = .ok (.goto 27, 3) := by decide +kernel
theorem dX10_waitOf_28 : decode cX10_waitOf 28 = .ok (.iload_n 0, 1) := by decide +kernel
theorem dX10_waitOf_29 : decode cX10_waitOf 29 = .ok (.iconst 3, 1) := by decide +kernel
theorem dX10_waitOf_30 : decode cX10_waitOf 30 = .ok (.if_icmp .ne 8, 3) := by decide +kernel
theorem dX10_waitOf_33 : decode cX10_waitOf 33 = .ok (.bipush 100, 2) := by decide +kernel
theorem dX10_waitOf_35 : decode cX10_waitOf 35 = .ok (.goto 17, 3) := by decide +kernel
theorem dX10_waitOf_38 : decode cX10_waitOf 38 = .ok (.iload_n 0, 1) := by decide +kernel
theorem dX10_waitOf_39 : decode cX10_waitOf 39 = .ok (.iconst 4, 1) := by decide +kernel
theorem dX10_waitOf_40 : decode cX10_waitOf 40 = .ok (.if_icmp .ne 9, 3) := by decide +kernel
theorem dX10_waitOf_43 : decode cX10_waitOf 43 = .ok (.sipush 300, 3) := by decide +kernel
theorem dX10_waitOf_46 : decode cX10_waitOf 46 = .ok (.goto 6, 3) := by decide +kernel
theorem dX10_waitOf_49 : decode cX10_waitOf 49 = .ok (.sipush 1000, 3) := by decide +kernel
theorem dX10_waitOf_52 : decode cX10_waitOf 52 = .ok (.ireturn, 1) := by decide +kernel
theorem dX10_bestWait_0 : decode cX10_bestWait 0 = .ok (.ldc 46, 2) := by decide +kernel
theorem dX10_bestWait_2 : decode cX10_bestWait 2 = .ok (.istore_n 1, 1) := by decide +kernel
theorem dX10_bestWait_3 : decode cX10_bestWait 3 = .ok (.lconst 0, 1) := by decide +kernel
theorem dX10_bestWait_4 : decode cX10_bestWait 4 = .ok (.lstore_n 2, 1) := by decide +kernel
theorem dX10_bestWait_5 : decode cX10_bestWait 5 = .ok (.iconst 0, 1) := by decide +kernel
theorem dX10_bestWait_6 : decode cX10_bestWait 6 = .ok (.istore 4, 2) := by decide +kernel
theorem dX10_bestWait_8 : decode cX10_bestWait 8 = .ok (.iload 4, 2) := by decide +kernel
theorem dX10_bestWait_10 : decode cX10_bestWait 10 = .ok (.bipush 6, 2) := by decide +kernel
theorem dX10_bestWait_12 : decode cX10_bestWait 12 = .ok (.if_icmp .ge 84, 3) := by decide +kernel
theorem dX10_bestWait_15 : decode cX10_bestWait 15 = .ok (.lconst 0, 1) := by decide +kernel
theorem dX10_bestWait_16 : decode cX10_bestWait 16 = .ok (.lstore 5, 2) := by decide +kernel
theorem dX10_bestWait_18 : decode cX10_bestWait 18 = .ok (.iconst 0, 1) := by decide +kernel
theorem dX10_bestWait_19 : decode cX10_bestWait 19 = .ok (.istore 7, 2) := by decide +kernel
theorem dX10_bestWait_21 : decode cX10_bestWait 21 = .ok (.iconst 0, 1) := by decide +kernel
theorem dX10_bestWait_22 : decode cX10_bestWait 22 = .ok (.istore 8, 2) := by decide +kernel
theorem dX10_bestWait_24 : decode cX10_bestWait 24 = .ok (.iload 8, 2) := by decide +kernel
theorem dX10_bestWait_26 : decode cX10_bestWait 26 = .ok (.sipush 200, 3) := by decide +kernel
theorem dX10_bestWait_29 : decode cX10_bestWait 29 = .ok (.if_icmp .ge 36, 3) := by decide +kernel
theorem dX10_bestWait_32 : decode cX10_bestWait 32 = .ok (.aload_n 0, 1) := by decide +kernel
theorem dX10_bestWait_33 : decode cX10_bestWait 33 = .ok (.iload 8, 2) := by decide +kernel
theorem dX10_bestWait_35 : decode cX10_bestWait 35 = .ok (.iload 4, 2) := by decide +kernel
theorem dX10_bestWait_37 : decode cX10_bestWait 37 = .ok (.invokestatic 162, 3) := by decide +kernel
theorem dX10_bestWait_40 : decode cX10_bestWait 40 = .ok (.invokevirtual 150, 3) := by decide +kernel
theorem dX10_bestWait_43 : decode cX10_bestWait 43 = .ok (.ifCond .ne 16, 3) := by decide +kernel
theorem dX10_bestWait_46 : decode cX10_bestWait 46 = .ok (.lload 5, 2) := by decide +kernel
theorem dX10_bestWait_48 : decode cX10_bestWait 48 = .ok (.aload_n 0, 1) := by decide +kernel
theorem dX10_bestWait_49 : decode cX10_bestWait 49 = .ok (.getfield 144, 3) := by decide +kernel
theorem dX10_bestWait_52 : decode cX10_bestWait 52 = .ok (.i2l, 1) := by decide +kernel
theorem dX10_bestWait_53 : decode cX10_bestWait 53 = .ok (.ladd, 1) := by decide +kernel
theorem dX10_bestWait_54 : decode cX10_bestWait 54 = .ok (.lstore 5, 2) := by decide +kernel
theorem dX10_bestWait_56 : decode cX10_bestWait 56 = .ok (.iinc 7 1, 3) := by decide +kernel
theorem dX10_bestWait_59 : decode cX10_bestWait 59 = .ok (.iinc 8 1, 3) := by decide +kernel
theorem dX10_bestWait_62 : decode cX10_bestWait 62 = .ok (.goto (-38), 3) := by decide +kernel
theorem dX10_bestWait_65 : decode cX10_bestWait 65 = .ok (.iload 7, 2) := by decide +kernel
theorem dX10_bestWait_67 : decode cX10_bestWait 67 = .ok (.ifCond .le 23, 3) := by decide +kernel
theorem dX10_bestWait_70 : decode cX10_bestWait 70 = .ok (.iload_n 1, 1) := by decide +kernel
theorem dX10_bestWait_71 : decode cX10_bestWait 71 = .ok (.ifCond .lt 10, 3) := by decide +kernel
theorem dX10_bestWait_74 : decode cX10_bestWait 74 = .ok (.lload 5, 2) := by decide +kernel
theorem dX10_bestWait_76 : decode cX10_bestWait 76 = .ok (.lload_n 2, 1) := by decide +kernel
theorem dX10_bestWait_77 : decode cX10_bestWait 77 = .ok (.lcmp, 1) := by decide +kernel
theorem dX10_bestWait_78 : decode cX10_bestWait 78 = .ok (.ifCond .ge 12, 3) := by decide +kernel
theorem dX10_bestWait_81 : decode cX10_bestWait 81 = .ok (.iload 4, 2) := by decide +kernel
theorem dX10_bestWait_83 : decode cX10_bestWait 83 = .ok (.invokestatic 162, 3) := by decide +kernel
theorem dX10_bestWait_86 : decode cX10_bestWait 86 = .ok (.istore_n 1, 1) := by decide +kernel
theorem dX10_bestWait_87 : decode cX10_bestWait 87 = .ok (.lload 5, 2) := by decide +kernel
theorem dX10_bestWait_89 : decode cX10_bestWait 89 = .ok (.lstore_n 2, 1) := by decide +kernel
theorem dX10_bestWait_90 : decode cX10_bestWait 90 = .ok (.iinc 4 1, 3) := by decide +kernel
theorem dX10_bestWait_93 : decode cX10_bestWait 93 = .ok (.goto (-85), 3) := by decide +kernel
theorem dX10_bestWait_96 : decode cX10_bestWait 96 = .ok (.iload_n 1, 1) := by decide +kernel
theorem dX10_bestWait_97 : decode cX10_bestWait 97 = .ok (.ireturn, 1) := by decide +kernel
theorem dX10_undo_0 : decode cX10_undo 0 = .ok (.aload_n 0, 1) := by decide +kernel
theorem dX10_undo_1 : decode cX10_undo 1 = .ok (.getfield 28, 3) := by decide +kernel
theorem dX10_undo_4 : decode cX10_undo 4 = .ok (.ifCond .ne 6, 3) := by decide +kernel
theorem dX10_undo_7 : decode cX10_undo 7 = .ok (.ldc 46, 2) := by decide +kernel
theorem dX10_undo_9 : decode cX10_undo 9 = .ok (.ireturn, 1) := by decide +kernel
theorem dX10_undo_10 : decode cX10_undo 10 = .ok (.aload_n 0, 1) := by decide +kernel
theorem dX10_undo_11 : decode cX10_undo 11 = .ok (.dup, 1) := by decide +kernel
theorem dX10_undo_12 : decode cX10_undo 12 = .ok (.getfield 28, 3) := by decide +kernel
theorem dX10_undo_15 : decode cX10_undo 15 = .ok (.iconst 1, 1) := by decide +kernel
theorem dX10_undo_16 : decode cX10_undo 16 = .ok (.isub, 1) := by decide +kernel
theorem dX10_undo_17 : decode cX10_undo 17 = .ok (.putfield 28, 3) := by decide +kernel
theorem dX10_undo_20 : decode cX10_undo 20 = .ok (.iconst 0, 1) := by decide +kernel
theorem dX10_undo_21 : decode cX10_undo 21 = .ok (.istore_n 1, 1) := by decide +kernel
theorem dX10_undo_22 : decode cX10_undo 22 = .ok (.iload_n 1, 1) := by decide +kernel
theorem dX10_undo_23 : decode cX10_undo 23 = .ok (.sipush 520, 3) := by decide +kernel
theorem dX10_undo_26 : decode cX10_undo 26 = .ok (.if_icmp .ge 30, 3) := by decide +kernel
theorem dX10_undo_29 : decode cX10_undo 29 = .ok (.aload_n 0, 1) := by decide +kernel
theorem dX10_undo_30 : decode cX10_undo 30 = .ok (.getfield 7, 3) := by decide +kernel
theorem dX10_undo_33 : decode cX10_undo 33 = .ok (.iload_n 1, 1) := by decide +kernel
theorem dX10_undo_34 : decode cX10_undo 34 = .ok (.aload_n 0, 1) := by decide +kernel
theorem dX10_undo_35 : decode cX10_undo 35 = .ok (.getfield 13, 3) := by decide +kernel
theorem dX10_undo_38 : decode cX10_undo 38 = .ok (.sipush 520, 3) := by decide +kernel
theorem dX10_undo_41 : decode cX10_undo 41 = .ok (.aload_n 0, 1) := by decide +kernel
theorem dX10_undo_42 : decode cX10_undo 42 = .ok (.getfield 28, 3) := by decide +kernel
theorem dX10_undo_45 : decode cX10_undo 45 = .ok (.imul, 1) := by decide +kernel
theorem dX10_undo_46 : decode cX10_undo 46 = .ok (.iload_n 1, 1) := by decide +kernel
theorem dX10_undo_47 : decode cX10_undo 47 = .ok (.iadd, 1) := by decide +kernel
theorem dX10_undo_48 : decode cX10_undo 48 = .ok (.iaload, 1) := by decide +kernel
theorem dX10_undo_49 : decode cX10_undo 49 = .ok (.iastore, 1) := by decide +kernel
theorem dX10_undo_50 : decode cX10_undo 50 = .ok (.iinc 1 1, 3) := by decide +kernel
theorem dX10_undo_53 : decode cX10_undo 53 = .ok (.goto (-31), 3) := by decide +kernel
theorem dX10_undo_56 : decode cX10_undo 56 = .ok (.aload_n 0, 1) := by decide +kernel
theorem dX10_undo_57 : decode cX10_undo 57 = .ok (.getfield 28, 3) := by decide +kernel
theorem dX10_undo_60 : decode cX10_undo 60 = .ok (.ireturn, 1) := by decide +kernel
theorem dX10_fingerprint_0 : decode cX10_fingerprint 0 = .ok (.ldc2_w 165, 3) := by decide +kernel
theorem dX10_fingerprint_3 : decode cX10_fingerprint 3 = .ok (.lstore_n 1, 1) := by decide +kernel
theorem dX10_fingerprint_4 : decode cX10_fingerprint 4 = .ok (.iconst 0, 1) := by decide +kernel
theorem dX10_fingerprint_5 : decode cX10_fingerprint 5 = .ok (.istore_n 3, 1) := by decide +kernel
theorem dX10_fingerprint_6 : decode cX10_fingerprint 6 = .ok (.iload_n 3, 1) := by decide +kernel
theorem dX10_fingerprint_7 : decode cX10_fingerprint 7 = .ok (.bipush 10, 2) := by decide +kernel
theorem dX10_fingerprint_9 : decode cX10_fingerprint 9 = .ok (.if_icmp .ge 23, 3) := by decide +kernel
theorem dX10_fingerprint_12 : decode cX10_fingerprint 12 = .ok (.ldc2_w 167, 3) := by decide +kernel
theorem dX10_fingerprint_15 : decode cX10_fingerprint 15 = .ok (.lload_n 1, 1) := by decide +kernel
theorem dX10_fingerprint_16 : decode cX10_fingerprint 16 = .ok (.lmul, 1) := by decide +kernel
theorem dX10_fingerprint_17 : decode cX10_fingerprint 17 = .ok (.aload_n 0, 1) := by decide +kernel
theorem dX10_fingerprint_18 : decode cX10_fingerprint 18 = .ok (.getfield 7, 3) := by decide +kernel
theorem dX10_fingerprint_21 : decode cX10_fingerprint 21 = .ok (.iload_n 3, 1) := by decide +kernel
theorem dX10_fingerprint_22 : decode cX10_fingerprint 22 = .ok (.iaload, 1) := by decide +kernel
theorem dX10_fingerprint_23 : decode cX10_fingerprint 23 = .ok (.i2l, 1) := by decide +kernel
theorem dX10_fingerprint_24 : decode cX10_fingerprint 24 = .ok (.ladd, 1) := by decide +kernel
theorem dX10_fingerprint_25 : decode cX10_fingerprint 25 = .ok (.lstore_n 1, 1) := by decide +kernel
theorem dX10_fingerprint_26 : decode cX10_fingerprint 26 = .ok (.iinc 3 1, 3) := by decide +kernel
theorem dX10_fingerprint_29 : decode cX10_fingerprint 29 = .ok (.goto (-23), 3) := by decide +kernel
theorem dX10_fingerprint_32 : decode cX10_fingerprint 32 = .ok (.iconst 0, 1) := by decide +kernel
theorem dX10_fingerprint_33 : decode cX10_fingerprint 33 = .ok (.istore_n 3, 1) := by decide +kernel
theorem dX10_fingerprint_34 : decode cX10_fingerprint 34 = .ok (.iload_n 3, 1) := by decide +kernel
theorem dX10_fingerprint_35 : decode cX10_fingerprint 35 = .ok (.aload_n 0, 1) := by decide +kernel
theorem dX10_fingerprint_36 : decode cX10_fingerprint 36 = .ok (.getfield 7, 3) := by decide +kernel
theorem dX10_fingerprint_39 : decode cX10_fingerprint 39 = .ok (.iconst 5, 1) := by decide +kernel
theorem dX10_fingerprint_40 : decode cX10_fingerprint 40 = .ok (.iaload, 1) := by decide +kernel
theorem dX10_fingerprint_41 : decode cX10_fingerprint 41 = .ok (.if_icmp .ge 40, 3) := by decide +kernel
theorem dX10_fingerprint_44 : decode cX10_fingerprint 44 = .ok (.iconst 0, 1) := by decide +kernel
theorem dX10_fingerprint_45 : decode cX10_fingerprint 45 = .ok (.istore 4, 2) := by decide +kernel
theorem dX10_fingerprint_47 : decode cX10_fingerprint 47 = .ok (.iload 4, 2) := by decide +kernel
theorem dX10_fingerprint_49 : decode cX10_fingerprint 49 = .ok (.bipush 9, 2) := by decide +kernel
theorem dX10_fingerprint_51 : decode cX10_fingerprint 51 = .ok (.if_icmp .ge 24, 3) := by decide +kernel
theorem dX10_fingerprint_54 : decode cX10_fingerprint 54 = .ok (.ldc2_w 167, 3) := by decide +kernel
theorem dX10_fingerprint_57 : decode cX10_fingerprint 57 = .ok (.lload_n 1, 1) := by decide +kernel
theorem dX10_fingerprint_58 : decode cX10_fingerprint 58 = .ok (.lmul, 1) := by decide +kernel
theorem dX10_fingerprint_59 : decode cX10_fingerprint 59 = .ok (.aload_n 0, 1) := by decide +kernel
theorem dX10_fingerprint_60 : decode cX10_fingerprint 60 = .ok (.iload_n 3, 1) := by decide +kernel
theorem dX10_fingerprint_61 : decode cX10_fingerprint 61 = .ok (.iload 4, 2) := by decide +kernel
theorem dX10_fingerprint_63 : decode cX10_fingerprint 63 = .ok (.invokevirtual 58, 3) := by decide +kernel
theorem dX10_fingerprint_66 : decode cX10_fingerprint 66 = .ok (.i2l, 1) := by decide +kernel
theorem dX10_fingerprint_67 : decode cX10_fingerprint 67 = .ok (.ladd, 1) := by decide +kernel
theorem dX10_fingerprint_68 : decode cX10_fingerprint 68 = .ok (.lstore_n 1, 1) := by decide +kernel
theorem dX10_fingerprint_69 : decode cX10_fingerprint 69 = .ok (.iinc 4 1, 3) := by decide +kernel
theorem dX10_fingerprint_72 : decode cX10_fingerprint 72 = .ok (.goto (-25), 3) := by decide +kernel
theorem dX10_fingerprint_75 : decode cX10_fingerprint 75 = .ok (.iinc 3 1, 3) := by decide +kernel
theorem dX10_fingerprint_78 : decode cX10_fingerprint 78 = .ok (.goto (-44), 3) := by decide +kernel
theorem dX10_fingerprint_81 : decode cX10_fingerprint 81 = .ok (.ldc2_w 167, 3) := by decide +kernel
theorem dX10_fingerprint_84 : decode cX10_fingerprint 84 = .ok (.lload_n 1, 1) := by decide +kernel
theorem dX10_fingerprint_85 : decode cX10_fingerprint 85 = .ok (.lmul, 1) := by decide +kernel
theorem dX10_fingerprint_86 : decode cX10_fingerprint 86 = .ok (.aload_n 0, 1) := by decide +kernel
theorem dX10_fingerprint_87 : decode cX10_fingerprint 87 = .ok (.getfield 7, 3) := by decide +kernel
theorem dX10_fingerprint_90 : decode cX10_fingerprint 90 = .ok (.bipush 6, 2) := by decide +kernel
theorem dX10_fingerprint_92 : decode cX10_fingerprint 92 = .ok (.iaload, 1) := by decide +kernel
theorem dX10_fingerprint_93 : decode cX10_fingerprint 93 = .ok (.ifCond .ne 9, 3) := by decide +kernel
theorem dX10_fingerprint_96 : decode cX10_fingerprint 96 = .ok (.ldc2_w 85, 3) := by decide +kernel
theorem dX10_fingerprint_99 : decode cX10_fingerprint 99 = .ok (.goto 11, 3) := by decide +kernel
theorem dX10_fingerprint_102 : decode cX10_fingerprint 102 = .ok (.aload_n 0, 1) := by decide +kernel
theorem dX10_fingerprint_103 : decode cX10_fingerprint 103 = .ok (.getfield 7, 3) := by decide +kernel
theorem dX10_fingerprint_106 : decode cX10_fingerprint 106 = .ok (.bipush 10, 2) := by decide +kernel
theorem dX10_fingerprint_108 : decode cX10_fingerprint 108 = .ok (.iaload, 1) := by decide +kernel
theorem dX10_fingerprint_109 : decode cX10_fingerprint 109 = .ok (.i2l, 1) := by decide +kernel
theorem dX10_fingerprint_110 : decode cX10_fingerprint 110 = .ok (.ladd, 1) := by decide +kernel
theorem dX10_fingerprint_111 : decode cX10_fingerprint 111 = .ok (.lstore_n 1, 1) := by decide +kernel
theorem dX10_fingerprint_112 : decode cX10_fingerprint 112 = .ok (.iconst 0, 1) := by decide +kernel
theorem dX10_fingerprint_113 : decode cX10_fingerprint 113 = .ok (.istore_n 3, 1) := by decide +kernel
theorem dX10_fingerprint_114 : decode cX10_fingerprint 114 = .ok (.iload_n 3, 1) := by decide +kernel
theorem dX10_fingerprint_115 : decode cX10_fingerprint 115 = .ok (.aload_n 0, 1) := by decide +kernel
theorem dX10_fingerprint_116 : decode cX10_fingerprint 116 = .ok (.getfield 7, 3) := by decide +kernel
theorem dX10_fingerprint_119 : decode cX10_fingerprint 119 = .ok (.bipush 11, 2) := by decide +kernel
theorem dX10_fingerprint_121 : decode cX10_fingerprint 121 = .ok (.iaload, 1) := by decide +kernel
theorem dX10_fingerprint_122 : decode cX10_fingerprint 122 = .ok (.if_icmp .ge 26, 3) := by decide +kernel
theorem dX10_fingerprint_125 : decode cX10_fingerprint 125 = .ok (.ldc2_w 167, 3) := by decide +kernel
theorem dX10_fingerprint_128 : decode cX10_fingerprint 128 = .ok (.lload_n 1, 1) := by decide +kernel
theorem dX10_fingerprint_129 : decode cX10_fingerprint 129 = .ok (.lmul, 1) := by decide +kernel
theorem dX10_fingerprint_130 : decode cX10_fingerprint 130 = .ok (.aload_n 0, 1) := by decide +kernel
theorem dX10_fingerprint_131 : decode cX10_fingerprint 131 = .ok (.getfield 7, 3) := by decide +kernel
theorem dX10_fingerprint_134 : decode cX10_fingerprint 134 = .ok (.bipush 12, 2) := by decide +kernel
theorem dX10_fingerprint_136 : decode cX10_fingerprint 136 = .ok (.iload_n 3, 1) := by decide +kernel
theorem dX10_fingerprint_137 : decode cX10_fingerprint 137 = .ok (.iadd, 1) := by decide +kernel
theorem dX10_fingerprint_138 : decode cX10_fingerprint 138 = .ok (.iaload, 1) := by decide +kernel
theorem dX10_fingerprint_139 : decode cX10_fingerprint 139 = .ok (.i2l, 1) := by decide +kernel
theorem dX10_fingerprint_140 : decode cX10_fingerprint 140 = .ok (.ladd, 1) := by decide +kernel
theorem dX10_fingerprint_141 : decode cX10_fingerprint 141 = .ok (.lstore_n 1, 1) := by decide +kernel
theorem dX10_fingerprint_142 : decode cX10_fingerprint 142 = .ok (.iinc 3 1, 3) := by decide +kernel
theorem dX10_fingerprint_145 : decode cX10_fingerprint 145 = .ok (.goto (-31), 3) := by decide +kernel
theorem dX10_fingerprint_148 : decode cX10_fingerprint 148 = .ok (.iconst 0, 1) := by decide +kernel
theorem dX10_fingerprint_149 : decode cX10_fingerprint 149 = .ok (.istore_n 3, 1) := by decide +kernel
theorem dX10_fingerprint_150 : decode cX10_fingerprint 150 = .ok (.iload_n 3, 1) := by decide +kernel
theorem dX10_fingerprint_151 : decode cX10_fingerprint 151 = .ok (.sipush 200, 3) := by decide +kernel
theorem dX10_fingerprint_154 : decode cX10_fingerprint 154 = .ok (.if_icmp .ge 47, 3) := by decide +kernel
theorem dX10_fingerprint_157 : decode cX10_fingerprint 157 = .ok (.aload_n 0, 1) := by decide +kernel
theorem dX10_fingerprint_158 : decode cX10_fingerprint 158 = .ok (.getfield 7, 3) := by decide +kernel
theorem dX10_fingerprint_161 : decode cX10_fingerprint 161 = .ok (.sipush 150, 3) := by decide +kernel
theorem dX10_fingerprint_164 : decode cX10_fingerprint 164 = .ok (.iload_n 3, 1) := by decide +kernel
theorem dX10_fingerprint_165 : decode cX10_fingerprint 165 = .ok (.iadd, 1) := by decide +kernel
theorem dX10_fingerprint_166 : decode cX10_fingerprint 166 = .ok (.iaload, 1) := by decide +kernel
theorem dX10_fingerprint_167 : decode cX10_fingerprint 167 = .ok (.ifCond .eq 28, 3) := by decide +kernel
theorem dX10_fingerprint_170 : decode cX10_fingerprint 170 = .ok (.ldc2_w 167, 3) := by decide +kernel
theorem dX10_fingerprint_173 : decode cX10_fingerprint 173 = .ok (.ldc2_w 167, 3) := by decide +kernel
theorem dX10_fingerprint_176 : decode cX10_fingerprint 176 = .ok (.lload_n 1, 1) := by decide +kernel
theorem dX10_fingerprint_177 : decode cX10_fingerprint 177 = .ok (.lmul, 1) := by decide +kernel
theorem dX10_fingerprint_178 : decode cX10_fingerprint 178 = .ok (.iload_n 3, 1) := by decide +kernel
theorem dX10_fingerprint_179 : decode cX10_fingerprint 179 = .ok (.i2l, 1) := by decide +kernel
theorem dX10_fingerprint_180 : decode cX10_fingerprint 180 = .ok (.ladd, 1) := by decide +kernel
theorem dX10_fingerprint_181 : decode cX10_fingerprint 181 = .ok (.lmul, 1) := by decide +kernel
theorem dX10_fingerprint_182 : decode cX10_fingerprint 182 = .ok (.aload_n 0, 1) := by decide +kernel
theorem dX10_fingerprint_183 : decode cX10_fingerprint 183 = .ok (.getfield 7, 3) := by decide +kernel
theorem dX10_fingerprint_186 : decode cX10_fingerprint 186 = .ok (.sipush 150, 3) := by decide +kernel
theorem dX10_fingerprint_189 : decode cX10_fingerprint 189 = .ok (.iload_n 3, 1) := by decide +kernel
theorem dX10_fingerprint_190 : decode cX10_fingerprint 190 = .ok (.iadd, 1) := by decide +kernel
theorem dX10_fingerprint_191 : decode cX10_fingerprint 191 = .ok (.iaload, 1) := by decide +kernel
theorem dX10_fingerprint_192 : decode cX10_fingerprint 192 = .ok (.i2l, 1) := by decide +kernel
theorem dX10_fingerprint_193 : decode cX10_fingerprint 193 = .ok (.ladd, 1) := by decide +kernel
theorem dX10_fingerprint_194 : decode cX10_fingerprint 194 = .ok (.lstore_n 1, 1) := by decide +kernel
theorem dX10_fingerprint_195 : decode cX10_fingerprint 195 = .ok (.iinc 3 1, 3) := by decide +kernel
theorem dX10_fingerprint_198 : decode cX10_fingerprint 198 = .ok (.goto (-48), 3) := by decide +kernel
theorem dX10_fingerprint_201 : decode cX10_fingerprint 201 = .ok (.iconst 0, 1) := by decide +kernel
theorem dX10_fingerprint_202 : decode cX10_fingerprint 202 = .ok (.istore_n 3, 1) := by decide +kernel
theorem dX10_fingerprint_203 : decode cX10_fingerprint 203 = .ok (.iload_n 3, 1) := by decide +kernel
theorem dX10_fingerprint_204 : decode cX10_fingerprint 204 = .ok (.bipush 20, 2) := by decide +kernel
theorem dX10_fingerprint_206 : decode cX10_fingerprint 206 = .ok (.if_icmp .ge 51, 3) := by decide +kernel
theorem dX10_fingerprint_209 : decode cX10_fingerprint 209 = .ok (.iload_n 3, 1) := by decide +kernel
theorem dX10_fingerprint_210 : decode cX10_fingerprint 210 = .ok (.aload_n 0, 1) := by decide +kernel
theorem dX10_fingerprint_211 : decode cX10_fingerprint 211 = .ok (.getfield 7, 3) := by decide +kernel
theorem dX10_fingerprint_214 : decode cX10_fingerprint 214 = .ok (.bipush 7, 2) := by decide +kernel
theorem dX10_fingerprint_216 : decode cX10_fingerprint 216 = .ok (.iaload, 1) := by decide +kernel
theorem dX10_fingerprint_217 : decode cX10_fingerprint 217 = .ok (.if_icmp .ge 40, 3) := by decide +kernel
theorem dX10_fingerprint_220 : decode cX10_fingerprint 220 = .ok (.iconst 0, 1) := by decide +kernel
theorem dX10_fingerprint_221 : decode cX10_fingerprint 221 = .ok (.istore 4, 2) := by decide +kernel
theorem dX10_fingerprint_223 : decode cX10_fingerprint 223 = .ok (.iload 4, 2) := by decide +kernel
theorem dX10_fingerprint_225 : decode cX10_fingerprint 225 = .ok (.bipush 7, 2) := by decide +kernel
theorem dX10_fingerprint_227 : decode cX10_fingerprint 227 = .ok (.if_icmp .ge 24, 3) := by decide +kernel
theorem dX10_fingerprint_230 : decode cX10_fingerprint 230 = .ok (.ldc2_w 167, 3) := by decide +kernel
theorem dX10_fingerprint_233 : decode cX10_fingerprint 233 = .ok (.lload_n 1, 1) := by decide +kernel
theorem dX10_fingerprint_234 : decode cX10_fingerprint 234 = .ok (.lmul, 1) := by decide +kernel
theorem dX10_fingerprint_235 : decode cX10_fingerprint 235 = .ok (.aload_n 0, 1) := by decide +kernel
theorem dX10_fingerprint_236 : decode cX10_fingerprint 236 = .ok (.iload_n 3, 1) := by decide +kernel
theorem dX10_fingerprint_237 : decode cX10_fingerprint 237 = .ok (.iload 4, 2) := by decide +kernel
theorem dX10_fingerprint_239 : decode cX10_fingerprint 239 = .ok (.invokevirtual 159, 3) := by decide +kernel
theorem dX10_fingerprint_242 : decode cX10_fingerprint 242 = .ok (.i2l, 1) := by decide +kernel
theorem dX10_fingerprint_243 : decode cX10_fingerprint 243 = .ok (.ladd, 1) := by decide +kernel
theorem dX10_fingerprint_244 : decode cX10_fingerprint 244 = .ok (.lstore_n 1, 1) := by decide +kernel
theorem dX10_fingerprint_245 : decode cX10_fingerprint 245 = .ok (.iinc 4 1, 3) := by decide +kernel
theorem dX10_fingerprint_248 : decode cX10_fingerprint 248 = .ok (.goto (-25), 3) := by decide +kernel
theorem dX10_fingerprint_251 : decode cX10_fingerprint 251 = .ok (.iinc 3 1, 3) := by decide +kernel
theorem dX10_fingerprint_254 : decode cX10_fingerprint 254 = .ok (.goto (-51), 3) := by decide +kernel
theorem dX10_fingerprint_257 : decode cX10_fingerprint 257 = .ok (.lload_n 1, 1) := by decide +kernel
theorem dX10_fingerprint_258 : decode cX10_fingerprint 258 = .ok (.lreturn, 1) := by decide +kernel
theorem dJ6_bitCount_0f7a4_0 : decode cJ6_bitCount_0f7a4 0 = .ok (.iload_n 0, 1) := by decide +kernel
theorem dJ6_bitCount_0f7a4_1 : decode cJ6_bitCount_0f7a4 1 = .ok (.iload_n 0, 1) := by decide +kernel
theorem dJ6_bitCount_0f7a4_2 : decode cJ6_bitCount_0f7a4 2 = .ok (.iconst 1, 1) := by decide +kernel
theorem dJ6_bitCount_0f7a4_3 : decode cJ6_bitCount_0f7a4 3 = .ok (.iushr, 1) := by decide +kernel
theorem dJ6_bitCount_0f7a4_4 : decode cJ6_bitCount_0f7a4 4 = .ok (.ldc_w 265, 3) := by decide +kernel
theorem dJ6_bitCount_0f7a4_7 : decode cJ6_bitCount_0f7a4 7 = .ok (.iand, 1) := by decide +kernel
theorem dJ6_bitCount_0f7a4_8 : decode cJ6_bitCount_0f7a4 8 = .ok (.isub, 1) := by decide +kernel
theorem dJ6_bitCount_0f7a4_9 : decode cJ6_bitCount_0f7a4 9 = .ok (.istore_n 0, 1) := by decide +kernel
theorem dJ6_bitCount_0f7a4_10 : decode cJ6_bitCount_0f7a4 10 = .ok (.iload_n 0, 1) := by decide +kernel
theorem dJ6_bitCount_0f7a4_11 : decode cJ6_bitCount_0f7a4 11 = .ok (.ldc_w 266, 3) := by decide +kernel
theorem dJ6_bitCount_0f7a4_14 : decode cJ6_bitCount_0f7a4 14 = .ok (.iand, 1) := by decide +kernel
theorem dJ6_bitCount_0f7a4_15 : decode cJ6_bitCount_0f7a4 15 = .ok (.iload_n 0, 1) := by decide +kernel
theorem dJ6_bitCount_0f7a4_16 : decode cJ6_bitCount_0f7a4 16 = .ok (.iconst 2, 1) := by decide +kernel
theorem dJ6_bitCount_0f7a4_17 : decode cJ6_bitCount_0f7a4 17 = .ok (.iushr, 1) := by decide +kernel
theorem dJ6_bitCount_0f7a4_18 : decode cJ6_bitCount_0f7a4 18 = .ok (.ldc_w 266, 3) := by decide +kernel
theorem dJ6_bitCount_0f7a4_21 : decode cJ6_bitCount_0f7a4 21 = .ok (.iand, 1) := by decide +kernel
theorem dJ6_bitCount_0f7a4_22 : decode cJ6_bitCount_0f7a4 22 = .ok (.iadd, 1) := by decide +kernel
theorem dJ6_bitCount_0f7a4_23 : decode cJ6_bitCount_0f7a4 23 = .ok (.istore_n 0, 1) := by decide +kernel
theorem dJ6_bitCount_0f7a4_24 : decode cJ6_bitCount_0f7a4 24 = .ok (.iload_n 0, 1) := by decide +kernel
theorem dJ6_bitCount_0f7a4_25 : decode cJ6_bitCount_0f7a4 25 = .ok (.iload_n 0, 1) := by decide +kernel
theorem dJ6_bitCount_0f7a4_26 : decode cJ6_bitCount_0f7a4 26 = .ok (.iconst 4, 1) := by decide +kernel
theorem dJ6_bitCount_0f7a4_27 : decode cJ6_bitCount_0f7a4 27 = .ok (.iushr, 1) := by decide +kernel
theorem dJ6_bitCount_0f7a4_28 : decode cJ6_bitCount_0f7a4 28 = .ok (.iadd, 1) := by decide +kernel
theorem dJ6_bitCount_0f7a4_29 : decode cJ6_bitCount_0f7a4 29 = .ok (.ldc_w 267, 3) := by decide +kernel
theorem dJ6_bitCount_0f7a4_32 : decode cJ6_bitCount_0f7a4 32 = .ok (.iand, 1) := by decide +kernel
theorem dJ6_bitCount_0f7a4_33 : decode cJ6_bitCount_0f7a4 33 = .ok (.istore_n 0, 1) := by decide +kernel
theorem dJ6_bitCount_0f7a4_34 : decode cJ6_bitCount_0f7a4 34 = .ok (.iload_n 0, 1) := by decide +kernel
theorem dJ6_bitCount_0f7a4_35 : decode cJ6_bitCount_0f7a4 35 = .ok (.iload_n 0, 1) := by decide +kernel
theorem dJ6_bitCount_0f7a4_36 : decode cJ6_bitCount_0f7a4 36 = .ok (.bipush 8, 2) := by decide +kernel
theorem dJ6_bitCount_0f7a4_38 : decode cJ6_bitCount_0f7a4 38 = .ok (.iushr, 1) := by decide +kernel
theorem dJ6_bitCount_0f7a4_39 : decode cJ6_bitCount_0f7a4 39 = .ok (.iadd, 1) := by decide +kernel
theorem dJ6_bitCount_0f7a4_40 : decode cJ6_bitCount_0f7a4 40 = .ok (.istore_n 0, 1) := by decide +kernel
theorem dJ6_bitCount_0f7a4_41 : decode cJ6_bitCount_0f7a4 41 = .ok (.iload_n 0, 1) := by decide +kernel
theorem dJ6_bitCount_0f7a4_42 : decode cJ6_bitCount_0f7a4 42 = .ok (.iload_n 0, 1) := by decide +kernel
theorem dJ6_bitCount_0f7a4_43 : decode cJ6_bitCount_0f7a4 43 = .ok (.bipush 16, 2) := by decide +kernel
theorem dJ6_bitCount_0f7a4_45 : decode cJ6_bitCount_0f7a4 45 = .ok (.iushr, 1) := by decide +kernel
theorem dJ6_bitCount_0f7a4_46 : decode cJ6_bitCount_0f7a4 46 = .ok (.iadd, 1) := by decide +kernel
theorem dJ6_bitCount_0f7a4_47 : decode cJ6_bitCount_0f7a4 47 = .ok (.istore_n 0, 1) := by decide +kernel
theorem dJ6_bitCount_0f7a4_48 : decode cJ6_bitCount_0f7a4 48 = .ok (.iload_n 0, 1) := by decide +kernel
theorem dJ6_bitCount_0f7a4_49 : decode cJ6_bitCount_0f7a4 49 = .ok (.bipush 63, 2) := by decide +kernel
theorem dJ6_bitCount_0f7a4_51 : decode cJ6_bitCount_0f7a4 51 = .ok (.iand, 1) := by decide +kernel
theorem dJ6_bitCount_0f7a4_52 : decode cJ6_bitCount_0f7a4 52 = .ok (.ireturn, 1) := by decide +kernel
theorem dL_law_0 : decode cL_law 0 = .ok (.new 7, 3) := by decide +kernel
theorem dL_law_3 : decode cL_law 3 = .ok (.dup, 1) := by decide +kernel
theorem dL_law_4 : decode cL_law 4 = .ok (.invokespecial 9, 3) := by decide +kernel
theorem dL_law_7 : decode cL_law 7 = .ok (.astore_n 1, 1) := by decide +kernel
theorem dL_law_8 : decode cL_law 8 = .ok (.new 10, 3) := by decide +kernel
theorem dL_law_11 : decode cL_law 11 = .ok (.dup, 1) := by decide +kernel
theorem dL_law_12 : decode cL_law 12 = .ok (.invokespecial 12, 3) := by decide +kernel
theorem dL_law_15 : decode cL_law 15 = .ok (.astore_n 2, 1) := by decide +kernel
theorem dL_law_16 : decode cL_law 16 = .ok (.iconst 0, 1) := by decide +kernel
theorem dL_law_17 : decode cL_law 17 = .ok (.istore_n 3, 1) := by decide +kernel
theorem dL_law_18 : decode cL_law 18 = .ok (.iload_n 3, 1) := by decide +kernel
theorem dL_law_19 : decode cL_law 19 = .ok (.aload_n 0, 1) := by decide +kernel
theorem dL_law_20 : decode cL_law 20 = .ok (.arraylength, 1) := by decide +kernel
theorem dL_law_21 : decode cL_law 21 = .ok (.iconst 4, 1) := by decide +kernel
theorem dL_law_22 : decode cL_law 22 = .ok (.isub, 1) := by decide +kernel
theorem dL_law_23 : decode cL_law 23 = .ok (.if_icmp .gt 858, 3) := by decide +kernel
theorem dL_law_26 : decode cL_law 26 = .ok (.aload_n 0, 1) := by decide +kernel
theorem dL_law_27 : decode cL_law 27 = .ok (.iload_n 3, 1) := by decide +kernel
theorem dL_law_28 : decode cL_law 28 = .ok (.iaload, 1) := by decide +kernel
theorem dL_law_29 : decode cL_law 29 = .ok (.bipush 31, 2) := by decide +kernel
theorem dL_law_31 : decode cL_law 31 = .ok (.iand, 1) := by decide +kernel
theorem dL_law_32 : decode cL_law 32 = .ok (.tableswitch 843 0 26 #[124, 157, 200, 249, 282, 315, 338, 361, 394, 427, 440, 454, 477, 510, 543, 566, 579, 592, 625, 648, 661, 704, 737, 760, 803, 816, 829], 124) := by decide +kernel
theorem dL_law_156 : decode cL_law 156 = .ok (.aload_n 1, 1) := by decide +kernel
theorem dL_law_157 : decode cL_law 157 = .ok (.aload_n 0, 1) := by decide +kernel
theorem dL_law_158 : decode cL_law 158 = .ok (.iload_n 3, 1) := by decide +kernel
theorem dL_law_159 : decode cL_law 159 = .ok (.iconst 1, 1) := by decide +kernel
theorem dL_law_160 : decode cL_law 160 = .ok (.iadd, 1) := by decide +kernel
theorem dL_law_161 : decode cL_law 161 = .ok (.iaload, 1) := by decide +kernel
theorem dL_law_162 : decode cL_law 162 = .ok (.aload_n 0, 1) := by decide +kernel
theorem dL_law_163 : decode cL_law 163 = .ok (.iload_n 3, 1) := by decide +kernel
theorem dL_law_164 : decode cL_law 164 = .ok (.iconst 2, 1) := by decide +kernel
theorem dL_law_165 : decode cL_law 165 = .ok (.iadd, 1) := by decide +kernel
theorem dL_law_166 : decode cL_law 166 = .ok (.iaload, 1) := by decide +kernel
theorem dL_law_167 : decode cL_law 167 = .ok (.invokevirtual 13, 3) := by decide +kernel
theorem dL_law_170 : decode cL_law 170 = .ok (.aload_n 2, 1) := by decide +kernel
theorem dL_law_171 : decode cL_law 171 = .ok (.aload_n 0, 1) := by decide +kernel
theorem dL_law_172 : decode cL_law 172 = .ok (.iload_n 3, 1) := by decide +kernel
theorem dL_law_173 : decode cL_law 173 = .ok (.iconst 1, 1) := by decide +kernel
theorem dL_law_174 : decode cL_law 174 = .ok (.iadd, 1) := by decide +kernel
theorem dL_law_175 : decode cL_law 175 = .ok (.iaload, 1) := by decide +kernel
theorem dL_law_176 : decode cL_law 176 = .ok (.aload_n 0, 1) := by decide +kernel
theorem dL_law_177 : decode cL_law 177 = .ok (.iload_n 3, 1) := by decide +kernel
theorem dL_law_178 : decode cL_law 178 = .ok (.iconst 2, 1) := by decide +kernel
theorem dL_law_179 : decode cL_law 179 = .ok (.iadd, 1) := by decide +kernel
theorem dL_law_180 : decode cL_law 180 = .ok (.iaload, 1) := by decide +kernel
theorem dL_law_181 : decode cL_law 181 = .ok (.invokevirtual 17, 3) := by decide +kernel
theorem dL_law_184 : decode cL_law 184 = .ok (.if_icmp .eq 691, 3) := by decide +kernel
theorem dL_law_187 : decode cL_law 187 = .ok (.iconst 0, 1) := by decide +kernel
theorem dL_law_188 : decode cL_law 188 = .ok (.ireturn, 1) := by decide +kernel
theorem dL_law_189 : decode cL_law 189 = .ok (.aload_n 1, 1) := by decide +kernel
theorem dL_law_190 : decode cL_law 190 = .ok (.aload_n 0, 1) := by decide +kernel
theorem dL_law_191 : decode cL_law 191 = .ok (.iload_n 3, 1) := by decide +kernel
theorem dL_law_192 : decode cL_law 192 = .ok (.iconst 1, 1) := by decide +kernel
theorem dL_law_193 : decode cL_law 193 = .ok (.iadd, 1) := by decide +kernel
theorem dL_law_194 : decode cL_law 194 = .ok (.iaload, 1) := by decide +kernel
theorem dL_law_195 : decode cL_law 195 = .ok (.aload_n 0, 1) := by decide +kernel
theorem dL_law_196 : decode cL_law 196 = .ok (.iload_n 3, 1) := by decide +kernel
theorem dL_law_197 : decode cL_law 197 = .ok (.iconst 2, 1) := by decide +kernel
theorem dL_law_198 : decode cL_law 198 = .ok (.iadd, 1) := by decide +kernel
theorem dL_law_199 : decode cL_law 199 = .ok (.iaload, 1) := by decide +kernel
theorem dL_law_200 : decode cL_law 200 = .ok (.aload_n 0, 1) := by decide +kernel
theorem dL_law_201 : decode cL_law 201 = .ok (.iload_n 3, 1) := by decide +kernel
theorem dL_law_202 : decode cL_law 202 = .ok (.iconst 3, 1) := by decide +kernel
theorem dL_law_203 : decode cL_law 203 = .ok (.iadd, 1) := by decide +kernel
theorem dL_law_204 : decode cL_law 204 = .ok (.iaload, 1) := by decide +kernel
theorem dL_law_205 : decode cL_law 205 = .ok (.invokevirtual 18, 3) := by decide +kernel
theorem dL_law_208 : decode cL_law 208 = .ok (.aload_n 2, 1) := by decide +kernel
theorem dL_law_209 : decode cL_law 209 = .ok (.aload_n 0, 1) := by decide +kernel
theorem dL_law_210 : decode cL_law 210 = .ok (.iload_n 3, 1) := by decide +kernel
theorem dL_law_211 : decode cL_law 211 = .ok (.iconst 1, 1) := by decide +kernel
theorem dL_law_212 : decode cL_law 212 = .ok (.iadd, 1) := by decide +kernel
theorem dL_law_213 : decode cL_law 213 = .ok (.iaload, 1) := by decide +kernel
theorem dL_law_214 : decode cL_law 214 = .ok (.aload_n 0, 1) := by decide +kernel
theorem dL_law_215 : decode cL_law 215 = .ok (.iload_n 3, 1) := by decide +kernel
theorem dL_law_216 : decode cL_law 216 = .ok (.iconst 2, 1) := by decide +kernel
theorem dL_law_217 : decode cL_law 217 = .ok (.iadd, 1) := by decide +kernel
theorem dL_law_218 : decode cL_law 218 = .ok (.iaload, 1) := by decide +kernel
theorem dL_law_219 : decode cL_law 219 = .ok (.aload_n 0, 1) := by decide +kernel
theorem dL_law_220 : decode cL_law 220 = .ok (.iload_n 3, 1) := by decide +kernel
theorem dL_law_221 : decode cL_law 221 = .ok (.iconst 3, 1) := by decide +kernel
theorem dL_law_222 : decode cL_law 222 = .ok (.iadd, 1) := by decide +kernel
theorem dL_law_223 : decode cL_law 223 = .ok (.iaload, 1) := by decide +kernel
theorem dL_law_224 : decode cL_law 224 = .ok (.invokevirtual 22, 3) := by decide +kernel
theorem dL_law_227 : decode cL_law 227 = .ok (.if_icmp .eq 648, 3) := by decide +kernel
theorem dL_law_230 : decode cL_law 230 = .ok (.iconst 0, 1) := by decide +kernel
theorem dL_law_231 : decode cL_law 231 = .ok (.ireturn, 1) := by decide +kernel
theorem dL_law_232 : decode cL_law 232 = .ok (.aload_n 1, 1) := by decide +kernel
theorem dL_law_233 : decode cL_law 233 = .ok (.aload_n 0, 1) := by decide +kernel
theorem dL_law_234 : decode cL_law 234 = .ok (.iload_n 3, 1) := by decide +kernel
theorem dL_law_235 : decode cL_law 235 = .ok (.iconst 1, 1) := by decide +kernel
theorem dL_law_236 : decode cL_law 236 = .ok (.iadd, 1) := by decide +kernel
theorem dL_law_237 : decode cL_law 237 = .ok (.iaload, 1) := by decide +kernel
theorem dL_law_238 : decode cL_law 238 = .ok (.aload_n 0, 1) := by decide +kernel
theorem dL_law_239 : decode cL_law 239 = .ok (.iload_n 3, 1) := by decide +kernel
theorem dL_law_240 : decode cL_law 240 = .ok (.iconst 2, 1) := by decide +kernel
theorem dL_law_241 : decode cL_law 241 = .ok (.iadd, 1) := by decide +kernel
theorem dL_law_242 : decode cL_law 242 = .ok (.iaload, 1) := by decide +kernel
theorem dL_law_243 : decode cL_law 243 = .ok (.ifCond .eq 7, 3) := by decide +kernel
theorem dL_law_246 : decode cL_law 246 = .ok (.iconst 1, 1) := by decide +kernel
theorem dL_law_247 : decode cL_law 247 = .ok (.goto 4, 3) := by decide +kernel
theorem dL_law_250 : decode cL_law 250 = .ok (.iconst 0, 1) := by decide +kernel
theorem dL_law_251 : decode cL_law 251 = .ok (.invokevirtual 23, 3) := by decide +kernel
theorem dL_law_254 : decode cL_law 254 = .ok (.aload_n 2, 1) := by decide +kernel
theorem dL_law_255 : decode cL_law 255 = .ok (.aload_n 0, 1) := by decide +kernel
theorem dL_law_256 : decode cL_law 256 = .ok (.iload_n 3, 1) := by decide +kernel
theorem dL_law_257 : decode cL_law 257 = .ok (.iconst 1, 1) := by decide +kernel
theorem dL_law_258 : decode cL_law 258 = .ok (.iadd, 1) := by decide +kernel
theorem dL_law_259 : decode cL_law 259 = .ok (.iaload, 1) := by decide +kernel
theorem dL_law_260 : decode cL_law 260 = .ok (.aload_n 0, 1) := by decide +kernel
theorem dL_law_261 : decode cL_law 261 = .ok (.iload_n 3, 1) := by decide +kernel
theorem dL_law_262 : decode cL_law 262 = .ok (.iconst 2, 1) := by decide +kernel
theorem dL_law_263 : decode cL_law 263 = .ok (.iadd, 1) := by decide +kernel
theorem dL_law_264 : decode cL_law 264 = .ok (.iaload, 1) := by decide +kernel
theorem dL_law_265 : decode cL_law 265 = .ok (.ifCond .eq 7, 3) := by decide +kernel
theorem dL_law_268 : decode cL_law 268 = .ok (.iconst 1, 1) := by decide +kernel
theorem dL_law_269 : decode cL_law 269 = .ok (.goto 4, 3) := by decide +kernel
theorem dL_law_272 : decode cL_law 272 = .ok (.iconst 0, 1) := by decide +kernel
theorem dL_law_273 : decode cL_law 273 = .ok (.invokevirtual 27, 3) := by decide +kernel
theorem dL_law_276 : decode cL_law 276 = .ok (.if_icmp .eq 599, 3) := by decide +kernel
theorem dL_law_279 : decode cL_law 279 = .ok (.iconst 0, 1) := by decide +kernel
theorem dL_law_280 : decode cL_law 280 = .ok (.ireturn, 1) := by decide +kernel
theorem dL_law_281 : decode cL_law 281 = .ok (.aload_n 1, 1) := by decide +kernel
theorem dL_law_282 : decode cL_law 282 = .ok (.aload_n 0, 1) := by decide +kernel
theorem dL_law_283 : decode cL_law 283 = .ok (.iload_n 3, 1) := by decide +kernel
theorem dL_law_284 : decode cL_law 284 = .ok (.iconst 1, 1) := by decide +kernel
theorem dL_law_285 : decode cL_law 285 = .ok (.iadd, 1) := by decide +kernel
theorem dL_law_286 : decode cL_law 286 = .ok (.iaload, 1) := by decide +kernel
theorem dL_law_287 : decode cL_law 287 = .ok (.aload_n 0, 1) := by decide +kernel
theorem dL_law_288 : decode cL_law 288 = .ok (.iload_n 3, 1) := by decide +kernel
theorem dL_law_289 : decode cL_law 289 = .ok (.iconst 2, 1) := by decide +kernel
theorem dL_law_290 : decode cL_law 290 = .ok (.iadd, 1) := by decide +kernel
theorem dL_law_291 : decode cL_law 291 = .ok (.iaload, 1) := by decide +kernel
theorem dL_law_292 : decode cL_law 292 = .ok (.invokevirtual 28, 3) := by decide +kernel
theorem dL_law_295 : decode cL_law 295 = .ok (.aload_n 2, 1) := by decide +kernel
theorem dL_law_296 : decode cL_law 296 = .ok (.aload_n 0, 1) := by decide +kernel
theorem dL_law_297 : decode cL_law 297 = .ok (.iload_n 3, 1) := by decide +kernel
theorem dL_law_298 : decode cL_law 298 = .ok (.iconst 1, 1) := by decide +kernel
theorem dL_law_299 : decode cL_law 299 = .ok (.iadd, 1) := by decide +kernel
theorem dL_law_300 : decode cL_law 300 = .ok (.iaload, 1) := by decide +kernel
theorem dL_law_301 : decode cL_law 301 = .ok (.aload_n 0, 1) := by decide +kernel
theorem dL_law_302 : decode cL_law 302 = .ok (.iload_n 3, 1) := by decide +kernel
theorem dL_law_303 : decode cL_law 303 = .ok (.iconst 2, 1) := by decide +kernel
theorem dL_law_304 : decode cL_law 304 = .ok (.iadd, 1) := by decide +kernel
theorem dL_law_305 : decode cL_law 305 = .ok (.iaload, 1) := by decide +kernel
theorem dL_law_306 : decode cL_law 306 = .ok (.invokevirtual 31, 3) := by decide +kernel
theorem dL_law_309 : decode cL_law 309 = .ok (.if_icmp .eq 566, 3) := by decide +kernel
theorem dL_law_312 : decode cL_law 312 = .ok (.iconst 0, 1) := by decide +kernel
theorem dL_law_313 : decode cL_law 313 = .ok (.ireturn, 1) := by decide +kernel
theorem dL_law_314 : decode cL_law 314 = .ok (.aload_n 1, 1) := by decide +kernel
theorem dL_law_315 : decode cL_law 315 = .ok (.aload_n 0, 1) := by decide +kernel
theorem dL_law_316 : decode cL_law 316 = .ok (.iload_n 3, 1) := by decide +kernel
theorem dL_law_317 : decode cL_law 317 = .ok (.iconst 1, 1) := by decide +kernel
theorem dL_law_318 : decode cL_law 318 = .ok (.iadd, 1) := by decide +kernel
theorem dL_law_319 : decode cL_law 319 = .ok (.iaload, 1) := by decide +kernel
theorem dL_law_320 : decode cL_law 320 = .ok (.aload_n 0, 1) := by decide +kernel
theorem dL_law_321 : decode cL_law 321 = .ok (.iload_n 3, 1) := by decide +kernel
theorem dL_law_322 : decode cL_law 322 = .ok (.iconst 2, 1) := by decide +kernel
theorem dL_law_323 : decode cL_law 323 = .ok (.iadd, 1) := by decide +kernel
theorem dL_law_324 : decode cL_law 324 = .ok (.iaload, 1) := by decide +kernel
theorem dL_law_325 : decode cL_law 325 = .ok (.invokevirtual 32, 3) := by decide +kernel
theorem dL_law_328 : decode cL_law 328 = .ok (.aload_n 2, 1) := by decide +kernel
theorem dL_law_329 : decode cL_law 329 = .ok (.aload_n 0, 1) := by decide +kernel
theorem dL_law_330 : decode cL_law 330 = .ok (.iload_n 3, 1) := by decide +kernel
theorem dL_law_331 : decode cL_law 331 = .ok (.iconst 1, 1) := by decide +kernel
theorem dL_law_332 : decode cL_law 332 = .ok (.iadd, 1) := by decide +kernel
theorem dL_law_333 : decode cL_law 333 = .ok (.iaload, 1) := by decide +kernel
theorem dL_law_334 : decode cL_law 334 = .ok (.aload_n 0, 1) := by decide +kernel
theorem dL_law_335 : decode cL_law 335 = .ok (.iload_n 3, 1) := by decide +kernel
theorem dL_law_336 : decode cL_law 336 = .ok (.iconst 2, 1) := by decide +kernel
theorem dL_law_337 : decode cL_law 337 = .ok (.iadd, 1) := by decide +kernel
theorem dL_law_338 : decode cL_law 338 = .ok (.iaload, 1) := by decide +kernel
theorem dL_law_339 : decode cL_law 339 = .ok (.invokevirtual 35, 3) := by decide +kernel
theorem dL_law_342 : decode cL_law 342 = .ok (.if_icmp .eq 533, 3) := by decide +kernel
theorem dL_law_345 : decode cL_law 345 = .ok (.iconst 0, 1) := by decide +kernel
theorem dL_law_346 : decode cL_law 346 = .ok (.ireturn, 1) := by decide +kernel
theorem dL_law_347 : decode cL_law 347 = .ok (.aload_n 1, 1) := by decide +kernel
theorem dL_law_348 : decode cL_law 348 = .ok (.aload_n 0, 1) := by decide +kernel
theorem dL_law_349 : decode cL_law 349 = .ok (.iload_n 3, 1) := by decide +kernel
theorem dL_law_350 : decode cL_law 350 = .ok (.iconst 1, 1) := by decide +kernel
theorem dL_law_351 : decode cL_law 351 = .ok (.iadd, 1) := by decide +kernel
theorem dL_law_352 : decode cL_law 352 = .ok (.iaload, 1) := by decide +kernel
theorem dL_law_353 : decode cL_law 353 = .ok (.invokevirtual 36, 3) := by decide +kernel
theorem dL_law_356 : decode cL_law 356 = .ok (.aload_n 2, 1) := by decide +kernel
theorem dL_law_357 : decode cL_law 357 = .ok (.aload_n 0, 1) := by decide +kernel
theorem dL_law_358 : decode cL_law 358 = .ok (.iload_n 3, 1) := by decide +kernel
theorem dL_law_359 : decode cL_law 359 = .ok (.iconst 1, 1) := by decide +kernel
theorem dL_law_360 : decode cL_law 360 = .ok (.iadd, 1) := by decide +kernel
theorem dL_law_361 : decode cL_law 361 = .ok (.iaload, 1) := by decide +kernel
theorem dL_law_362 : decode cL_law 362 = .ok (.invokevirtual 40, 3) := by decide +kernel
theorem dL_law_365 : decode cL_law 365 = .ok (.if_icmp .eq 510, 3) := by decide +kernel
theorem dL_law_368 : decode cL_law 368 = .ok (.iconst 0, 1) := by decide +kernel
theorem dL_law_369 : decode cL_law 369 = .ok (.ireturn, 1) := by decide +kernel
theorem dL_law_370 : decode cL_law 370 = .ok (.aload_n 1, 1) := by decide +kernel
theorem dL_law_371 : decode cL_law 371 = .ok (.aload_n 0, 1) := by decide +kernel
theorem dL_law_372 : decode cL_law 372 = .ok (.iload_n 3, 1) := by decide +kernel
theorem dL_law_373 : decode cL_law 373 = .ok (.iconst 1, 1) := by decide +kernel
theorem dL_law_374 : decode cL_law 374 = .ok (.iadd, 1) := by decide +kernel
theorem dL_law_375 : decode cL_law 375 = .ok (.iaload, 1) := by decide +kernel
theorem dL_law_376 : decode cL_law 376 = .ok (.invokevirtual 41, 3) := by decide +kernel
theorem dL_law_379 : decode cL_law 379 = .ok (.aload_n 2, 1) := by decide +kernel
theorem dL_law_380 : decode cL_law 380 = .ok (.aload_n 0, 1) := by decide +kernel
theorem dL_law_381 : decode cL_law 381 = .ok (.iload_n 3, 1) := by decide +kernel
theorem dL_law_382 : decode cL_law 382 = .ok (.iconst 1, 1) := by decide +kernel
theorem dL_law_383 : decode cL_law 383 = .ok (.iadd, 1) := by decide +kernel
theorem dL_law_384 : decode cL_law 384 = .ok (.iaload, 1) := by decide +kernel
theorem dL_law_385 : decode cL_law 385 = .ok (.invokevirtual 44, 3) := by decide +kernel
theorem dL_law_388 : decode cL_law 388 = .ok (.if_icmp .eq 487, 3) := by decide +kernel
theorem dL_law_391 : decode cL_law 391 = .ok (.iconst 0, 1) := by decide +kernel
theorem dL_law_392 : decode cL_law 392 = .ok (.ireturn, 1) := by decide +kernel
theorem dL_law_393 : decode cL_law 393 = .ok (.aload_n 1, 1) := by decide +kernel
theorem dL_law_394 : decode cL_law 394 = .ok (.aload_n 0, 1) := by decide +kernel
theorem dL_law_395 : decode cL_law 395 = .ok (.iload_n 3, 1) := by decide +kernel
theorem dL_law_396 : decode cL_law 396 = .ok (.iconst 1, 1) := by decide +kernel
theorem dL_law_397 : decode cL_law 397 = .ok (.iadd, 1) := by decide +kernel
theorem dL_law_398 : decode cL_law 398 = .ok (.iaload, 1) := by decide +kernel
theorem dL_law_399 : decode cL_law 399 = .ok (.aload_n 0, 1) := by decide +kernel
theorem dL_law_400 : decode cL_law 400 = .ok (.iload_n 3, 1) := by decide +kernel
theorem dL_law_401 : decode cL_law 401 = .ok (.iconst 2, 1) := by decide +kernel
theorem dL_law_402 : decode cL_law 402 = .ok (.iadd, 1) := by decide +kernel
theorem dL_law_403 : decode cL_law 403 = .ok (.iaload, 1) := by decide +kernel
theorem dL_law_404 : decode cL_law 404 = .ok (.invokevirtual 45, 3) := by decide +kernel
theorem dL_law_407 : decode cL_law 407 = .ok (.aload_n 2, 1) := by decide +kernel
theorem dL_law_408 : decode cL_law 408 = .ok (.aload_n 0, 1) := by decide +kernel
theorem dL_law_409 : decode cL_law 409 = .ok (.iload_n 3, 1) := by decide +kernel
theorem dL_law_410 : decode cL_law 410 = .ok (.iconst 1, 1) := by decide +kernel
theorem dL_law_411 : decode cL_law 411 = .ok (.iadd, 1) := by decide +kernel
theorem dL_law_412 : decode cL_law 412 = .ok (.iaload, 1) := by decide +kernel
theorem dL_law_413 : decode cL_law 413 = .ok (.aload_n 0, 1) := by decide +kernel
theorem dL_law_414 : decode cL_law 414 = .ok (.iload_n 3, 1) := by decide +kernel
theorem dL_law_415 : decode cL_law 415 = .ok (.iconst 2, 1) := by decide +kernel
theorem dL_law_416 : decode cL_law 416 = .ok (.iadd, 1) := by decide +kernel
theorem dL_law_417 : decode cL_law 417 = .ok (.iaload, 1) := by decide +kernel
theorem dL_law_418 : decode cL_law 418 = .ok (.invokevirtual 48, 3) := by decide +kernel
theorem dL_law_421 : decode cL_law 421 = .ok (.if_icmp .eq 454, 3) := by decide +kernel
theorem dL_law_424 : decode cL_law 424 = .ok (.iconst 0, 1) := by decide +kernel
theorem dL_law_425 : decode cL_law 425 = .ok (.ireturn, 1) := by decide +kernel
theorem dL_law_426 : decode cL_law 426 = .ok (.aload_n 1, 1) := by decide +kernel
theorem dL_law_427 : decode cL_law 427 = .ok (.aload_n 0, 1) := by decide +kernel
theorem dL_law_428 : decode cL_law 428 = .ok (.iload_n 3, 1) := by decide +kernel
theorem dL_law_429 : decode cL_law 429 = .ok (.iconst 1, 1) := by decide +kernel
theorem dL_law_430 : decode cL_law 430 = .ok (.iadd, 1) := by decide +kernel
theorem dL_law_431 : decode cL_law 431 = .ok (.iaload, 1) := by decide +kernel
theorem dL_law_432 : decode cL_law 432 = .ok (.aload_n 0, 1) := by decide +kernel
theorem dL_law_433 : decode cL_law 433 = .ok (.iload_n 3, 1) := by decide +kernel
theorem dL_law_434 : decode cL_law 434 = .ok (.iconst 2, 1) := by decide +kernel
theorem dL_law_435 : decode cL_law 435 = .ok (.iadd, 1) := by decide +kernel
theorem dL_law_436 : decode cL_law 436 = .ok (.iaload, 1) := by decide +kernel
theorem dL_law_437 : decode cL_law 437 = .ok (.invokevirtual 49, 3) := by decide +kernel
theorem dL_law_440 : decode cL_law 440 = .ok (.aload_n 2, 1) := by decide +kernel
theorem dL_law_441 : decode cL_law 441 = .ok (.aload_n 0, 1) := by decide +kernel
theorem dL_law_442 : decode cL_law 442 = .ok (.iload_n 3, 1) := by decide +kernel
theorem dL_law_443 : decode cL_law 443 = .ok (.iconst 1, 1) := by decide +kernel
theorem dL_law_444 : decode cL_law 444 = .ok (.iadd, 1) := by decide +kernel
theorem dL_law_445 : decode cL_law 445 = .ok (.iaload, 1) := by decide +kernel
theorem dL_law_446 : decode cL_law 446 = .ok (.aload_n 0, 1) := by decide +kernel
theorem dL_law_447 : decode cL_law 447 = .ok (.iload_n 3, 1) := by decide +kernel
theorem dL_law_448 : decode cL_law 448 = .ok (.iconst 2, 1) := by decide +kernel
theorem dL_law_449 : decode cL_law 449 = .ok (.iadd, 1) := by decide +kernel
theorem dL_law_450 : decode cL_law 450 = .ok (.iaload, 1) := by decide +kernel
theorem dL_law_451 : decode cL_law 451 = .ok (.invokevirtual 52, 3) := by decide +kernel
theorem dL_law_454 : decode cL_law 454 = .ok (.if_icmp .eq 421, 3) := by decide +kernel
theorem dL_law_457 : decode cL_law 457 = .ok (.iconst 0, 1) := by decide +kernel
theorem dL_law_458 : decode cL_law 458 = .ok (.ireturn, 1) := by decide +kernel
theorem dL_law_459 : decode cL_law 459 = .ok (.aload_n 1, 1) := by decide +kernel
theorem dL_law_460 : decode cL_law 460 = .ok (.invokevirtual 53, 3) := by decide +kernel
theorem dL_law_463 : decode cL_law 463 = .ok (.aload_n 2, 1) := by decide +kernel
theorem dL_law_464 : decode cL_law 464 = .ok (.invokevirtual 57, 3) := by decide +kernel
theorem dL_law_467 : decode cL_law 467 = .ok (.if_icmp .eq 408, 3) := by decide +kernel
theorem dL_law_470 : decode cL_law 470 = .ok (.iconst 0, 1) := by decide +kernel
theorem dL_law_471 : decode cL_law 471 = .ok (.ireturn, 1) := by decide +kernel
theorem dL_law_472 : decode cL_law 472 = .ok (.aload_n 1, 1) := by decide +kernel
theorem dL_law_473 : decode cL_law 473 = .ok (.invokevirtual 58, 3) := by decide +kernel
theorem dL_law_476 : decode cL_law 476 = .ok (.aload_n 2, 1) := by decide +kernel
theorem dL_law_477 : decode cL_law 477 = .ok (.invokevirtual 62, 3) := by decide +kernel
theorem dL_law_480 : decode cL_law 480 = .ok (.lcmp, 1) := by decide +kernel
theorem dL_law_481 : decode cL_law 481 = .ok (.ifCond .eq 394, 3) := by decide +kernel
theorem dL_law_484 : decode cL_law 484 = .ok (.iconst 0, 1) := by decide +kernel
theorem dL_law_485 : decode cL_law 485 = .ok (.ireturn, 1) := by decide +kernel
theorem dL_law_486 : decode cL_law 486 = .ok (.aload_n 1, 1) := by decide +kernel
theorem dL_law_487 : decode cL_law 487 = .ok (.aload_n 0, 1) := by decide +kernel
theorem dL_law_488 : decode cL_law 488 = .ok (.iload_n 3, 1) := by decide +kernel
theorem dL_law_489 : decode cL_law 489 = .ok (.iconst 1, 1) := by decide +kernel
theorem dL_law_490 : decode cL_law 490 = .ok (.iadd, 1) := by decide +kernel
theorem dL_law_491 : decode cL_law 491 = .ok (.iaload, 1) := by decide +kernel
theorem dL_law_492 : decode cL_law 492 = .ok (.invokevirtual 63, 3) := by decide +kernel
theorem dL_law_495 : decode cL_law 495 = .ok (.aload_n 2, 1) := by decide +kernel
theorem dL_law_496 : decode cL_law 496 = .ok (.aload_n 0, 1) := by decide +kernel
theorem dL_law_497 : decode cL_law 497 = .ok (.iload_n 3, 1) := by decide +kernel
theorem dL_law_498 : decode cL_law 498 = .ok (.iconst 1, 1) := by decide +kernel
theorem dL_law_499 : decode cL_law 499 = .ok (.iadd, 1) := by decide +kernel
theorem dL_law_500 : decode cL_law 500 = .ok (.iaload, 1) := by decide +kernel
theorem dL_law_501 : decode cL_law 501 = .ok (.invokevirtual 66, 3) := by decide +kernel
theorem dL_law_504 : decode cL_law 504 = .ok (.if_icmp .eq 371, 3) := by decide +kernel
theorem dL_law_507 : decode cL_law 507 = .ok (.iconst 0, 1) := by decide +kernel
theorem dL_law_508 : decode cL_law 508 = .ok (.ireturn, 1) := by decide +kernel
theorem dL_law_509 : decode cL_law 509 = .ok (.aload_n 1, 1) := by decide +kernel
theorem dL_law_510 : decode cL_law 510 = .ok (.aload_n 0, 1) := by decide +kernel
theorem dL_law_511 : decode cL_law 511 = .ok (.iload_n 3, 1) := by decide +kernel
theorem dL_law_512 : decode cL_law 512 = .ok (.iconst 1, 1) := by decide +kernel
theorem dL_law_513 : decode cL_law 513 = .ok (.iadd, 1) := by decide +kernel
theorem dL_law_514 : decode cL_law 514 = .ok (.iaload, 1) := by decide +kernel
theorem dL_law_515 : decode cL_law 515 = .ok (.aload_n 0, 1) := by decide +kernel
theorem dL_law_516 : decode cL_law 516 = .ok (.iload_n 3, 1) := by decide +kernel
theorem dL_law_517 : decode cL_law 517 = .ok (.iconst 2, 1) := by decide +kernel
theorem dL_law_518 : decode cL_law 518 = .ok (.iadd, 1) := by decide +kernel
theorem dL_law_519 : decode cL_law 519 = .ok (.iaload, 1) := by decide +kernel
theorem dL_law_520 : decode cL_law 520 = .ok (.invokevirtual 67, 3) := by decide +kernel
theorem dL_law_523 : decode cL_law 523 = .ok (.aload_n 2, 1) := by decide +kernel
theorem dL_law_524 : decode cL_law 524 = .ok (.aload_n 0, 1) := by decide +kernel
theorem dL_law_525 : decode cL_law 525 = .ok (.iload_n 3, 1) := by decide +kernel
theorem dL_law_526 : decode cL_law 526 = .ok (.iconst 1, 1) := by decide +kernel
theorem dL_law_527 : decode cL_law 527 = .ok (.iadd, 1) := by decide +kernel
theorem dL_law_528 : decode cL_law 528 = .ok (.iaload, 1) := by decide +kernel
theorem dL_law_529 : decode cL_law 529 = .ok (.aload_n 0, 1) := by decide +kernel
theorem dL_law_530 : decode cL_law 530 = .ok (.iload_n 3, 1) := by decide +kernel
theorem dL_law_531 : decode cL_law 531 = .ok (.iconst 2, 1) := by decide +kernel
theorem dL_law_532 : decode cL_law 532 = .ok (.iadd, 1) := by decide +kernel
theorem dL_law_533 : decode cL_law 533 = .ok (.iaload, 1) := by decide +kernel
theorem dL_law_534 : decode cL_law 534 = .ok (.invokevirtual 70, 3) := by decide +kernel
theorem dL_law_537 : decode cL_law 537 = .ok (.if_icmp .eq 338, 3) := by decide +kernel
theorem dL_law_540 : decode cL_law 540 = .ok (.iconst 0, 1) := by decide +kernel
theorem dL_law_541 : decode cL_law 541 = .ok (.ireturn, 1) := by decide +kernel
theorem dL_law_542 : decode cL_law 542 = .ok (.aload_n 1, 1) := by decide +kernel
theorem dL_law_543 : decode cL_law 543 = .ok (.aload_n 0, 1) := by decide +kernel
theorem dL_law_544 : decode cL_law 544 = .ok (.iload_n 3, 1) := by decide +kernel
theorem dL_law_545 : decode cL_law 545 = .ok (.iconst 1, 1) := by decide +kernel
theorem dL_law_546 : decode cL_law 546 = .ok (.iadd, 1) := by decide +kernel
theorem dL_law_547 : decode cL_law 547 = .ok (.iaload, 1) := by decide +kernel
theorem dL_law_548 : decode cL_law 548 = .ok (.aload_n 0, 1) := by decide +kernel
theorem dL_law_549 : decode cL_law 549 = .ok (.iload_n 3, 1) := by decide +kernel
theorem dL_law_550 : decode cL_law 550 = .ok (.iconst 2, 1) := by decide +kernel
theorem dL_law_551 : decode cL_law 551 = .ok (.iadd, 1) := by decide +kernel
theorem dL_law_552 : decode cL_law 552 = .ok (.iaload, 1) := by decide +kernel
theorem dL_law_553 : decode cL_law 553 = .ok (.invokevirtual 71, 3) := by decide +kernel
theorem dL_law_556 : decode cL_law 556 = .ok (.aload_n 2, 1) := by decide +kernel
theorem dL_law_557 : decode cL_law 557 = .ok (.aload_n 0, 1) := by decide +kernel
theorem dL_law_558 : decode cL_law 558 = .ok (.iload_n 3, 1) := by decide +kernel
theorem dL_law_559 : decode cL_law 559 = .ok (.iconst 1, 1) := by decide +kernel
theorem dL_law_560 : decode cL_law 560 = .ok (.iadd, 1) := by decide +kernel
theorem dL_law_561 : decode cL_law 561 = .ok (.iaload, 1) := by decide +kernel
theorem dL_law_562 : decode cL_law 562 = .ok (.aload_n 0, 1) := by decide +kernel
theorem dL_law_563 : decode cL_law 563 = .ok (.iload_n 3, 1) := by decide +kernel
theorem dL_law_564 : decode cL_law 564 = .ok (.iconst 2, 1) := by decide +kernel
theorem dL_law_565 : decode cL_law 565 = .ok (.iadd, 1) := by decide +kernel
theorem dL_law_566 : decode cL_law 566 = .ok (.iaload, 1) := by decide +kernel
theorem dL_law_567 : decode cL_law 567 = .ok (.invokevirtual 74, 3) := by decide +kernel
theorem dL_law_570 : decode cL_law 570 = .ok (.if_icmp .eq 305, 3) := by decide +kernel
theorem dL_law_573 : decode cL_law 573 = .ok (.iconst 0, 1) := by decide +kernel
theorem dL_law_574 : decode cL_law 574 = .ok (.ireturn, 1) := by decide +kernel
theorem dL_law_575 : decode cL_law 575 = .ok (.aload_n 1, 1) := by decide +kernel
theorem dL_law_576 : decode cL_law 576 = .ok (.aload_n 0, 1) := by decide +kernel
theorem dL_law_577 : decode cL_law 577 = .ok (.iload_n 3, 1) := by decide +kernel
theorem dL_law_578 : decode cL_law 578 = .ok (.iconst 1, 1) := by decide +kernel
theorem dL_law_579 : decode cL_law 579 = .ok (.iadd, 1) := by decide +kernel
theorem dL_law_580 : decode cL_law 580 = .ok (.iaload, 1) := by decide +kernel
theorem dL_law_581 : decode cL_law 581 = .ok (.invokevirtual 75, 3) := by decide +kernel
theorem dL_law_584 : decode cL_law 584 = .ok (.aload_n 2, 1) := by decide +kernel
theorem dL_law_585 : decode cL_law 585 = .ok (.aload_n 0, 1) := by decide +kernel
theorem dL_law_586 : decode cL_law 586 = .ok (.iload_n 3, 1) := by decide +kernel
theorem dL_law_587 : decode cL_law 587 = .ok (.iconst 1, 1) := by decide +kernel
theorem dL_law_588 : decode cL_law 588 = .ok (.iadd, 1) := by decide +kernel
theorem dL_law_589 : decode cL_law 589 = .ok (.iaload, 1) := by decide +kernel
theorem dL_law_590 : decode cL_law 590 = .ok (.invokevirtual 78, 3) := by decide +kernel
theorem dL_law_593 : decode cL_law 593 = .ok (.if_icmp .eq 282, 3) := by decide +kernel
theorem dL_law_596 : decode cL_law 596 = .ok (.iconst 0, 1) := by decide +kernel
theorem dL_law_597 : decode cL_law 597 = .ok (.ireturn, 1) := by decide +kernel
theorem dL_law_598 : decode cL_law 598 = .ok (.aload_n 1, 1) := by decide +kernel
theorem dL_law_599 : decode cL_law 599 = .ok (.invokevirtual 79, 3) := by decide +kernel
theorem dL_law_602 : decode cL_law 602 = .ok (.aload_n 2, 1) := by decide +kernel
theorem dL_law_603 : decode cL_law 603 = .ok (.invokevirtual 82, 3) := by decide +kernel
theorem dL_law_606 : decode cL_law 606 = .ok (.if_icmp .eq 269, 3) := by decide +kernel
theorem dL_law_609 : decode cL_law 609 = .ok (.iconst 0, 1) := by decide +kernel
theorem dL_law_610 : decode cL_law 610 = .ok (.ireturn, 1) := by decide +kernel
theorem dL_law_611 : decode cL_law 611 = .ok (.aload_n 1, 1) := by decide +kernel
theorem dL_law_612 : decode cL_law 612 = .ok (.invokevirtual 83, 3) := by decide +kernel
theorem dL_law_615 : decode cL_law 615 = .ok (.aload_n 2, 1) := by decide +kernel
theorem dL_law_616 : decode cL_law 616 = .ok (.invokevirtual 86, 3) := by decide +kernel
theorem dL_law_619 : decode cL_law 619 = .ok (.if_icmp .eq 256, 3) := by decide +kernel
theorem dL_law_622 : decode cL_law 622 = .ok (.iconst 0, 1) := by decide +kernel
theorem dL_law_623 : decode cL_law 623 = .ok (.ireturn, 1) := by decide +kernel
theorem dL_law_624 : decode cL_law 624 = .ok (.aload_n 1, 1) := by decide +kernel
theorem dL_law_625 : decode cL_law 625 = .ok (.aload_n 0, 1) := by decide +kernel
theorem dL_law_626 : decode cL_law 626 = .ok (.iload_n 3, 1) := by decide +kernel
theorem dL_law_627 : decode cL_law 627 = .ok (.iconst 1, 1) := by decide +kernel
theorem dL_law_628 : decode cL_law 628 = .ok (.iadd, 1) := by decide +kernel
theorem dL_law_629 : decode cL_law 629 = .ok (.iaload, 1) := by decide +kernel
theorem dL_law_630 : decode cL_law 630 = .ok (.aload_n 0, 1) := by decide +kernel
theorem dL_law_631 : decode cL_law 631 = .ok (.iload_n 3, 1) := by decide +kernel
theorem dL_law_632 : decode cL_law 632 = .ok (.iconst 2, 1) := by decide +kernel
theorem dL_law_633 : decode cL_law 633 = .ok (.iadd, 1) := by decide +kernel
theorem dL_law_634 : decode cL_law 634 = .ok (.iaload, 1) := by decide +kernel
theorem dL_law_635 : decode cL_law 635 = .ok (.invokevirtual 87, 3) := by decide +kernel
theorem dL_law_638 : decode cL_law 638 = .ok (.aload_n 2, 1) := by decide +kernel
theorem dL_law_639 : decode cL_law 639 = .ok (.aload_n 0, 1) := by decide +kernel
theorem dL_law_640 : decode cL_law 640 = .ok (.iload_n 3, 1) := by decide +kernel
theorem dL_law_641 : decode cL_law 641 = .ok (.iconst 1, 1) := by decide +kernel
theorem dL_law_642 : decode cL_law 642 = .ok (.iadd, 1) := by decide +kernel
theorem dL_law_643 : decode cL_law 643 = .ok (.iaload, 1) := by decide +kernel
theorem dL_law_644 : decode cL_law 644 = .ok (.aload_n 0, 1) := by decide +kernel
theorem dL_law_645 : decode cL_law 645 = .ok (.iload_n 3, 1) := by decide +kernel
theorem dL_law_646 : decode cL_law 646 = .ok (.iconst 2, 1) := by decide +kernel
theorem dL_law_647 : decode cL_law 647 = .ok (.iadd, 1) := by decide +kernel
theorem dL_law_648 : decode cL_law 648 = .ok (.iaload, 1) := by decide +kernel
theorem dL_law_649 : decode cL_law 649 = .ok (.invokevirtual 90, 3) := by decide +kernel
theorem dL_law_652 : decode cL_law 652 = .ok (.if_icmp .eq 223, 3) := by decide +kernel
theorem dL_law_655 : decode cL_law 655 = .ok (.iconst 0, 1) := by decide +kernel
theorem dL_law_656 : decode cL_law 656 = .ok (.ireturn, 1) := by decide +kernel
theorem dL_law_657 : decode cL_law 657 = .ok (.aload_n 1, 1) := by decide +kernel
theorem dL_law_658 : decode cL_law 658 = .ok (.aload_n 0, 1) := by decide +kernel
theorem dL_law_659 : decode cL_law 659 = .ok (.iload_n 3, 1) := by decide +kernel
theorem dL_law_660 : decode cL_law 660 = .ok (.iconst 1, 1) := by decide +kernel
theorem dL_law_661 : decode cL_law 661 = .ok (.iadd, 1) := by decide +kernel
theorem dL_law_662 : decode cL_law 662 = .ok (.iaload, 1) := by decide +kernel
theorem dL_law_663 : decode cL_law 663 = .ok (.invokevirtual 91, 3) := by decide +kernel
theorem dL_law_666 : decode cL_law 666 = .ok (.aload_n 2, 1) := by decide +kernel
theorem dL_law_667 : decode cL_law 667 = .ok (.aload_n 0, 1) := by decide +kernel
theorem dL_law_668 : decode cL_law 668 = .ok (.iload_n 3, 1) := by decide +kernel
theorem dL_law_669 : decode cL_law 669 = .ok (.iconst 1, 1) := by decide +kernel
theorem dL_law_670 : decode cL_law 670 = .ok (.iadd, 1) := by decide +kernel
theorem dL_law_671 : decode cL_law 671 = .ok (.iaload, 1) := by decide +kernel
theorem dL_law_672 : decode cL_law 672 = .ok (.invokevirtual 94, 3) := by decide +kernel
theorem dL_law_675 : decode cL_law 675 = .ok (.if_icmp .eq 200, 3) := by decide +kernel
theorem dL_law_678 : decode cL_law 678 = .ok (.iconst 0, 1) := by decide +kernel
theorem dL_law_679 : decode cL_law 679 = .ok (.ireturn, 1) := by decide +kernel
theorem dL_law_680 : decode cL_law 680 = .ok (.aload_n 1, 1) := by decide +kernel
theorem dL_law_681 : decode cL_law 681 = .ok (.invokevirtual 95, 3) := by decide +kernel
theorem dL_law_684 : decode cL_law 684 = .ok (.aload_n 2, 1) := by decide +kernel
theorem dL_law_685 : decode cL_law 685 = .ok (.invokevirtual 98, 3) := by decide +kernel
theorem dL_law_688 : decode cL_law 688 = .ok (.if_icmp .eq 187, 3) := by decide +kernel
theorem dL_law_691 : decode cL_law 691 = .ok (.iconst 0, 1) := by decide +kernel
theorem dL_law_692 : decode cL_law 692 = .ok (.ireturn, 1) := by decide +kernel
theorem dL_law_693 : decode cL_law 693 = .ok (.aload_n 1, 1) := by decide +kernel
theorem dL_law_694 : decode cL_law 694 = .ok (.aload_n 0, 1) := by decide +kernel
theorem dL_law_695 : decode cL_law 695 = .ok (.iload_n 3, 1) := by decide +kernel
theorem dL_law_696 : decode cL_law 696 = .ok (.iconst 1, 1) := by decide +kernel
theorem dL_law_697 : decode cL_law 697 = .ok (.iadd, 1) := by decide +kernel
theorem dL_law_698 : decode cL_law 698 = .ok (.iaload, 1) := by decide +kernel
theorem dL_law_699 : decode cL_law 699 = .ok (.aload_n 0, 1) := by decide +kernel
theorem dL_law_700 : decode cL_law 700 = .ok (.iload_n 3, 1) := by decide +kernel
theorem dL_law_701 : decode cL_law 701 = .ok (.iconst 2, 1) := by decide +kernel
theorem dL_law_702 : decode cL_law 702 = .ok (.iadd, 1) := by decide +kernel
theorem dL_law_703 : decode cL_law 703 = .ok (.iaload, 1) := by decide +kernel
theorem dL_law_704 : decode cL_law 704 = .ok (.aload_n 0, 1) := by decide +kernel
theorem dL_law_705 : decode cL_law 705 = .ok (.iload_n 3, 1) := by decide +kernel
theorem dL_law_706 : decode cL_law 706 = .ok (.iconst 3, 1) := by decide +kernel
theorem dL_law_707 : decode cL_law 707 = .ok (.iadd, 1) := by decide +kernel
theorem dL_law_708 : decode cL_law 708 = .ok (.iaload, 1) := by decide +kernel
theorem dL_law_709 : decode cL_law 709 = .ok (.invokevirtual 99, 3) := by decide +kernel
theorem dL_law_712 : decode cL_law 712 = .ok (.aload_n 2, 1) := by decide +kernel
theorem dL_law_713 : decode cL_law 713 = .ok (.aload_n 0, 1) := by decide +kernel
theorem dL_law_714 : decode cL_law 714 = .ok (.iload_n 3, 1) := by decide +kernel
theorem dL_law_715 : decode cL_law 715 = .ok (.iconst 1, 1) := by decide +kernel
theorem dL_law_716 : decode cL_law 716 = .ok (.iadd, 1) := by decide +kernel
theorem dL_law_717 : decode cL_law 717 = .ok (.iaload, 1) := by decide +kernel
theorem dL_law_718 : decode cL_law 718 = .ok (.aload_n 0, 1) := by decide +kernel
theorem dL_law_719 : decode cL_law 719 = .ok (.iload_n 3, 1) := by decide +kernel
theorem dL_law_720 : decode cL_law 720 = .ok (.iconst 2, 1) := by decide +kernel
theorem dL_law_721 : decode cL_law 721 = .ok (.iadd, 1) := by decide +kernel
theorem dL_law_722 : decode cL_law 722 = .ok (.iaload, 1) := by decide +kernel
theorem dL_law_723 : decode cL_law 723 = .ok (.aload_n 0, 1) := by decide +kernel
theorem dL_law_724 : decode cL_law 724 = .ok (.iload_n 3, 1) := by decide +kernel
theorem dL_law_725 : decode cL_law 725 = .ok (.iconst 3, 1) := by decide +kernel
theorem dL_law_726 : decode cL_law 726 = .ok (.iadd, 1) := by decide +kernel
theorem dL_law_727 : decode cL_law 727 = .ok (.iaload, 1) := by decide +kernel
theorem dL_law_728 : decode cL_law 728 = .ok (.invokevirtual 102, 3) := by decide +kernel
theorem dL_law_731 : decode cL_law 731 = .ok (.if_icmp .eq 144, 3) := by decide +kernel
theorem dL_law_734 : decode cL_law 734 = .ok (.iconst 0, 1) := by decide +kernel
theorem dL_law_735 : decode cL_law 735 = .ok (.ireturn, 1) := by decide +kernel
theorem dL_law_736 : decode cL_law 736 = .ok (.aload_n 1, 1) := by decide +kernel
theorem dL_law_737 : decode cL_law 737 = .ok (.aload_n 0, 1) := by decide +kernel
theorem dL_law_738 : decode cL_law 738 = .ok (.iload_n 3, 1) := by decide +kernel
theorem dL_law_739 : decode cL_law 739 = .ok (.iconst 1, 1) := by decide +kernel
theorem dL_law_740 : decode cL_law 740 = .ok (.iadd, 1) := by decide +kernel
theorem dL_law_741 : decode cL_law 741 = .ok (.iaload, 1) := by decide +kernel
theorem dL_law_742 : decode cL_law 742 = .ok (.aload_n 0, 1) := by decide +kernel
theorem dL_law_743 : decode cL_law 743 = .ok (.iload_n 3, 1) := by decide +kernel
theorem dL_law_744 : decode cL_law 744 = .ok (.iconst 2, 1) := by decide +kernel
theorem dL_law_745 : decode cL_law 745 = .ok (.iadd, 1) := by decide +kernel
theorem dL_law_746 : decode cL_law 746 = .ok (.iaload, 1) := by decide +kernel
theorem dL_law_747 : decode cL_law 747 = .ok (.invokevirtual 103, 3) := by decide +kernel
theorem dL_law_750 : decode cL_law 750 = .ok (.aload_n 2, 1) := by decide +kernel
theorem dL_law_751 : decode cL_law 751 = .ok (.aload_n 0, 1) := by decide +kernel
theorem dL_law_752 : decode cL_law 752 = .ok (.iload_n 3, 1) := by decide +kernel
theorem dL_law_753 : decode cL_law 753 = .ok (.iconst 1, 1) := by decide +kernel
theorem dL_law_754 : decode cL_law 754 = .ok (.iadd, 1) := by decide +kernel
theorem dL_law_755 : decode cL_law 755 = .ok (.iaload, 1) := by decide +kernel
theorem dL_law_756 : decode cL_law 756 = .ok (.aload_n 0, 1) := by decide +kernel
theorem dL_law_757 : decode cL_law 757 = .ok (.iload_n 3, 1) := by decide +kernel
theorem dL_law_758 : decode cL_law 758 = .ok (.iconst 2, 1) := by decide +kernel
theorem dL_law_759 : decode cL_law 759 = .ok (.iadd, 1) := by decide +kernel
theorem dL_law_760 : decode cL_law 760 = .ok (.iaload, 1) := by decide +kernel
theorem dL_law_761 : decode cL_law 761 = .ok (.invokevirtual 106, 3) := by decide +kernel
theorem dL_law_764 : decode cL_law 764 = .ok (.if_icmp .eq 111, 3) := by decide +kernel
theorem dL_law_767 : decode cL_law 767 = .ok (.iconst 0, 1) := by decide +kernel
theorem dL_law_768 : decode cL_law 768 = .ok (.ireturn, 1) := by decide +kernel
theorem dL_law_769 : decode cL_law 769 = .ok (.aload_n 1, 1) := by decide +kernel
theorem dL_law_770 : decode cL_law 770 = .ok (.aload_n 0, 1) := by decide +kernel
theorem dL_law_771 : decode cL_law 771 = .ok (.iload_n 3, 1) := by decide +kernel
theorem dL_law_772 : decode cL_law 772 = .ok (.iconst 1, 1) := by decide +kernel
theorem dL_law_773 : decode cL_law 773 = .ok (.iadd, 1) := by decide +kernel
theorem dL_law_774 : decode cL_law 774 = .ok (.iaload, 1) := by decide +kernel
theorem dL_law_775 : decode cL_law 775 = .ok (.invokevirtual 107, 3) := by decide +kernel
theorem dL_law_778 : decode cL_law 778 = .ok (.aload_n 2, 1) := by decide +kernel
theorem dL_law_779 : decode cL_law 779 = .ok (.aload_n 0, 1) := by decide +kernel
theorem dL_law_780 : decode cL_law 780 = .ok (.iload_n 3, 1) := by decide +kernel
theorem dL_law_781 : decode cL_law 781 = .ok (.iconst 1, 1) := by decide +kernel
theorem dL_law_782 : decode cL_law 782 = .ok (.iadd, 1) := by decide +kernel
theorem dL_law_783 : decode cL_law 783 = .ok (.iaload, 1) := by decide +kernel
theorem dL_law_784 : decode cL_law 784 = .ok (.invokevirtual 110, 3) := by decide +kernel
theorem dL_law_787 : decode cL_law 787 = .ok (.if_icmp .eq 88, 3) := by decide +kernel
theorem dL_law_790 : decode cL_law 790 = .ok (.iconst 0, 1) := by decide +kernel
theorem dL_law_791 : decode cL_law 791 = .ok (.ireturn, 1) := by decide +kernel
theorem dL_law_792 : decode cL_law 792 = .ok (.aload_n 1, 1) := by decide +kernel
theorem dL_law_793 : decode cL_law 793 = .ok (.invokevirtual 111, 3) := by decide +kernel
theorem dL_law_796 : decode cL_law 796 = .ok (.f2d, 1) := by decide +kernel
theorem dL_law_797 : decode cL_law 797 = .ok (.dstore 4, 2) := by decide +kernel
theorem dL_law_799 : decode cL_law 799 = .ok (.aload_n 2, 1) := by decide +kernel
theorem dL_law_800 : decode cL_law 800 = .ok (.invokevirtual 115, 3) := by decide +kernel
theorem dL_law_803 : decode cL_law 803 = .ok (.f2d, 1) := by decide +kernel
theorem dL_law_804 : decode cL_law 804 = .ok (.dstore 6, 2) := by decide +kernel
theorem dL_law_806 : decode cL_law 806 = .ok (.dload 4, 2) := by decide +kernel
theorem dL_law_808 : decode cL_law 808 = .ok (.dload 6, 2) := by decide +kernel
theorem dL_law_810 : decode cL_law 810 = .ok (.dcmp .l, 1) := by decide +kernel
theorem dL_law_811 : decode cL_law 811 = .ok (.ifCond .eq 21, 3) := by decide +kernel
theorem dL_law_814 : decode cL_law 814 = .ok (.dload 4, 2) := by decide +kernel
theorem dL_law_816 : decode cL_law 816 = .ok (.dload 4, 2) := by decide +kernel
theorem dL_law_818 : decode cL_law 818 = .ok (.dcmp .l, 1) := by decide +kernel
theorem dL_law_819 : decode cL_law 819 = .ok (.ifCond .eq 11, 3) := by decide +kernel
theorem dL_law_822 : decode cL_law 822 = .ok (.dload 6, 2) := by decide +kernel
theorem dL_law_824 : decode cL_law 824 = .ok (.dload 6, 2) := by decide +kernel
theorem dL_law_826 : decode cL_law 826 = .ok (.dcmp .l, 1) := by decide +kernel
theorem dL_law_827 : decode cL_law 827 = .ok (.ifCond .ne 5, 3) := by decide +kernel
theorem dL_law_830 : decode cL_law 830 = .ok (.iconst 0, 1) := by decide +kernel
theorem dL_law_831 : decode cL_law 831 = .ok (.ireturn, 1) := by decide +kernel
theorem dL_law_832 : decode cL_law 832 = .ok (.goto 43, 3) := by decide +kernel
theorem dL_law_835 : decode cL_law 835 = .ok (.aload_n 1, 1) := by decide +kernel
theorem dL_law_836 : decode cL_law 836 = .ok (.invokevirtual 116, 3) := by decide +kernel
theorem dL_law_839 : decode cL_law 839 = .ok (.aload_n 2, 1) := by decide +kernel
theorem dL_law_840 : decode cL_law 840 = .ok (.invokevirtual 119, 3) := by decide +kernel
theorem dL_law_843 : decode cL_law 843 = .ok (.if_icmp .eq 32, 3) := by decide +kernel
theorem dL_law_846 : decode cL_law 846 = .ok (.iconst 0, 1) := by decide +kernel
theorem dL_law_847 : decode cL_law 847 = .ok (.ireturn, 1) := by decide +kernel
theorem dL_law_848 : decode cL_law 848 = .ok (.aload_n 1, 1) := by decide +kernel
theorem dL_law_849 : decode cL_law 849 = .ok (.invokevirtual 120, 3) := by decide +kernel
theorem dL_law_852 : decode cL_law 852 = .ok (.aload_n 2, 1) := by decide +kernel
theorem dL_law_853 : decode cL_law 853 = .ok (.invokevirtual 123, 3) := by decide +kernel
theorem dL_law_856 : decode cL_law 856 = .ok (.if_icmp .eq 19, 3) := by decide +kernel
theorem dL_law_859 : decode cL_law 859 = .ok (.iconst 0, 1) := by decide +kernel
theorem dL_law_860 : decode cL_law 860 = .ok (.ireturn, 1) := by decide +kernel
theorem dL_law_861 : decode cL_law 861 = .ok (.aload_n 1, 1) := by decide +kernel
theorem dL_law_862 : decode cL_law 862 = .ok (.invokevirtual 124, 3) := by decide +kernel
theorem dL_law_865 : decode cL_law 865 = .ok (.aload_n 2, 1) := by decide +kernel
theorem dL_law_866 : decode cL_law 866 = .ok (.invokevirtual 127, 3) := by decide +kernel
theorem dL_law_869 : decode cL_law 869 = .ok (.lcmp, 1) := by decide +kernel
theorem dL_law_870 : decode cL_law 870 = .ok (.ifCond .eq 5, 3) := by decide +kernel
theorem dL_law_873 : decode cL_law 873 = .ok (.iconst 0, 1) := by decide +kernel
theorem dL_law_874 : decode cL_law 874 = .ok (.ireturn, 1) := by decide +kernel
theorem dL_law_875 : decode cL_law 875 = .ok (.iinc 3 4, 3) := by decide +kernel
theorem dL_law_878 : decode cL_law 878 = .ok (.goto (-860), 3) := by decide +kernel
theorem dL_law_881 : decode cL_law 881 = .ok (.iconst 1, 1) := by decide +kernel
theorem dL_law_882 : decode cL_law 882 = .ok (.ireturn, 1) := by decide +kernel
abbrev vwCl : List vw_C := [(RX0, TX0, 4), (RX1, TX1, 3), (RX2, TX2, 4), (RX3, TX3, 10), (RX5, TX5, 12), (RX6, TX6, 1), (RX7, TX7, 5), (RX8, TX8, 2), (RX9, TX9, 5), (RX10, TX10, 21)]
