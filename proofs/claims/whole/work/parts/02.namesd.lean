theorem dX10_reveal_1 : decode cX10_reveal 1 = .ok (.iload_n 1, 1) := by decide +kernel
theorem dX10_reveal_2 : decode cX10_reveal 2 = .ok (.invokevirtual 47, 3) := by decide +kernel
theorem dX10_reveal_5 : decode cX10_reveal 5 = .ok (.ifCond .ne 6, 3) := by decide +kernel
theorem dX10_reveal_8 : decode cX10_reveal 8 = .ok (.ldc 40, 2) := by decide +kernel
theorem dX10_reveal_10 : decode cX10_reveal 10 = .ok (.ireturn, 1) := by decide +kernel
theorem dX10_reveal_11 : decode cX10_reveal 11 = .ok (.aload_n 0, 1) := by decide +kernel
theorem dX10_reveal_12 : decode cX10_reveal 12 = .ok (.iload_n 1, 1) := by decide +kernel
theorem dX10_reveal_13 : decode cX10_reveal 13 = .ok (.invokevirtual 65, 3) := by decide +kernel
theorem dX10_reveal_16 : decode cX10_reveal 16 = .ok (.ifCond .eq 17, 3) := by decide +kernel
theorem dX10_reveal_19 : decode cX10_reveal 19 = .ok (.aload_n 0, 1) := by decide +kernel
theorem dX10_reveal_20 : decode cX10_reveal 20 = .ok (.getfield 7, 3) := by decide +kernel
theorem dX10_reveal_23 : decode cX10_reveal 23 = .ok (.iload_n 1, 1) := by decide +kernel
theorem dX10_reveal_24 : decode cX10_reveal 24 = .ok (.bipush 8, 2) := by decide +kernel
theorem dX10_reveal_26 : decode cX10_reveal 26 = .ok (.invokestatic 42, 3) := by decide +kernel
theorem dX10_reveal_29 : decode cX10_reveal 29 = .ok (.iaload, 1) := by decide +kernel
theorem dX10_reveal_30 : decode cX10_reveal 30 = .ok (.ifCond .ne 6, 3) := by decide +kernel
theorem dX10_reveal_33 : decode cX10_reveal 33 = .ok (.ldc 68, 2) := by decide +kernel
theorem dX10_reveal_35 : decode cX10_reveal 35 = .ok (.ireturn, 1) := by decide +kernel
theorem dX10_reveal_36 : decode cX10_reveal 36 = .ok (.aload_n 0, 1) := by decide +kernel
theorem dX10_reveal_37 : decode cX10_reveal 37 = .ok (.invokevirtual 32, 3) := by decide +kernel
theorem dX10_reveal_40 : decode cX10_reveal 40 = .ok (.iload_n 2, 1) := by decide +kernel
theorem dX10_reveal_41 : decode cX10_reveal 41 = .ok (.invokestatic 61, 3) := by decide +kernel
theorem dX10_reveal_44 : decode cX10_reveal 44 = .ok (.aload_n 0, 1) := by decide +kernel
theorem dX10_reveal_45 : decode cX10_reveal 45 = .ok (.getfield 7, 3) := by decide +kernel
theorem dX10_reveal_48 : decode cX10_reveal 48 = .ok (.iload_n 1, 1) := by decide +kernel
theorem dX10_reveal_49 : decode cX10_reveal 49 = .ok (.bipush 9, 2) := by decide +kernel
theorem dX10_reveal_51 : decode cX10_reveal 51 = .ok (.invokestatic 42, 3) := by decide +kernel
theorem dX10_reveal_54 : decode cX10_reveal 54 = .ok (.iaload, 1) := by decide +kernel
theorem dX10_reveal_55 : decode cX10_reveal 55 = .ok (.if_icmp .ne 7, 3) := by decide +kernel
theorem dX10_reveal_58 : decode cX10_reveal 58 = .ok (.iconst 1, 1) := by decide +kernel
theorem dX10_reveal_59 : decode cX10_reveal 59 = .ok (.goto 4, 3) := by decide +kernel
theorem dX10_reveal_62 : decode cX10_reveal 62 = .ok (.iconst 0, 1) := by decide +kernel
theorem dX10_reveal_63 : decode cX10_reveal 63 = .ok (.istore_n 3, 1) := by decide +kernel
theorem dX10_reveal_64 : decode cX10_reveal 64 = .ok (.aload_n 0, 1) := by decide +kernel
theorem dX10_reveal_65 : decode cX10_reveal 65 = .ok (.getfield 7, 3) := by decide +kernel
theorem dX10_reveal_68 : decode cX10_reveal 68 = .ok (.iload_n 1, 1) := by decide +kernel
theorem dX10_reveal_69 : decode cX10_reveal 69 = .ok (.bipush 8, 2) := by decide +kernel
theorem dX10_reveal_71 : decode cX10_reveal 71 = .ok (.invokestatic 42, 3) := by decide +kernel
theorem dX10_reveal_74 : decode cX10_reveal 74 = .ok (.iload_n 3, 1) := by decide +kernel
theorem dX10_reveal_75 : decode cX10_reveal 75 = .ok (.ifCond .eq 7, 3) := by decide +kernel
theorem dX10_reveal_78 : decode cX10_reveal 78 = .ok (.iconst 2, 1) := by decide +kernel
theorem dX10_reveal_79 : decode cX10_reveal 79 = .ok (.goto 4, 3) := by decide +kernel
theorem dX10_reveal_82 : decode cX10_reveal 82 = .ok (.iconst 3, 1) := by decide +kernel
theorem dX10_reveal_83 : decode cX10_reveal 83 = .ok (.iastore, 1) := by decide +kernel
theorem dX10_reveal_84 : decode cX10_reveal 84 = .ok (.aload_n 0, 1) := by decide +kernel
theorem dX10_reveal_85 : decode cX10_reveal 85 = .ok (.getfield 7, 3) := by decide +kernel
theorem dX10_reveal_88 : decode cX10_reveal 88 = .ok (.iload_n 1, 1) := by decide +kernel
theorem dX10_reveal_89 : decode cX10_reveal 89 = .ok (.bipush 10, 2) := by decide +kernel
theorem dX10_reveal_91 : decode cX10_reveal 91 = .ok (.invokestatic 42, 3) := by decide +kernel
theorem dX10_reveal_94 : decode cX10_reveal 94 = .ok (.iload_n 2, 1) := by decide +kernel
theorem dX10_reveal_95 : decode cX10_reveal 95 = .ok (.iastore, 1) := by decide +kernel
theorem dX10_reveal_96 : decode cX10_reveal 96 = .ok (.iload_n 3, 1) := by decide +kernel
theorem dX10_reveal_97 : decode cX10_reveal 97 = .ok (.ifCond .eq 7, 3) := by decide +kernel
theorem dX10_reveal_100 : decode cX10_reveal 100 = .ok (.iconst 1, 1) := by decide +kernel
theorem dX10_reveal_101 : decode cX10_reveal 101 = .ok (.goto 4, 3) := by decide +kernel
theorem dX10_reveal_104 : decode cX10_reveal 104 = .ok (.iconst 0, 1) := by decide +kernel
theorem dX10_reveal_105 : decode cX10_reveal 105 = .ok (.ireturn, 1) := by decide +kernel
theorem dX10_seeds_0 : decode cX10_seeds 0 = .ok (.iconst 0, 1) := by decide +kernel
theorem dX10_seeds_1 : decode cX10_seeds 1 = .ok (.istore_n 2, 1) := by decide +kernel
theorem dX10_seeds_2 : decode cX10_seeds 2 = .ok (.aload_n 0, 1) := by decide +kernel
theorem dX10_seeds_3 : decode cX10_seeds 3 = .ok (.aload_n 0, 1) := by decide +kernel
theorem dX10_seeds_4 : decode cX10_seeds 4 = .ok (.getfield 7, 3) := by decide +kernel
theorem dX10_seeds_7 : decode cX10_seeds 7 = .ok (.bipush 6, 2) := by decide +kernel
theorem dX10_seeds_9 : decode cX10_seeds 9 = .ok (.iaload, 1) := by decide +kernel
theorem dX10_seeds_10 : decode cX10_seeds 10 = .ok (.iconst 1, 1) := by decide +kernel
theorem dX10_seeds_11 : decode cX10_seeds 11 = .ok (.iadd, 1) := by decide +kernel
theorem dX10_seeds_12 : decode cX10_seeds 12 = .ok (.putfield 69, 3) := by decide +kernel
theorem dX10_seeds_15 : decode cX10_seeds 15 = .ok (.iconst 0, 1) := by decide +kernel
theorem dX10_seeds_16 : decode cX10_seeds 16 = .ok (.istore_n 3, 1) := by decide +kernel
theorem dX10_seeds_17 : decode cX10_seeds 17 = .ok (.iload_n 3, 1) := by decide +kernel
theorem dX10_seeds_18 : decode cX10_seeds 18 = .ok (.aload_n 0, 1) := by decide +kernel
theorem dX10_seeds_19 : decode cX10_seeds 19 = .ok (.getfield 7, 3) := by decide +kernel
theorem dX10_seeds_22 : decode cX10_seeds 22 = .ok (.iconst 5, 1) := by decide +kernel
theorem dX10_seeds_23 : decode cX10_seeds 23 = .ok (.iaload, 1) := by decide +kernel
theorem dX10_seeds_24 : decode cX10_seeds 24 = .ok (.if_icmp .ge 58, 3) := by decide +kernel
theorem dX10_seeds_27 : decode cX10_seeds 27 = .ok (.aload_n 0, 1) := by decide +kernel
theorem dX10_seeds_28 : decode cX10_seeds 28 = .ok (.getfield 7, 3) := by decide +kernel
theorem dX10_seeds_31 : decode cX10_seeds 31 = .ok (.iload_n 3, 1) := by decide +kernel
theorem dX10_seeds_32 : decode cX10_seeds 32 = .ok (.bipush 8, 2) := by decide +kernel
theorem dX10_seeds_34 : decode cX10_seeds 34 = .ok (.invokestatic 42, 3) := by decide +kernel
theorem dX10_seeds_37 : decode cX10_seeds 37 = .ok (.iaload, 1) := by decide +kernel
theorem dX10_seeds_38 : decode cX10_seeds 38 = .ok (.iconst 2, 1) := by decide +kernel
theorem dX10_seeds_39 : decode cX10_seeds 39 = .ok (.if_icmp .ne 37, 3) := by decide +kernel
theorem dX10_seeds_42 : decode cX10_seeds 42 = .ok (.iload_n 1, 1) := by decide +kernel
theorem dX10_seeds_43 : decode cX10_seeds 43 = .ok (.iload_n 3, 1) := by decide +kernel
theorem dX10_seeds_44 : decode cX10_seeds 44 = .ok (.ishr, 1) := by decide +kernel
theorem dX10_seeds_45 : decode cX10_seeds 45 = .ok (.iconst 1, 1) := by decide +kernel
theorem dX10_seeds_46 : decode cX10_seeds 46 = .ok (.iand, 1) := by decide +kernel
theorem dX10_seeds_47 : decode cX10_seeds 47 = .ok (.ifCond .ne 29, 3) := by decide +kernel
theorem dX10_seeds_50 : decode cX10_seeds 50 = .ok (.aload_n 0, 1) := by decide +kernel
theorem dX10_seeds_51 : decode cX10_seeds 51 = .ok (.aload_n 0, 1) := by decide +kernel
theorem dX10_seeds_52 : decode cX10_seeds 52 = .ok (.getfield 69, 3) := by decide +kernel
theorem dX10_seeds_55 : decode cX10_seeds 55 = .ok (.aload_n 0, 1) := by decide +kernel
theorem dX10_seeds_56 : decode cX10_seeds 56 = .ok (.getfield 7, 3) := by decide +kernel
theorem dX10_seeds_59 : decode cX10_seeds 59 = .ok (.iload_n 3, 1) := by decide +kernel
theorem dX10_seeds_60 : decode cX10_seeds 60 = .ok (.bipush 10, 2) := by decide +kernel
theorem dX10_seeds_62 : decode cX10_seeds 62 = .ok (.invokestatic 42, 3) := by decide +kernel
theorem dX10_seeds_65 : decode cX10_seeds 65 = .ok (.iaload, 1) := by decide +kernel
theorem dX10_seeds_66 : decode cX10_seeds 66 = .ok (.ixor, 1) := by decide +kernel
theorem dX10_seeds_67 : decode cX10_seeds 67 = .ok (.invokestatic 61, 3) := by decide +kernel
theorem dX10_seeds_70 : decode cX10_seeds 70 = .ok (.putfield 69, 3) := by decide +kernel
theorem dX10_seeds_73 : decode cX10_seeds 73 = .ok (.iinc 2 1, 3) := by decide +kernel
theorem dX10_seeds_76 : decode cX10_seeds 76 = .ok (.iinc 3 1, 3) := by decide +kernel
theorem dX10_seeds_79 : decode cX10_seeds 79 = .ok (.goto (-62), 3) := by decide +kernel
theorem dX10_seeds_82 : decode cX10_seeds 82 = .ok (.iload_n 2, 1) := by decide +kernel
theorem dX10_seeds_83 : decode cX10_seeds 83 = .ok (.ireturn, 1) := by decide +kernel
theorem dX10_lot_0 : decode cX10_lot 0 = .ok (.aload_n 0, 1) := by decide +kernel
theorem dX10_lot_1 : decode cX10_lot 1 = .ok (.aload_n 0, 1) := by decide +kernel
theorem dX10_lot_2 : decode cX10_lot 2 = .ok (.getfield 72, 3) := by decide +kernel
theorem dX10_lot_5 : decode cX10_lot 5 = .ok (.invokestatic 61, 3) := by decide +kernel
theorem dX10_lot_8 : decode cX10_lot 8 = .ok (.putfield 72, 3) := by decide +kernel
theorem dX10_lot_11 : decode cX10_lot 11 = .ok (.aload_n 0, 1) := by decide +kernel
theorem dX10_lot_12 : decode cX10_lot 12 = .ok (.getfield 72, 3) := by decide +kernel
theorem dX10_lot_15 : decode cX10_lot 15 = .ok (.bipush 16, 2) := by decide +kernel
theorem dX10_lot_17 : decode cX10_lot 17 = .ok (.iushr, 1) := by decide +kernel
theorem dX10_lot_18 : decode cX10_lot 18 = .ok (.iload_n 1, 1) := by decide +kernel
theorem dX10_lot_19 : decode cX10_lot 19 = .ok (.irem, 1) := by decide +kernel
theorem dX10_lot_20 : decode cX10_lot 20 = .ok (.ireturn, 1) := by decide +kernel
theorem dX10_lists_0 : decode cX10_lists 0 = .ok (.aload_n 0, 1) := by decide +kernel
theorem dX10_lists_1 : decode cX10_lists 1 = .ok (.iload_n 1, 1) := by decide +kernel
theorem dX10_lists_2 : decode cX10_lists 2 = .ok (.putfield 72, 3) := by decide +kernel
theorem dX10_lists_5 : decode cX10_lists 5 = .ok (.iconst 0, 1) := by decide +kernel
theorem dX10_lists_6 : decode cX10_lists 6 = .ok (.istore_n 2, 1) := by decide +kernel
theorem dX10_lists_7 : decode cX10_lists 7 = .ok (.iconst 0, 1) := by decide +kernel
theorem dX10_lists_8 : decode cX10_lists 8 = .ok (.istore_n 3, 1) := by decide +kernel
theorem dX10_lists_9 : decode cX10_lists 9 = .ok (.iload_n 3, 1) := by decide +kernel
theorem dX10_lists_10 : decode cX10_lists 10 = .ok (.aload_n 0, 1) := by decide +kernel
theorem dX10_lists_11 : decode cX10_lists 11 = .ok (.getfield 7, 3) := by decide +kernel
theorem dX10_lists_14 : decode cX10_lists 14 = .ok (.iconst 5, 1) := by decide +kernel
theorem dX10_lists_15 : decode cX10_lists 15 = .ok (.iaload, 1) := by decide +kernel
theorem dX10_lists_16 : decode cX10_lists 16 = .ok (.if_icmp .ge 163, 3) := by decide +kernel
theorem dX10_lists_19 : decode cX10_lists 19 = .ok (.iconst 0, 1) := by decide +kernel
theorem dX10_lists_20 : decode cX10_lists 20 = .ok (.istore 4, 2) := by decide +kernel
theorem dX10_lists_22 : decode cX10_lists 22 = .ok (.iconst 0, 1) := by decide +kernel
theorem dX10_lists_23 : decode cX10_lists 23 = .ok (.istore 5, 2) := by decide +kernel
theorem dX10_lists_25 : decode cX10_lists 25 = .ok (.iload 5, 2) := by decide +kernel
theorem dX10_lists_27 : decode cX10_lists 27 = .ok (.aload_n 0, 1) := by decide +kernel
theorem dX10_lists_28 : decode cX10_lists 28 = .ok (.getfield 7, 3) := by decide +kernel
theorem dX10_lists_31 : decode cX10_lists 31 = .ok (.iconst 5, 1) := by decide +kernel
theorem dX10_lists_32 : decode cX10_lists 32 = .ok (.iaload, 1) := by decide +kernel
theorem dX10_lists_33 : decode cX10_lists 33 = .ok (.if_icmp .ge 38, 3) := by decide +kernel
theorem dX10_lists_36 : decode cX10_lists 36 = .ok (.iload 4, 2) := by decide +kernel
theorem dX10_lists_38 : decode cX10_lists 38 = .ok (.iload_n 2, 1) := by decide +kernel
theorem dX10_lists_39 : decode cX10_lists 39 = .ok (.iload 5, 2) := by decide +kernel
theorem dX10_lists_41 : decode cX10_lists 41 = .ok (.ishr, 1) := by decide +kernel
theorem dX10_lists_42 : decode cX10_lists 42 = .ok (.iconst 1, 1) := by decide +kernel
theorem dX10_lists_43 : decode cX10_lists 43 = .ok (.iand, 1) := by decide +kernel
theorem dX10_lists_44 : decode cX10_lists 44 = .ok (.ifCond .ne 17, 3) := by decide +kernel
theorem dX10_lists_47 : decode cX10_lists 47 = .ok (.aload_n 0, 1) := by decide +kernel
theorem dX10_lists_48 : decode cX10_lists 48 = .ok (.getfield 7, 3) := by decide +kernel
theorem dX10_lists_51 : decode cX10_lists 51 = .ok (.iload 5, 2) := by decide +kernel
theorem dX10_lists_53 : decode cX10_lists 53 = .ok (.iconst 0, 1) := by decide +kernel
theorem dX10_lists_54 : decode cX10_lists 54 = .ok (.invokestatic 42, 3) := by decide +kernel
theorem dX10_lists_57 : decode cX10_lists 57 = .ok (.iaload, 1) := by decide +kernel
theorem dX10_lists_58 : decode cX10_lists 58 = .ok (.goto 4, 3) := by decide +kernel
theorem dX10_lists_61 : decode cX10_lists 61 = .ok (.iconst 0, 1) := by decide +kernel
theorem dX10_lists_62 : decode cX10_lists 62 = .ok (.iadd, 1) := by decide +kernel
theorem dX10_lists_63 : decode cX10_lists 63 = .ok (.istore 4, 2) := by decide +kernel
theorem dX10_lists_65 : decode cX10_lists 65 = .ok (.iinc 5 1, 3) := by decide +kernel
theorem dX10_lists_68 : decode cX10_lists 68 = .ok (.goto (-43), 3) := by decide +kernel
theorem dX10_lists_71 : decode cX10_lists 71 = .ok (.aload_n 0, 1) := by decide +kernel
theorem dX10_lists_72 : decode cX10_lists 72 = .ok (.iload 4, 2) := by decide +kernel
theorem dX10_lists_74 : decode cX10_lists 74 = .ok (.invokevirtual 75, 3) := by decide +kernel
theorem dX10_lists_77 : decode cX10_lists 77 = .ok (.istore 5, 2) := by decide +kernel
theorem dX10_lists_79 : decode cX10_lists 79 = .ok (.ldc 46, 2) := by decide +kernel
theorem dX10_lists_81 : decode cX10_lists 81 = .ok (.istore 6, 2) := by decide +kernel
theorem dX10_lists_83 : decode cX10_lists 83 = .ok (.iconst 0, 1) := by decide +kernel
theorem dX10_lists_84 : decode cX10_lists 84 = .ok (.istore 7, 2) := by decide +kernel
theorem dX10_lists_86 : decode cX10_lists 86 = .ok (.iload 7, 2) := by decide +kernel
theorem dX10_lists_88 : decode cX10_lists 88 = .ok (.aload_n 0, 1) := by decide +kernel
theorem dX10_lists_89 : decode cX10_lists 89 = .ok (.getfield 7, 3) := by decide +kernel
theorem dX10_lists_92 : decode cX10_lists 92 = .ok (.iconst 5, 1) := by decide +kernel
theorem dX10_lists_93 : decode cX10_lists 93 = .ok (.iaload, 1) := by decide +kernel
theorem dX10_lists_94 : decode cX10_lists 94 = .ok (.if_icmp .ge 64, 3) := by decide +kernel
theorem dX10_lists_97 : decode cX10_lists 97 = .ok (.iload_n 2, 1) := by decide +kernel
theorem dX10_lists_98 : decode cX10_lists 98 = .ok (.iload 7, 2) := by decide +kernel
theorem dX10_lists_100 : decode cX10_lists 100 = .ok (.ishr, 1) := by decide +kernel
theorem dX10_lists_101 : decode cX10_lists 101 = .ok (.iconst 1, 1) := by decide +kernel
theorem dX10_lists_102 : decode cX10_lists 102 = .ok (.iand, 1) := by decide +kernel
theorem dX10_lists_103 : decode cX10_lists 103 = .ok (.ifCond .ne 49, 3) := by decide +kernel
theorem dX10_lists_106 : decode cX10_lists 106 = .ok (.iload 6, 2) := by decide +kernel
theorem dX10_lists_108 : decode cX10_lists 108 = .ok (.ifCond .ge 24, 3) := by decide +kernel
theorem dX10_lists_111 : decode cX10_lists 111 = .ok (.iload 5, 2) := by decide +kernel
theorem dX10_lists_113 : decode cX10_lists 113 = .ok (.aload_n 0, 1) := by decide +kernel
theorem dX10_lists_114 : decode cX10_lists 114 = .ok (.getfield 7, 3) := by decide +kernel
theorem dX10_lists_117 : decode cX10_lists 117 = .ok (.iload 7, 2) := by decide +kernel
theorem dX10_lists_119 : decode cX10_lists 119 = .ok (.iconst 0, 1) := by decide +kernel
theorem dX10_lists_120 : decode cX10_lists 120 = .ok (.invokestatic 42, 3) := by decide +kernel
theorem dX10_lists_123 : decode cX10_lists 123 = .ok (.iaload, 1) := by decide +kernel
theorem dX10_lists_124 : decode cX10_lists 124 = .ok (.if_icmp .ge 8, 3) := by decide +kernel
theorem dX10_lists_127 : decode cX10_lists 127 = .ok (.iload 7, 2) := by decide +kernel
theorem dX10_lists_129 : decode cX10_lists 129 = .ok (.goto 5, 3) := by decide +kernel
theorem dX10_lists_132 : decode cX10_lists 132 = .ok (.iload 6, 2) := by decide +kernel
theorem dX10_lists_134 : decode cX10_lists 134 = .ok (.istore 6, 2) := by decide +kernel
theorem dX10_lists_136 : decode cX10_lists 136 = .ok (.iload 5, 2) := by decide +kernel
theorem dX10_lists_138 : decode cX10_lists 138 = .ok (.aload_n 0, 1) := by decide +kernel
theorem dX10_lists_139 : decode cX10_lists 139 = .ok (.getfield 7, 3) := by decide +kernel
theorem dX10_lists_142 : decode cX10_lists 142 = .ok (.iload 7, 2) := by decide +kernel
theorem dX10_lists_144 : decode cX10_lists 144 = .ok (.iconst 0, 1) := by decide +kernel
theorem dX10_lists_145 : decode cX10_lists 145 = .ok (.invokestatic 42, 3) := by decide +kernel
theorem dX10_lists_148 : decode cX10_lists 148 = .ok (.iaload, 1) := by decide +kernel
theorem dX10_lists_149 : decode cX10_lists 149 = .ok (.isub, 1) := by decide +kernel
theorem dX10_lists_150 : decode cX10_lists 150 = .ok (.istore 5, 2) := by decide +kernel
theorem dX10_lists_152 : decode cX10_lists 152 = .ok (.iinc 7 1, 3) := by decide +kernel
theorem dX10_lists_155 : decode cX10_lists 155 = .ok (.goto (-69), 3) := by decide +kernel
theorem dX10_lists_158 : decode cX10_lists 158 = .ok (.aload_n 0, 1) := by decide +kernel
theorem dX10_lists_159 : decode cX10_lists 159 = .ok (.getfield 16, 3) := by decide +kernel
theorem dX10_lists_162 : decode cX10_lists 162 = .ok (.iload_n 3, 1) := by decide +kernel
theorem dX10_lists_163 : decode cX10_lists 163 = .ok (.iload 6, 2) := by decide +kernel
theorem dX10_lists_165 : decode cX10_lists 165 = .ok (.iastore, 1) := by decide +kernel
theorem dX10_lists_166 : decode cX10_lists 166 = .ok (.iload_n 2, 1) := by decide +kernel
theorem dX10_lists_167 : decode cX10_lists 167 = .ok (.iconst 1, 1) := by decide +kernel
theorem dX10_lists_168 : decode cX10_lists 168 = .ok (.iload 6, 2) := by decide +kernel
theorem dX10_lists_170 : decode cX10_lists 170 = .ok (.ishl, 1) := by decide +kernel
theorem dX10_lists_171 : decode cX10_lists 171 = .ok (.ior, 1) := by decide +kernel
theorem dX10_lists_172 : decode cX10_lists 172 = .ok (.istore_n 2, 1) := by decide +kernel
theorem dX10_lists_173 : decode cX10_lists 173 = .ok (.iinc 3 1, 3) := by decide +kernel
theorem dX10_lists_176 : decode cX10_lists 176 = .ok (.goto (-167), 3) := by decide +kernel
theorem dX10_lists_179 : decode cX10_lists 179 = .ok (.return_, 1) := by decide +kernel
theorem dX10_draw_0 : decode cX10_draw 0 = .ok (.aload_n 0, 1) := by decide +kernel
theorem dX10_draw_1 : decode cX10_draw 1 = .ok (.iconst 0, 1) := by decide +kernel
theorem dX10_draw_2 : decode cX10_draw 2 = .ok (.invokevirtual 78, 3) := by decide +kernel
theorem dX10_draw_5 : decode cX10_draw 5 = .ok (.aload_n 0, 1) := by decide +kernel
theorem dX10_draw_6 : decode cX10_draw 6 = .ok (.getfield 7, 3) := by decide +kernel
theorem dX10_draw_9 : decode cX10_draw 9 = .ok (.iconst 2, 1) := by decide +kernel
theorem dX10_draw_10 : decode cX10_draw 10 = .ok (.iaload, 1) := by decide +kernel
theorem dX10_draw_11 : decode cX10_draw 11 = .ok (.if_icmp .ge 6, 3) := by decide +kernel
theorem dX10_draw_14 : decode cX10_draw 14 = .ok (.ldc 68, 2) := by decide +kernel
theorem dX10_draw_16 : decode cX10_draw 16 = .ok (.ireturn, 1) := by decide +kernel
theorem dX10_draw_17 : decode cX10_draw 17 = .ok (.aload_n 0, 1) := by decide +kernel
theorem dX10_draw_18 : decode cX10_draw 18 = .ok (.invokevirtual 32, 3) := by decide +kernel
theorem dX10_draw_21 : decode cX10_draw 21 = .ok (.aload_n 0, 1) := by decide +kernel
theorem dX10_draw_22 : decode cX10_draw 22 = .ok (.getfield 7, 3) := by decide +kernel
theorem dX10_draw_25 : decode cX10_draw 25 = .ok (.bipush 6, 2) := by decide +kernel
theorem dX10_draw_27 : decode cX10_draw 27 = .ok (.dup2, 1) := by decide +kernel
theorem dX10_draw_28 : decode cX10_draw 28 = .ok (.iaload, 1) := by decide +kernel
theorem dX10_draw_29 : decode cX10_draw 29 = .ok (.iconst 1, 1) := by decide +kernel
theorem dX10_draw_30 : decode cX10_draw 30 = .ok (.iadd, 1) := by decide +kernel
theorem dX10_draw_31 : decode cX10_draw 31 = .ok (.iastore, 1) := by decide +kernel
theorem dX10_draw_32 : decode cX10_draw 32 = .ok (.aload_n 0, 1) := by decide +kernel
theorem dX10_draw_33 : decode cX10_draw 33 = .ok (.getfield 7, 3) := by decide +kernel
theorem dX10_draw_36 : decode cX10_draw 36 = .ok (.bipush 10, 2) := by decide +kernel
theorem dX10_draw_38 : decode cX10_draw 38 = .ok (.aload_n 0, 1) := by decide +kernel
theorem dX10_draw_39 : decode cX10_draw 39 = .ok (.getfield 69, 3) := by decide +kernel
theorem dX10_draw_42 : decode cX10_draw 42 = .ok (.iastore, 1) := by decide +kernel
theorem dX10_draw_43 : decode cX10_draw 43 = .ok (.aload_n 0, 1) := by decide +kernel
theorem dX10_draw_44 : decode cX10_draw 44 = .ok (.aload_n 0, 1) := by decide +kernel
theorem dX10_draw_45 : decode cX10_draw 45 = .ok (.getfield 69, 3) := by decide +kernel
theorem dX10_draw_48 : decode cX10_draw 48 = .ok (.invokevirtual 81, 3) := by decide +kernel
theorem dX10_draw_51 : decode cX10_draw 51 = .ok (.aload_n 0, 1) := by decide +kernel
theorem dX10_draw_52 : decode cX10_draw 52 = .ok (.getfield 7, 3) := by decide +kernel
theorem dX10_draw_55 : decode cX10_draw 55 = .ok (.bipush 11, 2) := by decide +kernel
theorem dX10_draw_57 : decode cX10_draw 57 = .ok (.aload_n 0, 1) := by decide +kernel
theorem dX10_draw_58 : decode cX10_draw 58 = .ok (.getfield 7, 3) := by decide +kernel
theorem dX10_draw_61 : decode cX10_draw 61 = .ok (.iconst 5, 1) := by decide +kernel
theorem dX10_draw_62 : decode cX10_draw 62 = .ok (.iaload, 1) := by decide +kernel
theorem dX10_draw_63 : decode cX10_draw 63 = .ok (.iastore, 1) := by decide +kernel
theorem dX10_draw_64 : decode cX10_draw 64 = .ok (.iconst 0, 1) := by decide +kernel
theorem dX10_draw_65 : decode cX10_draw 65 = .ok (.istore_n 1, 1) := by decide +kernel
theorem dX10_draw_66 : decode cX10_draw 66 = .ok (.iload_n 1, 1) := by decide +kernel
theorem dX10_draw_67 : decode cX10_draw 67 = .ok (.aload_n 0, 1) := by decide +kernel
theorem dX10_draw_68 : decode cX10_draw 68 = .ok (.getfield 7, 3) := by decide +kernel
theorem dX10_draw_71 : decode cX10_draw 71 = .ok (.iconst 5, 1) := by decide +kernel
theorem dX10_draw_72 : decode cX10_draw 72 = .ok (.iaload, 1) := by decide +kernel
theorem dX10_draw_73 : decode cX10_draw 73 = .ok (.if_icmp .ge 105, 3) := by decide +kernel
theorem dX10_draw_76 : decode cX10_draw 76 = .ok (.aload_n 0, 1) := by decide +kernel
theorem dX10_draw_77 : decode cX10_draw 77 = .ok (.getfield 7, 3) := by decide +kernel
theorem dX10_draw_80 : decode cX10_draw 80 = .ok (.bipush 12, 2) := by decide +kernel
theorem dX10_draw_82 : decode cX10_draw 82 = .ok (.iload_n 1, 1) := by decide +kernel
theorem dX10_draw_83 : decode cX10_draw 83 = .ok (.iadd, 1) := by decide +kernel
theorem dX10_draw_84 : decode cX10_draw 84 = .ok (.aload_n 0, 1) := by decide +kernel
theorem dX10_draw_85 : decode cX10_draw 85 = .ok (.getfield 16, 3) := by decide +kernel
theorem dX10_draw_88 : decode cX10_draw 88 = .ok (.iload_n 1, 1) := by decide +kernel
theorem dX10_draw_89 : decode cX10_draw 89 = .ok (.iaload, 1) := by decide +kernel
theorem dX10_draw_90 : decode cX10_draw 90 = .ok (.iastore, 1) := by decide +kernel
theorem dX10_draw_91 : decode cX10_draw 91 = .ok (.aload_n 0, 1) := by decide +kernel
theorem dX10_draw_92 : decode cX10_draw 92 = .ok (.getfield 7, 3) := by decide +kernel
theorem dX10_draw_95 : decode cX10_draw 95 = .ok (.aload_n 0, 1) := by decide +kernel
theorem dX10_draw_96 : decode cX10_draw 96 = .ok (.getfield 16, 3) := by decide +kernel
theorem dX10_draw_99 : decode cX10_draw 99 = .ok (.iload_n 1, 1) := by decide +kernel
theorem dX10_draw_100 : decode cX10_draw 100 = .ok (.iaload, 1) := by decide +kernel
theorem dX10_draw_101 : decode cX10_draw 101 = .ok (.iconst 4, 1) := by decide +kernel
theorem dX10_draw_102 : decode cX10_draw 102 = .ok (.invokestatic 42, 3) := by decide +kernel
theorem dX10_draw_105 : decode cX10_draw 105 = .ok (.iload_n 1, 1) := by decide +kernel
theorem dX10_draw_106 : decode cX10_draw 106 = .ok (.iastore, 1) := by decide +kernel
theorem dX10_draw_107 : decode cX10_draw 107 = .ok (.aload_n 0, 1) := by decide +kernel
theorem dX10_draw_108 : decode cX10_draw 108 = .ok (.getfield 7, 3) := by decide +kernel
theorem dX10_draw_111 : decode cX10_draw 111 = .ok (.iload_n 1, 1) := by decide +kernel
theorem dX10_draw_112 : decode cX10_draw 112 = .ok (.iconst 3, 1) := by decide +kernel
theorem dX10_draw_113 : decode cX10_draw 113 = .ok (.invokestatic 42, 3) := by decide +kernel
theorem dX10_draw_116 : decode cX10_draw 116 = .ok (.dup2, 1) := by decide +kernel
theorem dX10_draw_117 : decode cX10_draw 117 = .ok (.iaload, 1) := by decide +kernel
theorem dX10_draw_118 : decode cX10_draw 118 = .ok (.aload_n 0, 1) := by decide +kernel
theorem dX10_draw_119 : decode cX10_draw 119 = .ok (.getfield 7, 3) := by decide +kernel
theorem dX10_draw_122 : decode cX10_draw 122 = .ok (.iload_n 1, 1) := by decide +kernel
theorem dX10_draw_123 : decode cX10_draw 123 = .ok (.bipush 8, 2) := by decide +kernel
theorem dX10_draw_125 : decode cX10_draw 125 = .ok (.invokestatic 42, 3) := by decide +kernel
theorem dX10_draw_128 : decode cX10_draw 128 = .ok (.iaload, 1) := by decide +kernel
theorem dX10_draw_129 : decode cX10_draw 129 = .ok (.iconst 1, 1) := by decide +kernel
theorem dX10_draw_130 : decode cX10_draw 130 = .ok (.if_icmp .eq 18, 3) := by decide +kernel
theorem dX10_draw_133 : decode cX10_draw 133 = .ok (.aload_n 0, 1) := by decide +kernel
theorem dX10_draw_134 : decode cX10_draw 134 = .ok (.getfield 7, 3) := by decide +kernel
theorem dX10_draw_137 : decode cX10_draw 137 = .ok (.iload_n 1, 1) := by decide +kernel
theorem dX10_draw_138 : decode cX10_draw 138 = .ok (.bipush 8, 2) := by decide +kernel
theorem dX10_draw_140 : decode cX10_draw 140 = .ok (.invokestatic 42, 3) := by decide +kernel
theorem dX10_draw_143 : decode cX10_draw 143 = .ok (.iaload, 1) := by decide +kernel
theorem dX10_draw_144 : decode cX10_draw 144 = .ok (.iconst 3, 1) := by decide +kernel
theorem dX10_draw_145 : decode cX10_draw 145 = .ok (.if_icmp .ne 12, 3) := by decide +kernel
theorem dX10_draw_148 : decode cX10_draw 148 = .ok (.aload_n 0, 1) := by decide +kernel
theorem dX10_draw_149 : decode cX10_draw 149 = .ok (.getfield 7, 3) := by decide +kernel
theorem dX10_draw_152 : decode cX10_draw 152 = .ok (.iconst 4, 1) := by decide +kernel
theorem dX10_draw_153 : decode cX10_draw 153 = .ok (.iaload, 1) := by decide +kernel
theorem dX10_draw_154 : decode cX10_draw 154 = .ok (.goto 4, 3) := by decide +kernel
theorem dX10_draw_157 : decode cX10_draw 157 = .ok (.iconst 0, 1) := by decide +kernel
theorem dX10_draw_158 : decode cX10_draw 158 = .ok (.isub, 1) := by decide +kernel
theorem dX10_draw_159 : decode cX10_draw 159 = .ok (.iastore, 1) := by decide +kernel
theorem dX10_draw_160 : decode cX10_draw 160 = .ok (.aload_n 0, 1) := by decide +kernel
theorem dX10_draw_161 : decode cX10_draw 161 = .ok (.getfield 7, 3) := by decide +kernel
theorem dX10_draw_164 : decode cX10_draw 164 = .ok (.iload_n 1, 1) := by decide +kernel
theorem dX10_draw_165 : decode cX10_draw 165 = .ok (.bipush 8, 2) := by decide +kernel
theorem dX10_draw_167 : decode cX10_draw 167 = .ok (.invokestatic 42, 3) := by decide +kernel
theorem dX10_draw_170 : decode cX10_draw 170 = .ok (.iconst 0, 1) := by decide +kernel
theorem dX10_draw_171 : decode cX10_draw 171 = .ok (.iastore, 1) := by decide +kernel
theorem dX10_draw_172 : decode cX10_draw 172 = .ok (.iinc 1 1, 3) := by decide +kernel
theorem dX10_draw_175 : decode cX10_draw 175 = .ok (.goto (-109), 3) := by decide +kernel
theorem dX10_draw_178 : decode cX10_draw 178 = .ok (.aload_n 0, 1) := by decide +kernel
theorem dX10_draw_179 : decode cX10_draw 179 = .ok (.getfield 7, 3) := by decide +kernel
theorem dX10_draw_182 : decode cX10_draw 182 = .ok (.bipush 6, 2) := by decide +kernel
theorem dX10_draw_184 : decode cX10_draw 184 = .ok (.iaload, 1) := by decide +kernel
theorem dX10_draw_185 : decode cX10_draw 185 = .ok (.ireturn, 1) := by decide +kernel
theorem dX10_seed_0 : decode cX10_seed 0 = .ok (.aload_n 0, 1) := by decide +kernel
theorem dX10_seed_1 : decode cX10_seed 1 = .ok (.getfield 7, 3) := by decide +kernel
theorem dX10_seed_4 : decode cX10_seed 4 = .ok (.bipush 6, 2) := by decide +kernel
theorem dX10_seed_6 : decode cX10_seed 6 = .ok (.iaload, 1) := by decide +kernel
theorem dX10_seed_7 : decode cX10_seed 7 = .ok (.ifCond .ne 9, 3) := by decide +kernel
theorem dX10_seed_10 : decode cX10_seed 10 = .ok (.ldc2_w 85, 3) := by decide +kernel
theorem dX10_seed_13 : decode cX10_seed 13 = .ok (.goto 11, 3) := by decide +kernel
theorem dX10_seed_16 : decode cX10_seed 16 = .ok (.aload_n 0, 1) := by decide +kernel
theorem dX10_seed_17 : decode cX10_seed 17 = .ok (.getfield 7, 3) := by decide +kernel
theorem dX10_seed_20 : decode cX10_seed 20 = .ok (.bipush 10, 2) := by decide +kernel
theorem dX10_seed_22 : decode cX10_seed 22 = .ok (.iaload, 1) := by decide +kernel
theorem dX10_seed_23 : decode cX10_seed 23 = .ok (.i2l, 1) := by decide +kernel
theorem dX10_seed_24 : decode cX10_seed 24 = .ok (.lreturn, 1) := by decide +kernel
theorem dX10_duty_0 : decode cX10_duty 0 = .ok (.iload_n 1, 1) := by decide +kernel
theorem dX10_duty_1 : decode cX10_duty 1 = .ok (.ifCond .ge 8, 3) := by decide +kernel
theorem dX10_duty_4 : decode cX10_duty 4 = .ok (.ldc 40, 2) := by decide +kernel
theorem dX10_duty_6 : decode cX10_duty 6 = .ok (.goto 28, 3) := by decide +kernel
theorem dX10_duty_9 : decode cX10_duty 9 = .ok (.iload_n 1, 1) := by decide +kernel
theorem dX10_duty_10 : decode cX10_duty 10 = .ok (.aload_n 0, 1) := by decide +kernel
theorem dX10_duty_11 : decode cX10_duty 11 = .ok (.getfield 7, 3) := by decide +kernel
theorem dX10_duty_14 : decode cX10_duty 14 = .ok (.bipush 11, 2) := by decide +kernel
theorem dX10_duty_16 : decode cX10_duty 16 = .ok (.iaload, 1) := by decide +kernel
theorem dX10_duty_17 : decode cX10_duty 17 = .ok (.if_icmp .ge 15, 3) := by decide +kernel
theorem dX10_duty_20 : decode cX10_duty 20 = .ok (.aload_n 0, 1) := by decide +kernel
theorem dX10_duty_21 : decode cX10_duty 21 = .ok (.getfield 7, 3) := by decide +kernel
theorem dX10_duty_24 : decode cX10_duty 24 = .ok (.bipush 12, 2) := by decide +kernel
theorem dX10_duty_26 : decode cX10_duty 26 = .ok (.iload_n 1, 1) := by decide +kernel
theorem dX10_duty_27 : decode cX10_duty 27 = .ok (.iadd, 1) := by decide +kernel
theorem dX10_duty_28 : decode cX10_duty 28 = .ok (.iaload, 1) := by decide +kernel
theorem dX10_duty_29 : decode cX10_duty 29 = .ok (.goto 5, 3) := by decide +kernel
theorem dX10_duty_32 : decode cX10_duty 32 = .ok (.ldc 46, 2) := by decide +kernel
theorem dX10_duty_34 : decode cX10_duty 34 = .ok (.ireturn, 1) := by decide +kernel
theorem dX10_ifLeft_0 : decode cX10_ifLeft 0 = .ok (.iload_n 1, 1) := by decide +kernel
theorem dX10_ifLeft_1 : decode cX10_ifLeft 1 = .ok (.iconst 0, 1) := by decide +kernel
theorem dX10_ifLeft_2 : decode cX10_ifLeft 2 = .ok (.sipush 1023, 3) := by decide +kernel
theorem dX10_ifLeft_5 : decode cX10_ifLeft 5 = .ok (.invokestatic 35, 3) := by decide +kernel
theorem dX10_ifLeft_8 : decode cX10_ifLeft 8 = .ok (.ifCond .eq 7, 3) := by decide +kernel
theorem dX10_ifLeft_11 : decode cX10_ifLeft 11 = .ok (.iload_n 2, 1) := by decide +kernel
theorem dX10_ifLeft_12 : decode cX10_ifLeft 12 = .ok (.ifCond .ge 6, 3) := by decide +kernel
theorem dX10_ifLeft_15 : decode cX10_ifLeft 15 = .ok (.ldc 40, 2) := by decide +kernel
theorem dX10_ifLeft_17 : decode cX10_ifLeft 17 = .ok (.ireturn, 1) := by decide +kernel
theorem dX10_ifLeft_18 : decode cX10_ifLeft 18 = .ok (.aload_n 0, 1) := by decide +kernel
theorem dX10_ifLeft_19 : decode cX10_ifLeft 19 = .ok (.iload_n 1, 1) := by decide +kernel
theorem dX10_ifLeft_20 : decode cX10_ifLeft 20 = .ok (.invokevirtual 78, 3) := by decide +kernel
theorem dX10_ifLeft_23 : decode cX10_ifLeft 23 = .ok (.aload_n 0, 1) := by decide +kernel
theorem dX10_ifLeft_24 : decode cX10_ifLeft 24 = .ok (.getfield 7, 3) := by decide +kernel
theorem dX10_ifLeft_27 : decode cX10_ifLeft 27 = .ok (.iconst 2, 1) := by decide +kernel
theorem dX10_ifLeft_28 : decode cX10_ifLeft 28 = .ok (.iaload, 1) := by decide +kernel
theorem dX10_ifLeft_29 : decode cX10_ifLeft 29 = .ok (.if_icmp .ge 6, 3) := by decide +kernel
theorem dX10_ifLeft_32 : decode cX10_ifLeft 32 = .ok (.ldc 68, 2) := by decide +kernel
theorem dX10_ifLeft_34 : decode cX10_ifLeft 34 = .ok (.ireturn, 1) := by decide +kernel
theorem dX10_ifLeft_35 : decode cX10_ifLeft 35 = .ok (.aload_n 0, 1) := by decide +kernel
theorem dX10_ifLeft_36 : decode cX10_ifLeft 36 = .ok (.aload_n 0, 1) := by decide +kernel
theorem dX10_ifLeft_37 : decode cX10_ifLeft 37 = .ok (.getfield 69, 3) := by decide +kernel
theorem dX10_ifLeft_40 : decode cX10_ifLeft 40 = .ok (.invokevirtual 81, 3) := by decide +kernel
theorem dX10_ifLeft_43 : decode cX10_ifLeft 43 = .ok (.iload_n 2, 1) := by decide +kernel
theorem dX10_ifLeft_44 : decode cX10_ifLeft 44 = .ok (.aload_n 0, 1) := by decide +kernel
theorem dX10_ifLeft_45 : decode cX10_ifLeft 45 = .ok (.getfield 7, 3) := by decide +kernel
theorem dX10_ifLeft_48 : decode cX10_ifLeft 48 = .ok (.iconst 5, 1) := by decide +kernel
theorem dX10_ifLeft_49 : decode cX10_ifLeft 49 = .ok (.iaload, 1) := by decide +kernel
theorem dX10_ifLeft_50 : decode cX10_ifLeft 50 = .ok (.if_icmp .ge 12, 3) := by decide +kernel
theorem dX10_ifLeft_53 : decode cX10_ifLeft 53 = .ok (.aload_n 0, 1) := by decide +kernel
theorem dX10_ifLeft_54 : decode cX10_ifLeft 54 = .ok (.getfield 16, 3) := by decide +kernel
theorem dX10_ifLeft_57 : decode cX10_ifLeft 57 = .ok (.iload_n 2, 1) := by decide +kernel
theorem dX10_ifLeft_58 : decode cX10_ifLeft 58 = .ok (.iaload, 1) := by decide +kernel
theorem dX10_ifLeft_59 : decode cX10_ifLeft 59 = .ok (.goto 5, 3) := by decide +kernel
theorem dX10_ifLeft_62 : decode cX10_ifLeft 62 = .ok (.ldc 46, 2) := by decide +kernel
theorem dX10_ifLeft_64 : decode cX10_ifLeft 64 = .ok (.ireturn, 1) := by decide +kernel
theorem dX10_lose_0 : decode cX10_lose 0 = .ok (.aload_n 0, 1) := by decide +kernel
theorem dX10_lose_1 : decode cX10_lose 1 = .ok (.iload_n 1, 1) := by decide +kernel
theorem dX10_lose_2 : decode cX10_lose 2 = .ok (.invokevirtual 47, 3) := by decide +kernel
theorem dX10_lose_5 : decode cX10_lose 5 = .ok (.ifCond .eq 10, 3) := by decide +kernel
theorem dX10_lose_8 : decode cX10_lose 8 = .ok (.iload_n 2, 1) := by decide +kernel
theorem dX10_lose_9 : decode cX10_lose 9 = .ok (.invokestatic 87, 3) := by decide +kernel
theorem dX10_lose_12 : decode cX10_lose 12 = .ok (.ifCond .ne 6, 3) := by decide +kernel
theorem dX10_lose_15 : decode cX10_lose 15 = .ok (.ldc 40, 2) := by decide +kernel
theorem dX10_lose_17 : decode cX10_lose 17 = .ok (.ireturn, 1) := by decide +kernel
theorem dX10_lose_18 : decode cX10_lose 18 = .ok (.aload_n 0, 1) := by decide +kernel
theorem dX10_lose_19 : decode cX10_lose 19 = .ok (.invokevirtual 32, 3) := by decide +kernel
theorem dX10_lose_22 : decode cX10_lose 22 = .ok (.aload_n 0, 1) := by decide +kernel
theorem dX10_lose_23 : decode cX10_lose 23 = .ok (.getfield 7, 3) := by decide +kernel
theorem dX10_lose_26 : decode cX10_lose 26 = .ok (.sipush 150, 3) := by decide +kernel
theorem dX10_lose_29 : decode cX10_lose 29 = .ok (.iload_n 2, 1) := by decide +kernel
theorem dX10_lose_30 : decode cX10_lose 30 = .ok (.iadd, 1) := by decide +kernel
theorem dX10_lose_31 : decode cX10_lose 31 = .ok (.dup2, 1) := by decide +kernel
theorem dX10_lose_32 : decode cX10_lose 32 = .ok (.iaload, 1) := by decide +kernel
theorem dX10_lose_33 : decode cX10_lose 33 = .ok (.iconst 1, 1) := by decide +kernel
theorem dX10_lose_34 : decode cX10_lose 34 = .ok (.iload_n 1, 1) := by decide +kernel
theorem dX10_lose_35 : decode cX10_lose 35 = .ok (.ishl, 1) := by decide +kernel
theorem dX10_lose_36 : decode cX10_lose 36 = .ok (.ior, 1) := by decide +kernel
theorem dX10_lose_37 : decode cX10_lose 37 = .ok (.iastore, 1) := by decide +kernel
theorem dX10_lose_38 : decode cX10_lose 38 = .ok (.iconst 0, 1) := by decide +kernel
theorem dX10_lose_39 : decode cX10_lose 39 = .ok (.istore_n 3, 1) := by decide +kernel
theorem dX10_lose_40 : decode cX10_lose 40 = .ok (.iconst 0, 1) := by decide +kernel
theorem dX10_lose_41 : decode cX10_lose 41 = .ok (.istore 4, 2) := by decide +kernel
theorem dX10_lose_43 : decode cX10_lose 43 = .ok (.iload 4, 2) := by decide +kernel
theorem dX10_lose_45 : decode cX10_lose 45 = .ok (.bipush 10, 2) := by decide +kernel
theorem dX10_lose_47 : decode cX10_lose 47 = .ok (.if_icmp .ge 27, 3) := by decide +kernel
theorem dX10_lose_50 : decode cX10_lose 50 = .ok (.iload_n 3, 1) := by decide +kernel
theorem dX10_lose_51 : decode cX10_lose 51 = .ok (.aload_n 0, 1) := by decide +kernel
theorem dX10_lose_52 : decode cX10_lose 52 = .ok (.getfield 7, 3) := by decide +kernel
theorem dX10_lose_55 : decode cX10_lose 55 = .ok (.sipush 150, 3) := by decide +kernel
theorem dX10_lose_58 : decode cX10_lose 58 = .ok (.iload_n 2, 1) := by decide +kernel
theorem dX10_lose_59 : decode cX10_lose 59 = .ok (.iadd, 1) := by decide +kernel
theorem dX10_lose_60 : decode cX10_lose 60 = .ok (.iaload, 1) := by decide +kernel
theorem dX10_lose_61 : decode cX10_lose 61 = .ok (.iload 4, 2) := by decide +kernel
theorem dX10_lose_63 : decode cX10_lose 63 = .ok (.ishr, 1) := by decide +kernel
theorem dX10_lose_64 : decode cX10_lose 64 = .ok (.iconst 1, 1) := by decide +kernel
theorem dX10_lose_65 : decode cX10_lose 65 = .ok (.iand, 1) := by decide +kernel
theorem dX10_lose_66 : decode cX10_lose 66 = .ok (.iadd, 1) := by decide +kernel
theorem dX10_lose_67 : decode cX10_lose 67 = .ok (.istore_n 3, 1) := by decide +kernel
theorem dX10_lose_68 : decode cX10_lose 68 = .ok (.iinc 4 1, 3) := by decide +kernel
theorem dX10_lose_71 : decode cX10_lose 71 = .ok (.goto (-28), 3) := by decide +kernel
theorem dX10_lose_74 : decode cX10_lose 74 = .ok (.iload_n 3, 1) := by decide +kernel
theorem dX10_lose_75 : decode cX10_lose 75 = .ok (.ireturn, 1) := by decide +kernel
theorem dX10_type_0 : decode cX10_type 0 = .ok (.iload_n 1, 1) := by decide +kernel
theorem dX10_type_1 : decode cX10_type 1 = .ok (.bipush 32, 2) := by decide +kernel
theorem dX10_type_3 : decode cX10_type 3 = .ok (.bipush 126, 2) := by decide +kernel
theorem dX10_type_5 : decode cX10_type 5 = .ok (.invokestatic 35, 3) := by decide +kernel
theorem dX10_type_8 : decode cX10_type 8 = .ok (.ifCond .ne 6, 3) := by decide +kernel
theorem dX10_type_11 : decode cX10_type 11 = .ok (.ldc 40, 2) := by decide +kernel
theorem dX10_type_13 : decode cX10_type 13 = .ok (.ireturn, 1) := by decide +kernel
theorem dX10_type_14 : decode cX10_type 14 = .ok (.aload_n 0, 1) := by decide +kernel
theorem dX10_type_15 : decode cX10_type 15 = .ok (.getfield 90, 3) := by decide +kernel
theorem dX10_type_18 : decode cX10_type 18 = .ok (.bipush 60, 2) := by decide +kernel
theorem dX10_type_20 : decode cX10_type 20 = .ok (.if_icmp .ne 6, 3) := by decide +kernel
theorem dX10_type_23 : decode cX10_type 23 = .ok (.ldc 41, 2) := by decide +kernel
theorem dX10_type_25 : decode cX10_type 25 = .ok (.ireturn, 1) := by decide +kernel
theorem dX10_type_26 : decode cX10_type 26 = .ok (.aload_n 0, 1) := by decide +kernel
theorem dX10_type_27 : decode cX10_type 27 = .ok (.getfield 19, 3) := by decide +kernel
theorem dX10_type_30 : decode cX10_type 30 = .ok (.aload_n 0, 1) := by decide +kernel
theorem dX10_type_31 : decode cX10_type 31 = .ok (.getfield 90, 3) := by decide +kernel
theorem dX10_type_34 : decode cX10_type 34 = .ok (.iload_n 1, 1) := by decide +kernel
theorem dX10_type_35 : decode cX10_type 35 = .ok (.iastore, 1) := by decide +kernel
theorem dX10_type_36 : decode cX10_type 36 = .ok (.aload_n 0, 1) := by decide +kernel
theorem dX10_type_37 : decode cX10_type 37 = .ok (.dup, 1) := by decide +kernel
theorem dX10_type_38 : decode cX10_type 38 = .ok (.getfield 90, 3) := by decide +kernel
theorem dX10_type_41 : decode cX10_type 41 = .ok (.iconst 1, 1) := by decide +kernel
theorem dX10_type_42 : decode cX10_type 42 = .ok (.iadd, 1) := by decide +kernel
theorem dX10_type_43 : decode cX10_type 43 = .ok (.putfield 90, 3) := by decide +kernel
theorem dX10_type_46 : decode cX10_type 46 = .ok (.aload_n 0, 1) := by decide +kernel
theorem dX10_type_47 : decode cX10_type 47 = .ok (.getfield 90, 3) := by decide +kernel
theorem dX10_type_50 : decode cX10_type 50 = .ok (.ireturn, 1) := by decide +kernel
theorem dX10_clear_0 : decode cX10_clear 0 = .ok (.aload_n 0, 1) := by decide +kernel
theorem dX10_clear_1 : decode cX10_clear 1 = .ok (.getfield 90, 3) := by decide +kernel
theorem dX10_clear_4 : decode cX10_clear 4 = .ok (.istore_n 1, 1) := by decide +kernel
theorem dX10_clear_5 : decode cX10_clear 5 = .ok (.aload_n 0, 1) := by decide +kernel
theorem dX10_clear_6 : decode cX10_clear 6 = .ok (.iconst 0, 1) := by decide +kernel
theorem dX10_clear_7 : decode cX10_clear 7 = .ok (.putfield 90, 3) := by decide +kernel
theorem dX10_clear_10 : decode cX10_clear 10 = .ok (.iload_n 1, 1) := by decide +kernel
theorem dX10_clear_11 : decode cX10_clear 11 = .ok (.ireturn, 1) := by decide +kernel
theorem dX10_sign_0 : decode cX10_sign 0 = .ok (.aload_n 0, 1) := by decide +kernel
theorem dX10_sign_1 : decode cX10_sign 1 = .ok (.getfield 93, 3) := by decide +kernel
theorem dX10_sign_4 : decode cX10_sign 4 = .ok (.aload_n 0, 1) := by decide +kernel
theorem dX10_sign_5 : decode cX10_sign 5 = .ok (.getfield 90, 3) := by decide +kernel
theorem dX10_sign_8 : decode cX10_sign 8 = .ok (.if_icmp .ge 15, 3) := by decide +kernel
theorem dX10_sign_11 : decode cX10_sign 11 = .ok (.aload_n 0, 1) := by decide +kernel
theorem dX10_sign_12 : decode cX10_sign 12 = .ok (.getfield 19, 3) := by decide +kernel
theorem dX10_sign_15 : decode cX10_sign 15 = .ok (.aload_n 0, 1) := by decide +kernel
theorem dX10_sign_16 : decode cX10_sign 16 = .ok (.getfield 93, 3) := by decide +kernel
theorem dX10_sign_19 : decode cX10_sign 19 = .ok (.iaload, 1) := by decide +kernel
theorem dX10_sign_20 : decode cX10_sign 20 = .ok (.goto 4, 3) := by decide +kernel
theorem dX10_sign_23 : decode cX10_sign 23 = .ok (.iconst (-1), 1) := by decide +kernel
theorem dX10_sign_24 : decode cX10_sign 24 = .ok (.ireturn, 1) := by decide +kernel
theorem dX10_readsGroup_0 : decode cX10_readsGroup 0 = .ok (.aload_n 0, 1) := by decide +kernel
theorem dX10_readsGroup_1 : decode cX10_readsGroup 1 = .ok (.getfield 93, 3) := by decide +kernel
theorem dX10_readsGroup_4 : decode cX10_readsGroup 4 = .ok (.istore_n 1, 1) := by decide +kernel
theorem dX10_readsGroup_5 : decode cX10_readsGroup 5 = .ok (.iconst 0, 1) := by decide +kernel
theorem dX10_readsGroup_6 : decode cX10_readsGroup 6 = .ok (.istore_n 2, 1) := by decide +kernel
theorem dX10_readsGroup_7 : decode cX10_readsGroup 7 = .ok (.aload_n 0, 1) := by decide +kernel
theorem dX10_readsGroup_8 : decode cX10_readsGroup 8 = .ok (.getfield 93, 3) := by decide +kernel
theorem dX10_readsGroup_11 : decode cX10_readsGroup 11 = .ok (.iload_n 1, 1) := by decide +kernel
theorem dX10_readsGroup_12 : decode cX10_readsGroup 12 = .ok (.iconst 3, 1) := by decide +kernel
theorem dX10_readsGroup_13 : decode cX10_readsGroup 13 = .ok (.iadd, 1) := by decide +kernel
theorem dX10_readsGroup_14 : decode cX10_readsGroup 14 = .ok (.if_icmp .ge 43, 3) := by decide +kernel
theorem dX10_readsGroup_17 : decode cX10_readsGroup 17 = .ok (.aload_n 0, 1) := by decide +kernel
theorem dX10_readsGroup_18 : decode cX10_readsGroup 18 = .ok (.invokevirtual 96, 3) := by decide +kernel
theorem dX10_readsGroup_21 : decode cX10_readsGroup 21 = .ok (.bipush 48, 2) := by decide +kernel
theorem dX10_readsGroup_23 : decode cX10_readsGroup 23 = .ok (.bipush 57, 2) := by decide +kernel
theorem dX10_readsGroup_25 : decode cX10_readsGroup 25 = .ok (.invokestatic 35, 3) := by decide +kernel
theorem dX10_readsGroup_28 : decode cX10_readsGroup 28 = .ok (.ifCond .eq 29, 3) := by decide +kernel
theorem dX10_readsGroup_31 : decode cX10_readsGroup 31 = .ok (.bipush 10, 2) := by decide +kernel
theorem dX10_readsGroup_33 : decode cX10_readsGroup 33 = .ok (.iload_n 2, 1) := by decide +kernel
theorem dX10_readsGroup_34 : decode cX10_readsGroup 34 = .ok (.imul, 1) := by decide +kernel
theorem dX10_readsGroup_35 : decode cX10_readsGroup 35 = .ok (.aload_n 0, 1) := by decide +kernel
theorem dX10_readsGroup_36 : decode cX10_readsGroup 36 = .ok (.invokevirtual 96, 3) := by decide +kernel
theorem dX10_readsGroup_39 : decode cX10_readsGroup 39 = .ok (.iadd, 1) := by decide +kernel
theorem dX10_readsGroup_40 : decode cX10_readsGroup 40 = .ok (.bipush 48, 2) := by decide +kernel
theorem dX10_readsGroup_42 : decode cX10_readsGroup 42 = .ok (.isub, 1) := by decide +kernel
theorem dX10_readsGroup_43 : decode cX10_readsGroup 43 = .ok (.istore_n 2, 1) := by decide +kernel
theorem dX10_readsGroup_44 : decode cX10_readsGroup 44 = .ok (.aload_n 0, 1) := by decide +kernel
theorem dX10_readsGroup_45 : decode cX10_readsGroup 45 = .ok (.dup, 1) := by decide +kernel
theorem dX10_readsGroup_46 : decode cX10_readsGroup 46 = .ok (.getfield 93, 3) := by decide +kernel
theorem dX10_readsGroup_49 : decode cX10_readsGroup 49 = .ok (.iconst 1, 1) := by decide +kernel
theorem dX10_readsGroup_50 : decode cX10_readsGroup 50 = .ok (.iadd, 1) := by decide +kernel
theorem dX10_readsGroup_51 : decode cX10_readsGroup 51 = .ok (.putfield 93, 3) := by decide +kernel
theorem dX10_readsGroup_54 : decode cX10_readsGroup 54 = .ok (.goto (-47), 3) := by decide +kernel
theorem dX10_readsGroup_57 : decode cX10_readsGroup 57 = .ok (.aload_n 0, 1) := by decide +kernel
theorem dX10_readsGroup_58 : decode cX10_readsGroup 58 = .ok (.getfield 93, 3) := by decide +kernel
theorem dX10_readsGroup_61 : decode cX10_readsGroup 61 = .ok (.iload_n 1, 1) := by decide +kernel
theorem dX10_readsGroup_62 : decode cX10_readsGroup 62 = .ok (.if_icmp .eq 12, 3) := by decide +kernel
theorem dX10_readsGroup_65 : decode cX10_readsGroup 65 = .ok (.aload_n 0, 1) := by decide +kernel
theorem dX10_readsGroup_66 : decode cX10_readsGroup 66 = .ok (.invokevirtual 96, 3) := by decide +kernel
theorem dX10_readsGroup_69 : decode cX10_readsGroup 69 = .ok (.bipush 58, 2) := by decide +kernel
theorem dX10_readsGroup_71 : decode cX10_readsGroup 71 = .ok (.if_icmp .eq 5, 3) := by decide +kernel
theorem dX10_readsGroup_74 : decode cX10_readsGroup 74 = .ok (.iconst 0, 1) := by decide +kernel
theorem dX10_readsGroup_75 : decode cX10_readsGroup 75 = .ok (.ireturn, 1) := by decide +kernel
theorem dX10_readsGroup_76 : decode cX10_readsGroup 76 = .ok (.aload_n 0, 1) := by decide +kernel
theorem dX10_readsGroup_77 : decode cX10_readsGroup 77 = .ok (.dup, 1) := by decide +kernel
theorem dX10_readsGroup_78 : decode cX10_readsGroup 78 = .ok (.getfield 93, 3) := by decide +kernel
theorem dX10_readsGroup_81 : decode cX10_readsGroup 81 = .ok (.iconst 1, 1) := by decide +kernel
theorem dX10_readsGroup_82 : decode cX10_readsGroup 82 = .ok (.iadd, 1) := by decide +kernel
theorem dX10_readsGroup_83 : decode cX10_readsGroup 83 = .ok (.putfield 93, 3) := by decide +kernel
theorem dX10_readsGroup_86 : decode cX10_readsGroup 86 = .ok (.aload_n 0, 1) := by decide +kernel
theorem dX10_readsGroup_87 : decode cX10_readsGroup 87 = .ok (.aload_n 0, 1) := by decide +kernel
theorem dX10_readsGroup_88 : decode cX10_readsGroup 88 = .ok (.getfield 100, 3) := by decide +kernel
theorem dX10_readsGroup_91 : decode cX10_readsGroup 91 = .ok (.ifCond .ge 14, 3) := by decide +kernel
theorem dX10_readsGroup_94 : decode cX10_readsGroup 94 = .ok (.iload_n 2, 1) := by decide +kernel
theorem dX10_readsGroup_95 : decode cX10_readsGroup 95 = .ok (.sipush 199, 3) := by decide +kernel
theorem dX10_readsGroup_98 : decode cX10_readsGroup 98 = .ok (.if_icmp .le 7, 3) := by decide +kernel
theorem dX10_readsGroup_101 : decode cX10_readsGroup 101 = .ok (.iload_n 1, 1) := by decide +kernel
theorem dX10_readsGroup_102 : decode cX10_readsGroup 102 = .ok (.goto 7, 3) := by decide +kernel
theorem dX10_readsGroup_105 : decode cX10_readsGroup 105 = .ok (.aload_n 0, 1) := by decide +kernel
theorem dX10_readsGroup_106 : decode cX10_readsGroup 106 = .ok (.getfield 100, 3) := by decide +kernel
theorem dX10_readsGroup_109 : decode cX10_readsGroup 109 = .ok (.putfield 100, 3) := by decide +kernel
theorem dX10_readsGroup_112 : decode cX10_readsGroup 112 = .ok (.aload_n 0, 1) := by decide +kernel
theorem dX10_readsGroup_113 : decode cX10_readsGroup 113 = .ok (.getfield 93, 3) := by decide +kernel
theorem dX10_readsGroup_116 : decode cX10_readsGroup 116 = .ok (.istore_n 3, 1) := by decide +kernel
theorem dX10_readsGroup_117 : decode cX10_readsGroup 117 = .ok (.aload_n 0, 1) := by decide +kernel
theorem dX10_readsGroup_118 : decode cX10_readsGroup 118 = .ok (.invokevirtual 96, 3) := by decide +kernel
theorem dX10_readsGroup_121 : decode cX10_readsGroup 121 = .ok (.bipush 48, 2) := by decide +kernel
theorem dX10_readsGroup_123 : decode cX10_readsGroup 123 = .ok (.isub, 1) := by decide +kernel
theorem dX10_readsGroup_124 : decode cX10_readsGroup 124 = .ok (.iconst 0, 1) := by decide +kernel
theorem dX10_readsGroup_125 : decode cX10_readsGroup 125 = .ok (.aload_n 0, 1) := by decide +kernel
theorem dX10_readsGroup_126 : decode cX10_readsGroup 126 = .ok (.getfield 7, 3) := by decide +kernel
theorem dX10_readsGroup_129 : decode cX10_readsGroup 129 = .ok (.iconst 5, 1) := by decide +kernel
theorem dX10_readsGroup_130 : decode cX10_readsGroup 130 = .ok (.iaload, 1) := by decide +kernel
theorem dX10_readsGroup_131 : decode cX10_readsGroup 131 = .ok (.iconst 1, 1) := by decide +kernel
theorem dX10_readsGroup_132 : decode cX10_readsGroup 132 = .ok (.isub, 1) := by decide +kernel
theorem dX10_readsGroup_133 : decode cX10_readsGroup 133 = .ok (.invokestatic 35, 3) := by decide +kernel
theorem dX10_readsGroup_136 : decode cX10_readsGroup 136 = .ok (.ifCond .eq 47, 3) := by decide +kernel
theorem dX10_readsGroup_139 : decode cX10_readsGroup 139 = .ok (.aload_n 0, 1) := by decide +kernel
theorem dX10_readsGroup_140 : decode cX10_readsGroup 140 = .ok (.getfield 22, 3) := by decide +kernel
theorem dX10_readsGroup_143 : decode cX10_readsGroup 143 = .ok (.aload_n 0, 1) := by decide +kernel
theorem dX10_readsGroup_144 : decode cX10_readsGroup 144 = .ok (.getfield 103, 3) := by decide +kernel
theorem dX10_readsGroup_147 : decode cX10_readsGroup 147 = .ok (.bipush 10, 2) := by decide +kernel
theorem dX10_readsGroup_149 : decode cX10_readsGroup 149 = .ok (.iload_n 2, 1) := by decide +kernel
theorem dX10_readsGroup_150 : decode cX10_readsGroup 150 = .ok (.imul, 1) := by decide +kernel
theorem dX10_readsGroup_151 : decode cX10_readsGroup 151 = .ok (.aload_n 0, 1) := by decide +kernel
theorem dX10_readsGroup_152 : decode cX10_readsGroup 152 = .ok (.invokevirtual 96, 3) := by decide +kernel
theorem dX10_readsGroup_155 : decode cX10_readsGroup 155 = .ok (.iadd, 1) := by decide +kernel
theorem dX10_readsGroup_156 : decode cX10_readsGroup 156 = .ok (.bipush 48, 2) := by decide +kernel
theorem dX10_readsGroup_158 : decode cX10_readsGroup 158 = .ok (.isub, 1) := by decide +kernel
theorem dX10_readsGroup_159 : decode cX10_readsGroup 159 = .ok (.iastore, 1) := by decide +kernel
theorem dX10_readsGroup_160 : decode cX10_readsGroup 160 = .ok (.aload_n 0, 1) := by decide +kernel
theorem dX10_readsGroup_161 : decode cX10_readsGroup 161 = .ok (.dup, 1) := by decide +kernel
theorem dX10_readsGroup_162 : decode cX10_readsGroup 162 = .ok (.getfield 103, 3) := by decide +kernel
theorem dX10_readsGroup_165 : decode cX10_readsGroup 165 = .ok (.iconst 1, 1) := by decide +kernel
theorem dX10_readsGroup_166 : decode cX10_readsGroup 166 = .ok (.iadd, 1) := by decide +kernel
theorem dX10_readsGroup_167 : decode cX10_readsGroup 167 = .ok (.putfield 103, 3) := by decide +kernel
theorem dX10_readsGroup_170 : decode cX10_readsGroup 170 = .ok (.aload_n 0, 1) := by decide +kernel
theorem dX10_readsGroup_171 : decode cX10_readsGroup 171 = .ok (.dup, 1) := by decide +kernel
theorem dX10_readsGroup_172 : decode cX10_readsGroup 172 = .ok (.getfield 93, 3) := by decide +kernel
theorem dX10_readsGroup_175 : decode cX10_readsGroup 175 = .ok (.iconst 1, 1) := by decide +kernel
theorem dX10_readsGroup_176 : decode cX10_readsGroup 176 = .ok (.iadd, 1) := by decide +kernel
theorem dX10_readsGroup_177 : decode cX10_readsGroup 177 = .ok (.putfield 93, 3) := by decide +kernel
theorem dX10_readsGroup_180 : decode cX10_readsGroup 180 = .ok (.goto (-63), 3) := by decide +kernel
theorem dX10_readsGroup_183 : decode cX10_readsGroup 183 = .ok (.aload_n 0, 1) := by decide +kernel
theorem dX10_readsGroup_184 : decode cX10_readsGroup 184 = .ok (.getfield 93, 3) := by decide +kernel
theorem dX10_readsGroup_187 : decode cX10_readsGroup 187 = .ok (.iload_n 3, 1) := by decide +kernel
theorem dX10_readsGroup_188 : decode cX10_readsGroup 188 = .ok (.if_icmp .le 7, 3) := by decide +kernel
theorem dX10_readsGroup_191 : decode cX10_readsGroup 191 = .ok (.iconst 1, 1) := by decide +kernel
theorem dX10_readsGroup_192 : decode cX10_readsGroup 192 = .ok (.goto 4, 3) := by decide +kernel
theorem dX10_readsGroup_195 : decode cX10_readsGroup 195 = .ok (.iconst 0, 1) := by decide +kernel
theorem dX10_readsGroup_196 : decode cX10_readsGroup 196 = .ok (.ireturn, 1) := by decide +kernel
theorem dX10_wrongAt_0 : decode cX10_wrongAt 0 = .ok (.aload_n 0, 1) := by decide +kernel
theorem dX10_wrongAt_1 : decode cX10_wrongAt 1 = .ok (.iconst 0, 1) := by decide +kernel
theorem dX10_wrongAt_2 : decode cX10_wrongAt 2 = .ok (.putfield 93, 3) := by decide +kernel
theorem dX10_wrongAt_5 : decode cX10_wrongAt 5 = .ok (.aload_n 0, 1) := by decide +kernel
theorem dX10_wrongAt_6 : decode cX10_wrongAt 6 = .ok (.iconst 0, 1) := by decide +kernel
theorem dX10_wrongAt_7 : decode cX10_wrongAt 7 = .ok (.putfield 103, 3) := by decide +kernel
theorem dX10_wrongAt_10 : decode cX10_wrongAt 10 = .ok (.aload_n 0, 1) := by decide +kernel
theorem dX10_wrongAt_11 : decode cX10_wrongAt 11 = .ok (.iconst (-1), 1) := by decide +kernel
theorem dX10_wrongAt_12 : decode cX10_wrongAt 12 = .ok (.putfield 100, 3) := by decide +kernel
theorem dX10_wrongAt_15 : decode cX10_wrongAt 15 = .ok (.iconst 1, 1) := by decide +kernel
theorem dX10_wrongAt_16 : decode cX10_wrongAt 16 = .ok (.istore_n 1, 1) := by decide +kernel
theorem dX10_wrongAt_17 : decode cX10_wrongAt 17 = .ok (.iload_n 1, 1) := by decide +kernel
theorem dX10_wrongAt_18 : decode cX10_wrongAt 18 = .ok (.ifCond .eq 51, 3) := by decide +kernel
theorem dX10_wrongAt_21 : decode cX10_wrongAt 21 = .ok (.aload_n 0, 1) := by decide +kernel
theorem dX10_wrongAt_22 : decode cX10_wrongAt 22 = .ok (.invokevirtual 106, 3) := by decide +kernel
theorem dX10_wrongAt_25 : decode cX10_wrongAt 25 = .ok (.ifCond .ne 8, 3) := by decide +kernel
theorem dX10_wrongAt_28 : decode cX10_wrongAt 28 = .ok (.aload_n 0, 1) := by decide +kernel
theorem dX10_wrongAt_29 : decode cX10_wrongAt 29 = .ok (.getfield 93, 3) := by decide +kernel
theorem dX10_wrongAt_32 : decode cX10_wrongAt 32 = .ok (.ireturn, 1) := by decide +kernel
theorem dX10_wrongAt_33 : decode cX10_wrongAt 33 = .ok (.aload_n 0, 1) := by decide +kernel
theorem dX10_wrongAt_34 : decode cX10_wrongAt 34 = .ok (.invokevirtual 96, 3) := by decide +kernel
theorem dX10_wrongAt_37 : decode cX10_wrongAt 37 = .ok (.bipush 59, 2) := by decide +kernel
theorem dX10_wrongAt_39 : decode cX10_wrongAt 39 = .ok (.if_icmp .ne 7, 3) := by decide +kernel
theorem dX10_wrongAt_42 : decode cX10_wrongAt 42 = .ok (.iconst 1, 1) := by decide +kernel
theorem dX10_wrongAt_43 : decode cX10_wrongAt 43 = .ok (.goto 4, 3) := by decide +kernel
theorem dX10_wrongAt_46 : decode cX10_wrongAt 46 = .ok (.iconst 0, 1) := by decide +kernel
theorem dX10_wrongAt_47 : decode cX10_wrongAt 47 = .ok (.istore_n 1, 1) := by decide +kernel
theorem dX10_wrongAt_48 : decode cX10_wrongAt 48 = .ok (.aload_n 0, 1) := by decide +kernel
theorem dX10_wrongAt_49 : decode cX10_wrongAt 49 = .ok (.dup, 1) := by decide +kernel
theorem dX10_wrongAt_50 : decode cX10_wrongAt 50 = .ok (.getfield 93, 3) := by decide +kernel
theorem dX10_wrongAt_53 : decode cX10_wrongAt 53 = .ok (.iload_n 1, 1) := by decide +kernel
theorem dX10_wrongAt_54 : decode cX10_wrongAt 54 = .ok (.ifCond .eq 7, 3) := by decide +kernel
theorem dX10_wrongAt_57 : decode cX10_wrongAt 57 = .ok (.iconst 1, 1) := by decide +kernel
theorem dX10_wrongAt_58 : decode cX10_wrongAt 58 = .ok (.goto 4, 3) := by decide +kernel
theorem dX10_wrongAt_61 : decode cX10_wrongAt 61 = .ok (.iconst 0, 1) := by decide +kernel
theorem dX10_wrongAt_62 : decode cX10_wrongAt 62 = .ok (.iadd, 1) := by decide +kernel
theorem dX10_wrongAt_63 : decode cX10_wrongAt 63 = .ok (.putfield 93, 3) := by decide +kernel
theorem dX10_wrongAt_66 : decode cX10_wrongAt 66 = .ok (.goto (-49), 3) := by decide +kernel
theorem dX10_wrongAt_69 : decode cX10_wrongAt 69 = .ok (.aload_n 0, 1) := by decide +kernel
theorem dX10_wrongAt_70 : decode cX10_wrongAt 70 = .ok (.getfield 93, 3) := by decide +kernel
theorem dX10_wrongAt_73 : decode cX10_wrongAt 73 = .ok (.aload_n 0, 1) := by decide +kernel
theorem dX10_wrongAt_74 : decode cX10_wrongAt 74 = .ok (.getfield 90, 3) := by decide +kernel
theorem dX10_wrongAt_77 : decode cX10_wrongAt 77 = .ok (.if_icmp .ge 10, 3) := by decide +kernel
theorem dX10_wrongAt_80 : decode cX10_wrongAt 80 = .ok (.aload_n 0, 1) := by decide +kernel
theorem dX10_wrongAt_81 : decode cX10_wrongAt 81 = .ok (.getfield 93, 3) := by decide +kernel
theorem dX10_wrongAt_84 : decode cX10_wrongAt 84 = .ok (.goto 7, 3) := by decide +kernel
theorem dX10_wrongAt_87 : decode cX10_wrongAt 87 = .ok (.aload_n 0, 1) := by decide +kernel
theorem dX10_wrongAt_88 : decode cX10_wrongAt 88 = .ok (.getfield 100, 3) := by decide +kernel
theorem dX10_wrongAt_91 : decode cX10_wrongAt 91 = .ok (.ireturn, 1) := by decide +kernel
theorem dX10_read_0 : decode cX10_read 0 = .ok (.aload_n 0, 1) := by decide +kernel
theorem dX10_read_1 : decode cX10_read 1 = .ok (.invokevirtual 110, 3) := by decide +kernel
theorem dX10_read_4 : decode cX10_read 4 = .ok (.istore_n 1, 1) := by decide +kernel
theorem dX10_read_5 : decode cX10_read 5 = .ok (.iload_n 1, 1) := by decide +kernel
theorem dX10_read_6 : decode cX10_read 6 = .ok (.ifCond .lt 8, 3) := by decide +kernel
theorem dX10_read_9 : decode cX10_read 9 = .ok (.bipush (-100), 2) := by decide +kernel
theorem dX10_read_11 : decode cX10_read 11 = .ok (.iload_n 1, 1) := by decide +kernel
theorem dX10_read_12 : decode cX10_read 12 = .ok (.isub, 1) := by decide +kernel
theorem dX10_read_13 : decode cX10_read 13 = .ok (.ireturn, 1) := by decide +kernel
theorem dX10_read_14 : decode cX10_read 14 = .ok (.aload_n 0, 1) := by decide +kernel
theorem dX10_read_15 : decode cX10_read 15 = .ok (.invokevirtual 32, 3) := by decide +kernel
theorem dX10_read_18 : decode cX10_read 18 = .ok (.iconst 0, 1) := by decide +kernel
theorem dX10_read_19 : decode cX10_read 19 = .ok (.istore_n 2, 1) := by decide +kernel
theorem dX10_read_20 : decode cX10_read 20 = .ok (.iconst 0, 1) := by decide +kernel
theorem dX10_read_21 : decode cX10_read 21 = .ok (.istore_n 3, 1) := by decide +kernel
theorem dX10_read_22 : decode cX10_read 22 = .ok (.iload_n 3, 1) := by decide +kernel
theorem dX10_read_23 : decode cX10_read 23 = .ok (.aload_n 0, 1) := by decide +kernel
theorem dX10_read_24 : decode cX10_read 24 = .ok (.getfield 103, 3) := by decide +kernel
theorem dX10_read_27 : decode cX10_read 27 = .ok (.if_icmp .ge 68, 3) := by decide +kernel
theorem dX10_read_30 : decode cX10_read 30 = .ok (.aload_n 0, 1) := by decide +kernel
theorem dX10_read_31 : decode cX10_read 31 = .ok (.getfield 22, 3) := by decide +kernel
theorem dX10_read_34 : decode cX10_read 34 = .ok (.iload_n 3, 1) := by decide +kernel
theorem dX10_read_35 : decode cX10_read 35 = .ok (.iaload, 1) := by decide +kernel
theorem dX10_read_36 : decode cX10_read 36 = .ok (.bipush 10, 2) := by decide +kernel
theorem dX10_read_38 : decode cX10_read 38 = .ok (.idiv, 1) := by decide +kernel
theorem dX10_read_39 : decode cX10_read 39 = .ok (.istore 4, 2) := by decide +kernel
theorem dX10_read_41 : decode cX10_read 41 = .ok (.aload_n 0, 1) := by decide +kernel
theorem dX10_read_42 : decode cX10_read 42 = .ok (.getfield 22, 3) := by decide +kernel
theorem dX10_read_45 : decode cX10_read 45 = .ok (.iload_n 3, 1) := by decide +kernel
theorem dX10_read_46 : decode cX10_read 46 = .ok (.iaload, 1) := by decide +kernel
theorem dX10_read_47 : decode cX10_read 47 = .ok (.bipush 10, 2) := by decide +kernel
theorem dX10_read_49 : decode cX10_read 49 = .ok (.irem, 1) := by decide +kernel
theorem dX10_read_50 : decode cX10_read 50 = .ok (.istore 5, 2) := by decide +kernel
theorem dX10_read_52 : decode cX10_read 52 = .ok (.iload_n 2, 1) := by decide +kernel
theorem dX10_read_53 : decode cX10_read 53 = .ok (.aload_n 0, 1) := by decide +kernel
theorem dX10_read_54 : decode cX10_read 54 = .ok (.iload 5, 2) := by decide +kernel
theorem dX10_read_56 : decode cX10_read 56 = .ok (.iload 4, 2) := by decide +kernel
theorem dX10_read_58 : decode cX10_read 58 = .ok (.invokevirtual 54, 3) := by decide +kernel
theorem dX10_read_61 : decode cX10_read 61 = .ok (.ifCond .eq 7, 3) := by decide +kernel
theorem dX10_read_64 : decode cX10_read 64 = .ok (.iconst 1, 1) := by decide +kernel
theorem dX10_read_65 : decode cX10_read 65 = .ok (.goto 4, 3) := by decide +kernel
theorem dX10_read_68 : decode cX10_read 68 = .ok (.iconst 0, 1) := by decide +kernel
theorem dX10_read_69 : decode cX10_read 69 = .ok (.iadd, 1) := by decide +kernel
theorem dX10_read_70 : decode cX10_read 70 = .ok (.istore_n 2, 1) := by decide +kernel
theorem dX10_read_71 : decode cX10_read 71 = .ok (.aload_n 0, 1) := by decide +kernel
theorem dX10_read_72 : decode cX10_read 72 = .ok (.getfield 7, 3) := by decide +kernel
theorem dX10_read_75 : decode cX10_read 75 = .ok (.sipush 150, 3) := by decide +kernel
theorem dX10_read_78 : decode cX10_read 78 = .ok (.iload 4, 2) := by decide +kernel
theorem dX10_read_80 : decode cX10_read 80 = .ok (.iadd, 1) := by decide +kernel
theorem dX10_read_81 : decode cX10_read 81 = .ok (.dup2, 1) := by decide +kernel
theorem dX10_read_82 : decode cX10_read 82 = .ok (.iaload, 1) := by decide +kernel
theorem dX10_read_83 : decode cX10_read 83 = .ok (.iconst 1, 1) := by decide +kernel
theorem dX10_read_84 : decode cX10_read 84 = .ok (.iload 5, 2) := by decide +kernel
theorem dX10_read_86 : decode cX10_read 86 = .ok (.ishl, 1) := by decide +kernel
theorem dX10_read_87 : decode cX10_read 87 = .ok (.ior, 1) := by decide +kernel
theorem dX10_read_88 : decode cX10_read 88 = .ok (.iastore, 1) := by decide +kernel
theorem dX10_read_89 : decode cX10_read 89 = .ok (.iinc 3 1, 3) := by decide +kernel
theorem dX10_read_92 : decode cX10_read 92 = .ok (.goto (-70), 3) := by decide +kernel
theorem dX10_read_95 : decode cX10_read 95 = .ok (.aload_n 0, 1) := by decide +kernel
theorem dX10_read_96 : decode cX10_read 96 = .ok (.iconst 0, 1) := by decide +kernel
theorem dX10_read_97 : decode cX10_read 97 = .ok (.putfield 90, 3) := by decide +kernel
theorem dX10_read_100 : decode cX10_read 100 = .ok (.iload_n 2, 1) := by decide +kernel
theorem dX10_read_101 : decode cX10_read 101 = .ok (.ireturn, 1) := by decide +kernel
theorem dX10_lost_0 : decode cX10_lost 0 = .ok (.aload_n 0, 1) := by decide +kernel
theorem dX10_lost_1 : decode cX10_lost 1 = .ok (.iload_n 1, 1) := by decide +kernel
theorem dX10_lost_2 : decode cX10_lost 2 = .ok (.invokevirtual 47, 3) := by decide +kernel
theorem dX10_lost_5 : decode cX10_lost 5 = .ok (.ifCond .eq 27, 3) := by decide +kernel
theorem dX10_lost_8 : decode cX10_lost 8 = .ok (.iload_n 2, 1) := by decide +kernel
theorem dX10_lost_9 : decode cX10_lost 9 = .ok (.invokestatic 87, 3) := by decide +kernel
theorem dX10_lost_12 : decode cX10_lost 12 = .ok (.ifCond .eq 20, 3) := by decide +kernel
theorem dX10_lost_15 : decode cX10_lost 15 = .ok (.aload_n 0, 1) := by decide +kernel
theorem dX10_lost_16 : decode cX10_lost 16 = .ok (.iload_n 1, 1) := by decide +kernel
theorem dX10_lost_17 : decode cX10_lost 17 = .ok (.iload_n 2, 1) := by decide +kernel
theorem dX10_lost_18 : decode cX10_lost 18 = .ok (.invokevirtual 54, 3) := by decide +kernel
theorem dX10_lost_21 : decode cX10_lost 21 = .ok (.ifCond .eq 7, 3) := by decide +kernel
theorem dX10_lost_24 : decode cX10_lost 24 = .ok (.iconst 0, 1) := by decide +kernel
theorem dX10_lost_25 : decode cX10_lost 25 = .ok (.goto 9, 3) := by decide +kernel
theorem dX10_lost_28 : decode cX10_lost 28 = .ok (.iconst 1, 1) := by decide +kernel
theorem dX10_lost_29 : decode cX10_lost 29 = .ok (.goto 5, 3) := by decide +kernel
theorem dX10_lost_32 : decode cX10_lost 32 = .ok (.ldc 40, 2) := by decide +kernel
theorem dX10_lost_34 : decode cX10_lost 34 = .ok (.ireturn, 1) := by decide +kernel
theorem dX10_isIn_0 : decode cX10_isIn 0 = .ok (.iload_n 1, 1) := by decide +kernel
theorem dX10_isIn_1 : decode cX10_isIn 1 = .ok (.iload_n 2, 1) := by decide +kernel
theorem dX10_isIn_2 : decode cX10_isIn 2 = .ok (.ishr, 1) := by decide +kernel
theorem dX10_isIn_3 : decode cX10_isIn 3 = .ok (.iconst 1, 1) := by decide +kernel
theorem dX10_isIn_4 : decode cX10_isIn 4 = .ok (.iand, 1) := by decide +kernel
theorem dX10_isIn_5 : decode cX10_isIn 5 = .ok (.iconst 1, 1) := by decide +kernel
theorem dX10_isIn_6 : decode cX10_isIn 6 = .ok (.if_icmp .ne 7, 3) := by decide +kernel
theorem dX10_isIn_9 : decode cX10_isIn 9 = .ok (.iconst 1, 1) := by decide +kernel
theorem dX10_isIn_10 : decode cX10_isIn 10 = .ok (.goto 4, 3) := by decide +kernel
theorem dX10_isIn_13 : decode cX10_isIn 13 = .ok (.iconst 0, 1) := by decide +kernel
theorem dX10_isIn_14 : decode cX10_isIn 14 = .ok (.ireturn, 1) := by decide +kernel
theorem dX10_distance_0 : decode cX10_distance 0 = .ok (.aload_n 0, 1) := by decide +kernel
theorem dX10_distance_1 : decode cX10_distance 1 = .ok (.getfield 7, 3) := by decide +kernel
theorem dX10_distance_4 : decode cX10_distance 4 = .ok (.iload_n 1, 1) := by decide +kernel
theorem dX10_distance_5 : decode cX10_distance 5 = .ok (.iconst 1, 1) := by decide +kernel
theorem dX10_distance_6 : decode cX10_distance 6 = .ok (.invokestatic 42, 3) := by decide +kernel
theorem dX10_distance_9 : decode cX10_distance 9 = .ok (.iaload, 1) := by decide +kernel
theorem dX10_distance_10 : decode cX10_distance 10 = .ok (.aload_n 0, 1) := by decide +kernel
theorem dX10_distance_11 : decode cX10_distance 11 = .ok (.getfield 7, 3) := by decide +kernel
theorem dX10_distance_14 : decode cX10_distance 14 = .ok (.iload_n 2, 1) := by decide +kernel
theorem dX10_distance_15 : decode cX10_distance 15 = .ok (.iconst 1, 1) := by decide +kernel
theorem dX10_distance_16 : decode cX10_distance 16 = .ok (.invokestatic 42, 3) := by decide +kernel
theorem dX10_distance_19 : decode cX10_distance 19 = .ok (.iaload, 1) := by decide +kernel
theorem dX10_distance_20 : decode cX10_distance 20 = .ok (.isub, 1) := by decide +kernel
theorem dX10_distance_21 : decode cX10_distance 21 = .ok (.istore_n 3, 1) := by decide +kernel
theorem dX10_distance_22 : decode cX10_distance 22 = .ok (.iload_n 3, 1) := by decide +kernel
theorem dX10_distance_23 : decode cX10_distance 23 = .ok (.ifCond .ge 8, 3) := by decide +kernel
theorem dX10_distance_26 : decode cX10_distance 26 = .ok (.iload_n 3, 1) := by decide +kernel
theorem dX10_distance_27 : decode cX10_distance 27 = .ok (.ineg, 1) := by decide +kernel
theorem dX10_distance_28 : decode cX10_distance 28 = .ok (.goto 4, 3) := by decide +kernel
theorem dX10_distance_31 : decode cX10_distance 31 = .ok (.iload_n 3, 1) := by decide +kernel
theorem dX10_distance_32 : decode cX10_distance 32 = .ok (.ireturn, 1) := by decide +kernel
theorem dX10_works_0 : decode cX10_works 0 = .ok (.aload_n 0, 1) := by decide +kernel
theorem dX10_works_1 : decode cX10_works 1 = .ok (.iconst 0, 1) := by decide +kernel
theorem dX10_works_2 : decode cX10_works 2 = .ok (.putfield 113, 3) := by decide +kernel
theorem dX10_works_5 : decode cX10_works 5 = .ok (.iconst 0, 1) := by decide +kernel
theorem dX10_works_6 : decode cX10_works 6 = .ok (.istore_n 3, 1) := by decide +kernel
theorem dX10_works_7 : decode cX10_works 7 = .ok (.iload_n 3, 1) := by decide +kernel
theorem dX10_works_8 : decode cX10_works 8 = .ok (.aload_n 0, 1) := by decide +kernel
theorem dX10_works_9 : decode cX10_works 9 = .ok (.getfield 7, 3) := by decide +kernel
theorem dX10_works_12 : decode cX10_works 12 = .ok (.iconst 5, 1) := by decide +kernel
theorem dX10_works_13 : decode cX10_works 13 = .ok (.iaload, 1) := by decide +kernel
theorem dX10_works_14 : decode cX10_works 14 = .ok (.if_icmp .ge 42, 3) := by decide +kernel
theorem dX10_works_17 : decode cX10_works 17 = .ok (.aload_n 0, 1) := by decide +kernel
theorem dX10_works_18 : decode cX10_works 18 = .ok (.dup, 1) := by decide +kernel
theorem dX10_works_19 : decode cX10_works 19 = .ok (.getfield 113, 3) := by decide +kernel
theorem dX10_works_22 : decode cX10_works 22 = .ok (.aload_n 0, 1) := by decide +kernel
theorem dX10_works_23 : decode cX10_works 23 = .ok (.iload_n 3, 1) := by decide +kernel
theorem dX10_works_24 : decode cX10_works 24 = .ok (.invokevirtual 65, 3) := by decide +kernel
theorem dX10_works_27 : decode cX10_works 27 = .ok (.ifCond .eq 18, 3) := by decide +kernel
theorem dX10_works_30 : decode cX10_works 30 = .ok (.aload_n 0, 1) := by decide +kernel
theorem dX10_works_31 : decode cX10_works 31 = .ok (.iload_n 3, 1) := by decide +kernel
theorem dX10_works_32 : decode cX10_works 32 = .ok (.iload_n 1, 1) := by decide +kernel
theorem dX10_works_33 : decode cX10_works 33 = .ok (.invokevirtual 54, 3) := by decide +kernel
theorem dX10_works_36 : decode cX10_works 36 = .ok (.ifCond .ne 9, 3) := by decide +kernel
theorem dX10_works_39 : decode cX10_works 39 = .ok (.iconst 1, 1) := by decide +kernel
theorem dX10_works_40 : decode cX10_works 40 = .ok (.iload_n 3, 1) := by decide +kernel
theorem dX10_works_41 : decode cX10_works 41 = .ok (.ishl, 1) := by decide +kernel
theorem dX10_works_42 : decode cX10_works 42 = .ok (.goto 4, 3) := by decide +kernel
theorem dX10_works_45 : decode cX10_works 45 = .ok (.iconst 0, 1) := by decide +kernel
theorem dX10_works_46 : decode cX10_works 46 = .ok (.ior, 1) := by decide +kernel
theorem dX10_works_47 : decode cX10_works 47 = .ok (.putfield 113, 3) := by decide +kernel
theorem dX10_works_50 : decode cX10_works 50 = .ok (.iinc 3 1, 3) := by decide +kernel
theorem dX10_works_53 : decode cX10_works 53 = .ok (.goto (-46), 3) := by decide +kernel
theorem dX10_works_56 : decode cX10_works 56 = .ok (.aload_n 0, 1) := by decide +kernel
theorem dX10_works_57 : decode cX10_works 57 = .ok (.iconst 0, 1) := by decide +kernel
theorem dX10_works_58 : decode cX10_works 58 = .ok (.putfield 116, 3) := by decide +kernel
theorem dX10_works_61 : decode cX10_works 61 = .ok (.aload_n 0, 1) := by decide +kernel
theorem dX10_works_62 : decode cX10_works 62 = .ok (.ldc 46, 2) := by decide +kernel
theorem dX10_works_64 : decode cX10_works 64 = .ok (.putfield 119, 3) := by decide +kernel
theorem dX10_works_67 : decode cX10_works 67 = .ok (.iconst 0, 1) := by decide +kernel
theorem dX10_works_68 : decode cX10_works 68 = .ok (.istore_n 3, 1) := by decide +kernel
theorem dX10_works_69 : decode cX10_works 69 = .ok (.iload_n 3, 1) := by decide +kernel
theorem dX10_works_70 : decode cX10_works 70 = .ok (.aload_n 0, 1) := by decide +kernel
theorem dX10_works_71 : decode cX10_works 71 = .ok (.getfield 7, 3) := by decide +kernel
theorem dX10_works_74 : decode cX10_works 74 = .ok (.bipush 11, 2) := by decide +kernel
theorem dX10_works_76 : decode cX10_works 76 = .ok (.iaload, 1) := by decide +kernel
theorem dX10_works_77 : decode cX10_works 77 = .ok (.if_icmp .ge 85, 3) := by decide +kernel
theorem dX10_works_80 : decode cX10_works 80 = .ok (.aload_n 0, 1) := by decide +kernel
theorem dX10_works_81 : decode cX10_works 81 = .ok (.getfield 119, 3) := by decide +kernel
theorem dX10_works_84 : decode cX10_works 84 = .ok (.ifCond .ge 78, 3) := by decide +kernel
theorem dX10_works_87 : decode cX10_works 87 = .ok (.aload_n 0, 1) := by decide +kernel
theorem dX10_works_88 : decode cX10_works 88 = .ok (.getfield 7, 3) := by decide +kernel
theorem dX10_works_91 : decode cX10_works 91 = .ok (.bipush 12, 2) := by decide +kernel
theorem dX10_works_93 : decode cX10_works 93 = .ok (.iload_n 3, 1) := by decide +kernel
theorem dX10_works_94 : decode cX10_works 94 = .ok (.iadd, 1) := by decide +kernel
theorem dX10_works_95 : decode cX10_works 95 = .ok (.iaload, 1) := by decide +kernel
theorem dX10_works_96 : decode cX10_works 96 = .ok (.istore 4, 2) := by decide +kernel
theorem dX10_works_98 : decode cX10_works 98 = .ok (.aload_n 0, 1) := by decide +kernel
theorem dX10_works_99 : decode cX10_works 99 = .ok (.aload_n 0, 1) := by decide +kernel
theorem dX10_works_100 : decode cX10_works 100 = .ok (.iload 4, 2) := by decide +kernel
theorem dX10_works_102 : decode cX10_works 102 = .ok (.invokevirtual 65, 3) := by decide +kernel
theorem dX10_works_105 : decode cX10_works 105 = .ok (.ifCond .eq 18, 3) := by decide +kernel
theorem dX10_works_108 : decode cX10_works 108 = .ok (.aload_n 0, 1) := by decide +kernel
theorem dX10_works_109 : decode cX10_works 109 = .ok (.iload 4, 2) := by decide +kernel
theorem dX10_works_111 : decode cX10_works 111 = .ok (.iload_n 1, 1) := by decide +kernel
theorem dX10_works_112 : decode cX10_works 112 = .ok (.invokevirtual 54, 3) := by decide +kernel
theorem dX10_works_115 : decode cX10_works 115 = .ok (.ifCond .eq 8, 3) := by decide +kernel
theorem dX10_works_118 : decode cX10_works 118 = .ok (.iload 4, 2) := by decide +kernel
theorem dX10_works_120 : decode cX10_works 120 = .ok (.goto 7, 3) := by decide +kernel
theorem dX10_works_123 : decode cX10_works 123 = .ok (.aload_n 0, 1) := by decide +kernel
theorem dX10_works_124 : decode cX10_works 124 = .ok (.getfield 119, 3) := by decide +kernel
theorem dX10_works_127 : decode cX10_works 127 = .ok (.putfield 119, 3) := by decide +kernel
theorem dX10_works_130 : decode cX10_works 130 = .ok (.aload_n 0, 1) := by decide +kernel
theorem dX10_works_131 : decode cX10_works 131 = .ok (.dup, 1) := by decide +kernel
theorem dX10_works_132 : decode cX10_works 132 = .ok (.getfield 116, 3) := by decide +kernel
theorem dX10_works_135 : decode cX10_works 135 = .ok (.aload_n 0, 1) := by decide +kernel
theorem dX10_works_136 : decode cX10_works 136 = .ok (.iload 4, 2) := by decide +kernel
theorem dX10_works_138 : decode cX10_works 138 = .ok (.invokevirtual 65, 3) := by decide +kernel
theorem dX10_works_141 : decode cX10_works 141 = .ok (.ifCond .eq 7, 3) := by decide +kernel
theorem dX10_works_144 : decode cX10_works 144 = .ok (.iconst 0, 1) := by decide +kernel
theorem dX10_works_145 : decode cX10_works 145 = .ok (.goto 7, 3) := by decide +kernel
theorem dX10_works_148 : decode cX10_works 148 = .ok (.iconst 1, 1) := by decide +kernel
theorem dX10_works_149 : decode cX10_works 149 = .ok (.iload 4, 2) := by decide +kernel
theorem dX10_works_151 : decode cX10_works 151 = .ok (.ishl, 1) := by decide +kernel
theorem dX10_works_152 : decode cX10_works 152 = .ok (.ior, 1) := by decide +kernel
theorem dX10_works_153 : decode cX10_works 153 = .ok (.putfield 116, 3) := by decide +kernel
theorem dX10_works_156 : decode cX10_works 156 = .ok (.iinc 3 1, 3) := by decide +kernel
theorem dX10_works_159 : decode cX10_works 159 = .ok (.goto (-90), 3) := by decide +kernel
theorem dX10_works_162 : decode cX10_works 162 = .ok (.aload_n 0, 1) := by decide +kernel
theorem dX10_works_163 : decode cX10_works 163 = .ok (.getfield 7, 3) := by decide +kernel
theorem dX10_works_166 : decode cX10_works 166 = .ok (.bipush 6, 2) := by decide +kernel
theorem dX10_works_168 : decode cX10_works 168 = .ok (.iaload, 1) := by decide +kernel
theorem dX10_works_169 : decode cX10_works 169 = .ok (.ifCond .ne 5, 3) := by decide +kernel
theorem dX10_works_172 : decode cX10_works 172 = .ok (.iconst 1, 1) := by decide +kernel
theorem dX10_works_173 : decode cX10_works 173 = .ok (.ireturn, 1) := by decide +kernel
theorem dX10_works_174 : decode cX10_works 174 = .ok (.aload_n 0, 1) := by decide +kernel
theorem dX10_works_175 : decode cX10_works 175 = .ok (.getfield 113, 3) := by decide +kernel
theorem dX10_works_178 : decode cX10_works 178 = .ok (.ifCond .ne 5, 3) := by decide +kernel
theorem dX10_works_181 : decode cX10_works 181 = .ok (.iconst 2, 1) := by decide +kernel
theorem dX10_works_182 : decode cX10_works 182 = .ok (.ireturn, 1) := by decide +kernel
theorem dX10_works_183 : decode cX10_works 183 = .ok (.aload_n 0, 1) := by decide +kernel
theorem dX10_works_184 : decode cX10_works 184 = .ok (.getfield 119, 3) := by decide +kernel
theorem dX10_works_187 : decode cX10_works 187 = .ok (.ifCond .ge 5, 3) := by decide +kernel
theorem dX10_works_190 : decode cX10_works 190 = .ok (.iconst 3, 1) := by decide +kernel
theorem dX10_works_191 : decode cX10_works 191 = .ok (.ireturn, 1) := by decide +kernel
theorem dX10_works_192 : decode cX10_works 192 = .ok (.aload_n 0, 1) := by decide +kernel
theorem dX10_works_193 : decode cX10_works 193 = .ok (.iload_n 1, 1) := by decide +kernel
theorem dX10_works_194 : decode cX10_works 194 = .ok (.iload_n 2, 1) := by decide +kernel
theorem dX10_works_195 : decode cX10_works 195 = .ok (.invokevirtual 122, 3) := by decide +kernel
theorem dX10_works_198 : decode cX10_works 198 = .ok (.iconst 0, 1) := by decide +kernel
theorem dX10_works_199 : decode cX10_works 199 = .ok (.ireturn, 1) := by decide +kernel
theorem dX10_asks_0 : decode cX10_asks 0 = .ok (.aload_n 0, 1) := by decide +kernel
theorem dX10_asks_1 : decode cX10_asks 1 = .ok (.ldc 46, 2) := by decide +kernel
theorem dX10_asks_3 : decode cX10_asks 3 = .ok (.putfield 126, 3) := by decide +kernel
theorem dX10_asks_6 : decode cX10_asks 6 = .ok (.iconst 0, 1) := by decide +kernel
theorem dX10_asks_7 : decode cX10_asks 7 = .ok (.istore_n 3, 1) := by decide +kernel
theorem dX10_asks_8 : decode cX10_asks 8 = .ok (.iload_n 3, 1) := by decide +kernel
theorem dX10_asks_9 : decode cX10_asks 9 = .ok (.aload_n 0, 1) := by decide +kernel
theorem dX10_asks_10 : decode cX10_asks 10 = .ok (.getfield 7, 3) := by decide +kernel
theorem dX10_asks_13 : decode cX10_asks 13 = .ok (.iconst 5, 1) := by decide +kernel
theorem dX10_asks_14 : decode cX10_asks 14 = .ok (.iaload, 1) := by decide +kernel
theorem dX10_asks_15 : decode cX10_asks 15 = .ok (.if_icmp .ge 91, 3) := by decide +kernel
theorem dX10_asks_18 : decode cX10_asks 18 = .ok (.aload_n 0, 1) := by decide +kernel
theorem dX10_asks_19 : decode cX10_asks 19 = .ok (.aload_n 0, 1) := by decide +kernel
theorem dX10_asks_20 : decode cX10_asks 20 = .ok (.getfield 113, 3) := by decide +kernel
theorem dX10_asks_23 : decode cX10_asks 23 = .ok (.iload_n 3, 1) := by decide +kernel
theorem dX10_asks_24 : decode cX10_asks 24 = .ok (.invokevirtual 129, 3) := by decide +kernel
theorem dX10_asks_27 : decode cX10_asks 27 = .ok (.ifCond .eq 73, 3) := by decide +kernel
theorem dX10_asks_30 : decode cX10_asks 30 = .ok (.aload_n 0, 1) := by decide +kernel
theorem dX10_asks_31 : decode cX10_asks 31 = .ok (.aload_n 0, 1) := by decide +kernel
theorem dX10_asks_32 : decode cX10_asks 32 = .ok (.getfield 7, 3) := by decide +kernel
theorem dX10_asks_35 : decode cX10_asks 35 = .ok (.bipush 10, 2) := by decide +kernel
theorem dX10_asks_37 : decode cX10_asks 37 = .ok (.iaload, 1) := by decide +kernel
theorem dX10_asks_38 : decode cX10_asks 38 = .ok (.sipush 1000, 3) := by decide +kernel
theorem dX10_asks_41 : decode cX10_asks 41 = .ok (.iload_n 1, 1) := by decide +kernel
theorem dX10_asks_42 : decode cX10_asks 42 = .ok (.imul, 1) := by decide +kernel
theorem dX10_asks_43 : decode cX10_asks 43 = .ok (.iload_n 3, 1) := by decide +kernel
theorem dX10_asks_44 : decode cX10_asks 44 = .ok (.iadd, 1) := by decide +kernel
theorem dX10_asks_45 : decode cX10_asks 45 = .ok (.ixor, 1) := by decide +kernel
theorem dX10_asks_46 : decode cX10_asks 46 = .ok (.invokestatic 61, 3) := by decide +kernel
theorem dX10_asks_49 : decode cX10_asks 49 = .ok (.putfield 72, 3) := by decide +kernel
theorem dX10_asks_52 : decode cX10_asks 52 = .ok (.aload_n 0, 1) := by decide +kernel
theorem dX10_asks_53 : decode cX10_asks 53 = .ok (.getfield 25, 3) := by decide +kernel
theorem dX10_asks_56 : decode cX10_asks 56 = .ok (.iload_n 3, 1) := by decide +kernel
theorem dX10_asks_57 : decode cX10_asks 57 = .ok (.aload_n 0, 1) := by decide +kernel
theorem dX10_asks_58 : decode cX10_asks 58 = .ok (.iload_n 2, 1) := by decide +kernel
theorem dX10_asks_59 : decode cX10_asks 59 = .ok (.invokevirtual 75, 3) := by decide +kernel
theorem dX10_asks_62 : decode cX10_asks 62 = .ok (.iastore, 1) := by decide +kernel
theorem dX10_asks_63 : decode cX10_asks 63 = .ok (.aload_n 0, 1) := by decide +kernel
theorem dX10_asks_64 : decode cX10_asks 64 = .ok (.aload_n 0, 1) := by decide +kernel
theorem dX10_asks_65 : decode cX10_asks 65 = .ok (.getfield 126, 3) := by decide +kernel
theorem dX10_asks_68 : decode cX10_asks 68 = .ok (.ifCond .lt 21, 3) := by decide +kernel
theorem dX10_asks_71 : decode cX10_asks 71 = .ok (.aload_n 0, 1) := by decide +kernel
theorem dX10_asks_72 : decode cX10_asks 72 = .ok (.getfield 25, 3) := by decide +kernel
theorem dX10_asks_75 : decode cX10_asks 75 = .ok (.iload_n 3, 1) := by decide +kernel
theorem dX10_asks_76 : decode cX10_asks 76 = .ok (.iaload, 1) := by decide +kernel
theorem dX10_asks_77 : decode cX10_asks 77 = .ok (.aload_n 0, 1) := by decide +kernel
theorem dX10_asks_78 : decode cX10_asks 78 = .ok (.getfield 25, 3) := by decide +kernel
theorem dX10_asks_81 : decode cX10_asks 81 = .ok (.aload_n 0, 1) := by decide +kernel
theorem dX10_asks_82 : decode cX10_asks 82 = .ok (.getfield 126, 3) := by decide +kernel
theorem dX10_asks_85 : decode cX10_asks 85 = .ok (.iaload, 1) := by decide +kernel
theorem dX10_asks_86 : decode cX10_asks 86 = .ok (.if_icmp .ge 7, 3) := by decide +kernel
theorem dX10_asks_89 : decode cX10_asks 89 = .ok (.iload_n 3, 1) := by decide +kernel
theorem dX10_asks_90 : decode cX10_asks 90 = .ok (.goto 7, 3) := by decide +kernel
theorem dX10_asks_93 : decode cX10_asks 93 = .ok (.aload_n 0, 1) := by decide +kernel
theorem dX10_asks_94 : decode cX10_asks 94 = .ok (.getfield 126, 3) := by decide +kernel
theorem dX10_asks_97 : decode cX10_asks 97 = .ok (.putfield 126, 3) := by decide +kernel
theorem dX10_asks_100 : decode cX10_asks 100 = .ok (.iinc 3 1, 3) := by decide +kernel
theorem dX10_asks_103 : decode cX10_asks 103 = .ok (.goto (-95), 3) := by decide +kernel
theorem dX10_asks_106 : decode cX10_asks 106 = .ok (.aload_n 0, 1) := by decide +kernel
theorem dX10_asks_107 : decode cX10_asks 107 = .ok (.iconst 0, 1) := by decide +kernel
theorem dX10_asks_108 : decode cX10_asks 108 = .ok (.putfield 132, 3) := by decide +kernel
theorem dX10_asks_111 : decode cX10_asks 111 = .ok (.aload_n 0, 1) := by decide +kernel
theorem dX10_asks_112 : decode cX10_asks 112 = .ok (.iconst 0, 1) := by decide +kernel
theorem dX10_asks_113 : decode cX10_asks 113 = .ok (.putfield 135, 3) := by decide +kernel
theorem dX10_asks_116 : decode cX10_asks 116 = .ok (.ldc 46, 2) := by decide +kernel
theorem dX10_asks_118 : decode cX10_asks 118 = .ok (.istore_n 3, 1) := by decide +kernel
theorem dX10_asks_119 : decode cX10_asks 119 = .ok (.iconst 0, 1) := by decide +kernel
theorem dX10_asks_120 : decode cX10_asks 120 = .ok (.istore 4, 2) := by decide +kernel
theorem dX10_asks_122 : decode cX10_asks 122 = .ok (.iconst 0, 1) := by decide +kernel
theorem dX10_asks_123 : decode cX10_asks 123 = .ok (.istore 5, 2) := by decide +kernel
theorem dX10_asks_125 : decode cX10_asks 125 = .ok (.iload 5, 2) := by decide +kernel
theorem dX10_asks_127 : decode cX10_asks 127 = .ok (.aload_n 0, 1) := by decide +kernel
theorem dX10_asks_128 : decode cX10_asks 128 = .ok (.getfield 7, 3) := by decide +kernel
theorem dX10_asks_131 : decode cX10_asks 131 = .ok (.iconst 5, 1) := by decide +kernel
theorem dX10_asks_132 : decode cX10_asks 132 = .ok (.iaload, 1) := by decide +kernel
theorem dX10_asks_133 : decode cX10_asks 133 = .ok (.if_icmp .ge 177, 3) := by decide +kernel
theorem dX10_asks_136 : decode cX10_asks 136 = .ok (.aload_n 0, 1) := by decide +kernel
theorem dX10_asks_137 : decode cX10_asks 137 = .ok (.aload_n 0, 1) := by decide +kernel
theorem dX10_asks_138 : decode cX10_asks 138 = .ok (.getfield 113, 3) := by decide +kernel
theorem dX10_asks_141 : decode cX10_asks 141 = .ok (.iload 5, 2) := by decide +kernel
theorem dX10_asks_143 : decode cX10_asks 143 = .ok (.invokevirtual 129, 3) := by decide +kernel
theorem dX10_asks_146 : decode cX10_asks 146 = .ok (.ifCond .eq 158, 3) := by decide +kernel
theorem dX10_asks_149 : decode cX10_asks 149 = .ok (.aload_n 0, 1) := by decide +kernel
theorem dX10_asks_150 : decode cX10_asks 150 = .ok (.getfield 25, 3) := by decide +kernel
theorem dX10_asks_153 : decode cX10_asks 153 = .ok (.iload 5, 2) := by decide +kernel
theorem dX10_asks_155 : decode cX10_asks 155 = .ok (.iaload, 1) := by decide +kernel
theorem dX10_asks_156 : decode cX10_asks 156 = .ok (.aload_n 0, 1) := by decide +kernel
theorem dX10_asks_157 : decode cX10_asks 157 = .ok (.getfield 25, 3) := by decide +kernel
theorem dX10_asks_160 : decode cX10_asks 160 = .ok (.aload_n 0, 1) := by decide +kernel
theorem dX10_asks_161 : decode cX10_asks 161 = .ok (.getfield 126, 3) := by decide +kernel
theorem dX10_asks_164 : decode cX10_asks 164 = .ok (.iaload, 1) := by decide +kernel
theorem dX10_asks_165 : decode cX10_asks 165 = .ok (.aload_n 0, 1) := by decide +kernel
theorem dX10_asks_166 : decode cX10_asks 166 = .ok (.aload_n 0, 1) := by decide +kernel
theorem dX10_asks_167 : decode cX10_asks 167 = .ok (.getfield 126, 3) := by decide +kernel
theorem dX10_asks_170 : decode cX10_asks 170 = .ok (.iload 5, 2) := by decide +kernel
theorem dX10_asks_172 : decode cX10_asks 172 = .ok (.invokevirtual 138, 3) := by decide +kernel
theorem dX10_asks_175 : decode cX10_asks 175 = .ok (.iadd, 1) := by decide +kernel
theorem dX10_asks_176 : decode cX10_asks 176 = .ok (.if_icmp .le 7, 3) := by decide +kernel
theorem dX10_asks_179 : decode cX10_asks 179 = .ok (.iconst 1, 1) := by decide +kernel
theorem dX10_asks_180 : decode cX10_asks 180 = .ok (.goto 4, 3) := by decide +kernel
theorem dX10_asks_183 : decode cX10_asks 183 = .ok (.iconst 0, 1) := by decide +kernel
theorem dX10_asks_184 : decode cX10_asks 184 = .ok (.istore 6, 2) := by decide +kernel
theorem dX10_asks_186 : decode cX10_asks 186 = .ok (.aload_n 0, 1) := by decide +kernel
theorem dX10_asks_187 : decode cX10_asks 187 = .ok (.dup, 1) := by decide +kernel
theorem dX10_asks_188 : decode cX10_asks 188 = .ok (.getfield 135, 3) := by decide +kernel
theorem dX10_asks_191 : decode cX10_asks 191 = .ok (.iload 6, 2) := by decide +kernel
theorem dX10_asks_193 : decode cX10_asks 193 = .ok (.ifCond .eq 10, 3) := by decide +kernel
theorem dX10_asks_196 : decode cX10_asks 196 = .ok (.iconst 1, 1) := by decide +kernel
theorem dX10_asks_197 : decode cX10_asks 197 = .ok (.iload 5, 2) := by decide +kernel
theorem dX10_asks_199 : decode cX10_asks 199 = .ok (.ishl, 1) := by decide +kernel
theorem dX10_asks_200 : decode cX10_asks 200 = .ok (.goto 4, 3) := by decide +kernel
theorem dX10_asks_203 : decode cX10_asks 203 = .ok (.iconst 0, 1) := by decide +kernel
theorem dX10_asks_204 : decode cX10_asks 204 = .ok (.ior, 1) := by decide +kernel
theorem dX10_asks_205 : decode cX10_asks 205 = .ok (.putfield 135, 3) := by decide +kernel
theorem dX10_asks_208 : decode cX10_asks 208 = .ok (.aload_n 0, 1) := by decide +kernel
theorem dX10_asks_209 : decode cX10_asks 209 = .ok (.dup, 1) := by decide +kernel
theorem dX10_asks_210 : decode cX10_asks 210 = .ok (.getfield 132, 3) := by decide +kernel
theorem dX10_asks_213 : decode cX10_asks 213 = .ok (.iload 6, 2) := by decide +kernel
theorem dX10_asks_215 : decode cX10_asks 215 = .ok (.ifCond .eq 7, 3) := by decide +kernel
theorem dX10_asks_218 : decode cX10_asks 218 = .ok (.iconst 0, 1) := by decide +kernel
theorem dX10_asks_219 : decode cX10_asks 219 = .ok (.goto 7, 3) := by decide +kernel
theorem dX10_asks_222 : decode cX10_asks 222 = .ok (.iconst 1, 1) := by decide +kernel
theorem dX10_asks_223 : decode cX10_asks 223 = .ok (.iload 5, 2) := by decide +kernel
theorem dX10_asks_225 : decode cX10_asks 225 = .ok (.ishl, 1) := by decide +kernel
theorem dX10_asks_226 : decode cX10_asks 226 = .ok (.ior, 1) := by decide +kernel
theorem dX10_asks_227 : decode cX10_asks 227 = .ok (.putfield 132, 3) := by decide +kernel
theorem dX10_asks_230 : decode cX10_asks 230 = .ok (.aload_n 0, 1) := by decide +kernel
theorem dX10_asks_231 : decode cX10_asks 231 = .ok (.getfield 25, 3) := by decide +kernel
theorem dX10_asks_234 : decode cX10_asks 234 = .ok (.iload 5, 2) := by decide +kernel
theorem dX10_asks_236 : decode cX10_asks 236 = .ok (.iaload, 1) := by decide +kernel
theorem dX10_asks_237 : decode cX10_asks 237 = .ok (.aload_n 0, 1) := by decide +kernel
theorem dX10_asks_238 : decode cX10_asks 238 = .ok (.iload 5, 2) := by decide +kernel
theorem dX10_asks_240 : decode cX10_asks 240 = .ok (.aload_n 0, 1) := by decide +kernel
theorem dX10_asks_241 : decode cX10_asks 241 = .ok (.getfield 119, 3) := by decide +kernel
theorem dX10_asks_244 : decode cX10_asks 244 = .ok (.invokevirtual 138, 3) := by decide +kernel
theorem dX10_asks_247 : decode cX10_asks 247 = .ok (.iadd, 1) := by decide +kernel
theorem dX10_asks_248 : decode cX10_asks 248 = .ok (.istore 7, 2) := by decide +kernel
theorem dX10_asks_250 : decode cX10_asks 250 = .ok (.iload 6, 2) := by decide +kernel
theorem dX10_asks_252 : decode cX10_asks 252 = .ok (.ifCond .ne 18, 3) := by decide +kernel
theorem dX10_asks_255 : decode cX10_asks 255 = .ok (.iload_n 3, 1) := by decide +kernel
theorem dX10_asks_256 : decode cX10_asks 256 = .ok (.ifCond .lt 9, 3) := by decide +kernel
theorem dX10_asks_259 : decode cX10_asks 259 = .ok (.iload 7, 2) := by decide +kernel
theorem dX10_asks_261 : decode cX10_asks 261 = .ok (.iload_n 3, 1) := by decide +kernel
theorem dX10_asks_262 : decode cX10_asks 262 = .ok (.if_icmp .ge 8, 3) := by decide +kernel
theorem dX10_asks_265 : decode cX10_asks 265 = .ok (.iload 7, 2) := by decide +kernel
theorem dX10_asks_267 : decode cX10_asks 267 = .ok (.goto 4, 3) := by decide +kernel
theorem dX10_asks_270 : decode cX10_asks 270 = .ok (.iload_n 3, 1) := by decide +kernel
theorem dX10_asks_271 : decode cX10_asks 271 = .ok (.istore_n 3, 1) := by decide +kernel
theorem dX10_asks_272 : decode cX10_asks 272 = .ok (.aload_n 0, 1) := by decide +kernel
theorem dX10_asks_273 : decode cX10_asks 273 = .ok (.aload_n 0, 1) := by decide +kernel
theorem dX10_asks_274 : decode cX10_asks 274 = .ok (.getfield 119, 3) := by decide +kernel
theorem dX10_asks_277 : decode cX10_asks 277 = .ok (.iload 5, 2) := by decide +kernel
theorem dX10_asks_279 : decode cX10_asks 279 = .ok (.invokevirtual 138, 3) := by decide +kernel
theorem dX10_asks_282 : decode cX10_asks 282 = .ok (.iload 4, 2) := by decide +kernel
theorem dX10_asks_284 : decode cX10_asks 284 = .ok (.if_icmp .le 16, 3) := by decide +kernel
theorem dX10_asks_287 : decode cX10_asks 287 = .ok (.aload_n 0, 1) := by decide +kernel
theorem dX10_asks_288 : decode cX10_asks 288 = .ok (.aload_n 0, 1) := by decide +kernel
theorem dX10_asks_289 : decode cX10_asks 289 = .ok (.getfield 119, 3) := by decide +kernel
theorem dX10_asks_292 : decode cX10_asks 292 = .ok (.iload 5, 2) := by decide +kernel
theorem dX10_asks_294 : decode cX10_asks 294 = .ok (.invokevirtual 138, 3) := by decide +kernel
theorem dX10_asks_297 : decode cX10_asks 297 = .ok (.goto 5, 3) := by decide +kernel
theorem dX10_asks_300 : decode cX10_asks 300 = .ok (.iload 4, 2) := by decide +kernel
theorem dX10_asks_302 : decode cX10_asks 302 = .ok (.istore 4, 2) := by decide +kernel
theorem dX10_asks_304 : decode cX10_asks 304 = .ok (.iinc 5 1, 3) := by decide +kernel
theorem dX10_asks_307 : decode cX10_asks 307 = .ok (.goto (-182), 3) := by decide +kernel
theorem dX10_asks_310 : decode cX10_asks 310 = .ok (.aload_n 0, 1) := by decide +kernel
theorem dX10_asks_311 : decode cX10_asks 311 = .ok (.iload_n 3, 1) := by decide +kernel
theorem dX10_asks_312 : decode cX10_asks 312 = .ok (.aload_n 0, 1) := by decide +kernel
theorem dX10_asks_313 : decode cX10_asks 313 = .ok (.getfield 7, 3) := by decide +kernel
theorem dX10_asks_316 : decode cX10_asks 316 = .ok (.iconst 1, 1) := by decide +kernel
theorem dX10_asks_317 : decode cX10_asks 317 = .ok (.iaload, 1) := by decide +kernel
theorem dX10_asks_318 : decode cX10_asks 318 = .ok (.aload_n 0, 1) := by decide +kernel
theorem dX10_asks_319 : decode cX10_asks 319 = .ok (.getfield 7, 3) := by decide +kernel
theorem dX10_asks_322 : decode cX10_asks 322 = .ok (.aload_n 0, 1) := by decide +kernel
theorem dX10_asks_323 : decode cX10_asks 323 = .ok (.getfield 119, 3) := by decide +kernel
theorem dX10_asks_326 : decode cX10_asks 326 = .ok (.iconst 4, 1) := by decide +kernel
theorem dX10_asks_327 : decode cX10_asks 327 = .ok (.invokestatic 42, 3) := by decide +kernel
theorem dX10_asks_330 : decode cX10_asks 330 = .ok (.iaload, 1) := by decide +kernel
theorem dX10_asks_331 : decode cX10_asks 331 = .ok (.imul, 1) := by decide +kernel
theorem dX10_asks_332 : decode cX10_asks 332 = .ok (.iadd, 1) := by decide +kernel
theorem dX10_asks_333 : decode cX10_asks 333 = .ok (.putfield 141, 3) := by decide +kernel
theorem dX10_asks_336 : decode cX10_asks 336 = .ok (.aload_n 0, 1) := by decide +kernel
theorem dX10_asks_337 : decode cX10_asks 337 = .ok (.aload_n 0, 1) := by decide +kernel
theorem dX10_asks_338 : decode cX10_asks 338 = .ok (.getfield 141, 3) := by decide +kernel
theorem dX10_asks_341 : decode cX10_asks 341 = .ok (.iload 4, 2) := by decide +kernel
theorem dX10_asks_343 : decode cX10_asks 343 = .ok (.iadd, 1) := by decide +kernel
theorem dX10_asks_344 : decode cX10_asks 344 = .ok (.putfield 144, 3) := by decide +kernel
theorem dX10_asks_347 : decode cX10_asks 347 = .ok (.return_, 1) := by decide +kernel
theorem dX10_many_0 : decode cX10_many 0 = .ok (.iconst 0, 1) := by decide +kernel
theorem dX10_many_1 : decode cX10_many 1 = .ok (.istore_n 1, 1) := by decide +kernel
theorem dX10_many_2 : decode cX10_many 2 = .ok (.iconst 0, 1) := by decide +kernel
theorem dX10_many_3 : decode cX10_many 3 = .ok (.istore_n 2, 1) := by decide +kernel
theorem dX10_many_4 : decode cX10_many 4 = .ok (.iload_n 2, 1) := by decide +kernel
theorem dX10_many_5 : decode cX10_many 5 = .ok (.bipush 10, 2) := by decide +kernel
theorem dX10_many_7 : decode cX10_many 7 = .ok (.if_icmp .ge 17, 3) := by decide +kernel
theorem dX10_many_10 : decode cX10_many 10 = .ok (.iload_n 1, 1) := by decide +kernel
theorem dX10_many_11 : decode cX10_many 11 = .ok (.iload_n 0, 1) := by decide +kernel
theorem dX10_many_12 : decode cX10_many 12 = .ok (.iload_n 2, 1) := by decide +kernel
theorem dX10_many_13 : decode cX10_many 13 = .ok (.ishr, 1) := by decide +kernel
theorem dX10_many_14 : decode cX10_many 14 = .ok (.iconst 1, 1) := by decide +kernel
theorem dX10_many_15 : decode cX10_many 15 = .ok (.iand, 1) := by decide +kernel
theorem dX10_many_16 : decode cX10_many 16 = .ok (.iadd, 1) := by decide +kernel
theorem dX10_many_17 : decode cX10_many 17 = .ok (.istore_n 1, 1) := by decide +kernel
theorem dX10_many_18 : decode cX10_many 18 = .ok (.iinc 2 1, 3) := by decide +kernel
theorem dX10_many_21 : decode cX10_many 21 = .ok (.goto (-17), 3) := by decide +kernel
theorem dX10_many_24 : decode cX10_many 24 = .ok (.iload_n 1, 1) := by decide +kernel
theorem dX10_many_25 : decode cX10_many 25 = .ok (.ireturn, 1) := by decide +kernel
theorem dX10_makes_0 : decode cX10_makes 0 = .ok (.aload_n 0, 1) := by decide +kernel
theorem dX10_makes_1 : decode cX10_makes 1 = .ok (.getfield 7, 3) := by decide +kernel
theorem dX10_makes_4 : decode cX10_makes 4 = .ok (.sipush 150, 3) := by decide +kernel
theorem dX10_makes_7 : decode cX10_makes 7 = .ok (.iload_n 1, 1) := by decide +kernel
theorem dX10_makes_8 : decode cX10_makes 8 = .ok (.iadd, 1) := by decide +kernel
theorem dX10_makes_9 : decode cX10_makes 9 = .ok (.dup2, 1) := by decide +kernel
theorem dX10_makes_10 : decode cX10_makes 10 = .ok (.iaload, 1) := by decide +kernel
theorem dX10_makes_11 : decode cX10_makes 11 = .ok (.aload_n 0, 1) := by decide +kernel
theorem dX10_makes_12 : decode cX10_makes 12 = .ok (.getfield 113, 3) := by decide +kernel
theorem dX10_makes_15 : decode cX10_makes 15 = .ok (.iconst (-1), 1) := by decide +kernel
theorem dX10_makes_16 : decode cX10_makes 16 = .ok (.ixor, 1) := by decide +kernel
theorem dX10_makes_17 : decode cX10_makes 17 = .ok (.iand, 1) := by decide +kernel
theorem dX10_makes_18 : decode cX10_makes 18 = .ok (.iastore, 1) := by decide +kernel
theorem dX10_makes_19 : decode cX10_makes 19 = .ok (.aload_n 0, 1) := by decide +kernel
theorem dX10_makes_20 : decode cX10_makes 20 = .ok (.getfield 7, 3) := by decide +kernel
theorem dX10_makes_23 : decode cX10_makes 23 = .ok (.aload_n 0, 1) := by decide +kernel
theorem dX10_makes_24 : decode cX10_makes 24 = .ok (.getfield 119, 3) := by decide +kernel
theorem dX10_makes_27 : decode cX10_makes 27 = .ok (.iconst 3, 1) := by decide +kernel
theorem dX10_makes_28 : decode cX10_makes 28 = .ok (.invokestatic 42, 3) := by decide +kernel
theorem dX10_makes_31 : decode cX10_makes 31 = .ok (.dup2, 1) := by decide +kernel
theorem dX10_makes_32 : decode cX10_makes 32 = .ok (.iaload, 1) := by decide +kernel
theorem dX10_makes_33 : decode cX10_makes 33 = .ok (.aload_n 0, 1) := by decide +kernel
theorem dX10_makes_34 : decode cX10_makes 34 = .ok (.getfield 7, 3) := by decide +kernel
theorem dX10_makes_37 : decode cX10_makes 37 = .ok (.iconst 3, 1) := by decide +kernel
theorem dX10_makes_38 : decode cX10_makes 38 = .ok (.iaload, 1) := by decide +kernel
theorem dX10_makes_39 : decode cX10_makes 39 = .ok (.iadd, 1) := by decide +kernel
theorem dX10_makes_40 : decode cX10_makes 40 = .ok (.iastore, 1) := by decide +kernel
theorem dX10_makes_41 : decode cX10_makes 41 = .ok (.aload_n 0, 1) := by decide +kernel
theorem dX10_makes_42 : decode cX10_makes 42 = .ok (.getfield 7, 3) := by decide +kernel
theorem dX10_makes_45 : decode cX10_makes 45 = .ok (.aload_n 0, 1) := by decide +kernel
theorem dX10_makes_46 : decode cX10_makes 46 = .ok (.getfield 119, 3) := by decide +kernel
theorem dX10_makes_49 : decode cX10_makes 49 = .ok (.bipush 6, 2) := by decide +kernel
theorem dX10_makes_51 : decode cX10_makes 51 = .ok (.invokestatic 42, 3) := by decide +kernel
theorem dX10_makes_54 : decode cX10_makes 54 = .ok (.dup2, 1) := by decide +kernel
theorem dX10_makes_55 : decode cX10_makes 55 = .ok (.iaload, 1) := by decide +kernel
theorem dX10_makes_56 : decode cX10_makes 56 = .ok (.iconst 1, 1) := by decide +kernel
theorem dX10_makes_57 : decode cX10_makes 57 = .ok (.iadd, 1) := by decide +kernel
theorem dX10_makes_58 : decode cX10_makes 58 = .ok (.iastore, 1) := by decide +kernel
theorem dX10_makes_59 : decode cX10_makes 59 = .ok (.iconst 0, 1) := by decide +kernel
theorem dX10_makes_60 : decode cX10_makes 60 = .ok (.istore_n 2, 1) := by decide +kernel
theorem dX10_makes_61 : decode cX10_makes 61 = .ok (.iload_n 2, 1) := by decide +kernel
theorem dX10_makes_62 : decode cX10_makes 62 = .ok (.aload_n 0, 1) := by decide +kernel
theorem dX10_makes_63 : decode cX10_makes 63 = .ok (.getfield 7, 3) := by decide +kernel
theorem dX10_makes_66 : decode cX10_makes 66 = .ok (.iconst 5, 1) := by decide +kernel
theorem dX10_makes_67 : decode cX10_makes 67 = .ok (.iaload, 1) := by decide +kernel
theorem dX10_makes_68 : decode cX10_makes 68 = .ok (.if_icmp .ge 75, 3) := by decide +kernel
theorem dX10_makes_71 : decode cX10_makes 71 = .ok (.aload_n 0, 1) := by decide +kernel
theorem dX10_makes_72 : decode cX10_makes 72 = .ok (.getfield 7, 3) := by decide +kernel
theorem dX10_makes_75 : decode cX10_makes 75 = .ok (.iload_n 2, 1) := by decide +kernel
theorem dX10_makes_76 : decode cX10_makes 76 = .ok (.iconst 3, 1) := by decide +kernel
theorem dX10_makes_77 : decode cX10_makes 77 = .ok (.invokestatic 42, 3) := by decide +kernel
theorem dX10_makes_80 : decode cX10_makes 80 = .ok (.dup2, 1) := by decide +kernel
theorem dX10_makes_81 : decode cX10_makes 81 = .ok (.iaload, 1) := by decide +kernel
theorem dX10_makes_82 : decode cX10_makes 82 = .ok (.aload_n 0, 1) := by decide +kernel
theorem dX10_makes_83 : decode cX10_makes 83 = .ok (.aload_n 0, 1) := by decide +kernel
theorem dX10_makes_84 : decode cX10_makes 84 = .ok (.getfield 116, 3) := by decide +kernel
theorem dX10_makes_87 : decode cX10_makes 87 = .ok (.iload_n 2, 1) := by decide +kernel
theorem dX10_makes_88 : decode cX10_makes 88 = .ok (.invokevirtual 129, 3) := by decide +kernel
theorem dX10_makes_91 : decode cX10_makes 91 = .ok (.ifCond .eq 12, 3) := by decide +kernel
theorem dX10_makes_94 : decode cX10_makes 94 = .ok (.aload_n 0, 1) := by decide +kernel
theorem dX10_makes_95 : decode cX10_makes 95 = .ok (.getfield 7, 3) := by decide +kernel
theorem dX10_makes_98 : decode cX10_makes 98 = .ok (.iconst 4, 1) := by decide +kernel
theorem dX10_makes_99 : decode cX10_makes 99 = .ok (.iaload, 1) := by decide +kernel
theorem dX10_makes_100 : decode cX10_makes 100 = .ok (.goto 4, 3) := by decide +kernel
theorem dX10_makes_103 : decode cX10_makes 103 = .ok (.iconst 0, 1) := by decide +kernel
theorem dX10_makes_104 : decode cX10_makes 104 = .ok (.isub, 1) := by decide +kernel
theorem dX10_makes_105 : decode cX10_makes 105 = .ok (.iastore, 1) := by decide +kernel
theorem dX10_makes_106 : decode cX10_makes 106 = .ok (.aload_n 0, 1) := by decide +kernel
theorem dX10_makes_107 : decode cX10_makes 107 = .ok (.getfield 7, 3) := by decide +kernel
theorem dX10_makes_110 : decode cX10_makes 110 = .ok (.iload_n 2, 1) := by decide +kernel
theorem dX10_makes_111 : decode cX10_makes 111 = .ok (.bipush 7, 2) := by decide +kernel
theorem dX10_makes_113 : decode cX10_makes 113 = .ok (.invokestatic 42, 3) := by decide +kernel
theorem dX10_makes_116 : decode cX10_makes 116 = .ok (.dup2, 1) := by decide +kernel
theorem dX10_makes_117 : decode cX10_makes 117 = .ok (.iaload, 1) := by decide +kernel
theorem dX10_makes_118 : decode cX10_makes 118 = .ok (.aload_n 0, 1) := by decide +kernel
theorem dX10_makes_119 : decode cX10_makes 119 = .ok (.aload_n 0, 1) := by decide +kernel
theorem dX10_makes_120 : decode cX10_makes 120 = .ok (.getfield 116, 3) := by decide +kernel
theorem dX10_makes_123 : decode cX10_makes 123 = .ok (.iload_n 2, 1) := by decide +kernel
theorem dX10_makes_124 : decode cX10_makes 124 = .ok (.invokevirtual 129, 3) := by decide +kernel
theorem dX10_makes_127 : decode cX10_makes 127 = .ok (.ifCond .eq 7, 3) := by decide +kernel
theorem dX10_makes_130 : decode cX10_makes 130 = .ok (.iconst 1, 1) := by decide +kernel
theorem dX10_makes_131 : decode cX10_makes 131 = .ok (.goto 4, 3) := by decide +kernel
theorem dX10_makes_134 : decode cX10_makes 134 = .ok (.iconst 0, 1) := by decide +kernel
theorem dX10_makes_135 : decode cX10_makes 135 = .ok (.iadd, 1) := by decide +kernel
theorem dX10_makes_136 : decode cX10_makes 136 = .ok (.iastore, 1) := by decide +kernel
theorem dX10_makes_137 : decode cX10_makes 137 = .ok (.iinc 2 1, 3) := by decide +kernel
theorem dX10_makes_140 : decode cX10_makes 140 = .ok (.goto (-79), 3) := by decide +kernel
theorem dX10_makes_143 : decode cX10_makes 143 = .ok (.sipush 360, 3) := by decide +kernel
theorem dX10_makes_146 : decode cX10_makes 146 = .ok (.bipush 7, 2) := by decide +kernel
theorem dX10_makes_148 : decode cX10_makes 148 = .ok (.aload_n 0, 1) := by decide +kernel
theorem dX10_makes_149 : decode cX10_makes 149 = .ok (.getfield 7, 3) := by decide +kernel
theorem dX10_makes_152 : decode cX10_makes 152 = .ok (.bipush 7, 2) := by decide +kernel
theorem dX10_makes_154 : decode cX10_makes 154 = .ok (.iaload, 1) := by decide +kernel
theorem dX10_makes_155 : decode cX10_makes 155 = .ok (.bipush 20, 2) := by decide +kernel
theorem dX10_makes_157 : decode cX10_makes 157 = .ok (.irem, 1) := by decide +kernel
theorem dX10_makes_158 : decode cX10_makes 158 = .ok (.imul, 1) := by decide +kernel
theorem dX10_makes_159 : decode cX10_makes 159 = .ok (.iadd, 1) := by decide +kernel
theorem dX10_makes_160 : decode cX10_makes 160 = .ok (.istore_n 2, 1) := by decide +kernel
theorem dX10_makes_161 : decode cX10_makes 161 = .ok (.aload_n 0, 1) := by decide +kernel
theorem dX10_makes_162 : decode cX10_makes 162 = .ok (.getfield 7, 3) := by decide +kernel
theorem dX10_makes_165 : decode cX10_makes 165 = .ok (.iload_n 2, 1) := by decide +kernel
theorem dX10_makes_166 : decode cX10_makes 166 = .ok (.iload_n 1, 1) := by decide +kernel
theorem dX10_makes_167 : decode cX10_makes 167 = .ok (.iastore, 1) := by decide +kernel
theorem dX10_makes_168 : decode cX10_makes 168 = .ok (.aload_n 0, 1) := by decide +kernel
theorem dX10_makes_169 : decode cX10_makes 169 = .ok (.getfield 7, 3) := by decide +kernel
theorem dX10_makes_172 : decode cX10_makes 172 = .ok (.iload_n 2, 1) := by decide +kernel
theorem dX10_makes_173 : decode cX10_makes 173 = .ok (.iconst 1, 1) := by decide +kernel
theorem dX10_makes_174 : decode cX10_makes 174 = .ok (.iadd, 1) := by decide +kernel
theorem dX10_makes_175 : decode cX10_makes 175 = .ok (.aload_n 0, 1) := by decide +kernel
theorem dX10_makes_176 : decode cX10_makes 176 = .ok (.getfield 7, 3) := by decide +kernel
theorem dX10_makes_179 : decode cX10_makes 179 = .ok (.bipush 6, 2) := by decide +kernel
theorem dX10_makes_181 : decode cX10_makes 181 = .ok (.iaload, 1) := by decide +kernel
theorem dX10_makes_182 : decode cX10_makes 182 = .ok (.iastore, 1) := by decide +kernel
theorem dX10_makes_183 : decode cX10_makes 183 = .ok (.aload_n 0, 1) := by decide +kernel
theorem dX10_makes_184 : decode cX10_makes 184 = .ok (.getfield 7, 3) := by decide +kernel
theorem dX10_makes_187 : decode cX10_makes 187 = .ok (.iload_n 2, 1) := by decide +kernel
