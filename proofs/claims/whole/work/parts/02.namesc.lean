theorem dX9_reveal_99 : decode cX9_reveal 99 = .ok (.getfield 12, 3) := by decide +kernel
theorem dX9_reveal_102 : decode cX9_reveal 102 = .ok (.getfield 52, 3) := by decide +kernel
theorem dX9_reveal_105 : decode cX9_reveal 105 = .ok (.getfield 114, 3) := by decide +kernel
theorem dX9_reveal_108 : decode cX9_reveal 108 = .ok (.iload_n 1, 1) := by decide +kernel
theorem dX9_reveal_109 : decode cX9_reveal 109 = .ok (.iload_n 3, 1) := by decide +kernel
theorem dX9_reveal_110 : decode cX9_reveal 110 = .ok (.ifCond .eq 7, 3) := by decide +kernel
theorem dX9_reveal_113 : decode cX9_reveal 113 = .ok (.iconst 2, 1) := by decide +kernel
theorem dX9_reveal_114 : decode cX9_reveal 114 = .ok (.goto 4, 3) := by decide +kernel
theorem dX9_reveal_117 : decode cX9_reveal 117 = .ok (.iconst 3, 1) := by decide +kernel
theorem dX9_reveal_118 : decode cX9_reveal 118 = .ok (.invokevirtual 151, 3) := by decide +kernel
theorem dX9_reveal_121 : decode cX9_reveal 121 = .ok (.iload_n 3, 1) := by decide +kernel
theorem dX9_reveal_122 : decode cX9_reveal 122 = .ok (.ifCond .eq 7, 3) := by decide +kernel
theorem dX9_reveal_125 : decode cX9_reveal 125 = .ok (.iconst 1, 1) := by decide +kernel
theorem dX9_reveal_126 : decode cX9_reveal 126 = .ok (.goto 4, 3) := by decide +kernel
theorem dX9_reveal_129 : decode cX9_reveal 129 = .ok (.iconst 0, 1) := by decide +kernel
theorem dX9_reveal_130 : decode cX9_reveal 130 = .ok (.ireturn, 1) := by decide +kernel
theorem dX9_draw_0 : decode cX9_draw 0 = .ok (.aload_n 0, 1) := by decide +kernel
theorem dX9_draw_1 : decode cX9_draw 1 = .ok (.getfield 12, 3) := by decide +kernel
theorem dX9_draw_4 : decode cX9_draw 4 = .ok (.getfield 52, 3) := by decide +kernel
theorem dX9_draw_7 : decode cX9_draw 7 = .ok (.invokevirtual 158, 3) := by decide +kernel
theorem dX9_draw_10 : decode cX9_draw 10 = .ok (.istore_n 1, 1) := by decide +kernel
theorem dX9_draw_11 : decode cX9_draw 11 = .ok (.aload_n 0, 1) := by decide +kernel
theorem dX9_draw_12 : decode cX9_draw 12 = .ok (.iload_n 1, 1) := by decide +kernel
theorem dX9_draw_13 : decode cX9_draw 13 = .ok (.invokevirtual 162, 3) := by decide +kernel
theorem dX9_draw_16 : decode cX9_draw 16 = .ok (.ifCond .ne 6, 3) := by decide +kernel
theorem dX9_draw_19 : decode cX9_draw 19 = .ok (.ldc 147, 2) := by decide +kernel
theorem dX9_draw_21 : decode cX9_draw 21 = .ok (.ireturn, 1) := by decide +kernel
theorem dX9_draw_22 : decode cX9_draw 22 = .ok (.aload_n 0, 1) := by decide +kernel
theorem dX9_draw_23 : decode cX9_draw 23 = .ok (.getfield 19, 3) := by decide +kernel
theorem dX9_draw_26 : decode cX9_draw 26 = .ok (.aload_n 0, 1) := by decide +kernel
theorem dX9_draw_27 : decode cX9_draw 27 = .ok (.getfield 12, 3) := by decide +kernel
theorem dX9_draw_30 : decode cX9_draw 30 = .ok (.invokevirtual 63, 3) := by decide +kernel
theorem dX9_draw_33 : decode cX9_draw 33 = .ok (.aload_n 0, 1) := by decide +kernel
theorem dX9_draw_34 : decode cX9_draw 34 = .ok (.getfield 12, 3) := by decide +kernel
theorem dX9_draw_37 : decode cX9_draw 37 = .ok (.getfield 99, 3) := by decide +kernel
theorem dX9_draw_40 : decode cX9_draw 40 = .ok (.aload_n 0, 1) := by decide +kernel
theorem dX9_draw_41 : decode cX9_draw 41 = .ok (.getfield 12, 3) := by decide +kernel
theorem dX9_draw_44 : decode cX9_draw 44 = .ok (.getfield 99, 3) := by decide +kernel
theorem dX9_draw_47 : decode cX9_draw 47 = .ok (.getfield 124, 3) := by decide +kernel
theorem dX9_draw_50 : decode cX9_draw 50 = .ok (.aload_n 0, 1) := by decide +kernel
theorem dX9_draw_51 : decode cX9_draw 51 = .ok (.getfield 12, 3) := by decide +kernel
theorem dX9_draw_54 : decode cX9_draw 54 = .ok (.getfield 52, 3) := by decide +kernel
theorem dX9_draw_57 : decode cX9_draw 57 = .ok (.iload_n 1, 1) := by decide +kernel
theorem dX9_draw_58 : decode cX9_draw 58 = .ok (.invokevirtual 165, 3) := by decide +kernel
theorem dX9_draw_61 : decode cX9_draw 61 = .ok (.aload_n 0, 1) := by decide +kernel
theorem dX9_draw_62 : decode cX9_draw 62 = .ok (.getfield 12, 3) := by decide +kernel
theorem dX9_draw_65 : decode cX9_draw 65 = .ok (.getfield 52, 3) := by decide +kernel
theorem dX9_draw_68 : decode cX9_draw 68 = .ok (.aload_n 0, 1) := by decide +kernel
theorem dX9_draw_69 : decode cX9_draw 69 = .ok (.getfield 12, 3) := by decide +kernel
theorem dX9_draw_72 : decode cX9_draw 72 = .ok (.getfield 121, 3) := by decide +kernel
theorem dX9_draw_75 : decode cX9_draw 75 = .ok (.iconst 4, 1) := by decide +kernel
theorem dX9_draw_76 : decode cX9_draw 76 = .ok (.invokevirtual 92, 3) := by decide +kernel
theorem dX9_draw_79 : decode cX9_draw 79 = .ok (.invokevirtual 169, 3) := by decide +kernel
theorem dX9_draw_82 : decode cX9_draw 82 = .ok (.aload_n 0, 1) := by decide +kernel
theorem dX9_draw_83 : decode cX9_draw 83 = .ok (.getfield 12, 3) := by decide +kernel
theorem dX9_draw_86 : decode cX9_draw 86 = .ok (.getfield 99, 3) := by decide +kernel
theorem dX9_draw_89 : decode cX9_draw 89 = .ok (.getfield 124, 3) := by decide +kernel
theorem dX9_draw_92 : decode cX9_draw 92 = .ok (.ireturn, 1) := by decide +kernel
theorem dX9_seed_0 : decode cX9_seed 0 = .ok (.aload_n 0, 1) := by decide +kernel
theorem dX9_seed_1 : decode cX9_seed 1 = .ok (.getfield 12, 3) := by decide +kernel
theorem dX9_seed_4 : decode cX9_seed 4 = .ok (.getfield 99, 3) := by decide +kernel
theorem dX9_seed_7 : decode cX9_seed 7 = .ok (.getfield 124, 3) := by decide +kernel
theorem dX9_seed_10 : decode cX9_seed 10 = .ok (.ifCond .ne 9, 3) := by decide +kernel
theorem dX9_seed_13 : decode cX9_seed 13 = .ok (.ldc2_w 173, 3) := by decide +kernel
theorem dX9_seed_16 : decode cX9_seed 16 = .ok (.goto 14, 3) := by decide +kernel
theorem dX9_seed_19 : decode cX9_seed 19 = .ok (.aload_n 0, 1) := by decide +kernel
theorem dX9_seed_20 : decode cX9_seed 20 = .ok (.getfield 12, 3) := by decide +kernel
theorem dX9_seed_23 : decode cX9_seed 23 = .ok (.getfield 99, 3) := by decide +kernel
theorem dX9_seed_26 : decode cX9_seed 26 = .ok (.getfield 175, 3) := by decide +kernel
theorem dX9_seed_29 : decode cX9_seed 29 = .ok (.i2l, 1) := by decide +kernel
theorem dX9_seed_30 : decode cX9_seed 30 = .ok (.lreturn, 1) := by decide +kernel
theorem dX9_duty_0 : decode cX9_duty 0 = .ok (.iload_n 1, 1) := by decide +kernel
theorem dX9_duty_1 : decode cX9_duty 1 = .ok (.ifCond .ge 8, 3) := by decide +kernel
theorem dX9_duty_4 : decode cX9_duty 4 = .ok (.ldc 51, 2) := by decide +kernel
theorem dX9_duty_6 : decode cX9_duty 6 = .ok (.goto 14, 3) := by decide +kernel
theorem dX9_duty_9 : decode cX9_duty 9 = .ok (.aload_n 0, 1) := by decide +kernel
theorem dX9_duty_10 : decode cX9_duty 10 = .ok (.getfield 12, 3) := by decide +kernel
theorem dX9_duty_13 : decode cX9_duty 13 = .ok (.getfield 99, 3) := by decide +kernel
theorem dX9_duty_16 : decode cX9_duty 16 = .ok (.iload_n 1, 1) := by decide +kernel
theorem dX9_duty_17 : decode cX9_duty 17 = .ok (.invokevirtual 178, 3) := by decide +kernel
theorem dX9_duty_20 : decode cX9_duty 20 = .ok (.ireturn, 1) := by decide +kernel
theorem dX9_ifLeft_0 : decode cX9_ifLeft 0 = .ok (.iload_n 1, 1) := by decide +kernel
theorem dX9_ifLeft_1 : decode cX9_ifLeft 1 = .ok (.ifCond .lt 14, 3) := by decide +kernel
theorem dX9_ifLeft_4 : decode cX9_ifLeft 4 = .ok (.iload_n 1, 1) := by decide +kernel
theorem dX9_ifLeft_5 : decode cX9_ifLeft 5 = .ok (.sipush 1023, 3) := by decide +kernel
theorem dX9_ifLeft_8 : decode cX9_ifLeft 8 = .ok (.if_icmp .gt 7, 3) := by decide +kernel
theorem dX9_ifLeft_11 : decode cX9_ifLeft 11 = .ok (.iload_n 2, 1) := by decide +kernel
theorem dX9_ifLeft_12 : decode cX9_ifLeft 12 = .ok (.ifCond .ge 6, 3) := by decide +kernel
theorem dX9_ifLeft_15 : decode cX9_ifLeft 15 = .ok (.ldc 51, 2) := by decide +kernel
theorem dX9_ifLeft_17 : decode cX9_ifLeft 17 = .ok (.ireturn, 1) := by decide +kernel
theorem dX9_ifLeft_18 : decode cX9_ifLeft 18 = .ok (.aload_n 0, 1) := by decide +kernel
theorem dX9_ifLeft_19 : decode cX9_ifLeft 19 = .ok (.getfield 12, 3) := by decide +kernel
theorem dX9_ifLeft_22 : decode cX9_ifLeft 22 = .ok (.getfield 52, 3) := by decide +kernel
theorem dX9_ifLeft_25 : decode cX9_ifLeft 25 = .ok (.invokevirtual 158, 3) := by decide +kernel
theorem dX9_ifLeft_28 : decode cX9_ifLeft 28 = .ok (.iload_n 1, 1) := by decide +kernel
theorem dX9_ifLeft_29 : decode cX9_ifLeft 29 = .ok (.iconst (-1), 1) := by decide +kernel
theorem dX9_ifLeft_30 : decode cX9_ifLeft 30 = .ok (.ixor, 1) := by decide +kernel
theorem dX9_ifLeft_31 : decode cX9_ifLeft 31 = .ok (.iand, 1) := by decide +kernel
theorem dX9_ifLeft_32 : decode cX9_ifLeft 32 = .ok (.istore_n 3, 1) := by decide +kernel
theorem dX9_ifLeft_33 : decode cX9_ifLeft 33 = .ok (.aload_n 0, 1) := by decide +kernel
theorem dX9_ifLeft_34 : decode cX9_ifLeft 34 = .ok (.iload_n 3, 1) := by decide +kernel
theorem dX9_ifLeft_35 : decode cX9_ifLeft 35 = .ok (.invokevirtual 162, 3) := by decide +kernel
theorem dX9_ifLeft_38 : decode cX9_ifLeft 38 = .ok (.ifCond .ne 6, 3) := by decide +kernel
theorem dX9_ifLeft_41 : decode cX9_ifLeft 41 = .ok (.ldc 147, 2) := by decide +kernel
theorem dX9_ifLeft_43 : decode cX9_ifLeft 43 = .ok (.ireturn, 1) := by decide +kernel
theorem dX9_ifLeft_44 : decode cX9_ifLeft 44 = .ok (.aload_n 0, 1) := by decide +kernel
theorem dX9_ifLeft_45 : decode cX9_ifLeft 45 = .ok (.getfield 40, 3) := by decide +kernel
theorem dX9_ifLeft_48 : decode cX9_ifLeft 48 = .ok (.aload_n 0, 1) := by decide +kernel
theorem dX9_ifLeft_49 : decode cX9_ifLeft 49 = .ok (.getfield 12, 3) := by decide +kernel
theorem dX9_ifLeft_52 : decode cX9_ifLeft 52 = .ok (.getfield 99, 3) := by decide +kernel
theorem dX9_ifLeft_55 : decode cX9_ifLeft 55 = .ok (.getfield 124, 3) := by decide +kernel
theorem dX9_ifLeft_58 : decode cX9_ifLeft 58 = .ok (.aload_n 0, 1) := by decide +kernel
theorem dX9_ifLeft_59 : decode cX9_ifLeft 59 = .ok (.getfield 12, 3) := by decide +kernel
theorem dX9_ifLeft_62 : decode cX9_ifLeft 62 = .ok (.getfield 52, 3) := by decide +kernel
theorem dX9_ifLeft_65 : decode cX9_ifLeft 65 = .ok (.iload_n 3, 1) := by decide +kernel
theorem dX9_ifLeft_66 : decode cX9_ifLeft 66 = .ok (.invokevirtual 165, 3) := by decide +kernel
theorem dX9_ifLeft_69 : decode cX9_ifLeft 69 = .ok (.aload_n 0, 1) := by decide +kernel
theorem dX9_ifLeft_70 : decode cX9_ifLeft 70 = .ok (.getfield 40, 3) := by decide +kernel
theorem dX9_ifLeft_73 : decode cX9_ifLeft 73 = .ok (.iload_n 2, 1) := by decide +kernel
theorem dX9_ifLeft_74 : decode cX9_ifLeft 74 = .ok (.invokevirtual 178, 3) := by decide +kernel
theorem dX9_ifLeft_77 : decode cX9_ifLeft 77 = .ok (.ireturn, 1) := by decide +kernel
theorem dX9_lose_0 : decode cX9_lose 0 = .ok (.aload_n 0, 1) := by decide +kernel
theorem dX9_lose_1 : decode cX9_lose 1 = .ok (.iload_n 1, 1) := by decide +kernel
theorem dX9_lose_2 : decode cX9_lose 2 = .ok (.invokevirtual 71, 3) := by decide +kernel
theorem dX9_lose_5 : decode cX9_lose 5 = .ok (.ifCond .eq 10, 3) := by decide +kernel
theorem dX9_lose_8 : decode cX9_lose 8 = .ok (.iload_n 2, 1) := by decide +kernel
theorem dX9_lose_9 : decode cX9_lose 9 = .ok (.invokestatic 181, 3) := by decide +kernel
theorem dX9_lose_12 : decode cX9_lose 12 = .ok (.ifCond .ne 6, 3) := by decide +kernel
theorem dX9_lose_15 : decode cX9_lose 15 = .ok (.ldc 51, 2) := by decide +kernel
theorem dX9_lose_17 : decode cX9_lose 17 = .ok (.ireturn, 1) := by decide +kernel
theorem dX9_lose_18 : decode cX9_lose 18 = .ok (.aload_n 0, 1) := by decide +kernel
theorem dX9_lose_19 : decode cX9_lose 19 = .ok (.getfield 19, 3) := by decide +kernel
theorem dX9_lose_22 : decode cX9_lose 22 = .ok (.aload_n 0, 1) := by decide +kernel
theorem dX9_lose_23 : decode cX9_lose 23 = .ok (.getfield 12, 3) := by decide +kernel
theorem dX9_lose_26 : decode cX9_lose 26 = .ok (.invokevirtual 63, 3) := by decide +kernel
theorem dX9_lose_29 : decode cX9_lose 29 = .ok (.aload_n 0, 1) := by decide +kernel
theorem dX9_lose_30 : decode cX9_lose 30 = .ok (.getfield 12, 3) := by decide +kernel
theorem dX9_lose_33 : decode cX9_lose 33 = .ok (.getfield 184, 3) := by decide +kernel
theorem dX9_lose_36 : decode cX9_lose 36 = .ok (.iload_n 2, 1) := by decide +kernel
theorem dX9_lose_37 : decode cX9_lose 37 = .ok (.aload_n 0, 1) := by decide +kernel
theorem dX9_lose_38 : decode cX9_lose 38 = .ok (.getfield 12, 3) := by decide +kernel
theorem dX9_lose_41 : decode cX9_lose 41 = .ok (.getfield 184, 3) := by decide +kernel
theorem dX9_lose_44 : decode cX9_lose 44 = .ok (.iload_n 2, 1) := by decide +kernel
theorem dX9_lose_45 : decode cX9_lose 45 = .ok (.invokevirtual 92, 3) := by decide +kernel
theorem dX9_lose_48 : decode cX9_lose 48 = .ok (.iconst 1, 1) := by decide +kernel
theorem dX9_lose_49 : decode cX9_lose 49 = .ok (.iload_n 1, 1) := by decide +kernel
theorem dX9_lose_50 : decode cX9_lose 50 = .ok (.ishl, 1) := by decide +kernel
theorem dX9_lose_51 : decode cX9_lose 51 = .ok (.ior, 1) := by decide +kernel
theorem dX9_lose_52 : decode cX9_lose 52 = .ok (.invokevirtual 151, 3) := by decide +kernel
theorem dX9_lose_55 : decode cX9_lose 55 = .ok (.aload_n 0, 1) := by decide +kernel
theorem dX9_lose_56 : decode cX9_lose 56 = .ok (.getfield 12, 3) := by decide +kernel
theorem dX9_lose_59 : decode cX9_lose 59 = .ok (.getfield 184, 3) := by decide +kernel
theorem dX9_lose_62 : decode cX9_lose 62 = .ok (.iload_n 2, 1) := by decide +kernel
theorem dX9_lose_63 : decode cX9_lose 63 = .ok (.invokevirtual 92, 3) := by decide +kernel
theorem dX9_lose_66 : decode cX9_lose 66 = .ok (.invokestatic 187, 3) := by decide +kernel
theorem dX9_lose_69 : decode cX9_lose 69 = .ok (.ireturn, 1) := by decide +kernel
theorem dX9_type_0 : decode cX9_type 0 = .ok (.iload_n 1, 1) := by decide +kernel
theorem dX9_type_1 : decode cX9_type 1 = .ok (.bipush 32, 2) := by decide +kernel
theorem dX9_type_3 : decode cX9_type 3 = .ok (.if_icmp .lt 9, 3) := by decide +kernel
theorem dX9_type_6 : decode cX9_type 6 = .ok (.iload_n 1, 1) := by decide +kernel
theorem dX9_type_7 : decode cX9_type 7 = .ok (.bipush 126, 2) := by decide +kernel
theorem dX9_type_9 : decode cX9_type 9 = .ok (.if_icmp .le 6, 3) := by decide +kernel
theorem dX9_type_12 : decode cX9_type 12 = .ok (.ldc 51, 2) := by decide +kernel
theorem dX9_type_14 : decode cX9_type 14 = .ok (.ireturn, 1) := by decide +kernel
theorem dX9_type_15 : decode cX9_type 15 = .ok (.aload_n 0, 1) := by decide +kernel
theorem dX9_type_16 : decode cX9_type 16 = .ok (.getfield 26, 3) := by decide +kernel
theorem dX9_type_19 : decode cX9_type 19 = .ok (.iload_n 1, 1) := by decide +kernel
theorem dX9_type_20 : decode cX9_type 20 = .ok (.invokevirtual 192, 3) := by decide +kernel
theorem dX9_type_23 : decode cX9_type 23 = .ok (.ifCond .eq 13, 3) := by decide +kernel
theorem dX9_type_26 : decode cX9_type 26 = .ok (.aload_n 0, 1) := by decide +kernel
theorem dX9_type_27 : decode cX9_type 27 = .ok (.getfield 26, 3) := by decide +kernel
theorem dX9_type_30 : decode cX9_type 30 = .ok (.getfield 195, 3) := by decide +kernel
theorem dX9_type_33 : decode cX9_type 33 = .ok (.goto 5, 3) := by decide +kernel
theorem dX9_type_36 : decode cX9_type 36 = .ok (.ldc 62, 2) := by decide +kernel
theorem dX9_type_38 : decode cX9_type 38 = .ok (.ireturn, 1) := by decide +kernel
theorem dX9_clear_0 : decode cX9_clear 0 = .ok (.aload_n 0, 1) := by decide +kernel
theorem dX9_clear_1 : decode cX9_clear 1 = .ok (.getfield 26, 3) := by decide +kernel
theorem dX9_clear_4 : decode cX9_clear 4 = .ok (.invokevirtual 198, 3) := by decide +kernel
theorem dX9_clear_7 : decode cX9_clear 7 = .ok (.ireturn, 1) := by decide +kernel
theorem dX9_read_0 : decode cX9_read 0 = .ok (.aload_n 0, 1) := by decide +kernel
theorem dX9_read_1 : decode cX9_read 1 = .ok (.getfield 26, 3) := by decide +kernel
theorem dX9_read_4 : decode cX9_read 4 = .ok (.aload_n 0, 1) := by decide +kernel
theorem dX9_read_5 : decode cX9_read 5 = .ok (.getfield 12, 3) := by decide +kernel
theorem dX9_read_8 : decode cX9_read 8 = .ok (.getfield 52, 3) := by decide +kernel
theorem dX9_read_11 : decode cX9_read 11 = .ok (.getfield 56, 3) := by decide +kernel
theorem dX9_read_14 : decode cX9_read 14 = .ok (.invokevirtual 201, 3) := by decide +kernel
theorem dX9_read_17 : decode cX9_read 17 = .ok (.istore_n 1, 1) := by decide +kernel
theorem dX9_read_18 : decode cX9_read 18 = .ok (.iload_n 1, 1) := by decide +kernel
theorem dX9_read_19 : decode cX9_read 19 = .ok (.ifCond .lt 8, 3) := by decide +kernel
theorem dX9_read_22 : decode cX9_read 22 = .ok (.bipush (-100), 2) := by decide +kernel
theorem dX9_read_24 : decode cX9_read 24 = .ok (.iload_n 1, 1) := by decide +kernel
theorem dX9_read_25 : decode cX9_read 25 = .ok (.isub, 1) := by decide +kernel
theorem dX9_read_26 : decode cX9_read 26 = .ok (.ireturn, 1) := by decide +kernel
theorem dX9_read_27 : decode cX9_read 27 = .ok (.aload_n 0, 1) := by decide +kernel
theorem dX9_read_28 : decode cX9_read 28 = .ok (.getfield 19, 3) := by decide +kernel
theorem dX9_read_31 : decode cX9_read 31 = .ok (.aload_n 0, 1) := by decide +kernel
theorem dX9_read_32 : decode cX9_read 32 = .ok (.getfield 12, 3) := by decide +kernel
theorem dX9_read_35 : decode cX9_read 35 = .ok (.invokevirtual 63, 3) := by decide +kernel
theorem dX9_read_38 : decode cX9_read 38 = .ok (.aload_n 0, 1) := by decide +kernel
theorem dX9_read_39 : decode cX9_read 39 = .ok (.getfield 26, 3) := by decide +kernel
theorem dX9_read_42 : decode cX9_read 42 = .ok (.aload_n 0, 1) := by decide +kernel
theorem dX9_read_43 : decode cX9_read 43 = .ok (.getfield 12, 3) := by decide +kernel
theorem dX9_read_46 : decode cX9_read 46 = .ok (.getfield 184, 3) := by decide +kernel
theorem dX9_read_49 : decode cX9_read 49 = .ok (.invokevirtual 204, 3) := by decide +kernel
theorem dX9_read_52 : decode cX9_read 52 = .ok (.istore_n 2, 1) := by decide +kernel
theorem dX9_read_53 : decode cX9_read 53 = .ok (.aload_n 0, 1) := by decide +kernel
theorem dX9_read_54 : decode cX9_read 54 = .ok (.getfield 26, 3) := by decide +kernel
theorem dX9_read_57 : decode cX9_read 57 = .ok (.invokevirtual 198, 3) := by decide +kernel
theorem dX9_read_60 : decode cX9_read 60 = .ok (.pop, 1) := by decide +kernel
theorem dX9_read_61 : decode cX9_read 61 = .ok (.iload_n 2, 1) := by decide +kernel
theorem dX9_read_62 : decode cX9_read 62 = .ok (.ireturn, 1) := by decide +kernel
theorem dX9_lost_0 : decode cX9_lost 0 = .ok (.aload_n 0, 1) := by decide +kernel
theorem dX9_lost_1 : decode cX9_lost 1 = .ok (.iload_n 1, 1) := by decide +kernel
theorem dX9_lost_2 : decode cX9_lost 2 = .ok (.invokevirtual 71, 3) := by decide +kernel
theorem dX9_lost_5 : decode cX9_lost 5 = .ok (.ifCond .eq 10, 3) := by decide +kernel
theorem dX9_lost_8 : decode cX9_lost 8 = .ok (.iload_n 2, 1) := by decide +kernel
theorem dX9_lost_9 : decode cX9_lost 9 = .ok (.invokestatic 181, 3) := by decide +kernel
theorem dX9_lost_12 : decode cX9_lost 12 = .ok (.ifCond .ne 6, 3) := by decide +kernel
theorem dX9_lost_15 : decode cX9_lost 15 = .ok (.ldc 51, 2) := by decide +kernel
theorem dX9_lost_17 : decode cX9_lost 17 = .ok (.ireturn, 1) := by decide +kernel
theorem dX9_lost_18 : decode cX9_lost 18 = .ok (.aload_n 0, 1) := by decide +kernel
theorem dX9_lost_19 : decode cX9_lost 19 = .ok (.getfield 12, 3) := by decide +kernel
theorem dX9_lost_22 : decode cX9_lost 22 = .ok (.getfield 184, 3) := by decide +kernel
theorem dX9_lost_25 : decode cX9_lost 25 = .ok (.iload_n 2, 1) := by decide +kernel
theorem dX9_lost_26 : decode cX9_lost 26 = .ok (.invokevirtual 92, 3) := by decide +kernel
theorem dX9_lost_29 : decode cX9_lost 29 = .ok (.iload_n 1, 1) := by decide +kernel
theorem dX9_lost_30 : decode cX9_lost 30 = .ok (.invokestatic 208, 3) := by decide +kernel
theorem dX9_lost_33 : decode cX9_lost 33 = .ok (.ifCond .eq 7, 3) := by decide +kernel
theorem dX9_lost_36 : decode cX9_lost 36 = .ok (.iconst 1, 1) := by decide +kernel
theorem dX9_lost_37 : decode cX9_lost 37 = .ok (.goto 4, 3) := by decide +kernel
theorem dX9_lost_40 : decode cX9_lost 40 = .ok (.iconst 0, 1) := by decide +kernel
theorem dX9_lost_41 : decode cX9_lost 41 = .ok (.ireturn, 1) := by decide +kernel
theorem dX9_repair_0 : decode cX9_repair 0 = .ok (.iload_n 1, 1) := by decide +kernel
theorem dX9_repair_1 : decode cX9_repair 1 = .ok (.invokestatic 181, 3) := by decide +kernel
theorem dX9_repair_4 : decode cX9_repair 4 = .ok (.ifCond .ne 6, 3) := by decide +kernel
theorem dX9_repair_7 : decode cX9_repair 7 = .ok (.ldc 51, 2) := by decide +kernel
theorem dX9_repair_9 : decode cX9_repair 9 = .ok (.ireturn, 1) := by decide +kernel
theorem dX9_repair_10 : decode cX9_repair 10 = .ok (.aload_n 0, 1) := by decide +kernel
theorem dX9_repair_11 : decode cX9_repair 11 = .ok (.getfield 33, 3) := by decide +kernel
theorem dX9_repair_14 : decode cX9_repair 14 = .ok (.aload_n 0, 1) := by decide +kernel
theorem dX9_repair_15 : decode cX9_repair 15 = .ok (.getfield 12, 3) := by decide +kernel
theorem dX9_repair_18 : decode cX9_repair 18 = .ok (.iload_n 1, 1) := by decide +kernel
theorem dX9_repair_19 : decode cX9_repair 19 = .ok (.aload_n 0, 1) := by decide +kernel
theorem dX9_repair_20 : decode cX9_repair 20 = .ok (.getfield 12, 3) := by decide +kernel
theorem dX9_repair_23 : decode cX9_repair 23 = .ok (.getfield 121, 3) := by decide +kernel
theorem dX9_repair_26 : decode cX9_repair 26 = .ok (.iconst 0, 1) := by decide +kernel
theorem dX9_repair_27 : decode cX9_repair 27 = .ok (.invokevirtual 92, 3) := by decide +kernel
theorem dX9_repair_30 : decode cX9_repair 30 = .ok (.invokevirtual 211, 3) := by decide +kernel
theorem dX9_repair_33 : decode cX9_repair 33 = .ok (.aload_n 0, 1) := by decide +kernel
theorem dX9_repair_34 : decode cX9_repair 34 = .ok (.getfield 33, 3) := by decide +kernel
theorem dX9_repair_37 : decode cX9_repair 37 = .ok (.getfield 215, 3) := by decide +kernel
theorem dX9_repair_40 : decode cX9_repair 40 = .ok (.ifCond .eq 6, 3) := by decide +kernel
theorem dX9_repair_43 : decode cX9_repair 43 = .ok (.ldc 147, 2) := by decide +kernel
theorem dX9_repair_45 : decode cX9_repair 45 = .ok (.ireturn, 1) := by decide +kernel
theorem dX9_repair_46 : decode cX9_repair 46 = .ok (.aload_n 0, 1) := by decide +kernel
theorem dX9_repair_47 : decode cX9_repair 47 = .ok (.getfield 19, 3) := by decide +kernel
theorem dX9_repair_50 : decode cX9_repair 50 = .ok (.aload_n 0, 1) := by decide +kernel
theorem dX9_repair_51 : decode cX9_repair 51 = .ok (.getfield 12, 3) := by decide +kernel
theorem dX9_repair_54 : decode cX9_repair 54 = .ok (.invokevirtual 63, 3) := by decide +kernel
theorem dX9_repair_57 : decode cX9_repair 57 = .ok (.aload_n 0, 1) := by decide +kernel
theorem dX9_repair_58 : decode cX9_repair 58 = .ok (.getfield 12, 3) := by decide +kernel
theorem dX9_repair_61 : decode cX9_repair 61 = .ok (.aload_n 0, 1) := by decide +kernel
theorem dX9_repair_62 : decode cX9_repair 62 = .ok (.getfield 33, 3) := by decide +kernel
theorem dX9_repair_65 : decode cX9_repair 65 = .ok (.invokevirtual 218, 3) := by decide +kernel
theorem dX9_repair_68 : decode cX9_repair 68 = .ok (.aload_n 0, 1) := by decide +kernel
theorem dX9_repair_69 : decode cX9_repair 69 = .ok (.getfield 33, 3) := by decide +kernel
theorem dX9_repair_72 : decode cX9_repair 72 = .ok (.getfield 222, 3) := by decide +kernel
theorem dX9_repair_75 : decode cX9_repair 75 = .ok (.ireturn, 1) := by decide +kernel
theorem dX9_repairAll_0 : decode cX9_repairAll 0 = .ok (.aload_n 0, 1) := by decide +kernel
theorem dX9_repairAll_1 : decode cX9_repairAll 1 = .ok (.getfield 19, 3) := by decide +kernel
theorem dX9_repairAll_4 : decode cX9_repairAll 4 = .ok (.aload_n 0, 1) := by decide +kernel
theorem dX9_repairAll_5 : decode cX9_repairAll 5 = .ok (.getfield 12, 3) := by decide +kernel
theorem dX9_repairAll_8 : decode cX9_repairAll 8 = .ok (.invokevirtual 63, 3) := by decide +kernel
theorem dX9_repairAll_11 : decode cX9_repairAll 11 = .ok (.iconst 0, 1) := by decide +kernel
theorem dX9_repairAll_12 : decode cX9_repairAll 12 = .ok (.istore_n 1, 1) := by decide +kernel
theorem dX9_repairAll_13 : decode cX9_repairAll 13 = .ok (.iconst 0, 1) := by decide +kernel
theorem dX9_repairAll_14 : decode cX9_repairAll 14 = .ok (.istore_n 2, 1) := by decide +kernel
theorem dX9_repairAll_15 : decode cX9_repairAll 15 = .ok (.iload_n 2, 1) := by decide +kernel
theorem dX9_repairAll_16 : decode cX9_repairAll 16 = .ok (.sipush 200, 3) := by decide +kernel
theorem dX9_repairAll_19 : decode cX9_repairAll 19 = .ok (.if_icmp .ge 56, 3) := by decide +kernel
theorem dX9_repairAll_22 : decode cX9_repairAll 22 = .ok (.aload_n 0, 1) := by decide +kernel
theorem dX9_repairAll_23 : decode cX9_repairAll 23 = .ok (.getfield 33, 3) := by decide +kernel
theorem dX9_repairAll_26 : decode cX9_repairAll 26 = .ok (.aload_n 0, 1) := by decide +kernel
theorem dX9_repairAll_27 : decode cX9_repairAll 27 = .ok (.getfield 12, 3) := by decide +kernel
theorem dX9_repairAll_30 : decode cX9_repairAll 30 = .ok (.iload_n 2, 1) := by decide +kernel
theorem dX9_repairAll_31 : decode cX9_repairAll 31 = .ok (.aload_n 0, 1) := by decide +kernel
theorem dX9_repairAll_32 : decode cX9_repairAll 32 = .ok (.getfield 12, 3) := by decide +kernel
theorem dX9_repairAll_35 : decode cX9_repairAll 35 = .ok (.getfield 121, 3) := by decide +kernel
theorem dX9_repairAll_38 : decode cX9_repairAll 38 = .ok (.iconst 0, 1) := by decide +kernel
theorem dX9_repairAll_39 : decode cX9_repairAll 39 = .ok (.invokevirtual 92, 3) := by decide +kernel
theorem dX9_repairAll_42 : decode cX9_repairAll 42 = .ok (.invokevirtual 211, 3) := by decide +kernel
theorem dX9_repairAll_45 : decode cX9_repairAll 45 = .ok (.aload_n 0, 1) := by decide +kernel
theorem dX9_repairAll_46 : decode cX9_repairAll 46 = .ok (.getfield 33, 3) := by decide +kernel
theorem dX9_repairAll_49 : decode cX9_repairAll 49 = .ok (.getfield 215, 3) := by decide +kernel
theorem dX9_repairAll_52 : decode cX9_repairAll 52 = .ok (.ifCond .ne 17, 3) := by decide +kernel
theorem dX9_repairAll_55 : decode cX9_repairAll 55 = .ok (.aload_n 0, 1) := by decide +kernel
theorem dX9_repairAll_56 : decode cX9_repairAll 56 = .ok (.getfield 12, 3) := by decide +kernel
theorem dX9_repairAll_59 : decode cX9_repairAll 59 = .ok (.aload_n 0, 1) := by decide +kernel
theorem dX9_repairAll_60 : decode cX9_repairAll 60 = .ok (.getfield 33, 3) := by decide +kernel
theorem dX9_repairAll_63 : decode cX9_repairAll 63 = .ok (.invokevirtual 218, 3) := by decide +kernel
theorem dX9_repairAll_66 : decode cX9_repairAll 66 = .ok (.iinc 1 1, 3) := by decide +kernel
theorem dX9_repairAll_69 : decode cX9_repairAll 69 = .ok (.iinc 2 1, 3) := by decide +kernel
theorem dX9_repairAll_72 : decode cX9_repairAll 72 = .ok (.goto (-57), 3) := by decide +kernel
theorem dX9_repairAll_75 : decode cX9_repairAll 75 = .ok (.iload_n 1, 1) := by decide +kernel
theorem dX9_repairAll_76 : decode cX9_repairAll 76 = .ok (.ireturn, 1) := by decide +kernel
theorem dX9_look_0 : decode cX9_look 0 = .ok (.iload_n 1, 1) := by decide +kernel
theorem dX9_look_1 : decode cX9_look 1 = .ok (.invokestatic 181, 3) := by decide +kernel
theorem dX9_look_4 : decode cX9_look 4 = .ok (.ifCond .eq 20, 3) := by decide +kernel
theorem dX9_look_7 : decode cX9_look 7 = .ok (.aload_n 0, 1) := by decide +kernel
theorem dX9_look_8 : decode cX9_look 8 = .ok (.iload_n 2, 1) := by decide +kernel
theorem dX9_look_9 : decode cX9_look 9 = .ok (.invokevirtual 71, 3) := by decide +kernel
theorem dX9_look_12 : decode cX9_look 12 = .ok (.ifCond .eq 12, 3) := by decide +kernel
theorem dX9_look_15 : decode cX9_look 15 = .ok (.iload_n 3, 1) := by decide +kernel
theorem dX9_look_16 : decode cX9_look 16 = .ok (.ifCond .lt 8, 3) := by decide +kernel
theorem dX9_look_19 : decode cX9_look 19 = .ok (.iload_n 3, 1) := by decide +kernel
theorem dX9_look_20 : decode cX9_look 20 = .ok (.iconst 2, 1) := by decide +kernel
theorem dX9_look_21 : decode cX9_look 21 = .ok (.if_icmp .le 6, 3) := by decide +kernel
theorem dX9_look_24 : decode cX9_look 24 = .ok (.ldc 51, 2) := by decide +kernel
theorem dX9_look_26 : decode cX9_look 26 = .ok (.ireturn, 1) := by decide +kernel
theorem dX9_look_27 : decode cX9_look 27 = .ok (.aload_n 0, 1) := by decide +kernel
theorem dX9_look_28 : decode cX9_look 28 = .ok (.getfield 33, 3) := by decide +kernel
theorem dX9_look_31 : decode cX9_look 31 = .ok (.aload_n 0, 1) := by decide +kernel
theorem dX9_look_32 : decode cX9_look 32 = .ok (.getfield 12, 3) := by decide +kernel
theorem dX9_look_35 : decode cX9_look 35 = .ok (.iload_n 1, 1) := by decide +kernel
theorem dX9_look_36 : decode cX9_look 36 = .ok (.aload_n 0, 1) := by decide +kernel
theorem dX9_look_37 : decode cX9_look 37 = .ok (.getfield 12, 3) := by decide +kernel
theorem dX9_look_40 : decode cX9_look 40 = .ok (.getfield 121, 3) := by decide +kernel
theorem dX9_look_43 : decode cX9_look 43 = .ok (.iconst 0, 1) := by decide +kernel
theorem dX9_look_44 : decode cX9_look 44 = .ok (.invokevirtual 92, 3) := by decide +kernel
theorem dX9_look_47 : decode cX9_look 47 = .ok (.invokevirtual 211, 3) := by decide +kernel
theorem dX9_look_50 : decode cX9_look 50 = .ok (.aload_n 0, 1) := by decide +kernel
theorem dX9_look_51 : decode cX9_look 51 = .ok (.getfield 33, 3) := by decide +kernel
theorem dX9_look_54 : decode cX9_look 54 = .ok (.getfield 215, 3) := by decide +kernel
theorem dX9_look_57 : decode cX9_look 57 = .ok (.ifCond .eq 6, 3) := by decide +kernel
theorem dX9_look_60 : decode cX9_look 60 = .ok (.ldc 147, 2) := by decide +kernel
theorem dX9_look_62 : decode cX9_look 62 = .ok (.ireturn, 1) := by decide +kernel
theorem dX9_look_63 : decode cX9_look 63 = .ok (.iload_n 3, 1) := by decide +kernel
theorem dX9_look_64 : decode cX9_look 64 = .ok (.ifCond .ne 12, 3) := by decide +kernel
theorem dX9_look_67 : decode cX9_look 67 = .ok (.aload_n 0, 1) := by decide +kernel
theorem dX9_look_68 : decode cX9_look 68 = .ok (.getfield 33, 3) := by decide +kernel
theorem dX9_look_71 : decode cX9_look 71 = .ok (.iload_n 2, 1) := by decide +kernel
theorem dX9_look_72 : decode cX9_look 72 = .ok (.invokevirtual 225, 3) := by decide +kernel
theorem dX9_look_75 : decode cX9_look 75 = .ok (.ireturn, 1) := by decide +kernel
theorem dX9_look_76 : decode cX9_look 76 = .ok (.aload_n 0, 1) := by decide +kernel
theorem dX9_look_77 : decode cX9_look 77 = .ok (.getfield 33, 3) := by decide +kernel
theorem dX9_look_80 : decode cX9_look 80 = .ok (.getfield 228, 3) := by decide +kernel
theorem dX9_look_83 : decode cX9_look 83 = .ok (.iload_n 2, 1) := by decide +kernel
theorem dX9_look_84 : decode cX9_look 84 = .ok (.invokestatic 208, 3) := by decide +kernel
theorem dX9_look_87 : decode cX9_look 87 = .ok (.ifCond .ne 6, 3) := by decide +kernel
theorem dX9_look_90 : decode cX9_look 90 = .ok (.ldc 231, 2) := by decide +kernel
theorem dX9_look_92 : decode cX9_look 92 = .ok (.ireturn, 1) := by decide +kernel
theorem dX9_look_93 : decode cX9_look 93 = .ok (.iload_n 3, 1) := by decide +kernel
theorem dX9_look_94 : decode cX9_look 94 = .ok (.iconst 1, 1) := by decide +kernel
theorem dX9_look_95 : decode cX9_look 95 = .ok (.if_icmp .ne 17, 3) := by decide +kernel
theorem dX9_look_98 : decode cX9_look 98 = .ok (.aload_n 0, 1) := by decide +kernel
theorem dX9_look_99 : decode cX9_look 99 = .ok (.getfield 33, 3) := by decide +kernel
theorem dX9_look_102 : decode cX9_look 102 = .ok (.getfield 232, 3) := by decide +kernel
theorem dX9_look_105 : decode cX9_look 105 = .ok (.iload_n 2, 1) := by decide +kernel
theorem dX9_look_106 : decode cX9_look 106 = .ok (.invokevirtual 92, 3) := by decide +kernel
theorem dX9_look_109 : decode cX9_look 109 = .ok (.goto 14, 3) := by decide +kernel
theorem dX9_look_112 : decode cX9_look 112 = .ok (.aload_n 0, 1) := by decide +kernel
theorem dX9_look_113 : decode cX9_look 113 = .ok (.getfield 33, 3) := by decide +kernel
theorem dX9_look_116 : decode cX9_look 116 = .ok (.getfield 235, 3) := by decide +kernel
theorem dX9_look_119 : decode cX9_look 119 = .ok (.iload_n 2, 1) := by decide +kernel
theorem dX9_look_120 : decode cX9_look 120 = .ok (.invokevirtual 92, 3) := by decide +kernel
theorem dX9_look_123 : decode cX9_look 123 = .ok (.ireturn, 1) := by decide +kernel
theorem dX9_past_0 : decode cX9_past 0 = .ok (.iload_n 1, 1) := by decide +kernel
theorem dX9_past_1 : decode cX9_past 1 = .ok (.ifCond .lt 13, 3) := by decide +kernel
theorem dX9_past_4 : decode cX9_past 4 = .ok (.iload_n 2, 1) := by decide +kernel
theorem dX9_past_5 : decode cX9_past 5 = .ok (.ifCond .lt 9, 3) := by decide +kernel
theorem dX9_past_8 : decode cX9_past 8 = .ok (.iload_n 2, 1) := by decide +kernel
theorem dX9_past_9 : decode cX9_past 9 = .ok (.bipush 7, 2) := by decide +kernel
theorem dX9_past_11 : decode cX9_past 11 = .ok (.if_icmp .lt 6, 3) := by decide +kernel
theorem dX9_past_14 : decode cX9_past 14 = .ok (.ldc 51, 2) := by decide +kernel
theorem dX9_past_16 : decode cX9_past 16 = .ok (.ireturn, 1) := by decide +kernel
theorem dX9_past_17 : decode cX9_past 17 = .ok (.aload_n 0, 1) := by decide +kernel
theorem dX9_past_18 : decode cX9_past 18 = .ok (.getfield 12, 3) := by decide +kernel
theorem dX9_past_21 : decode cX9_past 21 = .ok (.getfield 127, 3) := by decide +kernel
theorem dX9_past_24 : decode cX9_past 24 = .ok (.iload_n 1, 1) := by decide +kernel
theorem dX9_past_25 : decode cX9_past 25 = .ok (.iload_n 2, 1) := by decide +kernel
theorem dX9_past_26 : decode cX9_past 26 = .ok (.invokevirtual 238, 3) := by decide +kernel
theorem dX9_past_29 : decode cX9_past 29 = .ok (.ireturn, 1) := by decide +kernel
theorem dX9_why_0 : decode cX9_why 0 = .ok (.iload_n 1, 1) := by decide +kernel
theorem dX9_why_1 : decode cX9_why 1 = .ok (.invokestatic 181, 3) := by decide +kernel
theorem dX9_why_4 : decode cX9_why 4 = .ok (.ifCond .ne 6, 3) := by decide +kernel
theorem dX9_why_7 : decode cX9_why 7 = .ok (.ldc 51, 2) := by decide +kernel
theorem dX9_why_9 : decode cX9_why 9 = .ok (.ireturn, 1) := by decide +kernel
theorem dX9_why_10 : decode cX9_why 10 = .ok (.aload_n 0, 1) := by decide +kernel
theorem dX9_why_11 : decode cX9_why 11 = .ok (.getfield 33, 3) := by decide +kernel
theorem dX9_why_14 : decode cX9_why 14 = .ok (.aload_n 0, 1) := by decide +kernel
theorem dX9_why_15 : decode cX9_why 15 = .ok (.getfield 12, 3) := by decide +kernel
theorem dX9_why_18 : decode cX9_why 18 = .ok (.iload_n 1, 1) := by decide +kernel
theorem dX9_why_19 : decode cX9_why 19 = .ok (.aload_n 0, 1) := by decide +kernel
theorem dX9_why_20 : decode cX9_why 20 = .ok (.getfield 12, 3) := by decide +kernel
theorem dX9_why_23 : decode cX9_why 23 = .ok (.getfield 121, 3) := by decide +kernel
theorem dX9_why_26 : decode cX9_why 26 = .ok (.iconst 0, 1) := by decide +kernel
theorem dX9_why_27 : decode cX9_why 27 = .ok (.invokevirtual 92, 3) := by decide +kernel
theorem dX9_why_30 : decode cX9_why 30 = .ok (.invokevirtual 211, 3) := by decide +kernel
theorem dX9_why_33 : decode cX9_why 33 = .ok (.aload_n 0, 1) := by decide +kernel
theorem dX9_why_34 : decode cX9_why 34 = .ok (.getfield 33, 3) := by decide +kernel
theorem dX9_why_37 : decode cX9_why 37 = .ok (.getfield 215, 3) := by decide +kernel
theorem dX9_why_40 : decode cX9_why 40 = .ok (.ireturn, 1) := by decide +kernel
theorem dX9_silence_0 : decode cX9_silence 0 = .ok (.aload_n 0, 1) := by decide +kernel
theorem dX9_silence_1 : decode cX9_silence 1 = .ok (.getfield 12, 3) := by decide +kernel
theorem dX9_silence_4 : decode cX9_silence 4 = .ok (.getfield 127, 3) := by decide +kernel
theorem dX9_silence_7 : decode cX9_silence 7 = .ok (.getfield 139, 3) := by decide +kernel
theorem dX9_silence_10 : decode cX9_silence 10 = .ok (.i2f, 1) := by decide +kernel
theorem dX9_silence_11 : decode cX9_silence 11 = .ok (.fstore_n 1, 1) := by decide +kernel
theorem dX9_silence_12 : decode cX9_silence 12 = .ok (.aload_n 0, 1) := by decide +kernel
theorem dX9_silence_13 : decode cX9_silence 13 = .ok (.getfield 12, 3) := by decide +kernel
theorem dX9_silence_16 : decode cX9_silence 16 = .ok (.getfield 127, 3) := by decide +kernel
theorem dX9_silence_19 : decode cX9_silence 19 = .ok (.getfield 136, 3) := by decide +kernel
theorem dX9_silence_22 : decode cX9_silence 22 = .ok (.aload_n 0, 1) := by decide +kernel
theorem dX9_silence_23 : decode cX9_silence 23 = .ok (.getfield 12, 3) := by decide +kernel
theorem dX9_silence_26 : decode cX9_silence 26 = .ok (.getfield 127, 3) := by decide +kernel
theorem dX9_silence_29 : decode cX9_silence 29 = .ok (.getfield 139, 3) := by decide +kernel
theorem dX9_silence_32 : decode cX9_silence 32 = .ok (.iadd, 1) := by decide +kernel
theorem dX9_silence_33 : decode cX9_silence 33 = .ok (.i2f, 1) := by decide +kernel
theorem dX9_silence_34 : decode cX9_silence 34 = .ok (.fstore_n 2, 1) := by decide +kernel
theorem dX9_silence_35 : decode cX9_silence 35 = .ok (.fload_n 2, 1) := by decide +kernel
theorem dX9_silence_36 : decode cX9_silence 36 = .ok (.fconst 0, 1) := by decide +kernel
theorem dX9_silence_37 : decode cX9_silence 37 = .ok (.fcmp .l, 1) := by decide +kernel
theorem dX9_silence_38 : decode cX9_silence 38 = .ok (.ifCond .le 9, 3) := by decide +kernel
theorem dX9_silence_41 : decode cX9_silence 41 = .ok (.fload_n 1, 1) := by decide +kernel
theorem dX9_silence_42 : decode cX9_silence 42 = .ok (.fload_n 2, 1) := by decide +kernel
theorem dX9_silence_43 : decode cX9_silence 43 = .ok (.fdiv, 1) := by decide +kernel
theorem dX9_silence_44 : decode cX9_silence 44 = .ok (.goto 4, 3) := by decide +kernel
theorem dX9_silence_47 : decode cX9_silence 47 = .ok (.fconst 0, 1) := by decide +kernel
theorem dX9_silence_48 : decode cX9_silence 48 = .ok (.freturn, 1) := by decide +kernel
theorem dX9_bestWait_0 : decode cX9_bestWait 0 = .ok (.ldc 231, 2) := by decide +kernel
theorem dX9_bestWait_2 : decode cX9_bestWait 2 = .ok (.istore_n 1, 1) := by decide +kernel
theorem dX9_bestWait_3 : decode cX9_bestWait 3 = .ok (.iconst 0, 1) := by decide +kernel
theorem dX9_bestWait_4 : decode cX9_bestWait 4 = .ok (.istore_n 2, 1) := by decide +kernel
theorem dX9_bestWait_5 : decode cX9_bestWait 5 = .ok (.getstatic 241, 3) := by decide +kernel
theorem dX9_bestWait_8 : decode cX9_bestWait 8 = .ok (.astore_n 3, 1) := by decide +kernel
theorem dX9_bestWait_9 : decode cX9_bestWait 9 = .ok (.aload_n 3, 1) := by decide +kernel
theorem dX9_bestWait_10 : decode cX9_bestWait 10 = .ok (.arraylength, 1) := by decide +kernel
theorem dX9_bestWait_11 : decode cX9_bestWait 11 = .ok (.istore 4, 2) := by decide +kernel
theorem dX9_bestWait_13 : decode cX9_bestWait 13 = .ok (.iconst 0, 1) := by decide +kernel
theorem dX9_bestWait_14 : decode cX9_bestWait 14 = .ok (.istore 5, 2) := by decide +kernel
theorem dX9_bestWait_16 : decode cX9_bestWait 16 = .ok (.iload 5, 2) := by decide +kernel
theorem dX9_bestWait_18 : decode cX9_bestWait 18 = .ok (.iload 4, 2) := by decide +kernel
theorem dX9_bestWait_20 : decode cX9_bestWait 20 = .ok (.if_icmp .ge 48, 3) := by decide +kernel
theorem dX9_bestWait_23 : decode cX9_bestWait 23 = .ok (.aload_n 3, 1) := by decide +kernel
theorem dX9_bestWait_24 : decode cX9_bestWait 24 = .ok (.iload 5, 2) := by decide +kernel
theorem dX9_bestWait_26 : decode cX9_bestWait 26 = .ok (.iaload, 1) := by decide +kernel
theorem dX9_bestWait_27 : decode cX9_bestWait 27 = .ok (.istore 6, 2) := by decide +kernel
theorem dX9_bestWait_29 : decode cX9_bestWait 29 = .ok (.aload_n 0, 1) := by decide +kernel
theorem dX9_bestWait_30 : decode cX9_bestWait 30 = .ok (.iload 6, 2) := by decide +kernel
theorem dX9_bestWait_32 : decode cX9_bestWait 32 = .ok (.invokevirtual 245, 3) := by decide +kernel
theorem dX9_bestWait_35 : decode cX9_bestWait 35 = .ok (.istore 7, 2) := by decide +kernel
theorem dX9_bestWait_37 : decode cX9_bestWait 37 = .ok (.iload 7, 2) := by decide +kernel
theorem dX9_bestWait_39 : decode cX9_bestWait 39 = .ok (.ldc 231, 2) := by decide +kernel
theorem dX9_bestWait_41 : decode cX9_bestWait 41 = .ok (.if_icmp .eq 21, 3) := by decide +kernel
theorem dX9_bestWait_44 : decode cX9_bestWait 44 = .ok (.iload_n 1, 1) := by decide +kernel
theorem dX9_bestWait_45 : decode cX9_bestWait 45 = .ok (.ldc 231, 2) := by decide +kernel
theorem dX9_bestWait_47 : decode cX9_bestWait 47 = .ok (.if_icmp .eq 9, 3) := by decide +kernel
theorem dX9_bestWait_50 : decode cX9_bestWait 50 = .ok (.iload 7, 2) := by decide +kernel
theorem dX9_bestWait_52 : decode cX9_bestWait 52 = .ok (.iload_n 2, 1) := by decide +kernel
theorem dX9_bestWait_53 : decode cX9_bestWait 53 = .ok (.if_icmp .ge 9, 3) := by decide +kernel
theorem dX9_bestWait_56 : decode cX9_bestWait 56 = .ok (.iload 6, 2) := by decide +kernel
theorem dX9_bestWait_58 : decode cX9_bestWait 58 = .ok (.istore_n 1, 1) := by decide +kernel
theorem dX9_bestWait_59 : decode cX9_bestWait 59 = .ok (.iload 7, 2) := by decide +kernel
theorem dX9_bestWait_61 : decode cX9_bestWait 61 = .ok (.istore_n 2, 1) := by decide +kernel
theorem dX9_bestWait_62 : decode cX9_bestWait 62 = .ok (.iinc 5 1, 3) := by decide +kernel
theorem dX9_bestWait_65 : decode cX9_bestWait 65 = .ok (.goto (-49), 3) := by decide +kernel
theorem dX9_bestWait_68 : decode cX9_bestWait 68 = .ok (.iload_n 1, 1) := by decide +kernel
theorem dX9_bestWait_69 : decode cX9_bestWait 69 = .ok (.ireturn, 1) := by decide +kernel
theorem dX9_undo_0 : decode cX9_undo 0 = .ok (.aload_n 0, 1) := by decide +kernel
theorem dX9_undo_1 : decode cX9_undo 1 = .ok (.getfield 19, 3) := by decide +kernel
theorem dX9_undo_4 : decode cX9_undo 4 = .ok (.getfield 248, 3) := by decide +kernel
theorem dX9_undo_7 : decode cX9_undo 7 = .ok (.ifCond .ne 6, 3) := by decide +kernel
theorem dX9_undo_10 : decode cX9_undo 10 = .ok (.ldc 231, 2) := by decide +kernel
theorem dX9_undo_12 : decode cX9_undo 12 = .ok (.ireturn, 1) := by decide +kernel
theorem dX9_undo_13 : decode cX9_undo 13 = .ok (.aload_n 0, 1) := by decide +kernel
theorem dX9_undo_14 : decode cX9_undo 14 = .ok (.getfield 19, 3) := by decide +kernel
theorem dX9_undo_17 : decode cX9_undo 17 = .ok (.aload_n 0, 1) := by decide +kernel
theorem dX9_undo_18 : decode cX9_undo 18 = .ok (.getfield 12, 3) := by decide +kernel
theorem dX9_undo_21 : decode cX9_undo 21 = .ok (.invokevirtual 249, 3) := by decide +kernel
theorem dX9_undo_24 : decode cX9_undo 24 = .ok (.aload_n 0, 1) := by decide +kernel
theorem dX9_undo_25 : decode cX9_undo 25 = .ok (.getfield 19, 3) := by decide +kernel
theorem dX9_undo_28 : decode cX9_undo 28 = .ok (.getfield 248, 3) := by decide +kernel
theorem dX9_undo_31 : decode cX9_undo 31 = .ok (.ireturn, 1) := by decide +kernel
theorem dX9_fingerprint_0 : decode cX9_fingerprint 0 = .ok (.ldc2_w 252, 3) := by decide +kernel
theorem dX9_fingerprint_3 : decode cX9_fingerprint 3 = .ok (.lstore_n 1, 1) := by decide +kernel
theorem dX9_fingerprint_4 : decode cX9_fingerprint 4 = .ok (.iconst 0, 1) := by decide +kernel
theorem dX9_fingerprint_5 : decode cX9_fingerprint 5 = .ok (.istore_n 3, 1) := by decide +kernel
theorem dX9_fingerprint_6 : decode cX9_fingerprint 6 = .ok (.iload_n 3, 1) := by decide +kernel
theorem dX9_fingerprint_7 : decode cX9_fingerprint 7 = .ok (.bipush 9, 2) := by decide +kernel
theorem dX9_fingerprint_9 : decode cX9_fingerprint 9 = .ok (.if_icmp .gt 22, 3) := by decide +kernel
theorem dX9_fingerprint_12 : decode cX9_fingerprint 12 = .ok (.ldc2_w 254, 3) := by decide +kernel
theorem dX9_fingerprint_15 : decode cX9_fingerprint 15 = .ok (.lload_n 1, 1) := by decide +kernel
theorem dX9_fingerprint_16 : decode cX9_fingerprint 16 = .ok (.lmul, 1) := by decide +kernel
theorem dX9_fingerprint_17 : decode cX9_fingerprint 17 = .ok (.aload_n 0, 1) := by decide +kernel
theorem dX9_fingerprint_18 : decode cX9_fingerprint 18 = .ok (.iload_n 3, 1) := by decide +kernel
theorem dX9_fingerprint_19 : decode cX9_fingerprint 19 = .ok (.invokevirtual 256, 3) := by decide +kernel
theorem dX9_fingerprint_22 : decode cX9_fingerprint 22 = .ok (.i2l, 1) := by decide +kernel
theorem dX9_fingerprint_23 : decode cX9_fingerprint 23 = .ok (.ladd, 1) := by decide +kernel
theorem dX9_fingerprint_24 : decode cX9_fingerprint 24 = .ok (.lstore_n 1, 1) := by decide +kernel
theorem dX9_fingerprint_25 : decode cX9_fingerprint 25 = .ok (.iinc 3 1, 3) := by decide +kernel
theorem dX9_fingerprint_28 : decode cX9_fingerprint 28 = .ok (.goto (-22), 3) := by decide +kernel
theorem dX9_fingerprint_31 : decode cX9_fingerprint 31 = .ok (.iconst 0, 1) := by decide +kernel
theorem dX9_fingerprint_32 : decode cX9_fingerprint 32 = .ok (.istore_n 3, 1) := by decide +kernel
theorem dX9_fingerprint_33 : decode cX9_fingerprint 33 = .ok (.iload_n 3, 1) := by decide +kernel
theorem dX9_fingerprint_34 : decode cX9_fingerprint 34 = .ok (.aload_n 0, 1) := by decide +kernel
theorem dX9_fingerprint_35 : decode cX9_fingerprint 35 = .ok (.getfield 12, 3) := by decide +kernel
theorem dX9_fingerprint_38 : decode cX9_fingerprint 38 = .ok (.getfield 52, 3) := by decide +kernel
theorem dX9_fingerprint_41 : decode cX9_fingerprint 41 = .ok (.getfield 56, 3) := by decide +kernel
theorem dX9_fingerprint_44 : decode cX9_fingerprint 44 = .ok (.if_icmp .ge 40, 3) := by decide +kernel
theorem dX9_fingerprint_47 : decode cX9_fingerprint 47 = .ok (.iconst 0, 1) := by decide +kernel
theorem dX9_fingerprint_48 : decode cX9_fingerprint 48 = .ok (.istore 4, 2) := by decide +kernel
theorem dX9_fingerprint_50 : decode cX9_fingerprint 50 = .ok (.iload 4, 2) := by decide +kernel
theorem dX9_fingerprint_52 : decode cX9_fingerprint 52 = .ok (.bipush 8, 2) := by decide +kernel
theorem dX9_fingerprint_54 : decode cX9_fingerprint 54 = .ok (.if_icmp .gt 24, 3) := by decide +kernel
theorem dX9_fingerprint_57 : decode cX9_fingerprint 57 = .ok (.ldc2_w 254, 3) := by decide +kernel
theorem dX9_fingerprint_60 : decode cX9_fingerprint 60 = .ok (.lload_n 1, 1) := by decide +kernel
theorem dX9_fingerprint_61 : decode cX9_fingerprint 61 = .ok (.lmul, 1) := by decide +kernel
theorem dX9_fingerprint_62 : decode cX9_fingerprint 62 = .ok (.aload_n 0, 1) := by decide +kernel
theorem dX9_fingerprint_63 : decode cX9_fingerprint 63 = .ok (.iload_n 3, 1) := by decide +kernel
theorem dX9_fingerprint_64 : decode cX9_fingerprint 64 = .ok (.iload 4, 2) := by decide +kernel
theorem dX9_fingerprint_66 : decode cX9_fingerprint 66 = .ok (.invokevirtual 259, 3) := by decide +kernel
theorem dX9_fingerprint_69 : decode cX9_fingerprint 69 = .ok (.i2l, 1) := by decide +kernel
theorem dX9_fingerprint_70 : decode cX9_fingerprint 70 = .ok (.ladd, 1) := by decide +kernel
theorem dX9_fingerprint_71 : decode cX9_fingerprint 71 = .ok (.lstore_n 1, 1) := by decide +kernel
theorem dX9_fingerprint_72 : decode cX9_fingerprint 72 = .ok (.iinc 4 1, 3) := by decide +kernel
theorem dX9_fingerprint_75 : decode cX9_fingerprint 75 = .ok (.goto (-25), 3) := by decide +kernel
theorem dX9_fingerprint_78 : decode cX9_fingerprint 78 = .ok (.iinc 3 1, 3) := by decide +kernel
theorem dX9_fingerprint_81 : decode cX9_fingerprint 81 = .ok (.goto (-48), 3) := by decide +kernel
theorem dX9_fingerprint_84 : decode cX9_fingerprint 84 = .ok (.ldc2_w 254, 3) := by decide +kernel
theorem dX9_fingerprint_87 : decode cX9_fingerprint 87 = .ok (.lload_n 1, 1) := by decide +kernel
theorem dX9_fingerprint_88 : decode cX9_fingerprint 88 = .ok (.lmul, 1) := by decide +kernel
theorem dX9_fingerprint_89 : decode cX9_fingerprint 89 = .ok (.aload_n 0, 1) := by decide +kernel
theorem dX9_fingerprint_90 : decode cX9_fingerprint 90 = .ok (.invokevirtual 262, 3) := by decide +kernel
theorem dX9_fingerprint_93 : decode cX9_fingerprint 93 = .ok (.ladd, 1) := by decide +kernel
theorem dX9_fingerprint_94 : decode cX9_fingerprint 94 = .ok (.lstore_n 1, 1) := by decide +kernel
theorem dX9_fingerprint_95 : decode cX9_fingerprint 95 = .ok (.iconst 0, 1) := by decide +kernel
theorem dX9_fingerprint_96 : decode cX9_fingerprint 96 = .ok (.istore_n 3, 1) := by decide +kernel
theorem dX9_fingerprint_97 : decode cX9_fingerprint 97 = .ok (.iload_n 3, 1) := by decide +kernel
theorem dX9_fingerprint_98 : decode cX9_fingerprint 98 = .ok (.aload_n 0, 1) := by decide +kernel
theorem dX9_fingerprint_99 : decode cX9_fingerprint 99 = .ok (.getfield 12, 3) := by decide +kernel
theorem dX9_fingerprint_102 : decode cX9_fingerprint 102 = .ok (.getfield 99, 3) := by decide +kernel
theorem dX9_fingerprint_105 : decode cX9_fingerprint 105 = .ok (.getfield 265, 3) := by decide +kernel
theorem dX9_fingerprint_108 : decode cX9_fingerprint 108 = .ok (.if_icmp .ge 22, 3) := by decide +kernel
theorem dX9_fingerprint_111 : decode cX9_fingerprint 111 = .ok (.ldc2_w 254, 3) := by decide +kernel
theorem dX9_fingerprint_114 : decode cX9_fingerprint 114 = .ok (.lload_n 1, 1) := by decide +kernel
theorem dX9_fingerprint_115 : decode cX9_fingerprint 115 = .ok (.lmul, 1) := by decide +kernel
theorem dX9_fingerprint_116 : decode cX9_fingerprint 116 = .ok (.aload_n 0, 1) := by decide +kernel
theorem dX9_fingerprint_117 : decode cX9_fingerprint 117 = .ok (.iload_n 3, 1) := by decide +kernel
theorem dX9_fingerprint_118 : decode cX9_fingerprint 118 = .ok (.invokevirtual 268, 3) := by decide +kernel
theorem dX9_fingerprint_121 : decode cX9_fingerprint 121 = .ok (.i2l, 1) := by decide +kernel
theorem dX9_fingerprint_122 : decode cX9_fingerprint 122 = .ok (.ladd, 1) := by decide +kernel
theorem dX9_fingerprint_123 : decode cX9_fingerprint 123 = .ok (.lstore_n 1, 1) := by decide +kernel
theorem dX9_fingerprint_124 : decode cX9_fingerprint 124 = .ok (.iinc 3 1, 3) := by decide +kernel
theorem dX9_fingerprint_127 : decode cX9_fingerprint 127 = .ok (.goto (-30), 3) := by decide +kernel
theorem dX9_fingerprint_130 : decode cX9_fingerprint 130 = .ok (.iconst 0, 1) := by decide +kernel
theorem dX9_fingerprint_131 : decode cX9_fingerprint 131 = .ok (.istore_n 3, 1) := by decide +kernel
theorem dX9_fingerprint_132 : decode cX9_fingerprint 132 = .ok (.iload_n 3, 1) := by decide +kernel
theorem dX9_fingerprint_133 : decode cX9_fingerprint 133 = .ok (.sipush 200, 3) := by decide +kernel
theorem dX9_fingerprint_136 : decode cX9_fingerprint 136 = .ok (.if_icmp .ge 49, 3) := by decide +kernel
theorem dX9_fingerprint_139 : decode cX9_fingerprint 139 = .ok (.aload_n 0, 1) := by decide +kernel
theorem dX9_fingerprint_140 : decode cX9_fingerprint 140 = .ok (.getfield 12, 3) := by decide +kernel
theorem dX9_fingerprint_143 : decode cX9_fingerprint 143 = .ok (.getfield 184, 3) := by decide +kernel
theorem dX9_fingerprint_146 : decode cX9_fingerprint 146 = .ok (.iload_n 3, 1) := by decide +kernel
theorem dX9_fingerprint_147 : decode cX9_fingerprint 147 = .ok (.invokevirtual 92, 3) := by decide +kernel
theorem dX9_fingerprint_150 : decode cX9_fingerprint 150 = .ok (.ifCond .eq 29, 3) := by decide +kernel
theorem dX9_fingerprint_153 : decode cX9_fingerprint 153 = .ok (.ldc2_w 254, 3) := by decide +kernel
theorem dX9_fingerprint_156 : decode cX9_fingerprint 156 = .ok (.ldc2_w 254, 3) := by decide +kernel
theorem dX9_fingerprint_159 : decode cX9_fingerprint 159 = .ok (.lload_n 1, 1) := by decide +kernel
theorem dX9_fingerprint_160 : decode cX9_fingerprint 160 = .ok (.lmul, 1) := by decide +kernel
theorem dX9_fingerprint_161 : decode cX9_fingerprint 161 = .ok (.iload_n 3, 1) := by decide +kernel
theorem dX9_fingerprint_162 : decode cX9_fingerprint 162 = .ok (.i2l, 1) := by decide +kernel
theorem dX9_fingerprint_163 : decode cX9_fingerprint 163 = .ok (.ladd, 1) := by decide +kernel
theorem dX9_fingerprint_164 : decode cX9_fingerprint 164 = .ok (.lmul, 1) := by decide +kernel
theorem dX9_fingerprint_165 : decode cX9_fingerprint 165 = .ok (.aload_n 0, 1) := by decide +kernel
theorem dX9_fingerprint_166 : decode cX9_fingerprint 166 = .ok (.getfield 12, 3) := by decide +kernel
theorem dX9_fingerprint_169 : decode cX9_fingerprint 169 = .ok (.getfield 184, 3) := by decide +kernel
theorem dX9_fingerprint_172 : decode cX9_fingerprint 172 = .ok (.iload_n 3, 1) := by decide +kernel
theorem dX9_fingerprint_173 : decode cX9_fingerprint 173 = .ok (.invokevirtual 92, 3) := by decide +kernel
theorem dX9_fingerprint_176 : decode cX9_fingerprint 176 = .ok (.i2l, 1) := by decide +kernel
theorem dX9_fingerprint_177 : decode cX9_fingerprint 177 = .ok (.ladd, 1) := by decide +kernel
theorem dX9_fingerprint_178 : decode cX9_fingerprint 178 = .ok (.lstore_n 1, 1) := by decide +kernel
theorem dX9_fingerprint_179 : decode cX9_fingerprint 179 = .ok (.iinc 3 1, 3) := by decide +kernel
theorem dX9_fingerprint_182 : decode cX9_fingerprint 182 = .ok (.goto (-50), 3) := by decide +kernel
theorem dX9_fingerprint_185 : decode cX9_fingerprint 185 = .ok (.iconst 0, 1) := by decide +kernel
theorem dX9_fingerprint_186 : decode cX9_fingerprint 186 = .ok (.istore_n 3, 1) := by decide +kernel
theorem dX9_fingerprint_187 : decode cX9_fingerprint 187 = .ok (.iload_n 3, 1) := by decide +kernel
theorem dX9_fingerprint_188 : decode cX9_fingerprint 188 = .ok (.aload_n 0, 1) := by decide +kernel
theorem dX9_fingerprint_189 : decode cX9_fingerprint 189 = .ok (.getfield 12, 3) := by decide +kernel
theorem dX9_fingerprint_192 : decode cX9_fingerprint 192 = .ok (.getfield 127, 3) := by decide +kernel
theorem dX9_fingerprint_195 : decode cX9_fingerprint 195 = .ok (.invokevirtual 271, 3) := by decide +kernel
theorem dX9_fingerprint_198 : decode cX9_fingerprint 198 = .ok (.if_icmp .ge 40, 3) := by decide +kernel
theorem dX9_fingerprint_201 : decode cX9_fingerprint 201 = .ok (.iconst 0, 1) := by decide +kernel
theorem dX9_fingerprint_202 : decode cX9_fingerprint 202 = .ok (.istore 4, 2) := by decide +kernel
theorem dX9_fingerprint_204 : decode cX9_fingerprint 204 = .ok (.iload 4, 2) := by decide +kernel
theorem dX9_fingerprint_206 : decode cX9_fingerprint 206 = .ok (.bipush 7, 2) := by decide +kernel
theorem dX9_fingerprint_208 : decode cX9_fingerprint 208 = .ok (.if_icmp .ge 24, 3) := by decide +kernel
theorem dX9_fingerprint_211 : decode cX9_fingerprint 211 = .ok (.ldc2_w 254, 3) := by decide +kernel
theorem dX9_fingerprint_214 : decode cX9_fingerprint 214 = .ok (.lload_n 1, 1) := by decide +kernel
theorem dX9_fingerprint_215 : decode cX9_fingerprint 215 = .ok (.lmul, 1) := by decide +kernel
theorem dX9_fingerprint_216 : decode cX9_fingerprint 216 = .ok (.aload_n 0, 1) := by decide +kernel
theorem dX9_fingerprint_217 : decode cX9_fingerprint 217 = .ok (.iload_n 3, 1) := by decide +kernel
theorem dX9_fingerprint_218 : decode cX9_fingerprint 218 = .ok (.iload 4, 2) := by decide +kernel
theorem dX9_fingerprint_220 : decode cX9_fingerprint 220 = .ok (.invokevirtual 274, 3) := by decide +kernel
theorem dX9_fingerprint_223 : decode cX9_fingerprint 223 = .ok (.i2l, 1) := by decide +kernel
theorem dX9_fingerprint_224 : decode cX9_fingerprint 224 = .ok (.ladd, 1) := by decide +kernel
theorem dX9_fingerprint_225 : decode cX9_fingerprint 225 = .ok (.lstore_n 1, 1) := by decide +kernel
theorem dX9_fingerprint_226 : decode cX9_fingerprint 226 = .ok (.iinc 4 1, 3) := by decide +kernel
theorem dX9_fingerprint_229 : decode cX9_fingerprint 229 = .ok (.goto (-25), 3) := by decide +kernel
theorem dX9_fingerprint_232 : decode cX9_fingerprint 232 = .ok (.iinc 3 1, 3) := by decide +kernel
theorem dX9_fingerprint_235 : decode cX9_fingerprint 235 = .ok (.goto (-48), 3) := by decide +kernel
theorem dX9_fingerprint_238 : decode cX9_fingerprint 238 = .ok (.lload_n 1, 1) := by decide +kernel
theorem dX9_fingerprint_239 : decode cX9_fingerprint 239 = .ok (.lreturn, 1) := by decide +kernel
theorem dX9_isMember_0 : decode cX9_isMember 0 = .ok (.iload_n 1, 1) := by decide +kernel
theorem dX9_isMember_1 : decode cX9_isMember 1 = .ok (.ifCond .lt 21, 3) := by decide +kernel
theorem dX9_isMember_4 : decode cX9_isMember 4 = .ok (.iload_n 1, 1) := by decide +kernel
theorem dX9_isMember_5 : decode cX9_isMember 5 = .ok (.aload_n 0, 1) := by decide +kernel
theorem dX9_isMember_6 : decode cX9_isMember 6 = .ok (.getfield 12, 3) := by decide +kernel
theorem dX9_isMember_9 : decode cX9_isMember 9 = .ok (.getfield 52, 3) := by decide +kernel
theorem dX9_isMember_12 : decode cX9_isMember 12 = .ok (.getfield 56, 3) := by decide +kernel
theorem dX9_isMember_15 : decode cX9_isMember 15 = .ok (.if_icmp .ge 7, 3) := by decide +kernel
theorem dX9_isMember_18 : decode cX9_isMember 18 = .ok (.iconst 1, 1) := by decide +kernel
theorem dX9_isMember_19 : decode cX9_isMember 19 = .ok (.goto 4, 3) := by decide +kernel
theorem dX9_isMember_22 : decode cX9_isMember 22 = .ok (.iconst 0, 1) := by decide +kernel
theorem dX9_isMember_23 : decode cX9_isMember 23 = .ok (.ireturn, 1) := by decide +kernel
theorem dX9_isBlock_0 : decode cX9_isBlock 0 = .ok (.iload_n 0, 1) := by decide +kernel
theorem dX9_isBlock_1 : decode cX9_isBlock 1 = .ok (.ifCond .lt 14, 3) := by decide +kernel
theorem dX9_isBlock_4 : decode cX9_isBlock 4 = .ok (.iload_n 0, 1) := by decide +kernel
theorem dX9_isBlock_5 : decode cX9_isBlock 5 = .ok (.sipush 200, 3) := by decide +kernel
theorem dX9_isBlock_8 : decode cX9_isBlock 8 = .ok (.if_icmp .ge 7, 3) := by decide +kernel
theorem dX9_isBlock_11 : decode cX9_isBlock 11 = .ok (.iconst 1, 1) := by decide +kernel
theorem dX9_isBlock_12 : decode cX9_isBlock 12 = .ok (.goto 4, 3) := by decide +kernel
theorem dX9_isBlock_15 : decode cX9_isBlock 15 = .ok (.iconst 0, 1) := by decide +kernel
theorem dX9_isBlock_16 : decode cX9_isBlock 16 = .ok (.ireturn, 1) := by decide +kernel
theorem dX9_isWeight_0 : decode cX9_isWeight 0 = .ok (.iload_n 0, 1) := by decide +kernel
theorem dX9_isWeight_1 : decode cX9_isWeight 1 = .ok (.iconst 1, 1) := by decide +kernel
theorem dX9_isWeight_2 : decode cX9_isWeight 2 = .ok (.if_icmp .lt 13, 3) := by decide +kernel
theorem dX9_isWeight_5 : decode cX9_isWeight 5 = .ok (.iload_n 0, 1) := by decide +kernel
theorem dX9_isWeight_6 : decode cX9_isWeight 6 = .ok (.bipush 9, 2) := by decide +kernel
theorem dX9_isWeight_8 : decode cX9_isWeight 8 = .ok (.if_icmp .gt 7, 3) := by decide +kernel
theorem dX9_isWeight_11 : decode cX9_isWeight 11 = .ok (.iconst 1, 1) := by decide +kernel
theorem dX9_isWeight_12 : decode cX9_isWeight 12 = .ok (.goto 4, 3) := by decide +kernel
theorem dX9_isWeight_15 : decode cX9_isWeight 15 = .ok (.iconst 0, 1) := by decide +kernel
theorem dX9_isWeight_16 : decode cX9_isWeight 16 = .ok (.ireturn, 1) := by decide +kernel
theorem dX9_isPosition_0 : decode cX9_isPosition 0 = .ok (.iload_n 0, 1) := by decide +kernel
theorem dX9_isPosition_1 : decode cX9_isPosition 1 = .ok (.ifCond .lt 14, 3) := by decide +kernel
theorem dX9_isPosition_4 : decode cX9_isPosition 4 = .ok (.iload_n 0, 1) := by decide +kernel
theorem dX9_isPosition_5 : decode cX9_isPosition 5 = .ok (.sipush 1000, 3) := by decide +kernel
theorem dX9_isPosition_8 : decode cX9_isPosition 8 = .ok (.if_icmp .gt 7, 3) := by decide +kernel
theorem dX9_isPosition_11 : decode cX9_isPosition 11 = .ok (.iconst 1, 1) := by decide +kernel
theorem dX9_isPosition_12 : decode cX9_isPosition 12 = .ok (.goto 4, 3) := by decide +kernel
theorem dX9_isPosition_15 : decode cX9_isPosition 15 = .ok (.iconst 0, 1) := by decide +kernel
theorem dX9_isPosition_16 : decode cX9_isPosition 16 = .ok (.ireturn, 1) := by decide +kernel
theorem dX9_isSettingValue_0 : decode cX9_isSettingValue 0 = .ok (.iload_n 0, 1) := by decide +kernel
theorem dX9_isSettingValue_1 : decode cX9_isSettingValue 1 = .ok (.ifCond .lt 41, 3) := by decide +kernel
theorem dX9_isSettingValue_4 : decode cX9_isSettingValue 4 = .ok (.iload_n 0, 1) := by decide +kernel
theorem dX9_isSettingValue_5 : decode cX9_isSettingValue 5 = .ok (.getstatic 277, 3) := by decide +kernel
theorem dX9_isSettingValue_8 : decode cX9_isSettingValue 8 = .ok (.arraylength, 1) := by decide +kernel
theorem dX9_isSettingValue_9 : decode cX9_isSettingValue 9 = .ok (.if_icmp .ge 33, 3) := by decide +kernel
theorem dX9_isSettingValue_12 : decode cX9_isSettingValue 12 = .ok (.iload_n 0, 1) := by decide +kernel
theorem dX9_isSettingValue_13 : decode cX9_isSettingValue 13 = .ok (.getstatic 280, 3) := by decide +kernel
theorem dX9_isSettingValue_16 : decode cX9_isSettingValue 16 = .ok (.arraylength, 1) := by decide +kernel
theorem dX9_isSettingValue_17 : decode cX9_isSettingValue 17 = .ok (.if_icmp .ge 25, 3) := by decide +kernel
theorem dX9_isSettingValue_20 : decode cX9_isSettingValue 20 = .ok (.iload_n 1, 1) := by decide +kernel
theorem dX9_isSettingValue_21 : decode cX9_isSettingValue 21 = .ok (.getstatic 277, 3) := by decide +kernel
theorem dX9_isSettingValue_24 : decode cX9_isSettingValue 24 = .ok (.iload_n 0, 1) := by decide +kernel
theorem dX9_isSettingValue_25 : decode cX9_isSettingValue 25 = .ok (.iaload, 1) := by decide +kernel
theorem dX9_isSettingValue_26 : decode cX9_isSettingValue 26 = .ok (.if_icmp .lt 16, 3) := by decide +kernel
theorem dX9_isSettingValue_29 : decode cX9_isSettingValue 29 = .ok (.iload_n 1, 1) := by decide +kernel
theorem dX9_isSettingValue_30 : decode cX9_isSettingValue 30 = .ok (.getstatic 280, 3) := by decide +kernel
theorem dX9_isSettingValue_33 : decode cX9_isSettingValue 33 = .ok (.iload_n 0, 1) := by decide +kernel
theorem dX9_isSettingValue_34 : decode cX9_isSettingValue 34 = .ok (.iaload, 1) := by decide +kernel
theorem dX9_isSettingValue_35 : decode cX9_isSettingValue 35 = .ok (.if_icmp .gt 7, 3) := by decide +kernel
theorem dX9_isSettingValue_38 : decode cX9_isSettingValue 38 = .ok (.iconst 1, 1) := by decide +kernel
theorem dX9_isSettingValue_39 : decode cX9_isSettingValue 39 = .ok (.goto 4, 3) := by decide +kernel
theorem dX9_isSettingValue_42 : decode cX9_isSettingValue 42 = .ok (.iconst 0, 1) := by decide +kernel
theorem dX9_isSettingValue_43 : decode cX9_isSettingValue 43 = .ok (.ireturn, 1) := by decide +kernel
theorem dX9_areEnough_0 : decode cX9_areEnough 0 = .ok (.iload_n 1, 1) := by decide +kernel
theorem dX9_areEnough_1 : decode cX9_areEnough 1 = .ok (.invokestatic 187, 3) := by decide +kernel
theorem dX9_areEnough_4 : decode cX9_areEnough 4 = .ok (.aload_n 0, 1) := by decide +kernel
theorem dX9_areEnough_5 : decode cX9_areEnough 5 = .ok (.getfield 12, 3) := by decide +kernel
theorem dX9_areEnough_8 : decode cX9_areEnough 8 = .ok (.getfield 121, 3) := by decide +kernel
theorem dX9_areEnough_11 : decode cX9_areEnough 11 = .ok (.iconst 2, 1) := by decide +kernel
theorem dX9_areEnough_12 : decode cX9_areEnough 12 = .ok (.invokevirtual 92, 3) := by decide +kernel
theorem dX9_areEnough_15 : decode cX9_areEnough 15 = .ok (.if_icmp .lt 7, 3) := by decide +kernel
theorem dX9_areEnough_18 : decode cX9_areEnough 18 = .ok (.iconst 1, 1) := by decide +kernel
theorem dX9_areEnough_19 : decode cX9_areEnough 19 = .ok (.goto 4, 3) := by decide +kernel
theorem dX9_areEnough_22 : decode cX9_areEnough 22 = .ok (.iconst 0, 1) := by decide +kernel
theorem dX9_areEnough_23 : decode cX9_areEnough 23 = .ok (.ireturn, 1) := by decide +kernel
theorem dX9_sumOfTimes_0 : decode cX9_sumOfTimes 0 = .ok (.ldc 231, 2) := by decide +kernel
theorem dX9_sumOfTimes_2 : decode cX9_sumOfTimes 2 = .ok (.istore_n 2, 1) := by decide +kernel
theorem dX9_sumOfTimes_3 : decode cX9_sumOfTimes 3 = .ok (.iconst 0, 1) := by decide +kernel
theorem dX9_sumOfTimes_4 : decode cX9_sumOfTimes 4 = .ok (.istore_n 3, 1) := by decide +kernel
theorem dX9_sumOfTimes_5 : decode cX9_sumOfTimes 5 = .ok (.iload_n 3, 1) := by decide +kernel
theorem dX9_sumOfTimes_6 : decode cX9_sumOfTimes 6 = .ok (.sipush 200, 3) := by decide +kernel
theorem dX9_sumOfTimes_9 : decode cX9_sumOfTimes 9 = .ok (.if_icmp .ge 52, 3) := by decide +kernel
theorem dX9_sumOfTimes_12 : decode cX9_sumOfTimes 12 = .ok (.aload_n 0, 1) := by decide +kernel
theorem dX9_sumOfTimes_13 : decode cX9_sumOfTimes 13 = .ok (.getfield 33, 3) := by decide +kernel
theorem dX9_sumOfTimes_16 : decode cX9_sumOfTimes 16 = .ok (.aload_n 0, 1) := by decide +kernel
theorem dX9_sumOfTimes_17 : decode cX9_sumOfTimes 17 = .ok (.getfield 12, 3) := by decide +kernel
theorem dX9_sumOfTimes_20 : decode cX9_sumOfTimes 20 = .ok (.iload_n 3, 1) := by decide +kernel
theorem dX9_sumOfTimes_21 : decode cX9_sumOfTimes 21 = .ok (.iload_n 1, 1) := by decide +kernel
theorem dX9_sumOfTimes_22 : decode cX9_sumOfTimes 22 = .ok (.invokevirtual 211, 3) := by decide +kernel
theorem dX9_sumOfTimes_25 : decode cX9_sumOfTimes 25 = .ok (.aload_n 0, 1) := by decide +kernel
theorem dX9_sumOfTimes_26 : decode cX9_sumOfTimes 26 = .ok (.getfield 33, 3) := by decide +kernel
theorem dX9_sumOfTimes_29 : decode cX9_sumOfTimes 29 = .ok (.getfield 215, 3) := by decide +kernel
theorem dX9_sumOfTimes_32 : decode cX9_sumOfTimes 32 = .ok (.ifCond .ne 23, 3) := by decide +kernel
theorem dX9_sumOfTimes_35 : decode cX9_sumOfTimes 35 = .ok (.iload_n 2, 1) := by decide +kernel
theorem dX9_sumOfTimes_36 : decode cX9_sumOfTimes 36 = .ok (.ldc 231, 2) := by decide +kernel
theorem dX9_sumOfTimes_38 : decode cX9_sumOfTimes 38 = .ok (.if_icmp .ne 7, 3) := by decide +kernel
theorem dX9_sumOfTimes_41 : decode cX9_sumOfTimes 41 = .ok (.iconst 0, 1) := by decide +kernel
theorem dX9_sumOfTimes_42 : decode cX9_sumOfTimes 42 = .ok (.goto 4, 3) := by decide +kernel
theorem dX9_sumOfTimes_45 : decode cX9_sumOfTimes 45 = .ok (.iload_n 2, 1) := by decide +kernel
theorem dX9_sumOfTimes_46 : decode cX9_sumOfTimes 46 = .ok (.aload_n 0, 1) := by decide +kernel
theorem dX9_sumOfTimes_47 : decode cX9_sumOfTimes 47 = .ok (.getfield 33, 3) := by decide +kernel
theorem dX9_sumOfTimes_50 : decode cX9_sumOfTimes 50 = .ok (.getfield 222, 3) := by decide +kernel
theorem dX9_sumOfTimes_53 : decode cX9_sumOfTimes 53 = .ok (.iadd, 1) := by decide +kernel
theorem dX9_sumOfTimes_54 : decode cX9_sumOfTimes 54 = .ok (.istore_n 2, 1) := by decide +kernel
theorem dX9_sumOfTimes_55 : decode cX9_sumOfTimes 55 = .ok (.iinc 3 1, 3) := by decide +kernel
theorem dX9_sumOfTimes_58 : decode cX9_sumOfTimes 58 = .ok (.goto (-53), 3) := by decide +kernel
theorem dX9_sumOfTimes_61 : decode cX9_sumOfTimes 61 = .ok (.iload_n 2, 1) := by decide +kernel
theorem dX9_sumOfTimes_62 : decode cX9_sumOfTimes 62 = .ok (.ireturn, 1) := by decide +kernel
theorem dX10_init_0 : decode cX10_init 0 = .ok (.aload_n 0, 1) := by decide +kernel
theorem dX10_init_1 : decode cX10_init 1 = .ok (.invokespecial 1, 3) := by decide +kernel
theorem dX10_init_4 : decode cX10_init 4 = .ok (.aload_n 0, 1) := by decide +kernel
theorem dX10_init_5 : decode cX10_init 5 = .ok (.sipush 520, 3) := by decide +kernel
theorem dX10_init_8 : decode cX10_init 8 = .ok (.newarray .int, 2) := by decide +kernel
theorem dX10_init_10 : decode cX10_init 10 = .ok (.putfield 7, 3) := by decide +kernel
theorem dX10_init_13 : decode cX10_init 13 = .ok (.aload_n 0, 1) := by decide +kernel
theorem dX10_init_14 : decode cX10_init 14 = .ok (.sipush 2080, 3) := by decide +kernel
theorem dX10_init_17 : decode cX10_init 17 = .ok (.newarray .int, 2) := by decide +kernel
theorem dX10_init_19 : decode cX10_init 19 = .ok (.putfield 13, 3) := by decide +kernel
theorem dX10_init_22 : decode cX10_init 22 = .ok (.aload_n 0, 1) := by decide +kernel
theorem dX10_init_23 : decode cX10_init 23 = .ok (.bipush 10, 2) := by decide +kernel
theorem dX10_init_25 : decode cX10_init 25 = .ok (.newarray .int, 2) := by decide +kernel
theorem dX10_init_27 : decode cX10_init 27 = .ok (.putfield 16, 3) := by decide +kernel
theorem dX10_init_30 : decode cX10_init 30 = .ok (.aload_n 0, 1) := by decide +kernel
theorem dX10_init_31 : decode cX10_init 31 = .ok (.bipush 60, 2) := by decide +kernel
theorem dX10_init_33 : decode cX10_init 33 = .ok (.newarray .int, 2) := by decide +kernel
theorem dX10_init_35 : decode cX10_init 35 = .ok (.putfield 19, 3) := by decide +kernel
theorem dX10_init_38 : decode cX10_init 38 = .ok (.aload_n 0, 1) := by decide +kernel
theorem dX10_init_39 : decode cX10_init 39 = .ok (.bipush 60, 2) := by decide +kernel
theorem dX10_init_41 : decode cX10_init 41 = .ok (.newarray .int, 2) := by decide +kernel
theorem dX10_init_43 : decode cX10_init 43 = .ok (.putfield 22, 3) := by decide +kernel
theorem dX10_init_46 : decode cX10_init 46 = .ok (.aload_n 0, 1) := by decide +kernel
theorem dX10_init_47 : decode cX10_init 47 = .ok (.bipush 10, 2) := by decide +kernel
theorem dX10_init_49 : decode cX10_init 49 = .ok (.newarray .int, 2) := by decide +kernel
theorem dX10_init_51 : decode cX10_init 51 = .ok (.putfield 25, 3) := by decide +kernel
theorem dX10_init_54 : decode cX10_init 54 = .ok (.aload_n 0, 1) := by decide +kernel
theorem dX10_init_55 : decode cX10_init 55 = .ok (.getfield 7, 3) := by decide +kernel
theorem dX10_init_58 : decode cX10_init 58 = .ok (.iconst 0, 1) := by decide +kernel
theorem dX10_init_59 : decode cX10_init 59 = .ok (.bipush 100, 2) := by decide +kernel
theorem dX10_init_61 : decode cX10_init 61 = .ok (.iastore, 1) := by decide +kernel
theorem dX10_init_62 : decode cX10_init 62 = .ok (.aload_n 0, 1) := by decide +kernel
theorem dX10_init_63 : decode cX10_init 63 = .ok (.getfield 7, 3) := by decide +kernel
theorem dX10_init_66 : decode cX10_init 66 = .ok (.iconst 1, 1) := by decide +kernel
theorem dX10_init_67 : decode cX10_init 67 = .ok (.bipush 50, 2) := by decide +kernel
theorem dX10_init_69 : decode cX10_init 69 = .ok (.iastore, 1) := by decide +kernel
theorem dX10_init_70 : decode cX10_init 70 = .ok (.aload_n 0, 1) := by decide +kernel
theorem dX10_init_71 : decode cX10_init 71 = .ok (.getfield 7, 3) := by decide +kernel
theorem dX10_init_74 : decode cX10_init 74 = .ok (.iconst 2, 1) := by decide +kernel
theorem dX10_init_75 : decode cX10_init 75 = .ok (.iconst 2, 1) := by decide +kernel
theorem dX10_init_76 : decode cX10_init 76 = .ok (.iastore, 1) := by decide +kernel
theorem dX10_init_77 : decode cX10_init 77 = .ok (.aload_n 0, 1) := by decide +kernel
theorem dX10_init_78 : decode cX10_init 78 = .ok (.getfield 7, 3) := by decide +kernel
theorem dX10_init_81 : decode cX10_init 81 = .ok (.iconst 3, 1) := by decide +kernel
theorem dX10_init_82 : decode cX10_init 82 = .ok (.iconst 5, 1) := by decide +kernel
theorem dX10_init_83 : decode cX10_init 83 = .ok (.iastore, 1) := by decide +kernel
theorem dX10_init_84 : decode cX10_init 84 = .ok (.aload_n 0, 1) := by decide +kernel
theorem dX10_init_85 : decode cX10_init 85 = .ok (.getfield 7, 3) := by decide +kernel
theorem dX10_init_88 : decode cX10_init 88 = .ok (.iconst 4, 1) := by decide +kernel
theorem dX10_init_89 : decode cX10_init 89 = .ok (.iconst 3, 1) := by decide +kernel
theorem dX10_init_90 : decode cX10_init 90 = .ok (.iastore, 1) := by decide +kernel
theorem dX10_init_91 : decode cX10_init 91 = .ok (.return_, 1) := by decide +kernel
theorem dX10_in_0 : decode cX10_in 0 = .ok (.iload_n 0, 1) := by decide +kernel
theorem dX10_in_1 : decode cX10_in 1 = .ok (.iload_n 1, 1) := by decide +kernel
theorem dX10_in_2 : decode cX10_in 2 = .ok (.if_icmp .lt 12, 3) := by decide +kernel
theorem dX10_in_5 : decode cX10_in 5 = .ok (.iload_n 0, 1) := by decide +kernel
theorem dX10_in_6 : decode cX10_in 6 = .ok (.iload_n 2, 1) := by decide +kernel
theorem dX10_in_7 : decode cX10_in 7 = .ok (.if_icmp .gt 7, 3) := by decide +kernel
theorem dX10_in_10 : decode cX10_in 10 = .ok (.iconst 1, 1) := by decide +kernel
theorem dX10_in_11 : decode cX10_in 11 = .ok (.goto 4, 3) := by decide +kernel
theorem dX10_in_14 : decode cX10_in 14 = .ok (.iconst 0, 1) := by decide +kernel
theorem dX10_in_15 : decode cX10_in 15 = .ok (.ireturn, 1) := by decide +kernel
theorem dX10_act_0 : decode cX10_act 0 = .ok (.aload_n 0, 1) := by decide +kernel
theorem dX10_act_1 : decode cX10_act 1 = .ok (.getfield 28, 3) := by decide +kernel
theorem dX10_act_4 : decode cX10_act 4 = .ok (.iconst 4, 1) := by decide +kernel
theorem dX10_act_5 : decode cX10_act 5 = .ok (.if_icmp .ne 44, 3) := by decide +kernel
theorem dX10_act_8 : decode cX10_act 8 = .ok (.iconst 0, 1) := by decide +kernel
theorem dX10_act_9 : decode cX10_act 9 = .ok (.istore_n 1, 1) := by decide +kernel
theorem dX10_act_10 : decode cX10_act 10 = .ok (.iload_n 1, 1) := by decide +kernel
theorem dX10_act_11 : decode cX10_act 11 = .ok (.sipush 1560, 3) := by decide +kernel
theorem dX10_act_14 : decode cX10_act 14 = .ok (.if_icmp .ge 25, 3) := by decide +kernel
theorem dX10_act_17 : decode cX10_act 17 = .ok (.aload_n 0, 1) := by decide +kernel
theorem dX10_act_18 : decode cX10_act 18 = .ok (.getfield 13, 3) := by decide +kernel
theorem dX10_act_21 : decode cX10_act 21 = .ok (.iload_n 1, 1) := by decide +kernel
theorem dX10_act_22 : decode cX10_act 22 = .ok (.aload_n 0, 1) := by decide +kernel
theorem dX10_act_23 : decode cX10_act 23 = .ok (.getfield 13, 3) := by decide +kernel
theorem dX10_act_26 : decode cX10_act 26 = .ok (.iload_n 1, 1) := by decide +kernel
theorem dX10_act_27 : decode cX10_act 27 = .ok (.sipush 520, 3) := by decide +kernel
theorem dX10_act_30 : decode cX10_act 30 = .ok (.iadd, 1) := by decide +kernel
theorem dX10_act_31 : decode cX10_act 31 = .ok (.iaload, 1) := by decide +kernel
theorem dX10_act_32 : decode cX10_act 32 = .ok (.iastore, 1) := by decide +kernel
theorem dX10_act_33 : decode cX10_act 33 = .ok (.iinc 1 1, 3) := by decide +kernel
theorem dX10_act_36 : decode cX10_act 36 = .ok (.goto (-26), 3) := by decide +kernel
theorem dX10_act_39 : decode cX10_act 39 = .ok (.aload_n 0, 1) := by decide +kernel
theorem dX10_act_40 : decode cX10_act 40 = .ok (.dup, 1) := by decide +kernel
theorem dX10_act_41 : decode cX10_act 41 = .ok (.getfield 28, 3) := by decide +kernel
theorem dX10_act_44 : decode cX10_act 44 = .ok (.iconst 1, 1) := by decide +kernel
theorem dX10_act_45 : decode cX10_act 45 = .ok (.isub, 1) := by decide +kernel
theorem dX10_act_46 : decode cX10_act 46 = .ok (.putfield 28, 3) := by decide +kernel
theorem dX10_act_49 : decode cX10_act 49 = .ok (.iconst 0, 1) := by decide +kernel
theorem dX10_act_50 : decode cX10_act 50 = .ok (.istore_n 1, 1) := by decide +kernel
theorem dX10_act_51 : decode cX10_act 51 = .ok (.iload_n 1, 1) := by decide +kernel
theorem dX10_act_52 : decode cX10_act 52 = .ok (.sipush 520, 3) := by decide +kernel
theorem dX10_act_55 : decode cX10_act 55 = .ok (.if_icmp .ge 30, 3) := by decide +kernel
theorem dX10_act_58 : decode cX10_act 58 = .ok (.aload_n 0, 1) := by decide +kernel
theorem dX10_act_59 : decode cX10_act 59 = .ok (.getfield 13, 3) := by decide +kernel
theorem dX10_act_62 : decode cX10_act 62 = .ok (.sipush 520, 3) := by decide +kernel
theorem dX10_act_65 : decode cX10_act 65 = .ok (.aload_n 0, 1) := by decide +kernel
theorem dX10_act_66 : decode cX10_act 66 = .ok (.getfield 28, 3) := by decide +kernel
theorem dX10_act_69 : decode cX10_act 69 = .ok (.imul, 1) := by decide +kernel
theorem dX10_act_70 : decode cX10_act 70 = .ok (.iload_n 1, 1) := by decide +kernel
theorem dX10_act_71 : decode cX10_act 71 = .ok (.iadd, 1) := by decide +kernel
theorem dX10_act_72 : decode cX10_act 72 = .ok (.aload_n 0, 1) := by decide +kernel
theorem dX10_act_73 : decode cX10_act 73 = .ok (.getfield 7, 3) := by decide +kernel
theorem dX10_act_76 : decode cX10_act 76 = .ok (.iload_n 1, 1) := by decide +kernel
theorem dX10_act_77 : decode cX10_act 77 = .ok (.iaload, 1) := by decide +kernel
theorem dX10_act_78 : decode cX10_act 78 = .ok (.iastore, 1) := by decide +kernel
theorem dX10_act_79 : decode cX10_act 79 = .ok (.iinc 1 1, 3) := by decide +kernel
theorem dX10_act_82 : decode cX10_act 82 = .ok (.goto (-31), 3) := by decide +kernel
theorem dX10_act_85 : decode cX10_act 85 = .ok (.aload_n 0, 1) := by decide +kernel
theorem dX10_act_86 : decode cX10_act 86 = .ok (.dup, 1) := by decide +kernel
theorem dX10_act_87 : decode cX10_act 87 = .ok (.getfield 28, 3) := by decide +kernel
theorem dX10_act_90 : decode cX10_act 90 = .ok (.iconst 1, 1) := by decide +kernel
theorem dX10_act_91 : decode cX10_act 91 = .ok (.iadd, 1) := by decide +kernel
theorem dX10_act_92 : decode cX10_act 92 = .ok (.putfield 28, 3) := by decide +kernel
theorem dX10_act_95 : decode cX10_act 95 = .ok (.return_, 1) := by decide +kernel
theorem dX10_sets_0 : decode cX10_sets 0 = .ok (.aload_n 0, 1) := by decide +kernel
theorem dX10_sets_1 : decode cX10_sets 1 = .ok (.invokevirtual 32, 3) := by decide +kernel
theorem dX10_sets_4 : decode cX10_sets 4 = .ok (.aload_n 0, 1) := by decide +kernel
theorem dX10_sets_5 : decode cX10_sets 5 = .ok (.getfield 7, 3) := by decide +kernel
theorem dX10_sets_8 : decode cX10_sets 8 = .ok (.iload_n 1, 1) := by decide +kernel
theorem dX10_sets_9 : decode cX10_sets 9 = .ok (.iaload, 1) := by decide +kernel
theorem dX10_sets_10 : decode cX10_sets 10 = .ok (.istore_n 3, 1) := by decide +kernel
theorem dX10_sets_11 : decode cX10_sets 11 = .ok (.aload_n 0, 1) := by decide +kernel
theorem dX10_sets_12 : decode cX10_sets 12 = .ok (.getfield 7, 3) := by decide +kernel
theorem dX10_sets_15 : decode cX10_sets 15 = .ok (.iload_n 1, 1) := by decide +kernel
theorem dX10_sets_16 : decode cX10_sets 16 = .ok (.iload_n 2, 1) := by decide +kernel
theorem dX10_sets_17 : decode cX10_sets 17 = .ok (.iastore, 1) := by decide +kernel
theorem dX10_sets_18 : decode cX10_sets 18 = .ok (.iload_n 3, 1) := by decide +kernel
theorem dX10_sets_19 : decode cX10_sets 19 = .ok (.ireturn, 1) := by decide +kernel
theorem dX10_at_0 : decode cX10_at 0 = .ok (.bipush 30, 2) := by decide +kernel
theorem dX10_at_2 : decode cX10_at 2 = .ok (.bipush 12, 2) := by decide +kernel
theorem dX10_at_4 : decode cX10_at 4 = .ok (.iload_n 0, 1) := by decide +kernel
theorem dX10_at_5 : decode cX10_at 5 = .ok (.imul, 1) := by decide +kernel
theorem dX10_at_6 : decode cX10_at 6 = .ok (.iadd, 1) := by decide +kernel
theorem dX10_at_7 : decode cX10_at 7 = .ok (.iload_n 1, 1) := by decide +kernel
theorem dX10_at_8 : decode cX10_at 8 = .ok (.iadd, 1) := by decide +kernel
theorem dX10_at_9 : decode cX10_at 9 = .ok (.ireturn, 1) := by decide +kernel
theorem dX10_isMember_0 : decode cX10_isMember 0 = .ok (.iload_n 1, 1) := by decide +kernel
theorem dX10_isMember_1 : decode cX10_isMember 1 = .ok (.iconst 0, 1) := by decide +kernel
theorem dX10_isMember_2 : decode cX10_isMember 2 = .ok (.aload_n 0, 1) := by decide +kernel
theorem dX10_isMember_3 : decode cX10_isMember 3 = .ok (.getfield 7, 3) := by decide +kernel
theorem dX10_isMember_6 : decode cX10_isMember 6 = .ok (.iconst 5, 1) := by decide +kernel
theorem dX10_isMember_7 : decode cX10_isMember 7 = .ok (.iaload, 1) := by decide +kernel
theorem dX10_isMember_8 : decode cX10_isMember 8 = .ok (.iconst 1, 1) := by decide +kernel
theorem dX10_isMember_9 : decode cX10_isMember 9 = .ok (.isub, 1) := by decide +kernel
theorem dX10_isMember_10 : decode cX10_isMember 10 = .ok (.invokestatic 35, 3) := by decide +kernel
theorem dX10_isMember_13 : decode cX10_isMember 13 = .ok (.ireturn, 1) := by decide +kernel
theorem dX10_isBlock_0 : decode cX10_isBlock 0 = .ok (.iload_n 0, 1) := by decide +kernel
theorem dX10_isBlock_1 : decode cX10_isBlock 1 = .ok (.iconst 0, 1) := by decide +kernel
theorem dX10_isBlock_2 : decode cX10_isBlock 2 = .ok (.sipush 199, 3) := by decide +kernel
theorem dX10_isBlock_5 : decode cX10_isBlock 5 = .ok (.invokestatic 35, 3) := by decide +kernel
theorem dX10_isBlock_8 : decode cX10_isBlock 8 = .ok (.ireturn, 1) := by decide +kernel
theorem dX10_mixed_0 : decode cX10_mixed 0 = .ok (.iload_n 0, 1) := by decide +kernel
theorem dX10_mixed_1 : decode cX10_mixed 1 = .ok (.ldc 39, 2) := by decide +kernel
theorem dX10_mixed_3 : decode cX10_mixed 3 = .ok (.imul, 1) := by decide +kernel
theorem dX10_mixed_4 : decode cX10_mixed 4 = .ok (.sipush 12345, 3) := by decide +kernel
theorem dX10_mixed_7 : decode cX10_mixed 7 = .ok (.iadd, 1) := by decide +kernel
theorem dX10_mixed_8 : decode cX10_mixed 8 = .ok (.istore_n 1, 1) := by decide +kernel
theorem dX10_mixed_9 : decode cX10_mixed 9 = .ok (.iload_n 1, 1) := by decide +kernel
theorem dX10_mixed_10 : decode cX10_mixed 10 = .ok (.iload_n 1, 1) := by decide +kernel
theorem dX10_mixed_11 : decode cX10_mixed 11 = .ok (.bipush 15, 2) := by decide +kernel
theorem dX10_mixed_13 : decode cX10_mixed 13 = .ok (.iushr, 1) := by decide +kernel
theorem dX10_mixed_14 : decode cX10_mixed 14 = .ok (.ixor, 1) := by decide +kernel
theorem dX10_mixed_15 : decode cX10_mixed 15 = .ok (.istore_n 1, 1) := by decide +kernel
theorem dX10_mixed_16 : decode cX10_mixed 16 = .ok (.iload_n 1, 1) := by decide +kernel
theorem dX10_mixed_17 : decode cX10_mixed 17 = .ok (.ldc 39, 2) := by decide +kernel
theorem dX10_mixed_19 : decode cX10_mixed 19 = .ok (.imul, 1) := by decide +kernel
theorem dX10_mixed_20 : decode cX10_mixed 20 = .ok (.sipush 12345, 3) := by decide +kernel
theorem dX10_mixed_23 : decode cX10_mixed 23 = .ok (.iadd, 1) := by decide +kernel
theorem dX10_mixed_24 : decode cX10_mixed 24 = .ok (.ireturn, 1) := by decide +kernel
theorem dX10_join_0 : decode cX10_join 0 = .ok (.iload_n 1, 1) := by decide +kernel
theorem dX10_join_1 : decode cX10_join 1 = .ok (.iconst 1, 1) := by decide +kernel
theorem dX10_join_2 : decode cX10_join 2 = .ok (.bipush 9, 2) := by decide +kernel
theorem dX10_join_4 : decode cX10_join 4 = .ok (.invokestatic 35, 3) := by decide +kernel
theorem dX10_join_7 : decode cX10_join 7 = .ok (.ifCond .eq 14, 3) := by decide +kernel
theorem dX10_join_10 : decode cX10_join 10 = .ok (.iload_n 2, 1) := by decide +kernel
theorem dX10_join_11 : decode cX10_join 11 = .ok (.iconst 0, 1) := by decide +kernel
theorem dX10_join_12 : decode cX10_join 12 = .ok (.sipush 1000, 3) := by decide +kernel
theorem dX10_join_15 : decode cX10_join 15 = .ok (.invokestatic 35, 3) := by decide +kernel
theorem dX10_join_18 : decode cX10_join 18 = .ok (.ifCond .ne 6, 3) := by decide +kernel
theorem dX10_join_21 : decode cX10_join 21 = .ok (.ldc 40, 2) := by decide +kernel
theorem dX10_join_23 : decode cX10_join 23 = .ok (.ireturn, 1) := by decide +kernel
theorem dX10_join_24 : decode cX10_join 24 = .ok (.aload_n 0, 1) := by decide +kernel
theorem dX10_join_25 : decode cX10_join 25 = .ok (.getfield 7, 3) := by decide +kernel
theorem dX10_join_28 : decode cX10_join 28 = .ok (.iconst 5, 1) := by decide +kernel
theorem dX10_join_29 : decode cX10_join 29 = .ok (.iaload, 1) := by decide +kernel
theorem dX10_join_30 : decode cX10_join 30 = .ok (.bipush 10, 2) := by decide +kernel
theorem dX10_join_32 : decode cX10_join 32 = .ok (.if_icmp .ne 6, 3) := by decide +kernel
theorem dX10_join_35 : decode cX10_join 35 = .ok (.ldc 41, 2) := by decide +kernel
theorem dX10_join_37 : decode cX10_join 37 = .ok (.ireturn, 1) := by decide +kernel
theorem dX10_join_38 : decode cX10_join 38 = .ok (.aload_n 0, 1) := by decide +kernel
theorem dX10_join_39 : decode cX10_join 39 = .ok (.invokevirtual 32, 3) := by decide +kernel
theorem dX10_join_42 : decode cX10_join 42 = .ok (.aload_n 0, 1) := by decide +kernel
theorem dX10_join_43 : decode cX10_join 43 = .ok (.getfield 7, 3) := by decide +kernel
theorem dX10_join_46 : decode cX10_join 46 = .ok (.iconst 5, 1) := by decide +kernel
theorem dX10_join_47 : decode cX10_join 47 = .ok (.iaload, 1) := by decide +kernel
theorem dX10_join_48 : decode cX10_join 48 = .ok (.istore_n 3, 1) := by decide +kernel
theorem dX10_join_49 : decode cX10_join 49 = .ok (.iconst 0, 1) := by decide +kernel
theorem dX10_join_50 : decode cX10_join 50 = .ok (.istore 4, 2) := by decide +kernel
theorem dX10_join_52 : decode cX10_join 52 = .ok (.iload 4, 2) := by decide +kernel
theorem dX10_join_54 : decode cX10_join 54 = .ok (.bipush 12, 2) := by decide +kernel
theorem dX10_join_56 : decode cX10_join 56 = .ok (.if_icmp .ge 21, 3) := by decide +kernel
theorem dX10_join_59 : decode cX10_join 59 = .ok (.aload_n 0, 1) := by decide +kernel
theorem dX10_join_60 : decode cX10_join 60 = .ok (.getfield 7, 3) := by decide +kernel
theorem dX10_join_63 : decode cX10_join 63 = .ok (.iload_n 3, 1) := by decide +kernel
theorem dX10_join_64 : decode cX10_join 64 = .ok (.iload 4, 2) := by decide +kernel
theorem dX10_join_66 : decode cX10_join 66 = .ok (.invokestatic 42, 3) := by decide +kernel
theorem dX10_join_69 : decode cX10_join 69 = .ok (.iconst 0, 1) := by decide +kernel
theorem dX10_join_70 : decode cX10_join 70 = .ok (.iastore, 1) := by decide +kernel
theorem dX10_join_71 : decode cX10_join 71 = .ok (.iinc 4 1, 3) := by decide +kernel
theorem dX10_join_74 : decode cX10_join 74 = .ok (.goto (-22), 3) := by decide +kernel
theorem dX10_join_77 : decode cX10_join 77 = .ok (.aload_n 0, 1) := by decide +kernel
theorem dX10_join_78 : decode cX10_join 78 = .ok (.getfield 7, 3) := by decide +kernel
theorem dX10_join_81 : decode cX10_join 81 = .ok (.iload_n 3, 1) := by decide +kernel
theorem dX10_join_82 : decode cX10_join 82 = .ok (.iconst 0, 1) := by decide +kernel
theorem dX10_join_83 : decode cX10_join 83 = .ok (.invokestatic 42, 3) := by decide +kernel
theorem dX10_join_86 : decode cX10_join 86 = .ok (.iload_n 1, 1) := by decide +kernel
theorem dX10_join_87 : decode cX10_join 87 = .ok (.iastore, 1) := by decide +kernel
theorem dX10_join_88 : decode cX10_join 88 = .ok (.aload_n 0, 1) := by decide +kernel
theorem dX10_join_89 : decode cX10_join 89 = .ok (.getfield 7, 3) := by decide +kernel
theorem dX10_join_92 : decode cX10_join 92 = .ok (.iload_n 3, 1) := by decide +kernel
theorem dX10_join_93 : decode cX10_join 93 = .ok (.iconst 1, 1) := by decide +kernel
theorem dX10_join_94 : decode cX10_join 94 = .ok (.invokestatic 42, 3) := by decide +kernel
theorem dX10_join_97 : decode cX10_join 97 = .ok (.iload_n 2, 1) := by decide +kernel
theorem dX10_join_98 : decode cX10_join 98 = .ok (.iastore, 1) := by decide +kernel
theorem dX10_join_99 : decode cX10_join 99 = .ok (.aload_n 0, 1) := by decide +kernel
theorem dX10_join_100 : decode cX10_join 100 = .ok (.getfield 7, 3) := by decide +kernel
theorem dX10_join_103 : decode cX10_join 103 = .ok (.iload_n 3, 1) := by decide +kernel
theorem dX10_join_104 : decode cX10_join 104 = .ok (.iconst 2, 1) := by decide +kernel
theorem dX10_join_105 : decode cX10_join 105 = .ok (.invokestatic 42, 3) := by decide +kernel
theorem dX10_join_108 : decode cX10_join 108 = .ok (.iconst 1, 1) := by decide +kernel
theorem dX10_join_109 : decode cX10_join 109 = .ok (.iastore, 1) := by decide +kernel
theorem dX10_join_110 : decode cX10_join 110 = .ok (.aload_n 0, 1) := by decide +kernel
theorem dX10_join_111 : decode cX10_join 111 = .ok (.getfield 7, 3) := by decide +kernel
theorem dX10_join_114 : decode cX10_join 114 = .ok (.iload_n 3, 1) := by decide +kernel
theorem dX10_join_115 : decode cX10_join 115 = .ok (.iconst 4, 1) := by decide +kernel
theorem dX10_join_116 : decode cX10_join 116 = .ok (.invokestatic 42, 3) := by decide +kernel
theorem dX10_join_119 : decode cX10_join 119 = .ok (.ldc 46, 2) := by decide +kernel
theorem dX10_join_121 : decode cX10_join 121 = .ok (.iastore, 1) := by decide +kernel
theorem dX10_join_122 : decode cX10_join 122 = .ok (.aload_n 0, 1) := by decide +kernel
theorem dX10_join_123 : decode cX10_join 123 = .ok (.getfield 7, 3) := by decide +kernel
theorem dX10_join_126 : decode cX10_join 126 = .ok (.iconst 5, 1) := by decide +kernel
theorem dX10_join_127 : decode cX10_join 127 = .ok (.dup2, 1) := by decide +kernel
theorem dX10_join_128 : decode cX10_join 128 = .ok (.iaload, 1) := by decide +kernel
theorem dX10_join_129 : decode cX10_join 129 = .ok (.iconst 1, 1) := by decide +kernel
theorem dX10_join_130 : decode cX10_join 130 = .ok (.iadd, 1) := by decide +kernel
theorem dX10_join_131 : decode cX10_join 131 = .ok (.iastore, 1) := by decide +kernel
theorem dX10_join_132 : decode cX10_join 132 = .ok (.iload_n 3, 1) := by decide +kernel
theorem dX10_join_133 : decode cX10_join 133 = .ok (.ireturn, 1) := by decide +kernel
theorem dX10_change_0 : decode cX10_change 0 = .ok (.iload_n 2, 1) := by decide +kernel
theorem dX10_change_1 : decode cX10_change 1 = .ok (.ifCond .ne 13, 3) := by decide +kernel
theorem dX10_change_4 : decode cX10_change 4 = .ok (.iload_n 3, 1) := by decide +kernel
theorem dX10_change_5 : decode cX10_change 5 = .ok (.iconst 1, 1) := by decide +kernel
theorem dX10_change_6 : decode cX10_change 6 = .ok (.bipush 9, 2) := by decide +kernel
theorem dX10_change_8 : decode cX10_change 8 = .ok (.invokestatic 35, 3) := by decide +kernel
theorem dX10_change_11 : decode cX10_change 11 = .ok (.goto 24, 3) := by decide +kernel
theorem dX10_change_14 : decode cX10_change 14 = .ok (.iload_n 2, 1) := by decide +kernel
theorem dX10_change_15 : decode cX10_change 15 = .ok (.iconst 1, 1) := by decide +kernel
theorem dX10_change_16 : decode cX10_change 16 = .ok (.if_icmp .ne 18, 3) := by decide +kernel
theorem dX10_change_19 : decode cX10_change 19 = .ok (.iload_n 3, 1) := by decide +kernel
theorem dX10_change_20 : decode cX10_change 20 = .ok (.iconst 0, 1) := by decide +kernel
theorem dX10_change_21 : decode cX10_change 21 = .ok (.sipush 1000, 3) := by decide +kernel
theorem dX10_change_24 : decode cX10_change 24 = .ok (.invokestatic 35, 3) := by decide +kernel
theorem dX10_change_27 : decode cX10_change 27 = .ok (.ifCond .eq 7, 3) := by decide +kernel
theorem dX10_change_30 : decode cX10_change 30 = .ok (.iconst 1, 1) := by decide +kernel
theorem dX10_change_31 : decode cX10_change 31 = .ok (.goto 4, 3) := by decide +kernel
theorem dX10_change_34 : decode cX10_change 34 = .ok (.iconst 0, 1) := by decide +kernel
theorem dX10_change_35 : decode cX10_change 35 = .ok (.istore 4, 2) := by decide +kernel
theorem dX10_change_37 : decode cX10_change 37 = .ok (.aload_n 0, 1) := by decide +kernel
theorem dX10_change_38 : decode cX10_change 38 = .ok (.iload_n 1, 1) := by decide +kernel
theorem dX10_change_39 : decode cX10_change 39 = .ok (.invokevirtual 47, 3) := by decide +kernel
theorem dX10_change_42 : decode cX10_change 42 = .ok (.ifCond .eq 21, 3) := by decide +kernel
theorem dX10_change_45 : decode cX10_change 45 = .ok (.iload 4, 2) := by decide +kernel
theorem dX10_change_47 : decode cX10_change 47 = .ok (.ifCond .eq 16, 3) := by decide +kernel
theorem dX10_change_50 : decode cX10_change 50 = .ok (.aload_n 0, 1) := by decide +kernel
theorem dX10_change_51 : decode cX10_change 51 = .ok (.iload_n 1, 1) := by decide +kernel
theorem dX10_change_52 : decode cX10_change 52 = .ok (.iload_n 2, 1) := by decide +kernel
theorem dX10_change_53 : decode cX10_change 53 = .ok (.invokestatic 42, 3) := by decide +kernel
theorem dX10_change_56 : decode cX10_change 56 = .ok (.iload_n 3, 1) := by decide +kernel
theorem dX10_change_57 : decode cX10_change 57 = .ok (.invokevirtual 51, 3) := by decide +kernel
theorem dX10_change_60 : decode cX10_change 60 = .ok (.goto 5, 3) := by decide +kernel
theorem dX10_change_63 : decode cX10_change 63 = .ok (.ldc 40, 2) := by decide +kernel
theorem dX10_change_65 : decode cX10_change 65 = .ok (.ireturn, 1) := by decide +kernel
theorem dX10_live_0 : decode cX10_live 0 = .ok (.aload_n 0, 1) := by decide +kernel
theorem dX10_live_1 : decode cX10_live 1 = .ok (.iload_n 1, 1) := by decide +kernel
theorem dX10_live_2 : decode cX10_live 2 = .ok (.invokevirtual 47, 3) := by decide +kernel
theorem dX10_live_5 : decode cX10_live 5 = .ok (.ifCond .eq 24, 3) := by decide +kernel
theorem dX10_live_8 : decode cX10_live 8 = .ok (.aload_n 0, 1) := by decide +kernel
theorem dX10_live_9 : decode cX10_live 9 = .ok (.iload_n 1, 1) := by decide +kernel
theorem dX10_live_10 : decode cX10_live 10 = .ok (.iconst 2, 1) := by decide +kernel
theorem dX10_live_11 : decode cX10_live 11 = .ok (.invokestatic 42, 3) := by decide +kernel
theorem dX10_live_14 : decode cX10_live 14 = .ok (.iload_n 2, 1) := by decide +kernel
theorem dX10_live_15 : decode cX10_live 15 = .ok (.ifCond .eq 7, 3) := by decide +kernel
theorem dX10_live_18 : decode cX10_live 18 = .ok (.iconst 1, 1) := by decide +kernel
theorem dX10_live_19 : decode cX10_live 19 = .ok (.goto 4, 3) := by decide +kernel
theorem dX10_live_22 : decode cX10_live 22 = .ok (.iconst 0, 1) := by decide +kernel
theorem dX10_live_23 : decode cX10_live 23 = .ok (.invokevirtual 51, 3) := by decide +kernel
theorem dX10_live_26 : decode cX10_live 26 = .ok (.goto 5, 3) := by decide +kernel
theorem dX10_live_29 : decode cX10_live 29 = .ok (.ldc 40, 2) := by decide +kernel
theorem dX10_live_31 : decode cX10_live 31 = .ok (.ireturn, 1) := by decide +kernel
theorem dX10_has_0 : decode cX10_has 0 = .ok (.aload_n 0, 1) := by decide +kernel
theorem dX10_has_1 : decode cX10_has 1 = .ok (.getfield 7, 3) := by decide +kernel
theorem dX10_has_4 : decode cX10_has 4 = .ok (.sipush 150, 3) := by decide +kernel
theorem dX10_has_7 : decode cX10_has 7 = .ok (.iload_n 2, 1) := by decide +kernel
theorem dX10_has_8 : decode cX10_has 8 = .ok (.iadd, 1) := by decide +kernel
theorem dX10_has_9 : decode cX10_has 9 = .ok (.iaload, 1) := by decide +kernel
theorem dX10_has_10 : decode cX10_has 10 = .ok (.iload_n 1, 1) := by decide +kernel
theorem dX10_has_11 : decode cX10_has 11 = .ok (.ishr, 1) := by decide +kernel
theorem dX10_has_12 : decode cX10_has 12 = .ok (.iconst 1, 1) := by decide +kernel
theorem dX10_has_13 : decode cX10_has 13 = .ok (.iand, 1) := by decide +kernel
theorem dX10_has_14 : decode cX10_has 14 = .ok (.ifCond .ne 7, 3) := by decide +kernel
theorem dX10_has_17 : decode cX10_has 17 = .ok (.iconst 1, 1) := by decide +kernel
theorem dX10_has_18 : decode cX10_has 18 = .ok (.goto 4, 3) := by decide +kernel
theorem dX10_has_21 : decode cX10_has 21 = .ok (.iconst 0, 1) := by decide +kernel
theorem dX10_has_22 : decode cX10_has 22 = .ok (.ireturn, 1) := by decide +kernel
theorem dX10_told_0 : decode cX10_told 0 = .ok (.iload_n 2, 1) := by decide +kernel
theorem dX10_told_1 : decode cX10_told 1 = .ok (.iconst 5, 1) := by decide +kernel
theorem dX10_told_2 : decode cX10_told 2 = .ok (.if_icmp .eq 14, 3) := by decide +kernel
theorem dX10_told_5 : decode cX10_told 5 = .ok (.aload_n 0, 1) := by decide +kernel
theorem dX10_told_6 : decode cX10_told 6 = .ok (.getfield 7, 3) := by decide +kernel
theorem dX10_told_9 : decode cX10_told 9 = .ok (.iload_n 1, 1) := by decide +kernel
theorem dX10_told_10 : decode cX10_told 10 = .ok (.iload_n 2, 1) := by decide +kernel
theorem dX10_told_11 : decode cX10_told 11 = .ok (.invokestatic 42, 3) := by decide +kernel
theorem dX10_told_14 : decode cX10_told 14 = .ok (.iaload, 1) := by decide +kernel
theorem dX10_told_15 : decode cX10_told 15 = .ok (.ireturn, 1) := by decide +kernel
theorem dX10_told_16 : decode cX10_told 16 = .ok (.iconst 0, 1) := by decide +kernel
theorem dX10_told_17 : decode cX10_told 17 = .ok (.istore_n 3, 1) := by decide +kernel
theorem dX10_told_18 : decode cX10_told 18 = .ok (.iconst 0, 1) := by decide +kernel
theorem dX10_told_19 : decode cX10_told 19 = .ok (.istore 4, 2) := by decide +kernel
theorem dX10_told_21 : decode cX10_told 21 = .ok (.iload 4, 2) := by decide +kernel
theorem dX10_told_23 : decode cX10_told 23 = .ok (.sipush 200, 3) := by decide +kernel
theorem dX10_told_26 : decode cX10_told 26 = .ok (.if_icmp .ge 27, 3) := by decide +kernel
theorem dX10_told_29 : decode cX10_told 29 = .ok (.iload_n 3, 1) := by decide +kernel
theorem dX10_told_30 : decode cX10_told 30 = .ok (.aload_n 0, 1) := by decide +kernel
theorem dX10_told_31 : decode cX10_told 31 = .ok (.iload_n 1, 1) := by decide +kernel
theorem dX10_told_32 : decode cX10_told 32 = .ok (.iload 4, 2) := by decide +kernel
theorem dX10_told_34 : decode cX10_told 34 = .ok (.invokevirtual 54, 3) := by decide +kernel
theorem dX10_told_37 : decode cX10_told 37 = .ok (.ifCond .eq 7, 3) := by decide +kernel
theorem dX10_told_40 : decode cX10_told 40 = .ok (.iconst 0, 1) := by decide +kernel
theorem dX10_told_41 : decode cX10_told 41 = .ok (.goto 4, 3) := by decide +kernel
theorem dX10_told_44 : decode cX10_told 44 = .ok (.iconst 1, 1) := by decide +kernel
theorem dX10_told_45 : decode cX10_told 45 = .ok (.iadd, 1) := by decide +kernel
theorem dX10_told_46 : decode cX10_told 46 = .ok (.istore_n 3, 1) := by decide +kernel
theorem dX10_told_47 : decode cX10_told 47 = .ok (.iinc 4 1, 3) := by decide +kernel
theorem dX10_told_50 : decode cX10_told 50 = .ok (.goto (-29), 3) := by decide +kernel
theorem dX10_told_53 : decode cX10_told 53 = .ok (.iload_n 3, 1) := by decide +kernel
theorem dX10_told_54 : decode cX10_told 54 = .ok (.ireturn, 1) := by decide +kernel
theorem dX10_member_0 : decode cX10_member 0 = .ok (.aload_n 0, 1) := by decide +kernel
theorem dX10_member_1 : decode cX10_member 1 = .ok (.iload_n 1, 1) := by decide +kernel
theorem dX10_member_2 : decode cX10_member 2 = .ok (.invokevirtual 47, 3) := by decide +kernel
theorem dX10_member_5 : decode cX10_member 5 = .ok (.ifCond .eq 22, 3) := by decide +kernel
theorem dX10_member_8 : decode cX10_member 8 = .ok (.iload_n 2, 1) := by decide +kernel
theorem dX10_member_9 : decode cX10_member 9 = .ok (.iconst 0, 1) := by decide +kernel
theorem dX10_member_10 : decode cX10_member 10 = .ok (.bipush 8, 2) := by decide +kernel
theorem dX10_member_12 : decode cX10_member 12 = .ok (.invokestatic 35, 3) := by decide +kernel
theorem dX10_member_15 : decode cX10_member 15 = .ok (.ifCond .eq 12, 3) := by decide +kernel
theorem dX10_member_18 : decode cX10_member 18 = .ok (.aload_n 0, 1) := by decide +kernel
theorem dX10_member_19 : decode cX10_member 19 = .ok (.iload_n 1, 1) := by decide +kernel
theorem dX10_member_20 : decode cX10_member 20 = .ok (.iload_n 2, 1) := by decide +kernel
theorem dX10_member_21 : decode cX10_member 21 = .ok (.invokevirtual 58, 3) := by decide +kernel
theorem dX10_member_24 : decode cX10_member 24 = .ok (.goto 5, 3) := by decide +kernel
theorem dX10_member_27 : decode cX10_member 27 = .ok (.ldc 40, 2) := by decide +kernel
theorem dX10_member_29 : decode cX10_member 29 = .ok (.ireturn, 1) := by decide +kernel
theorem dX10_set_0 : decode cX10_set 0 = .ok (.iload_n 1, 1) := by decide +kernel
theorem dX10_set_1 : decode cX10_set 1 = .ok (.ifCond .ne 14, 3) := by decide +kernel
theorem dX10_set_4 : decode cX10_set 4 = .ok (.iload_n 2, 1) := by decide +kernel
theorem dX10_set_5 : decode cX10_set 5 = .ok (.iconst 1, 1) := by decide +kernel
theorem dX10_set_6 : decode cX10_set 6 = .ok (.sipush 1000, 3) := by decide +kernel
theorem dX10_set_9 : decode cX10_set 9 = .ok (.invokestatic 35, 3) := by decide +kernel
theorem dX10_set_12 : decode cX10_set 12 = .ok (.goto 58, 3) := by decide +kernel
theorem dX10_set_15 : decode cX10_set 15 = .ok (.iload_n 1, 1) := by decide +kernel
theorem dX10_set_16 : decode cX10_set 16 = .ok (.iconst 1, 1) := by decide +kernel
theorem dX10_set_17 : decode cX10_set 17 = .ok (.if_icmp .ne 14, 3) := by decide +kernel
theorem dX10_set_20 : decode cX10_set 20 = .ok (.iload_n 2, 1) := by decide +kernel
theorem dX10_set_21 : decode cX10_set 21 = .ok (.iconst 0, 1) := by decide +kernel
theorem dX10_set_22 : decode cX10_set 22 = .ok (.sipush 500, 3) := by decide +kernel
theorem dX10_set_25 : decode cX10_set 25 = .ok (.invokestatic 35, 3) := by decide +kernel
theorem dX10_set_28 : decode cX10_set 28 = .ok (.goto 42, 3) := by decide +kernel
theorem dX10_set_31 : decode cX10_set 31 = .ok (.iload_n 1, 1) := by decide +kernel
theorem dX10_set_32 : decode cX10_set 32 = .ok (.iconst 2, 1) := by decide +kernel
theorem dX10_set_33 : decode cX10_set 33 = .ok (.if_icmp .ne 13, 3) := by decide +kernel
theorem dX10_set_36 : decode cX10_set 36 = .ok (.iload_n 2, 1) := by decide +kernel
theorem dX10_set_37 : decode cX10_set 37 = .ok (.iconst 1, 1) := by decide +kernel
theorem dX10_set_38 : decode cX10_set 38 = .ok (.bipush 10, 2) := by decide +kernel
theorem dX10_set_40 : decode cX10_set 40 = .ok (.invokestatic 35, 3) := by decide +kernel
theorem dX10_set_43 : decode cX10_set 43 = .ok (.goto 27, 3) := by decide +kernel
theorem dX10_set_46 : decode cX10_set 46 = .ok (.iload_n 1, 1) := by decide +kernel
theorem dX10_set_47 : decode cX10_set 47 = .ok (.iconst 3, 1) := by decide +kernel
theorem dX10_set_48 : decode cX10_set 48 = .ok (.iconst 4, 1) := by decide +kernel
theorem dX10_set_49 : decode cX10_set 49 = .ok (.invokestatic 35, 3) := by decide +kernel
theorem dX10_set_52 : decode cX10_set 52 = .ok (.ifCond .eq 17, 3) := by decide +kernel
theorem dX10_set_55 : decode cX10_set 55 = .ok (.iload_n 2, 1) := by decide +kernel
theorem dX10_set_56 : decode cX10_set 56 = .ok (.iconst 0, 1) := by decide +kernel
theorem dX10_set_57 : decode cX10_set 57 = .ok (.bipush 100, 2) := by decide +kernel
theorem dX10_set_59 : decode cX10_set 59 = .ok (.invokestatic 35, 3) := by decide +kernel
theorem dX10_set_62 : decode cX10_set 62 = .ok (.ifCond .eq 7, 3) := by decide +kernel
theorem dX10_set_65 : decode cX10_set 65 = .ok (.iconst 1, 1) := by decide +kernel
theorem dX10_set_66 : decode cX10_set 66 = .ok (.goto 4, 3) := by decide +kernel
theorem dX10_set_69 : decode cX10_set 69 = .ok (.iconst 0, 1) := by decide +kernel
theorem dX10_set_70 : decode cX10_set 70 = .ok (.istore_n 3, 1) := by decide +kernel
theorem dX10_set_71 : decode cX10_set 71 = .ok (.iload_n 3, 1) := by decide +kernel
theorem dX10_set_72 : decode cX10_set 72 = .ok (.ifCond .eq 12, 3) := by decide +kernel
theorem dX10_set_75 : decode cX10_set 75 = .ok (.aload_n 0, 1) := by decide +kernel
theorem dX10_set_76 : decode cX10_set 76 = .ok (.iload_n 1, 1) := by decide +kernel
theorem dX10_set_77 : decode cX10_set 77 = .ok (.iload_n 2, 1) := by decide +kernel
theorem dX10_set_78 : decode cX10_set 78 = .ok (.invokevirtual 51, 3) := by decide +kernel
theorem dX10_set_81 : decode cX10_set 81 = .ok (.goto 5, 3) := by decide +kernel
theorem dX10_set_84 : decode cX10_set 84 = .ok (.ldc 40, 2) := by decide +kernel
theorem dX10_set_86 : decode cX10_set 86 = .ok (.ireturn, 1) := by decide +kernel
theorem dX10_about_0 : decode cX10_about 0 = .ok (.iload_n 1, 1) := by decide +kernel
theorem dX10_about_1 : decode cX10_about 1 = .ok (.iconst 0, 1) := by decide +kernel
theorem dX10_about_2 : decode cX10_about 2 = .ok (.bipush 9, 2) := by decide +kernel
theorem dX10_about_4 : decode cX10_about 4 = .ok (.invokestatic 35, 3) := by decide +kernel
theorem dX10_about_7 : decode cX10_about 7 = .ok (.ifCond .eq 12, 3) := by decide +kernel
theorem dX10_about_10 : decode cX10_about 10 = .ok (.aload_n 0, 1) := by decide +kernel
theorem dX10_about_11 : decode cX10_about 11 = .ok (.getfield 7, 3) := by decide +kernel
theorem dX10_about_14 : decode cX10_about 14 = .ok (.iload_n 1, 1) := by decide +kernel
theorem dX10_about_15 : decode cX10_about 15 = .ok (.iaload, 1) := by decide +kernel
theorem dX10_about_16 : decode cX10_about 16 = .ok (.goto 5, 3) := by decide +kernel
theorem dX10_about_19 : decode cX10_about 19 = .ok (.ldc 40, 2) := by decide +kernel
theorem dX10_about_21 : decode cX10_about 21 = .ok (.ireturn, 1) := by decide +kernel
theorem dX10_mix_0 : decode cX10_mix 0 = .ok (.iload_n 1, 1) := by decide +kernel
theorem dX10_mix_1 : decode cX10_mix 1 = .ok (.invokestatic 61, 3) := by decide +kernel
theorem dX10_mix_4 : decode cX10_mix 4 = .ok (.ireturn, 1) := by decide +kernel
theorem dX10_lives_0 : decode cX10_lives 0 = .ok (.aload_n 0, 1) := by decide +kernel
theorem dX10_lives_1 : decode cX10_lives 1 = .ok (.getfield 7, 3) := by decide +kernel
theorem dX10_lives_4 : decode cX10_lives 4 = .ok (.iload_n 1, 1) := by decide +kernel
theorem dX10_lives_5 : decode cX10_lives 5 = .ok (.iconst 2, 1) := by decide +kernel
theorem dX10_lives_6 : decode cX10_lives 6 = .ok (.invokestatic 42, 3) := by decide +kernel
theorem dX10_lives_9 : decode cX10_lives 9 = .ok (.iaload, 1) := by decide +kernel
theorem dX10_lives_10 : decode cX10_lives 10 = .ok (.iconst 1, 1) := by decide +kernel
theorem dX10_lives_11 : decode cX10_lives 11 = .ok (.if_icmp .ne 7, 3) := by decide +kernel
theorem dX10_lives_14 : decode cX10_lives 14 = .ok (.iconst 1, 1) := by decide +kernel
theorem dX10_lives_15 : decode cX10_lives 15 = .ok (.goto 4, 3) := by decide +kernel
theorem dX10_lives_18 : decode cX10_lives 18 = .ok (.iconst 0, 1) := by decide +kernel
theorem dX10_lives_19 : decode cX10_lives 19 = .ok (.ireturn, 1) := by decide +kernel
theorem dX10_commit_0 : decode cX10_commit 0 = .ok (.aload_n 0, 1) := by decide +kernel
theorem dX10_commit_1 : decode cX10_commit 1 = .ok (.iload_n 1, 1) := by decide +kernel
theorem dX10_commit_2 : decode cX10_commit 2 = .ok (.invokevirtual 47, 3) := by decide +kernel
theorem dX10_commit_5 : decode cX10_commit 5 = .ok (.ifCond .ne 6, 3) := by decide +kernel
theorem dX10_commit_8 : decode cX10_commit 8 = .ok (.ldc 40, 2) := by decide +kernel
theorem dX10_commit_10 : decode cX10_commit 10 = .ok (.ireturn, 1) := by decide +kernel
theorem dX10_commit_11 : decode cX10_commit 11 = .ok (.aload_n 0, 1) := by decide +kernel
theorem dX10_commit_12 : decode cX10_commit 12 = .ok (.iload_n 1, 1) := by decide +kernel
theorem dX10_commit_13 : decode cX10_commit 13 = .ok (.invokevirtual 65, 3) := by decide +kernel
theorem dX10_commit_16 : decode cX10_commit 16 = .ok (.ifCond .ne 6, 3) := by decide +kernel
theorem dX10_commit_19 : decode cX10_commit 19 = .ok (.ldc 68, 2) := by decide +kernel
theorem dX10_commit_21 : decode cX10_commit 21 = .ok (.ireturn, 1) := by decide +kernel
theorem dX10_commit_22 : decode cX10_commit 22 = .ok (.aload_n 0, 1) := by decide +kernel
theorem dX10_commit_23 : decode cX10_commit 23 = .ok (.invokevirtual 32, 3) := by decide +kernel
theorem dX10_commit_26 : decode cX10_commit 26 = .ok (.aload_n 0, 1) := by decide +kernel
theorem dX10_commit_27 : decode cX10_commit 27 = .ok (.getfield 7, 3) := by decide +kernel
theorem dX10_commit_30 : decode cX10_commit 30 = .ok (.iload_n 1, 1) := by decide +kernel
theorem dX10_commit_31 : decode cX10_commit 31 = .ok (.bipush 8, 2) := by decide +kernel
theorem dX10_commit_33 : decode cX10_commit 33 = .ok (.invokestatic 42, 3) := by decide +kernel
theorem dX10_commit_36 : decode cX10_commit 36 = .ok (.iaload, 1) := by decide +kernel
theorem dX10_commit_37 : decode cX10_commit 37 = .ok (.istore_n 3, 1) := by decide +kernel
theorem dX10_commit_38 : decode cX10_commit 38 = .ok (.aload_n 0, 1) := by decide +kernel
theorem dX10_commit_39 : decode cX10_commit 39 = .ok (.getfield 7, 3) := by decide +kernel
theorem dX10_commit_42 : decode cX10_commit 42 = .ok (.iload_n 1, 1) := by decide +kernel
theorem dX10_commit_43 : decode cX10_commit 43 = .ok (.bipush 8, 2) := by decide +kernel
theorem dX10_commit_45 : decode cX10_commit 45 = .ok (.invokestatic 42, 3) := by decide +kernel
theorem dX10_commit_48 : decode cX10_commit 48 = .ok (.iconst 1, 1) := by decide +kernel
theorem dX10_commit_49 : decode cX10_commit 49 = .ok (.iastore, 1) := by decide +kernel
theorem dX10_commit_50 : decode cX10_commit 50 = .ok (.aload_n 0, 1) := by decide +kernel
theorem dX10_commit_51 : decode cX10_commit 51 = .ok (.getfield 7, 3) := by decide +kernel
theorem dX10_commit_54 : decode cX10_commit 54 = .ok (.iload_n 1, 1) := by decide +kernel
theorem dX10_commit_55 : decode cX10_commit 55 = .ok (.bipush 9, 2) := by decide +kernel
theorem dX10_commit_57 : decode cX10_commit 57 = .ok (.invokestatic 42, 3) := by decide +kernel
theorem dX10_commit_60 : decode cX10_commit 60 = .ok (.iload_n 2, 1) := by decide +kernel
theorem dX10_commit_61 : decode cX10_commit 61 = .ok (.iastore, 1) := by decide +kernel
theorem dX10_commit_62 : decode cX10_commit 62 = .ok (.iload_n 3, 1) := by decide +kernel
theorem dX10_commit_63 : decode cX10_commit 63 = .ok (.ifCond .ne 7, 3) := by decide +kernel
theorem dX10_commit_66 : decode cX10_commit 66 = .ok (.iconst 0, 1) := by decide +kernel
theorem dX10_commit_67 : decode cX10_commit 67 = .ok (.goto 4, 3) := by decide +kernel
theorem dX10_commit_70 : decode cX10_commit 70 = .ok (.iconst 1, 1) := by decide +kernel
theorem dX10_commit_71 : decode cX10_commit 71 = .ok (.ireturn, 1) := by decide +kernel
theorem dX10_reveal_0 : decode cX10_reveal 0 = .ok (.aload_n 0, 1) := by decide +kernel
