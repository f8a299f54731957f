theorem dX5_reckon_24 : decode cX5_reckon 24 = .ok (.iand, 1) := by decide +kernel
theorem dX5_reckon_25 : decode cX5_reckon 25 = .ok (.putfield 45, 3) := by decide +kernel
theorem dX5_reckon_28 : decode cX5_reckon 28 = .ok (.aload_n 0, 1) := by decide +kernel
theorem dX5_reckon_29 : decode cX5_reckon 29 = .ok (.aload_n 0, 1) := by decide +kernel
theorem dX5_reckon_30 : decode cX5_reckon 30 = .ok (.aload_n 1, 1) := by decide +kernel
theorem dX5_reckon_31 : decode cX5_reckon 31 = .ok (.invokevirtual 48, 3) := by decide +kernel
theorem dX5_reckon_34 : decode cX5_reckon 34 = .ok (.putfield 52, 3) := by decide +kernel
theorem dX5_reckon_37 : decode cX5_reckon 37 = .ok (.aload_n 0, 1) := by decide +kernel
theorem dX5_reckon_38 : decode cX5_reckon 38 = .ok (.getfield 52, 3) := by decide +kernel
theorem dX5_reckon_41 : decode cX5_reckon 41 = .ok (.ifCond .ne 39, 3) := by decide +kernel
theorem dX5_reckon_44 : decode cX5_reckon 44 = .ok (.aload_n 0, 1) := by decide +kernel
theorem dX5_reckon_45 : decode cX5_reckon 45 = .ok (.aload_n 1, 1) := by decide +kernel
theorem dX5_reckon_46 : decode cX5_reckon 46 = .ok (.getfield 55, 3) := by decide +kernel
theorem dX5_reckon_49 : decode cX5_reckon 49 = .ok (.getfield 59, 3) := by decide +kernel
theorem dX5_reckon_52 : decode cX5_reckon 52 = .ok (.iload_n 3, 1) := by decide +kernel
theorem dX5_reckon_53 : decode cX5_reckon 53 = .ok (.invokevirtual 64, 3) := by decide +kernel
theorem dX5_reckon_56 : decode cX5_reckon 56 = .ok (.aload_n 0, 1) := by decide +kernel
theorem dX5_reckon_57 : decode cX5_reckon 57 = .ok (.aload_n 1, 1) := by decide +kernel
theorem dX5_reckon_58 : decode cX5_reckon 58 = .ok (.getfield 27, 3) := by decide +kernel
theorem dX5_reckon_61 : decode cX5_reckon 61 = .ok (.invokevirtual 68, 3) := by decide +kernel
theorem dX5_reckon_64 : decode cX5_reckon 64 = .ok (.aload_n 0, 1) := by decide +kernel
theorem dX5_reckon_65 : decode cX5_reckon 65 = .ok (.aload_n 1, 1) := by decide +kernel
theorem dX5_reckon_66 : decode cX5_reckon 66 = .ok (.getfield 27, 3) := by decide +kernel
theorem dX5_reckon_69 : decode cX5_reckon 69 = .ok (.aload_n 1, 1) := by decide +kernel
theorem dX5_reckon_70 : decode cX5_reckon 70 = .ok (.getfield 72, 3) := by decide +kernel
theorem dX5_reckon_73 : decode cX5_reckon 73 = .ok (.iconst 1, 1) := by decide +kernel
theorem dX5_reckon_74 : decode cX5_reckon 74 = .ok (.invokevirtual 41, 3) := by decide +kernel
theorem dX5_reckon_77 : decode cX5_reckon 77 = .ok (.invokevirtual 75, 3) := by decide +kernel
theorem dX5_reckon_80 : decode cX5_reckon 80 = .ok (.return_, 1) := by decide +kernel
theorem dX5_hindranceIn_0 : decode cX5_hindranceIn 0 = .ok (.aload_n 1, 1) := by decide +kernel
theorem dX5_hindranceIn_1 : decode cX5_hindranceIn 1 = .ok (.getfield 55, 3) := by decide +kernel
theorem dX5_hindranceIn_4 : decode cX5_hindranceIn 4 = .ok (.getfield 79, 3) := by decide +kernel
theorem dX5_hindranceIn_7 : decode cX5_hindranceIn 7 = .ok (.ifCond .ne 5, 3) := by decide +kernel
theorem dX5_hindranceIn_10 : decode cX5_hindranceIn 10 = .ok (.iconst 1, 1) := by decide +kernel
theorem dX5_hindranceIn_11 : decode cX5_hindranceIn 11 = .ok (.ireturn, 1) := by decide +kernel
theorem dX5_hindranceIn_12 : decode cX5_hindranceIn 12 = .ok (.aload_n 0, 1) := by decide +kernel
theorem dX5_hindranceIn_13 : decode cX5_hindranceIn 13 = .ok (.getfield 45, 3) := by decide +kernel
theorem dX5_hindranceIn_16 : decode cX5_hindranceIn 16 = .ok (.ifCond .ne 5, 3) := by decide +kernel
theorem dX5_hindranceIn_19 : decode cX5_hindranceIn 19 = .ok (.iconst 2, 1) := by decide +kernel
theorem dX5_hindranceIn_20 : decode cX5_hindranceIn 20 = .ok (.ireturn, 1) := by decide +kernel
theorem dX5_hindranceIn_21 : decode cX5_hindranceIn 21 = .ok (.aload_n 0, 1) := by decide +kernel
theorem dX5_hindranceIn_22 : decode cX5_hindranceIn 22 = .ok (.aload_n 1, 1) := by decide +kernel
theorem dX5_hindranceIn_23 : decode cX5_hindranceIn 23 = .ok (.invokevirtual 82, 3) := by decide +kernel
theorem dX5_hindranceIn_26 : decode cX5_hindranceIn 26 = .ok (.aload_n 0, 1) := by decide +kernel
theorem dX5_hindranceIn_27 : decode cX5_hindranceIn 27 = .ok (.getfield 86, 3) := by decide +kernel
theorem dX5_hindranceIn_30 : decode cX5_hindranceIn 30 = .ok (.ldc 89, 2) := by decide +kernel
theorem dX5_hindranceIn_32 : decode cX5_hindranceIn 32 = .ok (.if_icmp .ne 7, 3) := by decide +kernel
theorem dX5_hindranceIn_35 : decode cX5_hindranceIn 35 = .ok (.iconst 3, 1) := by decide +kernel
theorem dX5_hindranceIn_36 : decode cX5_hindranceIn 36 = .ok (.goto 4, 3) := by decide +kernel
theorem dX5_hindranceIn_39 : decode cX5_hindranceIn 39 = .ok (.iconst 0, 1) := by decide +kernel
theorem dX5_hindranceIn_40 : decode cX5_hindranceIn 40 = .ok (.ireturn, 1) := by decide +kernel
theorem dX5_findRepairer_0 : decode cX5_findRepairer 0 = .ok (.aload_n 0, 1) := by decide +kernel
theorem dX5_findRepairer_1 : decode cX5_findRepairer 1 = .ok (.iconst 0, 1) := by decide +kernel
theorem dX5_findRepairer_2 : decode cX5_findRepairer 2 = .ok (.putfield 90, 3) := by decide +kernel
theorem dX5_findRepairer_5 : decode cX5_findRepairer 5 = .ok (.iconst 0, 1) := by decide +kernel
theorem dX5_findRepairer_6 : decode cX5_findRepairer 6 = .ok (.istore_n 2, 1) := by decide +kernel
theorem dX5_findRepairer_7 : decode cX5_findRepairer 7 = .ok (.iload_n 2, 1) := by decide +kernel
theorem dX5_findRepairer_8 : decode cX5_findRepairer 8 = .ok (.aload_n 1, 1) := by decide +kernel
theorem dX5_findRepairer_9 : decode cX5_findRepairer 9 = .ok (.getfield 55, 3) := by decide +kernel
theorem dX5_findRepairer_12 : decode cX5_findRepairer 12 = .ok (.getfield 93, 3) := by decide +kernel
theorem dX5_findRepairer_15 : decode cX5_findRepairer 15 = .ok (.if_icmp .ge 72, 3) := by decide +kernel
theorem dX5_findRepairer_18 : decode cX5_findRepairer 18 = .ok (.aload_n 1, 1) := by decide +kernel
theorem dX5_findRepairer_19 : decode cX5_findRepairer 19 = .ok (.getfield 55, 3) := by decide +kernel
theorem dX5_findRepairer_22 : decode cX5_findRepairer 22 = .ok (.iload_n 2, 1) := by decide +kernel
theorem dX5_findRepairer_23 : decode cX5_findRepairer 23 = .ok (.invokevirtual 96, 3) := by decide +kernel
theorem dX5_findRepairer_26 : decode cX5_findRepairer 26 = .ok (.istore_n 3, 1) := by decide +kernel
theorem dX5_findRepairer_27 : decode cX5_findRepairer 27 = .ok (.aload_n 1, 1) := by decide +kernel
theorem dX5_findRepairer_28 : decode cX5_findRepairer 28 = .ok (.getfield 27, 3) := by decide +kernel
theorem dX5_findRepairer_31 : decode cX5_findRepairer 31 = .ok (.iload_n 3, 1) := by decide +kernel
theorem dX5_findRepairer_32 : decode cX5_findRepairer 32 = .ok (.invokevirtual 99, 3) := by decide +kernel
theorem dX5_findRepairer_35 : decode cX5_findRepairer 35 = .ok (.istore 4, 2) := by decide +kernel
theorem dX5_findRepairer_37 : decode cX5_findRepairer 37 = .ok (.iload 4, 2) := by decide +kernel
theorem dX5_findRepairer_39 : decode cX5_findRepairer 39 = .ok (.ifCond .eq 25, 3) := by decide +kernel
theorem dX5_findRepairer_42 : decode cX5_findRepairer 42 = .ok (.aload_n 0, 1) := by decide +kernel
theorem dX5_findRepairer_43 : decode cX5_findRepairer 43 = .ok (.getfield 45, 3) := by decide +kernel
theorem dX5_findRepairer_46 : decode cX5_findRepairer 46 = .ok (.iload_n 3, 1) := by decide +kernel
theorem dX5_findRepairer_47 : decode cX5_findRepairer 47 = .ok (.invokestatic 103, 3) := by decide +kernel
theorem dX5_findRepairer_50 : decode cX5_findRepairer 50 = .ok (.ifCond .ne 14, 3) := by decide +kernel
theorem dX5_findRepairer_53 : decode cX5_findRepairer 53 = .ok (.aload_n 0, 1) := by decide +kernel
theorem dX5_findRepairer_54 : decode cX5_findRepairer 54 = .ok (.iload_n 3, 1) := by decide +kernel
theorem dX5_findRepairer_55 : decode cX5_findRepairer 55 = .ok (.putfield 86, 3) := by decide +kernel
theorem dX5_findRepairer_58 : decode cX5_findRepairer 58 = .ok (.aload_n 0, 1) := by decide +kernel
theorem dX5_findRepairer_59 : decode cX5_findRepairer 59 = .ok (.iload_n 2, 1) := by decide +kernel
theorem dX5_findRepairer_60 : decode cX5_findRepairer 60 = .ok (.putfield 109, 3) := by decide +kernel
theorem dX5_findRepairer_63 : decode cX5_findRepairer 63 = .ok (.return_, 1) := by decide +kernel
theorem dX5_findRepairer_64 : decode cX5_findRepairer 64 = .ok (.iload 4, 2) := by decide +kernel
theorem dX5_findRepairer_66 : decode cX5_findRepairer 66 = .ok (.ifCond .ne 15, 3) := by decide +kernel
theorem dX5_findRepairer_69 : decode cX5_findRepairer 69 = .ok (.aload_n 0, 1) := by decide +kernel
theorem dX5_findRepairer_70 : decode cX5_findRepairer 70 = .ok (.dup, 1) := by decide +kernel
theorem dX5_findRepairer_71 : decode cX5_findRepairer 71 = .ok (.getfield 90, 3) := by decide +kernel
theorem dX5_findRepairer_74 : decode cX5_findRepairer 74 = .ok (.iconst 1, 1) := by decide +kernel
theorem dX5_findRepairer_75 : decode cX5_findRepairer 75 = .ok (.iload_n 3, 1) := by decide +kernel
theorem dX5_findRepairer_76 : decode cX5_findRepairer 76 = .ok (.ishl, 1) := by decide +kernel
theorem dX5_findRepairer_77 : decode cX5_findRepairer 77 = .ok (.ior, 1) := by decide +kernel
theorem dX5_findRepairer_78 : decode cX5_findRepairer 78 = .ok (.putfield 90, 3) := by decide +kernel
theorem dX5_findRepairer_81 : decode cX5_findRepairer 81 = .ok (.iinc 2 1, 3) := by decide +kernel
theorem dX5_findRepairer_84 : decode cX5_findRepairer 84 = .ok (.goto (-77), 3) := by decide +kernel
theorem dX5_findRepairer_87 : decode cX5_findRepairer 87 = .ok (.aload_n 0, 1) := by decide +kernel
theorem dX5_findRepairer_88 : decode cX5_findRepairer 88 = .ok (.ldc 89, 2) := by decide +kernel
theorem dX5_findRepairer_90 : decode cX5_findRepairer 90 = .ok (.putfield 86, 3) := by decide +kernel
theorem dX5_findRepairer_93 : decode cX5_findRepairer 93 = .ok (.return_, 1) := by decide +kernel
theorem dX5_drawWaits_0 : decode cX5_drawWaits 0 = .ok (.aload_n 0, 1) := by decide +kernel
theorem dX5_drawWaits_1 : decode cX5_drawWaits 1 = .ok (.ldc 89, 2) := by decide +kernel
theorem dX5_drawWaits_3 : decode cX5_drawWaits 3 = .ok (.putfield 112, 3) := by decide +kernel
theorem dX5_drawWaits_6 : decode cX5_drawWaits 6 = .ok (.iconst 0, 1) := by decide +kernel
theorem dX5_drawWaits_7 : decode cX5_drawWaits 7 = .ok (.istore_n 3, 1) := by decide +kernel
theorem dX5_drawWaits_8 : decode cX5_drawWaits 8 = .ok (.iload_n 3, 1) := by decide +kernel
theorem dX5_drawWaits_9 : decode cX5_drawWaits 9 = .ok (.bipush 10, 2) := by decide +kernel
theorem dX5_drawWaits_11 : decode cX5_drawWaits 11 = .ok (.if_icmp .ge 90, 3) := by decide +kernel
theorem dX5_drawWaits_14 : decode cX5_drawWaits 14 = .ok (.aload_n 0, 1) := by decide +kernel
theorem dX5_drawWaits_15 : decode cX5_drawWaits 15 = .ok (.getfield 45, 3) := by decide +kernel
theorem dX5_drawWaits_18 : decode cX5_drawWaits 18 = .ok (.iload_n 3, 1) := by decide +kernel
theorem dX5_drawWaits_19 : decode cX5_drawWaits 19 = .ok (.invokestatic 103, 3) := by decide +kernel
theorem dX5_drawWaits_22 : decode cX5_drawWaits 22 = .ok (.ifCond .eq 73, 3) := by decide +kernel
theorem dX5_drawWaits_25 : decode cX5_drawWaits 25 = .ok (.iload_n 1, 1) := by decide +kernel
theorem dX5_drawWaits_26 : decode cX5_drawWaits 26 = .ok (.sipush 1000, 3) := by decide +kernel
theorem dX5_drawWaits_29 : decode cX5_drawWaits 29 = .ok (.aload_n 0, 1) := by decide +kernel
theorem dX5_drawWaits_30 : decode cX5_drawWaits 30 = .ok (.getfield 23, 3) := by decide +kernel
theorem dX5_drawWaits_33 : decode cX5_drawWaits 33 = .ok (.imul, 1) := by decide +kernel
theorem dX5_drawWaits_34 : decode cX5_drawWaits 34 = .ok (.iload_n 3, 1) := by decide +kernel
theorem dX5_drawWaits_35 : decode cX5_drawWaits 35 = .ok (.iadd, 1) := by decide +kernel
theorem dX5_drawWaits_36 : decode cX5_drawWaits 36 = .ok (.ixor, 1) := by decide +kernel
theorem dX5_drawWaits_37 : decode cX5_drawWaits 37 = .ok (.invokestatic 115, 3) := by decide +kernel
theorem dX5_drawWaits_40 : decode cX5_drawWaits 40 = .ok (.istore 4, 2) := by decide +kernel
theorem dX5_drawWaits_42 : decode cX5_drawWaits 42 = .ok (.aload_n 0, 1) := by decide +kernel
theorem dX5_drawWaits_43 : decode cX5_drawWaits 43 = .ok (.getfield 14, 3) := by decide +kernel
theorem dX5_drawWaits_46 : decode cX5_drawWaits 46 = .ok (.iload_n 3, 1) := by decide +kernel
theorem dX5_drawWaits_47 : decode cX5_drawWaits 47 = .ok (.iload 4, 2) := by decide +kernel
theorem dX5_drawWaits_49 : decode cX5_drawWaits 49 = .ok (.invokestatic 115, 3) := by decide +kernel
theorem dX5_drawWaits_52 : decode cX5_drawWaits 52 = .ok (.iload_n 2, 1) := by decide +kernel
theorem dX5_drawWaits_53 : decode cX5_drawWaits 53 = .ok (.invokestatic 118, 3) := by decide +kernel
theorem dX5_drawWaits_56 : decode cX5_drawWaits 56 = .ok (.invokevirtual 122, 3) := by decide +kernel
theorem dX5_drawWaits_59 : decode cX5_drawWaits 59 = .ok (.aload_n 0, 1) := by decide +kernel
theorem dX5_drawWaits_60 : decode cX5_drawWaits 60 = .ok (.getfield 112, 3) := by decide +kernel
theorem dX5_drawWaits_63 : decode cX5_drawWaits 63 = .ok (.ldc 89, 2) := by decide +kernel
theorem dX5_drawWaits_65 : decode cX5_drawWaits 65 = .ok (.if_icmp .eq 25, 3) := by decide +kernel
theorem dX5_drawWaits_68 : decode cX5_drawWaits 68 = .ok (.aload_n 0, 1) := by decide +kernel
theorem dX5_drawWaits_69 : decode cX5_drawWaits 69 = .ok (.getfield 14, 3) := by decide +kernel
theorem dX5_drawWaits_72 : decode cX5_drawWaits 72 = .ok (.iload_n 3, 1) := by decide +kernel
theorem dX5_drawWaits_73 : decode cX5_drawWaits 73 = .ok (.invokevirtual 41, 3) := by decide +kernel
theorem dX5_drawWaits_76 : decode cX5_drawWaits 76 = .ok (.aload_n 0, 1) := by decide +kernel
theorem dX5_drawWaits_77 : decode cX5_drawWaits 77 = .ok (.getfield 14, 3) := by decide +kernel
theorem dX5_drawWaits_80 : decode cX5_drawWaits 80 = .ok (.aload_n 0, 1) := by decide +kernel
theorem dX5_drawWaits_81 : decode cX5_drawWaits 81 = .ok (.getfield 112, 3) := by decide +kernel
theorem dX5_drawWaits_84 : decode cX5_drawWaits 84 = .ok (.invokevirtual 41, 3) := by decide +kernel
theorem dX5_drawWaits_87 : decode cX5_drawWaits 87 = .ok (.if_icmp .ge 8, 3) := by decide +kernel
theorem dX5_drawWaits_90 : decode cX5_drawWaits 90 = .ok (.aload_n 0, 1) := by decide +kernel
theorem dX5_drawWaits_91 : decode cX5_drawWaits 91 = .ok (.iload_n 3, 1) := by decide +kernel
theorem dX5_drawWaits_92 : decode cX5_drawWaits 92 = .ok (.putfield 112, 3) := by decide +kernel
theorem dX5_drawWaits_95 : decode cX5_drawWaits 95 = .ok (.iinc 3 1, 3) := by decide +kernel
theorem dX5_drawWaits_98 : decode cX5_drawWaits 98 = .ok (.goto (-90), 3) := by decide +kernel
theorem dX5_drawWaits_101 : decode cX5_drawWaits 101 = .ok (.return_, 1) := by decide +kernel
theorem dX5_findWhoAsks_0 : decode cX5_findWhoAsks 0 = .ok (.aload_n 0, 1) := by decide +kernel
theorem dX5_findWhoAsks_1 : decode cX5_findWhoAsks 1 = .ok (.iconst 0, 1) := by decide +kernel
theorem dX5_findWhoAsks_2 : decode cX5_findWhoAsks 2 = .ok (.putfield 125, 3) := by decide +kernel
theorem dX5_findWhoAsks_5 : decode cX5_findWhoAsks 5 = .ok (.iconst 0, 1) := by decide +kernel
theorem dX5_findWhoAsks_6 : decode cX5_findWhoAsks 6 = .ok (.istore_n 2, 1) := by decide +kernel
theorem dX5_findWhoAsks_7 : decode cX5_findWhoAsks 7 = .ok (.iload_n 2, 1) := by decide +kernel
theorem dX5_findWhoAsks_8 : decode cX5_findWhoAsks 8 = .ok (.aload_n 1, 1) := by decide +kernel
theorem dX5_findWhoAsks_9 : decode cX5_findWhoAsks 9 = .ok (.getfield 128, 3) := by decide +kernel
theorem dX5_findWhoAsks_12 : decode cX5_findWhoAsks 12 = .ok (.if_icmp .ge 74, 3) := by decide +kernel
theorem dX5_findWhoAsks_15 : decode cX5_findWhoAsks 15 = .ok (.aload_n 0, 1) := by decide +kernel
theorem dX5_findWhoAsks_16 : decode cX5_findWhoAsks 16 = .ok (.getfield 14, 3) := by decide +kernel
theorem dX5_findWhoAsks_19 : decode cX5_findWhoAsks 19 = .ok (.iload_n 2, 1) := by decide +kernel
theorem dX5_findWhoAsks_20 : decode cX5_findWhoAsks 20 = .ok (.invokevirtual 41, 3) := by decide +kernel
theorem dX5_findWhoAsks_23 : decode cX5_findWhoAsks 23 = .ok (.aload_n 0, 1) := by decide +kernel
theorem dX5_findWhoAsks_24 : decode cX5_findWhoAsks 24 = .ok (.getfield 14, 3) := by decide +kernel
theorem dX5_findWhoAsks_27 : decode cX5_findWhoAsks 27 = .ok (.aload_n 0, 1) := by decide +kernel
theorem dX5_findWhoAsks_28 : decode cX5_findWhoAsks 28 = .ok (.getfield 112, 3) := by decide +kernel
theorem dX5_findWhoAsks_31 : decode cX5_findWhoAsks 31 = .ok (.invokevirtual 41, 3) := by decide +kernel
theorem dX5_findWhoAsks_34 : decode cX5_findWhoAsks 34 = .ok (.aload_n 1, 1) := by decide +kernel
theorem dX5_findWhoAsks_35 : decode cX5_findWhoAsks 35 = .ok (.iload_n 2, 1) := by decide +kernel
theorem dX5_findWhoAsks_36 : decode cX5_findWhoAsks 36 = .ok (.aload_n 0, 1) := by decide +kernel
theorem dX5_findWhoAsks_37 : decode cX5_findWhoAsks 37 = .ok (.getfield 112, 3) := by decide +kernel
theorem dX5_findWhoAsks_40 : decode cX5_findWhoAsks 40 = .ok (.invokevirtual 131, 3) := by decide +kernel
theorem dX5_findWhoAsks_43 : decode cX5_findWhoAsks 43 = .ok (.iadd, 1) := by decide +kernel
theorem dX5_findWhoAsks_44 : decode cX5_findWhoAsks 44 = .ok (.if_icmp .gt 7, 3) := by decide +kernel
theorem dX5_findWhoAsks_47 : decode cX5_findWhoAsks 47 = .ok (.iconst 1, 1) := by decide +kernel
theorem dX5_findWhoAsks_48 : decode cX5_findWhoAsks 48 = .ok (.goto 4, 3) := by decide +kernel
theorem dX5_findWhoAsks_51 : decode cX5_findWhoAsks 51 = .ok (.iconst 0, 1) := by decide +kernel
theorem dX5_findWhoAsks_52 : decode cX5_findWhoAsks 52 = .ok (.istore_n 3, 1) := by decide +kernel
theorem dX5_findWhoAsks_53 : decode cX5_findWhoAsks 53 = .ok (.aload_n 0, 1) := by decide +kernel
theorem dX5_findWhoAsks_54 : decode cX5_findWhoAsks 54 = .ok (.getfield 45, 3) := by decide +kernel
theorem dX5_findWhoAsks_57 : decode cX5_findWhoAsks 57 = .ok (.iload_n 2, 1) := by decide +kernel
theorem dX5_findWhoAsks_58 : decode cX5_findWhoAsks 58 = .ok (.invokestatic 103, 3) := by decide +kernel
theorem dX5_findWhoAsks_61 : decode cX5_findWhoAsks 61 = .ok (.ifCond .eq 19, 3) := by decide +kernel
theorem dX5_findWhoAsks_64 : decode cX5_findWhoAsks 64 = .ok (.iload_n 3, 1) := by decide +kernel
theorem dX5_findWhoAsks_65 : decode cX5_findWhoAsks 65 = .ok (.ifCond .eq 15, 3) := by decide +kernel
theorem dX5_findWhoAsks_68 : decode cX5_findWhoAsks 68 = .ok (.aload_n 0, 1) := by decide +kernel
theorem dX5_findWhoAsks_69 : decode cX5_findWhoAsks 69 = .ok (.dup, 1) := by decide +kernel
theorem dX5_findWhoAsks_70 : decode cX5_findWhoAsks 70 = .ok (.getfield 125, 3) := by decide +kernel
theorem dX5_findWhoAsks_73 : decode cX5_findWhoAsks 73 = .ok (.iconst 1, 1) := by decide +kernel
theorem dX5_findWhoAsks_74 : decode cX5_findWhoAsks 74 = .ok (.iload_n 2, 1) := by decide +kernel
theorem dX5_findWhoAsks_75 : decode cX5_findWhoAsks 75 = .ok (.ishl, 1) := by decide +kernel
theorem dX5_findWhoAsks_76 : decode cX5_findWhoAsks 76 = .ok (.ior, 1) := by decide +kernel
theorem dX5_findWhoAsks_77 : decode cX5_findWhoAsks 77 = .ok (.putfield 125, 3) := by decide +kernel
theorem dX5_findWhoAsks_80 : decode cX5_findWhoAsks 80 = .ok (.iinc 2 1, 3) := by decide +kernel
theorem dX5_findWhoAsks_83 : decode cX5_findWhoAsks 83 = .ok (.goto (-76), 3) := by decide +kernel
theorem dX5_findWhoAsks_86 : decode cX5_findWhoAsks 86 = .ok (.aload_n 0, 1) := by decide +kernel
theorem dX5_findWhoAsks_87 : decode cX5_findWhoAsks 87 = .ok (.aload_n 0, 1) := by decide +kernel
theorem dX5_findWhoAsks_88 : decode cX5_findWhoAsks 88 = .ok (.getfield 45, 3) := by decide +kernel
theorem dX5_findWhoAsks_91 : decode cX5_findWhoAsks 91 = .ok (.aload_n 0, 1) := by decide +kernel
theorem dX5_findWhoAsks_92 : decode cX5_findWhoAsks 92 = .ok (.getfield 125, 3) := by decide +kernel
theorem dX5_findWhoAsks_95 : decode cX5_findWhoAsks 95 = .ok (.iconst (-1), 1) := by decide +kernel
theorem dX5_findWhoAsks_96 : decode cX5_findWhoAsks 96 = .ok (.ixor, 1) := by decide +kernel
theorem dX5_findWhoAsks_97 : decode cX5_findWhoAsks 97 = .ok (.iand, 1) := by decide +kernel
theorem dX5_findWhoAsks_98 : decode cX5_findWhoAsks 98 = .ok (.putfield 134, 3) := by decide +kernel
theorem dX5_findWhoAsks_101 : decode cX5_findWhoAsks 101 = .ok (.return_, 1) := by decide +kernel
theorem dX5_reckonTimes_0 : decode cX5_reckonTimes 0 = .ok (.aload_n 0, 1) := by decide +kernel
theorem dX5_reckonTimes_1 : decode cX5_reckonTimes 1 = .ok (.aload_n 1, 1) := by decide +kernel
theorem dX5_reckonTimes_2 : decode cX5_reckonTimes 2 = .ok (.invokevirtual 137, 3) := by decide +kernel
theorem dX5_reckonTimes_5 : decode cX5_reckonTimes 5 = .ok (.iload_n 2, 1) := by decide +kernel
theorem dX5_reckonTimes_6 : decode cX5_reckonTimes 6 = .ok (.aload_n 0, 1) := by decide +kernel
theorem dX5_reckonTimes_7 : decode cX5_reckonTimes 7 = .ok (.getfield 109, 3) := by decide +kernel
theorem dX5_reckonTimes_10 : decode cX5_reckonTimes 10 = .ok (.imul, 1) := by decide +kernel
theorem dX5_reckonTimes_11 : decode cX5_reckonTimes 11 = .ok (.iadd, 1) := by decide +kernel
theorem dX5_reckonTimes_12 : decode cX5_reckonTimes 12 = .ok (.istore_n 3, 1) := by decide +kernel
theorem dX5_reckonTimes_13 : decode cX5_reckonTimes 13 = .ok (.aload_n 0, 1) := by decide +kernel
theorem dX5_reckonTimes_14 : decode cX5_reckonTimes 14 = .ok (.iconst 0, 1) := by decide +kernel
theorem dX5_reckonTimes_15 : decode cX5_reckonTimes 15 = .ok (.putfield 141, 3) := by decide +kernel
theorem dX5_reckonTimes_18 : decode cX5_reckonTimes 18 = .ok (.iconst 0, 1) := by decide +kernel
theorem dX5_reckonTimes_19 : decode cX5_reckonTimes 19 = .ok (.istore 4, 2) := by decide +kernel
theorem dX5_reckonTimes_21 : decode cX5_reckonTimes 21 = .ok (.iload 4, 2) := by decide +kernel
theorem dX5_reckonTimes_23 : decode cX5_reckonTimes 23 = .ok (.aload_n 1, 1) := by decide +kernel
theorem dX5_reckonTimes_24 : decode cX5_reckonTimes 24 = .ok (.getfield 128, 3) := by decide +kernel
theorem dX5_reckonTimes_27 : decode cX5_reckonTimes 27 = .ok (.if_icmp .ge 59, 3) := by decide +kernel
theorem dX5_reckonTimes_30 : decode cX5_reckonTimes 30 = .ok (.aload_n 0, 1) := by decide +kernel
theorem dX5_reckonTimes_31 : decode cX5_reckonTimes 31 = .ok (.getfield 45, 3) := by decide +kernel
theorem dX5_reckonTimes_34 : decode cX5_reckonTimes 34 = .ok (.iload 4, 2) := by decide +kernel
theorem dX5_reckonTimes_36 : decode cX5_reckonTimes 36 = .ok (.invokestatic 103, 3) := by decide +kernel
theorem dX5_reckonTimes_39 : decode cX5_reckonTimes 39 = .ok (.ifCond .eq 41, 3) := by decide +kernel
theorem dX5_reckonTimes_42 : decode cX5_reckonTimes 42 = .ok (.iload_n 3, 1) := by decide +kernel
theorem dX5_reckonTimes_43 : decode cX5_reckonTimes 43 = .ok (.aload_n 1, 1) := by decide +kernel
theorem dX5_reckonTimes_44 : decode cX5_reckonTimes 44 = .ok (.iload 4, 2) := by decide +kernel
theorem dX5_reckonTimes_46 : decode cX5_reckonTimes 46 = .ok (.aload_n 0, 1) := by decide +kernel
theorem dX5_reckonTimes_47 : decode cX5_reckonTimes 47 = .ok (.getfield 86, 3) := by decide +kernel
theorem dX5_reckonTimes_50 : decode cX5_reckonTimes 50 = .ok (.invokevirtual 131, 3) := by decide +kernel
theorem dX5_reckonTimes_53 : decode cX5_reckonTimes 53 = .ok (.iadd, 1) := by decide +kernel
theorem dX5_reckonTimes_54 : decode cX5_reckonTimes 54 = .ok (.istore 5, 2) := by decide +kernel
theorem dX5_reckonTimes_56 : decode cX5_reckonTimes 56 = .ok (.aload_n 0, 1) := by decide +kernel
theorem dX5_reckonTimes_57 : decode cX5_reckonTimes 57 = .ok (.getfield 20, 3) := by decide +kernel
theorem dX5_reckonTimes_60 : decode cX5_reckonTimes 60 = .ok (.iload 4, 2) := by decide +kernel
theorem dX5_reckonTimes_62 : decode cX5_reckonTimes 62 = .ok (.iload 5, 2) := by decide +kernel
theorem dX5_reckonTimes_64 : decode cX5_reckonTimes 64 = .ok (.invokevirtual 122, 3) := by decide +kernel
theorem dX5_reckonTimes_67 : decode cX5_reckonTimes 67 = .ok (.aload_n 0, 1) := by decide +kernel
theorem dX5_reckonTimes_68 : decode cX5_reckonTimes 68 = .ok (.aload_n 0, 1) := by decide +kernel
theorem dX5_reckonTimes_69 : decode cX5_reckonTimes 69 = .ok (.getfield 141, 3) := by decide +kernel
theorem dX5_reckonTimes_72 : decode cX5_reckonTimes 72 = .ok (.iload 5, 2) := by decide +kernel
theorem dX5_reckonTimes_74 : decode cX5_reckonTimes 74 = .ok (.invokestatic 144, 3) := by decide +kernel
theorem dX5_reckonTimes_77 : decode cX5_reckonTimes 77 = .ok (.putfield 141, 3) := by decide +kernel
theorem dX5_reckonTimes_80 : decode cX5_reckonTimes 80 = .ok (.iinc 4 1, 3) := by decide +kernel
theorem dX5_reckonTimes_83 : decode cX5_reckonTimes 83 = .ok (.goto (-62), 3) := by decide +kernel
theorem dX5_reckonTimes_86 : decode cX5_reckonTimes 86 = .ok (.return_, 1) := by decide +kernel
theorem dX5_timeOfHearing_0 : decode cX5_timeOfHearing 0 = .ok (.aload_n 0, 1) := by decide +kernel
theorem dX5_timeOfHearing_1 : decode cX5_timeOfHearing 1 = .ok (.getfield 14, 3) := by decide +kernel
theorem dX5_timeOfHearing_4 : decode cX5_timeOfHearing 4 = .ok (.aload_n 0, 1) := by decide +kernel
theorem dX5_timeOfHearing_5 : decode cX5_timeOfHearing 5 = .ok (.getfield 112, 3) := by decide +kernel
theorem dX5_timeOfHearing_8 : decode cX5_timeOfHearing 8 = .ok (.invokevirtual 41, 3) := by decide +kernel
theorem dX5_timeOfHearing_11 : decode cX5_timeOfHearing 11 = .ok (.aload_n 1, 1) := by decide +kernel
theorem dX5_timeOfHearing_12 : decode cX5_timeOfHearing 12 = .ok (.aload_n 0, 1) := by decide +kernel
theorem dX5_timeOfHearing_13 : decode cX5_timeOfHearing 13 = .ok (.getfield 112, 3) := by decide +kernel
theorem dX5_timeOfHearing_16 : decode cX5_timeOfHearing 16 = .ok (.aload_n 0, 1) := by decide +kernel
theorem dX5_timeOfHearing_17 : decode cX5_timeOfHearing 17 = .ok (.getfield 86, 3) := by decide +kernel
theorem dX5_timeOfHearing_20 : decode cX5_timeOfHearing 20 = .ok (.invokevirtual 131, 3) := by decide +kernel
theorem dX5_timeOfHearing_23 : decode cX5_timeOfHearing 23 = .ok (.iadd, 1) := by decide +kernel
theorem dX5_timeOfHearing_24 : decode cX5_timeOfHearing 24 = .ok (.istore_n 2, 1) := by decide +kernel
theorem dX5_timeOfHearing_25 : decode cX5_timeOfHearing 25 = .ok (.iconst 0, 1) := by decide +kernel
theorem dX5_timeOfHearing_26 : decode cX5_timeOfHearing 26 = .ok (.istore_n 3, 1) := by decide +kernel
theorem dX5_timeOfHearing_27 : decode cX5_timeOfHearing 27 = .ok (.iload_n 3, 1) := by decide +kernel
theorem dX5_timeOfHearing_28 : decode cX5_timeOfHearing 28 = .ok (.aload_n 1, 1) := by decide +kernel
theorem dX5_timeOfHearing_29 : decode cX5_timeOfHearing 29 = .ok (.getfield 128, 3) := by decide +kernel
theorem dX5_timeOfHearing_32 : decode cX5_timeOfHearing 32 = .ok (.if_icmp .ge 43, 3) := by decide +kernel
theorem dX5_timeOfHearing_35 : decode cX5_timeOfHearing 35 = .ok (.aload_n 0, 1) := by decide +kernel
theorem dX5_timeOfHearing_36 : decode cX5_timeOfHearing 36 = .ok (.getfield 125, 3) := by decide +kernel
theorem dX5_timeOfHearing_39 : decode cX5_timeOfHearing 39 = .ok (.iload_n 3, 1) := by decide +kernel
theorem dX5_timeOfHearing_40 : decode cX5_timeOfHearing 40 = .ok (.invokestatic 103, 3) := by decide +kernel
theorem dX5_timeOfHearing_43 : decode cX5_timeOfHearing 43 = .ok (.ifCond .eq 26, 3) := by decide +kernel
theorem dX5_timeOfHearing_46 : decode cX5_timeOfHearing 46 = .ok (.iload_n 2, 1) := by decide +kernel
theorem dX5_timeOfHearing_47 : decode cX5_timeOfHearing 47 = .ok (.aload_n 0, 1) := by decide +kernel
theorem dX5_timeOfHearing_48 : decode cX5_timeOfHearing 48 = .ok (.getfield 14, 3) := by decide +kernel
theorem dX5_timeOfHearing_51 : decode cX5_timeOfHearing 51 = .ok (.iload_n 3, 1) := by decide +kernel
theorem dX5_timeOfHearing_52 : decode cX5_timeOfHearing 52 = .ok (.invokevirtual 41, 3) := by decide +kernel
theorem dX5_timeOfHearing_55 : decode cX5_timeOfHearing 55 = .ok (.aload_n 1, 1) := by decide +kernel
theorem dX5_timeOfHearing_56 : decode cX5_timeOfHearing 56 = .ok (.iload_n 3, 1) := by decide +kernel
theorem dX5_timeOfHearing_57 : decode cX5_timeOfHearing 57 = .ok (.aload_n 0, 1) := by decide +kernel
theorem dX5_timeOfHearing_58 : decode cX5_timeOfHearing 58 = .ok (.getfield 86, 3) := by decide +kernel
theorem dX5_timeOfHearing_61 : decode cX5_timeOfHearing 61 = .ok (.invokevirtual 131, 3) := by decide +kernel
theorem dX5_timeOfHearing_64 : decode cX5_timeOfHearing 64 = .ok (.iadd, 1) := by decide +kernel
theorem dX5_timeOfHearing_65 : decode cX5_timeOfHearing 65 = .ok (.invokestatic 149, 3) := by decide +kernel
theorem dX5_timeOfHearing_68 : decode cX5_timeOfHearing 68 = .ok (.istore_n 2, 1) := by decide +kernel
theorem dX5_timeOfHearing_69 : decode cX5_timeOfHearing 69 = .ok (.iinc 3 1, 3) := by decide +kernel
theorem dX5_timeOfHearing_72 : decode cX5_timeOfHearing 72 = .ok (.goto (-45), 3) := by decide +kernel
theorem dX5_timeOfHearing_75 : decode cX5_timeOfHearing 75 = .ok (.iload_n 2, 1) := by decide +kernel
theorem dX5_timeOfHearing_76 : decode cX5_timeOfHearing 76 = .ok (.ireturn, 1) := by decide +kernel
theorem dX5_partOf_0 : decode cX5_partOf 0 = .ok (.iload_n 1, 1) := by decide +kernel
theorem dX5_partOf_1 : decode cX5_partOf 1 = .ok (.aload_n 0, 1) := by decide +kernel
theorem dX5_partOf_2 : decode cX5_partOf 2 = .ok (.getfield 112, 3) := by decide +kernel
theorem dX5_partOf_5 : decode cX5_partOf 5 = .ok (.if_icmp .ne 5, 3) := by decide +kernel
theorem dX5_partOf_8 : decode cX5_partOf 8 = .ok (.iconst 1, 1) := by decide +kernel
theorem dX5_partOf_9 : decode cX5_partOf 9 = .ok (.ireturn, 1) := by decide +kernel
theorem dX5_partOf_10 : decode cX5_partOf 10 = .ok (.aload_n 0, 1) := by decide +kernel
theorem dX5_partOf_11 : decode cX5_partOf 11 = .ok (.getfield 125, 3) := by decide +kernel
theorem dX5_partOf_14 : decode cX5_partOf 14 = .ok (.iload_n 1, 1) := by decide +kernel
theorem dX5_partOf_15 : decode cX5_partOf 15 = .ok (.invokestatic 103, 3) := by decide +kernel
theorem dX5_partOf_18 : decode cX5_partOf 18 = .ok (.ifCond .eq 5, 3) := by decide +kernel
theorem dX5_partOf_21 : decode cX5_partOf 21 = .ok (.iconst 2, 1) := by decide +kernel
theorem dX5_partOf_22 : decode cX5_partOf 22 = .ok (.ireturn, 1) := by decide +kernel
theorem dX5_partOf_23 : decode cX5_partOf 23 = .ok (.aload_n 0, 1) := by decide +kernel
theorem dX5_partOf_24 : decode cX5_partOf 24 = .ok (.getfield 134, 3) := by decide +kernel
theorem dX5_partOf_27 : decode cX5_partOf 27 = .ok (.iload_n 1, 1) := by decide +kernel
theorem dX5_partOf_28 : decode cX5_partOf 28 = .ok (.invokestatic 103, 3) := by decide +kernel
theorem dX5_partOf_31 : decode cX5_partOf 31 = .ok (.ifCond .eq 5, 3) := by decide +kernel
theorem dX5_partOf_34 : decode cX5_partOf 34 = .ok (.iconst 3, 1) := by decide +kernel
theorem dX5_partOf_35 : decode cX5_partOf 35 = .ok (.ireturn, 1) := by decide +kernel
theorem dX5_partOf_36 : decode cX5_partOf 36 = .ok (.iload_n 1, 1) := by decide +kernel
theorem dX5_partOf_37 : decode cX5_partOf 37 = .ok (.aload_n 0, 1) := by decide +kernel
theorem dX5_partOf_38 : decode cX5_partOf 38 = .ok (.getfield 86, 3) := by decide +kernel
theorem dX5_partOf_41 : decode cX5_partOf 41 = .ok (.if_icmp .ne 5, 3) := by decide +kernel
theorem dX5_partOf_44 : decode cX5_partOf 44 = .ok (.iconst 4, 1) := by decide +kernel
theorem dX5_partOf_45 : decode cX5_partOf 45 = .ok (.ireturn, 1) := by decide +kernel
theorem dX5_partOf_46 : decode cX5_partOf 46 = .ok (.aload_n 0, 1) := by decide +kernel
theorem dX5_partOf_47 : decode cX5_partOf 47 = .ok (.getfield 90, 3) := by decide +kernel
theorem dX5_partOf_50 : decode cX5_partOf 50 = .ok (.iload_n 1, 1) := by decide +kernel
theorem dX5_partOf_51 : decode cX5_partOf 51 = .ok (.invokestatic 103, 3) := by decide +kernel
theorem dX5_partOf_54 : decode cX5_partOf 54 = .ok (.ifCond .eq 7, 3) := by decide +kernel
theorem dX5_partOf_57 : decode cX5_partOf 57 = .ok (.iconst 5, 1) := by decide +kernel
theorem dX5_partOf_58 : decode cX5_partOf 58 = .ok (.goto 4, 3) := by decide +kernel
theorem dX5_partOf_61 : decode cX5_partOf 61 = .ok (.iconst 0, 1) := by decide +kernel
theorem dX5_partOf_62 : decode cX5_partOf 62 = .ok (.ireturn, 1) := by decide +kernel
theorem dX6_init_0 : decode cX6_init 0 = .ok (.aload_n 0, 1) := by decide +kernel
theorem dX6_init_1 : decode cX6_init 1 = .ok (.invokespecial 1, 3) := by decide +kernel
theorem dX6_init_4 : decode cX6_init 4 = .ok (.aload_n 0, 1) := by decide +kernel
theorem dX6_init_5 : decode cX6_init 5 = .ok (.iload_n 1, 1) := by decide +kernel
theorem dX6_init_6 : decode cX6_init 6 = .ok (.ifCond .le 7, 3) := by decide +kernel
theorem dX6_init_9 : decode cX6_init 9 = .ok (.iload_n 1, 1) := by decide +kernel
theorem dX6_init_10 : decode cX6_init 10 = .ok (.goto 4, 3) := by decide +kernel
theorem dX6_init_13 : decode cX6_init 13 = .ok (.iconst 0, 1) := by decide +kernel
theorem dX6_init_14 : decode cX6_init 14 = .ok (.newarray .int, 2) := by decide +kernel
theorem dX6_init_16 : decode cX6_init 16 = .ok (.putfield 7, 3) := by decide +kernel
theorem dX6_init_19 : decode cX6_init 19 = .ok (.return_, 1) := by decide +kernel
theorem dX6_at_0 : decode cX6_at 0 = .ok (.iload_n 1, 1) := by decide +kernel
theorem dX6_at_1 : decode cX6_at 1 = .ok (.ifCond .lt 21, 3) := by decide +kernel
theorem dX6_at_4 : decode cX6_at 4 = .ok (.iload_n 1, 1) := by decide +kernel
theorem dX6_at_5 : decode cX6_at 5 = .ok (.aload_n 0, 1) := by decide +kernel
theorem dX6_at_6 : decode cX6_at 6 = .ok (.getfield 7, 3) := by decide +kernel
theorem dX6_at_9 : decode cX6_at 9 = .ok (.arraylength, 1) := by decide +kernel
theorem dX6_at_10 : decode cX6_at 10 = .ok (.if_icmp .ge 12, 3) := by decide +kernel
theorem dX6_at_13 : decode cX6_at 13 = .ok (.aload_n 0, 1) := by decide +kernel
theorem dX6_at_14 : decode cX6_at 14 = .ok (.getfield 7, 3) := by decide +kernel
theorem dX6_at_17 : decode cX6_at 17 = .ok (.iload_n 1, 1) := by decide +kernel
theorem dX6_at_18 : decode cX6_at 18 = .ok (.iaload, 1) := by decide +kernel
theorem dX6_at_19 : decode cX6_at 19 = .ok (.goto 4, 3) := by decide +kernel
theorem dX6_at_22 : decode cX6_at 22 = .ok (.iconst 0, 1) := by decide +kernel
theorem dX6_at_23 : decode cX6_at 23 = .ok (.ireturn, 1) := by decide +kernel
theorem dX6_put_0 : decode cX6_put 0 = .ok (.iload_n 1, 1) := by decide +kernel
theorem dX6_put_1 : decode cX6_put 1 = .ok (.ifCond .lt 19, 3) := by decide +kernel
theorem dX6_put_4 : decode cX6_put 4 = .ok (.iload_n 1, 1) := by decide +kernel
theorem dX6_put_5 : decode cX6_put 5 = .ok (.aload_n 0, 1) := by decide +kernel
theorem dX6_put_6 : decode cX6_put 6 = .ok (.getfield 7, 3) := by decide +kernel
theorem dX6_put_9 : decode cX6_put 9 = .ok (.arraylength, 1) := by decide +kernel
theorem dX6_put_10 : decode cX6_put 10 = .ok (.if_icmp .ge 10, 3) := by decide +kernel
theorem dX6_put_13 : decode cX6_put 13 = .ok (.aload_n 0, 1) := by decide +kernel
theorem dX6_put_14 : decode cX6_put 14 = .ok (.getfield 7, 3) := by decide +kernel
theorem dX6_put_17 : decode cX6_put 17 = .ok (.iload_n 1, 1) := by decide +kernel
theorem dX6_put_18 : decode cX6_put 18 = .ok (.iload_n 2, 1) := by decide +kernel
theorem dX6_put_19 : decode cX6_put 19 = .ok (.iastore, 1) := by decide +kernel
theorem dX6_put_20 : decode cX6_put 20 = .ok (.return_, 1) := by decide +kernel
theorem dX6_add_0 : decode cX6_add 0 = .ok (.aload_n 0, 1) := by decide +kernel
theorem dX6_add_1 : decode cX6_add 1 = .ok (.iload_n 1, 1) := by decide +kernel
theorem dX6_add_2 : decode cX6_add 2 = .ok (.aload_n 0, 1) := by decide +kernel
theorem dX6_add_3 : decode cX6_add 3 = .ok (.iload_n 1, 1) := by decide +kernel
theorem dX6_add_4 : decode cX6_add 4 = .ok (.invokevirtual 13, 3) := by decide +kernel
theorem dX6_add_7 : decode cX6_add 7 = .ok (.iload_n 2, 1) := by decide +kernel
theorem dX6_add_8 : decode cX6_add 8 = .ok (.iadd, 1) := by decide +kernel
theorem dX6_add_9 : decode cX6_add 9 = .ok (.invokevirtual 17, 3) := by decide +kernel
theorem dX6_add_12 : decode cX6_add 12 = .ok (.return_, 1) := by decide +kernel
theorem dX6_swap_0 : decode cX6_swap 0 = .ok (.aload_n 0, 1) := by decide +kernel
theorem dX6_swap_1 : decode cX6_swap 1 = .ok (.iload_n 1, 1) := by decide +kernel
theorem dX6_swap_2 : decode cX6_swap 2 = .ok (.invokevirtual 13, 3) := by decide +kernel
theorem dX6_swap_5 : decode cX6_swap 5 = .ok (.istore_n 3, 1) := by decide +kernel
theorem dX6_swap_6 : decode cX6_swap 6 = .ok (.aload_n 0, 1) := by decide +kernel
theorem dX6_swap_7 : decode cX6_swap 7 = .ok (.iload_n 1, 1) := by decide +kernel
theorem dX6_swap_8 : decode cX6_swap 8 = .ok (.iload_n 2, 1) := by decide +kernel
theorem dX6_swap_9 : decode cX6_swap 9 = .ok (.invokevirtual 17, 3) := by decide +kernel
theorem dX6_swap_12 : decode cX6_swap 12 = .ok (.iload_n 3, 1) := by decide +kernel
theorem dX6_swap_13 : decode cX6_swap 13 = .ok (.ireturn, 1) := by decide +kernel
theorem dX6_copy_0 : decode cX6_copy 0 = .ok (.aload_n 0, 1) := by decide +kernel
theorem dX6_copy_1 : decode cX6_copy 1 = .ok (.getfield 7, 3) := by decide +kernel
theorem dX6_copy_4 : decode cX6_copy 4 = .ok (.arraylength, 1) := by decide +kernel
theorem dX6_copy_5 : decode cX6_copy 5 = .ok (.aload_n 1, 1) := by decide +kernel
theorem dX6_copy_6 : decode cX6_copy 6 = .ok (.getfield 7, 3) := by decide +kernel
theorem dX6_copy_9 : decode cX6_copy 9 = .ok (.arraylength, 1) := by decide +kernel
theorem dX6_copy_10 : decode cX6_copy 10 = .ok (.invokestatic 21, 3) := by decide +kernel
theorem dX6_copy_13 : decode cX6_copy 13 = .ok (.istore_n 2, 1) := by decide +kernel
theorem dX6_copy_14 : decode cX6_copy 14 = .ok (.aload_n 1, 1) := by decide +kernel
theorem dX6_copy_15 : decode cX6_copy 15 = .ok (.getfield 7, 3) := by decide +kernel
theorem dX6_copy_18 : decode cX6_copy 18 = .ok (.iconst 0, 1) := by decide +kernel
theorem dX6_copy_19 : decode cX6_copy 19 = .ok (.aload_n 0, 1) := by decide +kernel
theorem dX6_copy_20 : decode cX6_copy 20 = .ok (.getfield 7, 3) := by decide +kernel
theorem dX6_copy_23 : decode cX6_copy 23 = .ok (.iconst 0, 1) := by decide +kernel
theorem dX6_copy_24 : decode cX6_copy 24 = .ok (.iload_n 2, 1) := by decide +kernel
theorem dX6_copy_25 : decode cX6_copy 25 = .ok (.invokestatic 27, 3) := by decide +kernel
theorem dX6_copy_28 : decode cX6_copy 28 = .ok (.return_, 1) := by decide +kernel
theorem dX7_init_0 : decode cX7_init 0 = .ok (.aload_n 0, 1) := by decide +kernel
theorem dX7_init_1 : decode cX7_init 1 = .ok (.invokespecial 3, 3) := by decide +kernel
theorem dX7_init_4 : decode cX7_init 4 = .ok (.aload_n 0, 1) := by decide +kernel
theorem dX7_init_5 : decode cX7_init 5 = .ok (.new 9, 3) := by decide +kernel
theorem dX7_init_8 : decode cX7_init 8 = .ok (.dup, 1) := by decide +kernel
theorem dX7_init_9 : decode cX7_init 9 = .ok (.iconst 5, 1) := by decide +kernel
theorem dX7_init_10 : decode cX7_init 10 = .ok (.invokespecial 11, 3) := by decide +kernel
theorem dX7_init_13 : decode cX7_init 13 = .ok (.putfield 14, 3) := by decide +kernel
theorem dX7_init_16 : decode cX7_init 16 = .ok (.aload_n 0, 1) := by decide +kernel
theorem dX7_init_17 : decode cX7_init 17 = .ok (.new 20, 3) := by decide +kernel
theorem dX7_init_20 : decode cX7_init 20 = .ok (.dup, 1) := by decide +kernel
theorem dX7_init_21 : decode cX7_init 21 = .ok (.invokespecial 22, 3) := by decide +kernel
theorem dX7_init_24 : decode cX7_init 24 = .ok (.putfield 23, 3) := by decide +kernel
theorem dX7_init_27 : decode cX7_init 27 = .ok (.aload_n 0, 1) := by decide +kernel
theorem dX7_init_28 : decode cX7_init 28 = .ok (.new 27, 3) := by decide +kernel
theorem dX7_init_31 : decode cX7_init 31 = .ok (.dup, 1) := by decide +kernel
theorem dX7_init_32 : decode cX7_init 32 = .ok (.invokespecial 29, 3) := by decide +kernel
theorem dX7_init_35 : decode cX7_init 35 = .ok (.putfield 30, 3) := by decide +kernel
theorem dX7_init_38 : decode cX7_init 38 = .ok (.aload_n 0, 1) := by decide +kernel
theorem dX7_init_39 : decode cX7_init 39 = .ok (.new 9, 3) := by decide +kernel
theorem dX7_init_42 : decode cX7_init 42 = .ok (.dup, 1) := by decide +kernel
theorem dX7_init_43 : decode cX7_init 43 = .ok (.sipush 200, 3) := by decide +kernel
theorem dX7_init_46 : decode cX7_init 46 = .ok (.invokespecial 11, 3) := by decide +kernel
theorem dX7_init_49 : decode cX7_init 49 = .ok (.putfield 34, 3) := by decide +kernel
theorem dX7_init_52 : decode cX7_init 52 = .ok (.aload_n 0, 1) := by decide +kernel
theorem dX7_init_53 : decode cX7_init 53 = .ok (.new 37, 3) := by decide +kernel
theorem dX7_init_56 : decode cX7_init 56 = .ok (.dup, 1) := by decide +kernel
theorem dX7_init_57 : decode cX7_init 57 = .ok (.invokespecial 39, 3) := by decide +kernel
theorem dX7_init_60 : decode cX7_init 60 = .ok (.putfield 40, 3) := by decide +kernel
theorem dX7_init_63 : decode cX7_init 63 = .ok (.aload_n 0, 1) := by decide +kernel
theorem dX7_init_64 : decode cX7_init 64 = .ok (.getfield 14, 3) := by decide +kernel
theorem dX7_init_67 : decode cX7_init 67 = .ok (.iconst 0, 1) := by decide +kernel
theorem dX7_init_68 : decode cX7_init 68 = .ok (.bipush 100, 2) := by decide +kernel
theorem dX7_init_70 : decode cX7_init 70 = .ok (.invokevirtual 44, 3) := by decide +kernel
theorem dX7_init_73 : decode cX7_init 73 = .ok (.aload_n 0, 1) := by decide +kernel
theorem dX7_init_74 : decode cX7_init 74 = .ok (.getfield 14, 3) := by decide +kernel
theorem dX7_init_77 : decode cX7_init 77 = .ok (.iconst 1, 1) := by decide +kernel
theorem dX7_init_78 : decode cX7_init 78 = .ok (.bipush 50, 2) := by decide +kernel
theorem dX7_init_80 : decode cX7_init 80 = .ok (.invokevirtual 44, 3) := by decide +kernel
theorem dX7_init_83 : decode cX7_init 83 = .ok (.aload_n 0, 1) := by decide +kernel
theorem dX7_init_84 : decode cX7_init 84 = .ok (.getfield 14, 3) := by decide +kernel
theorem dX7_init_87 : decode cX7_init 87 = .ok (.iconst 2, 1) := by decide +kernel
theorem dX7_init_88 : decode cX7_init 88 = .ok (.iconst 2, 1) := by decide +kernel
theorem dX7_init_89 : decode cX7_init 89 = .ok (.invokevirtual 44, 3) := by decide +kernel
theorem dX7_init_92 : decode cX7_init 92 = .ok (.aload_n 0, 1) := by decide +kernel
theorem dX7_init_93 : decode cX7_init 93 = .ok (.getfield 14, 3) := by decide +kernel
theorem dX7_init_96 : decode cX7_init 96 = .ok (.iconst 3, 1) := by decide +kernel
theorem dX7_init_97 : decode cX7_init 97 = .ok (.iconst 5, 1) := by decide +kernel
theorem dX7_init_98 : decode cX7_init 98 = .ok (.invokevirtual 44, 3) := by decide +kernel
theorem dX7_init_101 : decode cX7_init 101 = .ok (.aload_n 0, 1) := by decide +kernel
theorem dX7_init_102 : decode cX7_init 102 = .ok (.getfield 14, 3) := by decide +kernel
theorem dX7_init_105 : decode cX7_init 105 = .ok (.iconst 4, 1) := by decide +kernel
theorem dX7_init_106 : decode cX7_init 106 = .ok (.iconst 3, 1) := by decide +kernel
theorem dX7_init_107 : decode cX7_init 107 = .ok (.invokevirtual 44, 3) := by decide +kernel
theorem dX7_init_110 : decode cX7_init 110 = .ok (.return_, 1) := by decide +kernel
theorem dX7_blocksLostBy_0 : decode cX7_blocksLostBy 0 = .ok (.iconst 0, 1) := by decide +kernel
theorem dX7_blocksLostBy_1 : decode cX7_blocksLostBy 1 = .ok (.istore_n 2, 1) := by decide +kernel
theorem dX7_blocksLostBy_2 : decode cX7_blocksLostBy 2 = .ok (.iconst 0, 1) := by decide +kernel
theorem dX7_blocksLostBy_3 : decode cX7_blocksLostBy 3 = .ok (.istore_n 3, 1) := by decide +kernel
theorem dX7_blocksLostBy_4 : decode cX7_blocksLostBy 4 = .ok (.iload_n 3, 1) := by decide +kernel
theorem dX7_blocksLostBy_5 : decode cX7_blocksLostBy 5 = .ok (.sipush 200, 3) := by decide +kernel
theorem dX7_blocksLostBy_8 : decode cX7_blocksLostBy 8 = .ok (.if_icmp .ge 32, 3) := by decide +kernel
theorem dX7_blocksLostBy_11 : decode cX7_blocksLostBy 11 = .ok (.iload_n 2, 1) := by decide +kernel
theorem dX7_blocksLostBy_12 : decode cX7_blocksLostBy 12 = .ok (.aload_n 0, 1) := by decide +kernel
theorem dX7_blocksLostBy_13 : decode cX7_blocksLostBy 13 = .ok (.getfield 34, 3) := by decide +kernel
theorem dX7_blocksLostBy_16 : decode cX7_blocksLostBy 16 = .ok (.iload_n 3, 1) := by decide +kernel
theorem dX7_blocksLostBy_17 : decode cX7_blocksLostBy 17 = .ok (.invokevirtual 48, 3) := by decide +kernel
theorem dX7_blocksLostBy_20 : decode cX7_blocksLostBy 20 = .ok (.iload_n 1, 1) := by decide +kernel
theorem dX7_blocksLostBy_21 : decode cX7_blocksLostBy 21 = .ok (.invokestatic 52, 3) := by decide +kernel
theorem dX7_blocksLostBy_24 : decode cX7_blocksLostBy 24 = .ok (.ifCond .eq 7, 3) := by decide +kernel
theorem dX7_blocksLostBy_27 : decode cX7_blocksLostBy 27 = .ok (.iconst 1, 1) := by decide +kernel
theorem dX7_blocksLostBy_28 : decode cX7_blocksLostBy 28 = .ok (.goto 4, 3) := by decide +kernel
theorem dX7_blocksLostBy_31 : decode cX7_blocksLostBy 31 = .ok (.iconst 0, 1) := by decide +kernel
theorem dX7_blocksLostBy_32 : decode cX7_blocksLostBy 32 = .ok (.iadd, 1) := by decide +kernel
theorem dX7_blocksLostBy_33 : decode cX7_blocksLostBy 33 = .ok (.istore_n 2, 1) := by decide +kernel
theorem dX7_blocksLostBy_34 : decode cX7_blocksLostBy 34 = .ok (.iinc 3 1, 3) := by decide +kernel
theorem dX7_blocksLostBy_37 : decode cX7_blocksLostBy 37 = .ok (.goto (-33), 3) := by decide +kernel
theorem dX7_blocksLostBy_40 : decode cX7_blocksLostBy 40 = .ok (.iload_n 2, 1) := by decide +kernel
theorem dX7_blocksLostBy_41 : decode cX7_blocksLostBy 41 = .ok (.ireturn, 1) := by decide +kernel
theorem dX7_carryOut_0 : decode cX7_carryOut 0 = .ok (.aload_n 0, 1) := by decide +kernel
theorem dX7_carryOut_1 : decode cX7_carryOut 1 = .ok (.getfield 34, 3) := by decide +kernel
theorem dX7_carryOut_4 : decode cX7_carryOut 4 = .ok (.aload_n 1, 1) := by decide +kernel
theorem dX7_carryOut_5 : decode cX7_carryOut 5 = .ok (.getfield 58, 3) := by decide +kernel
theorem dX7_carryOut_8 : decode cX7_carryOut 8 = .ok (.aload_n 0, 1) := by decide +kernel
theorem dX7_carryOut_9 : decode cX7_carryOut 9 = .ok (.getfield 34, 3) := by decide +kernel
theorem dX7_carryOut_12 : decode cX7_carryOut 12 = .ok (.aload_n 1, 1) := by decide +kernel
theorem dX7_carryOut_13 : decode cX7_carryOut 13 = .ok (.getfield 58, 3) := by decide +kernel
theorem dX7_carryOut_16 : decode cX7_carryOut 16 = .ok (.invokevirtual 48, 3) := by decide +kernel
theorem dX7_carryOut_19 : decode cX7_carryOut 19 = .ok (.aload_n 1, 1) := by decide +kernel
theorem dX7_carryOut_20 : decode cX7_carryOut 20 = .ok (.getfield 64, 3) := by decide +kernel
theorem dX7_carryOut_23 : decode cX7_carryOut 23 = .ok (.iconst (-1), 1) := by decide +kernel
theorem dX7_carryOut_24 : decode cX7_carryOut 24 = .ok (.ixor, 1) := by decide +kernel
theorem dX7_carryOut_25 : decode cX7_carryOut 25 = .ok (.iand, 1) := by decide +kernel
theorem dX7_carryOut_26 : decode cX7_carryOut 26 = .ok (.invokevirtual 44, 3) := by decide +kernel
theorem dX7_carryOut_29 : decode cX7_carryOut 29 = .ok (.aload_n 0, 1) := by decide +kernel
theorem dX7_carryOut_30 : decode cX7_carryOut 30 = .ok (.getfield 23, 3) := by decide +kernel
theorem dX7_carryOut_33 : decode cX7_carryOut 33 = .ok (.getfield 67, 3) := by decide +kernel
theorem dX7_carryOut_36 : decode cX7_carryOut 36 = .ok (.aload_n 1, 1) := by decide +kernel
theorem dX7_carryOut_37 : decode cX7_carryOut 37 = .ok (.getfield 70, 3) := by decide +kernel
theorem dX7_carryOut_40 : decode cX7_carryOut 40 = .ok (.aload_n 0, 1) := by decide +kernel
theorem dX7_carryOut_41 : decode cX7_carryOut 41 = .ok (.getfield 14, 3) := by decide +kernel
theorem dX7_carryOut_44 : decode cX7_carryOut 44 = .ok (.iconst 3, 1) := by decide +kernel
theorem dX7_carryOut_45 : decode cX7_carryOut 45 = .ok (.invokevirtual 48, 3) := by decide +kernel
theorem dX7_carryOut_48 : decode cX7_carryOut 48 = .ok (.invokevirtual 73, 3) := by decide +kernel
theorem dX7_carryOut_51 : decode cX7_carryOut 51 = .ok (.aload_n 0, 1) := by decide +kernel
theorem dX7_carryOut_52 : decode cX7_carryOut 52 = .ok (.getfield 23, 3) := by decide +kernel
theorem dX7_carryOut_55 : decode cX7_carryOut 55 = .ok (.getfield 76, 3) := by decide +kernel
theorem dX7_carryOut_58 : decode cX7_carryOut 58 = .ok (.aload_n 1, 1) := by decide +kernel
theorem dX7_carryOut_59 : decode cX7_carryOut 59 = .ok (.getfield 70, 3) := by decide +kernel
theorem dX7_carryOut_62 : decode cX7_carryOut 62 = .ok (.iconst 1, 1) := by decide +kernel
theorem dX7_carryOut_63 : decode cX7_carryOut 63 = .ok (.invokevirtual 73, 3) := by decide +kernel
theorem dX7_carryOut_66 : decode cX7_carryOut 66 = .ok (.iconst 0, 1) := by decide +kernel
theorem dX7_carryOut_67 : decode cX7_carryOut 67 = .ok (.istore_n 2, 1) := by decide +kernel
theorem dX7_carryOut_68 : decode cX7_carryOut 68 = .ok (.iload_n 2, 1) := by decide +kernel
theorem dX7_carryOut_69 : decode cX7_carryOut 69 = .ok (.aload_n 0, 1) := by decide +kernel
theorem dX7_carryOut_70 : decode cX7_carryOut 70 = .ok (.getfield 23, 3) := by decide +kernel
theorem dX7_carryOut_73 : decode cX7_carryOut 73 = .ok (.getfield 79, 3) := by decide +kernel
theorem dX7_carryOut_76 : decode cX7_carryOut 76 = .ok (.if_icmp .ge 52, 3) := by decide +kernel
theorem dX7_carryOut_79 : decode cX7_carryOut 79 = .ok (.aload_n 1, 1) := by decide +kernel
theorem dX7_carryOut_80 : decode cX7_carryOut 80 = .ok (.getfield 82, 3) := by decide +kernel
theorem dX7_carryOut_83 : decode cX7_carryOut 83 = .ok (.iload_n 2, 1) := by decide +kernel
theorem dX7_carryOut_84 : decode cX7_carryOut 84 = .ok (.invokestatic 52, 3) := by decide +kernel
theorem dX7_carryOut_87 : decode cX7_carryOut 87 = .ok (.ifCond .eq 35, 3) := by decide +kernel
theorem dX7_carryOut_90 : decode cX7_carryOut 90 = .ok (.aload_n 0, 1) := by decide +kernel
theorem dX7_carryOut_91 : decode cX7_carryOut 91 = .ok (.getfield 23, 3) := by decide +kernel
theorem dX7_carryOut_94 : decode cX7_carryOut 94 = .ok (.getfield 67, 3) := by decide +kernel
theorem dX7_carryOut_97 : decode cX7_carryOut 97 = .ok (.iload_n 2, 1) := by decide +kernel
theorem dX7_carryOut_98 : decode cX7_carryOut 98 = .ok (.aload_n 0, 1) := by decide +kernel
theorem dX7_carryOut_99 : decode cX7_carryOut 99 = .ok (.getfield 14, 3) := by decide +kernel
theorem dX7_carryOut_102 : decode cX7_carryOut 102 = .ok (.iconst 4, 1) := by decide +kernel
theorem dX7_carryOut_103 : decode cX7_carryOut 103 = .ok (.invokevirtual 48, 3) := by decide +kernel
theorem dX7_carryOut_106 : decode cX7_carryOut 106 = .ok (.ineg, 1) := by decide +kernel
theorem dX7_carryOut_107 : decode cX7_carryOut 107 = .ok (.invokevirtual 73, 3) := by decide +kernel
theorem dX7_carryOut_110 : decode cX7_carryOut 110 = .ok (.aload_n 0, 1) := by decide +kernel
theorem dX7_carryOut_111 : decode cX7_carryOut 111 = .ok (.getfield 23, 3) := by decide +kernel
theorem dX7_carryOut_114 : decode cX7_carryOut 114 = .ok (.getfield 85, 3) := by decide +kernel
theorem dX7_carryOut_117 : decode cX7_carryOut 117 = .ok (.iload_n 2, 1) := by decide +kernel
theorem dX7_carryOut_118 : decode cX7_carryOut 118 = .ok (.iconst 1, 1) := by decide +kernel
theorem dX7_carryOut_119 : decode cX7_carryOut 119 = .ok (.invokevirtual 73, 3) := by decide +kernel
theorem dX7_carryOut_122 : decode cX7_carryOut 122 = .ok (.iinc 2 1, 3) := by decide +kernel
theorem dX7_carryOut_125 : decode cX7_carryOut 125 = .ok (.goto (-57), 3) := by decide +kernel
theorem dX7_carryOut_128 : decode cX7_carryOut 128 = .ok (.aload_n 0, 1) := by decide +kernel
theorem dX7_carryOut_129 : decode cX7_carryOut 129 = .ok (.getfield 40, 3) := by decide +kernel
theorem dX7_carryOut_132 : decode cX7_carryOut 132 = .ok (.aload_n 1, 1) := by decide +kernel
theorem dX7_carryOut_133 : decode cX7_carryOut 133 = .ok (.aload_n 0, 1) := by decide +kernel
theorem dX7_carryOut_134 : decode cX7_carryOut 134 = .ok (.getfield 30, 3) := by decide +kernel
theorem dX7_carryOut_137 : decode cX7_carryOut 137 = .ok (.getfield 88, 3) := by decide +kernel
theorem dX7_carryOut_140 : decode cX7_carryOut 140 = .ok (.invokevirtual 91, 3) := by decide +kernel
theorem dX7_carryOut_143 : decode cX7_carryOut 143 = .ok (.return_, 1) := by decide +kernel
theorem dX7_copy_0 : decode cX7_copy 0 = .ok (.aload_n 0, 1) := by decide +kernel
theorem dX7_copy_1 : decode cX7_copy 1 = .ok (.getfield 14, 3) := by decide +kernel
theorem dX7_copy_4 : decode cX7_copy 4 = .ok (.aload_n 1, 1) := by decide +kernel
theorem dX7_copy_5 : decode cX7_copy 5 = .ok (.getfield 14, 3) := by decide +kernel
theorem dX7_copy_8 : decode cX7_copy 8 = .ok (.invokevirtual 94, 3) := by decide +kernel
theorem dX7_copy_11 : decode cX7_copy 11 = .ok (.aload_n 0, 1) := by decide +kernel
theorem dX7_copy_12 : decode cX7_copy 12 = .ok (.getfield 23, 3) := by decide +kernel
theorem dX7_copy_15 : decode cX7_copy 15 = .ok (.aload_n 1, 1) := by decide +kernel
theorem dX7_copy_16 : decode cX7_copy 16 = .ok (.getfield 23, 3) := by decide +kernel
theorem dX7_copy_19 : decode cX7_copy 19 = .ok (.invokevirtual 98, 3) := by decide +kernel
theorem dX7_copy_22 : decode cX7_copy 22 = .ok (.aload_n 0, 1) := by decide +kernel
theorem dX7_copy_23 : decode cX7_copy 23 = .ok (.getfield 30, 3) := by decide +kernel
theorem dX7_copy_26 : decode cX7_copy 26 = .ok (.aload_n 1, 1) := by decide +kernel
theorem dX7_copy_27 : decode cX7_copy 27 = .ok (.getfield 30, 3) := by decide +kernel
theorem dX7_copy_30 : decode cX7_copy 30 = .ok (.invokevirtual 101, 3) := by decide +kernel
theorem dX7_copy_33 : decode cX7_copy 33 = .ok (.aload_n 0, 1) := by decide +kernel
theorem dX7_copy_34 : decode cX7_copy 34 = .ok (.getfield 34, 3) := by decide +kernel
theorem dX7_copy_37 : decode cX7_copy 37 = .ok (.aload_n 1, 1) := by decide +kernel
theorem dX7_copy_38 : decode cX7_copy 38 = .ok (.getfield 34, 3) := by decide +kernel
theorem dX7_copy_41 : decode cX7_copy 41 = .ok (.invokevirtual 94, 3) := by decide +kernel
theorem dX7_copy_44 : decode cX7_copy 44 = .ok (.aload_n 0, 1) := by decide +kernel
theorem dX7_copy_45 : decode cX7_copy 45 = .ok (.getfield 40, 3) := by decide +kernel
theorem dX7_copy_48 : decode cX7_copy 48 = .ok (.aload_n 1, 1) := by decide +kernel
theorem dX7_copy_49 : decode cX7_copy 49 = .ok (.getfield 40, 3) := by decide +kernel
theorem dX7_copy_52 : decode cX7_copy 52 = .ok (.invokevirtual 104, 3) := by decide +kernel
theorem dX7_copy_55 : decode cX7_copy 55 = .ok (.return_, 1) := by decide +kernel
theorem dX8_init_0 : decode cX8_init 0 = .ok (.aload_n 0, 1) := by decide +kernel
theorem dX8_init_1 : decode cX8_init 1 = .ok (.invokespecial 3, 3) := by decide +kernel
theorem dX8_init_4 : decode cX8_init 4 = .ok (.aload_n 0, 1) := by decide +kernel
theorem dX8_init_5 : decode cX8_init 5 = .ok (.new 9, 3) := by decide +kernel
theorem dX8_init_8 : decode cX8_init 8 = .ok (.dup, 1) := by decide +kernel
theorem dX8_init_9 : decode cX8_init 9 = .ok (.bipush 60, 2) := by decide +kernel
theorem dX8_init_11 : decode cX8_init 11 = .ok (.invokespecial 11, 3) := by decide +kernel
theorem dX8_init_14 : decode cX8_init 14 = .ok (.putfield 14, 3) := by decide +kernel
theorem dX8_init_17 : decode cX8_init 17 = .ok (.return_, 1) := by decide +kernel
theorem dX8_append_0 : decode cX8_append 0 = .ok (.aload_n 0, 1) := by decide +kernel
theorem dX8_append_1 : decode cX8_append 1 = .ok (.getfield 20, 3) := by decide +kernel
theorem dX8_append_4 : decode cX8_append 4 = .ok (.bipush 60, 2) := by decide +kernel
theorem dX8_append_6 : decode cX8_append 6 = .ok (.if_icmp .lt 5, 3) := by decide +kernel
theorem dX8_append_9 : decode cX8_append 9 = .ok (.iconst 0, 1) := by decide +kernel
theorem dX8_append_10 : decode cX8_append 10 = .ok (.ireturn, 1) := by decide +kernel
theorem dX8_append_11 : decode cX8_append 11 = .ok (.aload_n 0, 1) := by decide +kernel
theorem dX8_append_12 : decode cX8_append 12 = .ok (.getfield 14, 3) := by decide +kernel
theorem dX8_append_15 : decode cX8_append 15 = .ok (.aload_n 0, 1) := by decide +kernel
theorem dX8_append_16 : decode cX8_append 16 = .ok (.getfield 20, 3) := by decide +kernel
theorem dX8_append_19 : decode cX8_append 19 = .ok (.iload_n 1, 1) := by decide +kernel
theorem dX8_append_20 : decode cX8_append 20 = .ok (.invokevirtual 24, 3) := by decide +kernel
theorem dX8_append_23 : decode cX8_append 23 = .ok (.aload_n 0, 1) := by decide +kernel
theorem dX8_append_24 : decode cX8_append 24 = .ok (.dup, 1) := by decide +kernel
theorem dX8_append_25 : decode cX8_append 25 = .ok (.getfield 20, 3) := by decide +kernel
theorem dX8_append_28 : decode cX8_append 28 = .ok (.iconst 1, 1) := by decide +kernel
theorem dX8_append_29 : decode cX8_append 29 = .ok (.iadd, 1) := by decide +kernel
theorem dX8_append_30 : decode cX8_append 30 = .ok (.putfield 20, 3) := by decide +kernel
theorem dX8_append_33 : decode cX8_append 33 = .ok (.iconst 1, 1) := by decide +kernel
theorem dX8_append_34 : decode cX8_append 34 = .ok (.ireturn, 1) := by decide +kernel
theorem dX8_empty_0 : decode cX8_empty 0 = .ok (.aload_n 0, 1) := by decide +kernel
theorem dX8_empty_1 : decode cX8_empty 1 = .ok (.getfield 20, 3) := by decide +kernel
theorem dX8_empty_4 : decode cX8_empty 4 = .ok (.istore_n 1, 1) := by decide +kernel
theorem dX8_empty_5 : decode cX8_empty 5 = .ok (.aload_n 0, 1) := by decide +kernel
theorem dX8_empty_6 : decode cX8_empty 6 = .ok (.iconst 0, 1) := by decide +kernel
theorem dX8_empty_7 : decode cX8_empty 7 = .ok (.putfield 20, 3) := by decide +kernel
theorem dX8_empty_10 : decode cX8_empty 10 = .ok (.iload_n 1, 1) := by decide +kernel
theorem dX8_empty_11 : decode cX8_empty 11 = .ok (.ireturn, 1) := by decide +kernel
theorem dX8_isDigit_0 : decode cX8_isDigit 0 = .ok (.iload_n 0, 1) := by decide +kernel
theorem dX8_isDigit_1 : decode cX8_isDigit 1 = .ok (.bipush 48, 2) := by decide +kernel
theorem dX8_isDigit_3 : decode cX8_isDigit 3 = .ok (.if_icmp .lt 13, 3) := by decide +kernel
theorem dX8_isDigit_6 : decode cX8_isDigit 6 = .ok (.iload_n 0, 1) := by decide +kernel
theorem dX8_isDigit_7 : decode cX8_isDigit 7 = .ok (.bipush 57, 2) := by decide +kernel
theorem dX8_isDigit_9 : decode cX8_isDigit 9 = .ok (.if_icmp .gt 7, 3) := by decide +kernel
theorem dX8_isDigit_12 : decode cX8_isDigit 12 = .ok (.iconst 1, 1) := by decide +kernel
theorem dX8_isDigit_13 : decode cX8_isDigit 13 = .ok (.goto 4, 3) := by decide +kernel
theorem dX8_isDigit_16 : decode cX8_isDigit 16 = .ok (.iconst 0, 1) := by decide +kernel
theorem dX8_isDigit_17 : decode cX8_isDigit 17 = .ok (.ireturn, 1) := by decide +kernel
theorem dX8_errorPlace_0 : decode cX8_errorPlace 0 = .ok (.aload_n 0, 1) := by decide +kernel
theorem dX8_errorPlace_1 : decode cX8_errorPlace 1 = .ok (.iload_n 1, 1) := by decide +kernel
theorem dX8_errorPlace_2 : decode cX8_errorPlace 2 = .ok (.invokevirtual 28, 3) := by decide +kernel
theorem dX8_errorPlace_5 : decode cX8_errorPlace 5 = .ok (.istore_n 2, 1) := by decide +kernel
theorem dX8_errorPlace_6 : decode cX8_errorPlace 6 = .ok (.iload_n 2, 1) := by decide +kernel
theorem dX8_errorPlace_7 : decode cX8_errorPlace 7 = .ok (.ifCond .lt 7, 3) := by decide +kernel
theorem dX8_errorPlace_10 : decode cX8_errorPlace 10 = .ok (.iload_n 2, 1) := by decide +kernel
theorem dX8_errorPlace_11 : decode cX8_errorPlace 11 = .ok (.goto 7, 3) := by decide +kernel
theorem dX8_errorPlace_14 : decode cX8_errorPlace 14 = .ok (.aload_n 0, 1) := by decide +kernel
theorem dX8_errorPlace_15 : decode cX8_errorPlace 15 = .ok (.invokevirtual 32, 3) := by decide +kernel
theorem dX8_errorPlace_18 : decode cX8_errorPlace 18 = .ok (.ireturn, 1) := by decide +kernel
theorem dX8_wrongSignPlace_0 : decode cX8_wrongSignPlace 0 = .ok (.iconst 0, 1) := by decide +kernel
theorem dX8_wrongSignPlace_1 : decode cX8_wrongSignPlace 1 = .ok (.istore_n 2, 1) := by decide +kernel
theorem dX8_wrongSignPlace_2 : decode cX8_wrongSignPlace 2 = .ok (.iconst 0, 1) := by decide +kernel
theorem dX8_wrongSignPlace_3 : decode cX8_wrongSignPlace 3 = .ok (.istore_n 3, 1) := by decide +kernel
theorem dX8_wrongSignPlace_4 : decode cX8_wrongSignPlace 4 = .ok (.iconst 0, 1) := by decide +kernel
theorem dX8_wrongSignPlace_5 : decode cX8_wrongSignPlace 5 = .ok (.istore 4, 2) := by decide +kernel
theorem dX8_wrongSignPlace_7 : decode cX8_wrongSignPlace 7 = .ok (.iload 4, 2) := by decide +kernel
theorem dX8_wrongSignPlace_9 : decode cX8_wrongSignPlace 9 = .ok (.aload_n 0, 1) := by decide +kernel
theorem dX8_wrongSignPlace_10 : decode cX8_wrongSignPlace 10 = .ok (.getfield 20, 3) := by decide +kernel
theorem dX8_wrongSignPlace_13 : decode cX8_wrongSignPlace 13 = .ok (.if_icmp .ge 93, 3) := by decide +kernel
theorem dX8_wrongSignPlace_16 : decode cX8_wrongSignPlace 16 = .ok (.aload_n 0, 1) := by decide +kernel
theorem dX8_wrongSignPlace_17 : decode cX8_wrongSignPlace 17 = .ok (.getfield 14, 3) := by decide +kernel
theorem dX8_wrongSignPlace_20 : decode cX8_wrongSignPlace 20 = .ok (.iload 4, 2) := by decide +kernel
theorem dX8_wrongSignPlace_22 : decode cX8_wrongSignPlace 22 = .ok (.invokevirtual 36, 3) := by decide +kernel
theorem dX8_wrongSignPlace_25 : decode cX8_wrongSignPlace 25 = .ok (.istore 5, 2) := by decide +kernel
theorem dX8_wrongSignPlace_27 : decode cX8_wrongSignPlace 27 = .ok (.iload 5, 2) := by decide +kernel
theorem dX8_wrongSignPlace_29 : decode cX8_wrongSignPlace 29 = .ok (.invokestatic 39, 3) := by decide +kernel
theorem dX8_wrongSignPlace_32 : decode cX8_wrongSignPlace 32 = .ok (.ifCond .eq 30, 3) := by decide +kernel
theorem dX8_wrongSignPlace_35 : decode cX8_wrongSignPlace 35 = .ok (.iload_n 2, 1) := by decide +kernel
theorem dX8_wrongSignPlace_36 : decode cX8_wrongSignPlace 36 = .ok (.ifCond .eq 15, 3) := by decide +kernel
theorem dX8_wrongSignPlace_39 : decode cX8_wrongSignPlace 39 = .ok (.iload 5, 2) := by decide +kernel
theorem dX8_wrongSignPlace_41 : decode cX8_wrongSignPlace 41 = .ok (.bipush 48, 2) := by decide +kernel
theorem dX8_wrongSignPlace_43 : decode cX8_wrongSignPlace 43 = .ok (.isub, 1) := by decide +kernel
theorem dX8_wrongSignPlace_44 : decode cX8_wrongSignPlace 44 = .ok (.iload_n 1, 1) := by decide +kernel
theorem dX8_wrongSignPlace_45 : decode cX8_wrongSignPlace 45 = .ok (.if_icmp .ge 17, 3) := by decide +kernel
theorem dX8_wrongSignPlace_48 : decode cX8_wrongSignPlace 48 = .ok (.goto 8, 3) := by decide +kernel
theorem dX8_wrongSignPlace_51 : decode cX8_wrongSignPlace 51 = .ok (.iload_n 3, 1) := by decide +kernel
theorem dX8_wrongSignPlace_52 : decode cX8_wrongSignPlace 52 = .ok (.iconst 3, 1) := by decide +kernel
theorem dX8_wrongSignPlace_53 : decode cX8_wrongSignPlace 53 = .ok (.if_icmp .ge 9, 3) := by decide +kernel
theorem dX8_wrongSignPlace_56 : decode cX8_wrongSignPlace 56 = .ok (.iinc 3 1, 3) := by decide +kernel
theorem dX8_wrongSignPlace_59 : decode cX8_wrongSignPlace 59 = .ok (.goto 41, 3) := by decide +kernel
theorem dX8_wrongSignPlace_62 : decode cX8_wrongSignPlace 62 = .ok (.iload 5, 2) := by decide +kernel
theorem dX8_wrongSignPlace_64 : decode cX8_wrongSignPlace 64 = .ok (.iload_n 2, 1) := by decide +kernel
theorem dX8_wrongSignPlace_65 : decode cX8_wrongSignPlace 65 = .ok (.ifCond .eq 8, 3) := by decide +kernel
theorem dX8_wrongSignPlace_68 : decode cX8_wrongSignPlace 68 = .ok (.bipush 59, 2) := by decide +kernel
theorem dX8_wrongSignPlace_70 : decode cX8_wrongSignPlace 70 = .ok (.goto 5, 3) := by decide +kernel
theorem dX8_wrongSignPlace_73 : decode cX8_wrongSignPlace 73 = .ok (.bipush 58, 2) := by decide +kernel
theorem dX8_wrongSignPlace_75 : decode cX8_wrongSignPlace 75 = .ok (.if_icmp .ne 22, 3) := by decide +kernel
theorem dX8_wrongSignPlace_78 : decode cX8_wrongSignPlace 78 = .ok (.iload_n 3, 1) := by decide +kernel
theorem dX8_wrongSignPlace_79 : decode cX8_wrongSignPlace 79 = .ok (.ifCond .le 18, 3) := by decide +kernel
theorem dX8_wrongSignPlace_82 : decode cX8_wrongSignPlace 82 = .ok (.iload_n 2, 1) := by decide +kernel
theorem dX8_wrongSignPlace_83 : decode cX8_wrongSignPlace 83 = .ok (.ifCond .ne 7, 3) := by decide +kernel
theorem dX8_wrongSignPlace_86 : decode cX8_wrongSignPlace 86 = .ok (.iconst 1, 1) := by decide +kernel
theorem dX8_wrongSignPlace_87 : decode cX8_wrongSignPlace 87 = .ok (.goto 4, 3) := by decide +kernel
theorem dX8_wrongSignPlace_90 : decode cX8_wrongSignPlace 90 = .ok (.iconst 0, 1) := by decide +kernel
theorem dX8_wrongSignPlace_91 : decode cX8_wrongSignPlace 91 = .ok (.istore_n 2, 1) := by decide +kernel
theorem dX8_wrongSignPlace_92 : decode cX8_wrongSignPlace 92 = .ok (.iconst 0, 1) := by decide +kernel
theorem dX8_wrongSignPlace_93 : decode cX8_wrongSignPlace 93 = .ok (.istore_n 3, 1) := by decide +kernel
theorem dX8_wrongSignPlace_94 : decode cX8_wrongSignPlace 94 = .ok (.goto 6, 3) := by decide +kernel
theorem dX8_wrongSignPlace_97 : decode cX8_wrongSignPlace 97 = .ok (.iload 4, 2) := by decide +kernel
theorem dX8_wrongSignPlace_99 : decode cX8_wrongSignPlace 99 = .ok (.ireturn, 1) := by decide +kernel
theorem dX8_wrongSignPlace_100 : decode cX8_wrongSignPlace 100 = .ok (.iinc 4 1, 3) := by decide +kernel
theorem dX8_wrongSignPlace_103 : decode cX8_wrongSignPlace 103 = .ok (.goto (-96), 3) := by decide +kernel
theorem dX8_wrongSignPlace_106 : decode cX8_wrongSignPlace 106 = .ok (.iload_n 2, 1) := by decide +kernel
theorem dX8_wrongSignPlace_107 : decode cX8_wrongSignPlace 107 = .ok (.ifCond .eq 11, 3) := by decide +kernel
theorem dX8_wrongSignPlace_110 : decode cX8_wrongSignPlace 110 = .ok (.iload_n 3, 1) := by decide +kernel
theorem dX8_wrongSignPlace_111 : decode cX8_wrongSignPlace 111 = .ok (.ifCond .le 7, 3) := by decide +kernel
theorem dX8_wrongSignPlace_114 : decode cX8_wrongSignPlace 114 = .ok (.iconst (-1), 1) := by decide +kernel
theorem dX8_wrongSignPlace_115 : decode cX8_wrongSignPlace 115 = .ok (.goto 7, 3) := by decide +kernel
theorem dX8_wrongSignPlace_118 : decode cX8_wrongSignPlace 118 = .ok (.aload_n 0, 1) := by decide +kernel
theorem dX8_wrongSignPlace_119 : decode cX8_wrongSignPlace 119 = .ok (.getfield 20, 3) := by decide +kernel
theorem dX8_wrongSignPlace_122 : decode cX8_wrongSignPlace 122 = .ok (.ireturn, 1) := by decide +kernel
theorem dX8_greatBlockPlace_0 : decode cX8_greatBlockPlace 0 = .ok (.iconst 0, 1) := by decide +kernel
theorem dX8_greatBlockPlace_1 : decode cX8_greatBlockPlace 1 = .ok (.istore_n 1, 1) := by decide +kernel
theorem dX8_greatBlockPlace_2 : decode cX8_greatBlockPlace 2 = .ok (.iconst 0, 1) := by decide +kernel
theorem dX8_greatBlockPlace_3 : decode cX8_greatBlockPlace 3 = .ok (.istore_n 2, 1) := by decide +kernel
theorem dX8_greatBlockPlace_4 : decode cX8_greatBlockPlace 4 = .ok (.iload_n 2, 1) := by decide +kernel
theorem dX8_greatBlockPlace_5 : decode cX8_greatBlockPlace 5 = .ok (.aload_n 0, 1) := by decide +kernel
theorem dX8_greatBlockPlace_6 : decode cX8_greatBlockPlace 6 = .ok (.getfield 20, 3) := by decide +kernel
theorem dX8_greatBlockPlace_9 : decode cX8_greatBlockPlace 9 = .ok (.if_icmp .ge 50, 3) := by decide +kernel
theorem dX8_greatBlockPlace_12 : decode cX8_greatBlockPlace 12 = .ok (.aload_n 0, 1) := by decide +kernel
theorem dX8_greatBlockPlace_13 : decode cX8_greatBlockPlace 13 = .ok (.getfield 14, 3) := by decide +kernel
theorem dX8_greatBlockPlace_16 : decode cX8_greatBlockPlace 16 = .ok (.iload_n 2, 1) := by decide +kernel
theorem dX8_greatBlockPlace_17 : decode cX8_greatBlockPlace 17 = .ok (.invokevirtual 36, 3) := by decide +kernel
theorem dX8_greatBlockPlace_20 : decode cX8_greatBlockPlace 20 = .ok (.istore_n 3, 1) := by decide +kernel
theorem dX8_greatBlockPlace_21 : decode cX8_greatBlockPlace 21 = .ok (.iload_n 3, 1) := by decide +kernel
theorem dX8_greatBlockPlace_22 : decode cX8_greatBlockPlace 22 = .ok (.bipush 59, 2) := by decide +kernel
theorem dX8_greatBlockPlace_24 : decode cX8_greatBlockPlace 24 = .ok (.if_icmp .ne 10, 3) := by decide +kernel
theorem dX8_greatBlockPlace_27 : decode cX8_greatBlockPlace 27 = .ok (.iload_n 2, 1) := by decide +kernel
theorem dX8_greatBlockPlace_28 : decode cX8_greatBlockPlace 28 = .ok (.iconst 1, 1) := by decide +kernel
theorem dX8_greatBlockPlace_29 : decode cX8_greatBlockPlace 29 = .ok (.iadd, 1) := by decide +kernel
theorem dX8_greatBlockPlace_30 : decode cX8_greatBlockPlace 30 = .ok (.istore_n 1, 1) := by decide +kernel
theorem dX8_greatBlockPlace_31 : decode cX8_greatBlockPlace 31 = .ok (.goto 22, 3) := by decide +kernel
theorem dX8_greatBlockPlace_34 : decode cX8_greatBlockPlace 34 = .ok (.iload_n 3, 1) := by decide +kernel
theorem dX8_greatBlockPlace_35 : decode cX8_greatBlockPlace 35 = .ok (.bipush 58, 2) := by decide +kernel
theorem dX8_greatBlockPlace_37 : decode cX8_greatBlockPlace 37 = .ok (.if_icmp .ne 16, 3) := by decide +kernel
theorem dX8_greatBlockPlace_40 : decode cX8_greatBlockPlace 40 = .ok (.aload_n 0, 1) := by decide +kernel
theorem dX8_greatBlockPlace_41 : decode cX8_greatBlockPlace 41 = .ok (.iload_n 1, 1) := by decide +kernel
theorem dX8_greatBlockPlace_42 : decode cX8_greatBlockPlace 42 = .ok (.invokevirtual 43, 3) := by decide +kernel
theorem dX8_greatBlockPlace_45 : decode cX8_greatBlockPlace 45 = .ok (.sipush 200, 3) := by decide +kernel
theorem dX8_greatBlockPlace_48 : decode cX8_greatBlockPlace 48 = .ok (.if_icmp .lt 5, 3) := by decide +kernel
theorem dX8_greatBlockPlace_51 : decode cX8_greatBlockPlace 51 = .ok (.iload_n 1, 1) := by decide +kernel
theorem dX8_greatBlockPlace_52 : decode cX8_greatBlockPlace 52 = .ok (.ireturn, 1) := by decide +kernel
theorem dX8_greatBlockPlace_53 : decode cX8_greatBlockPlace 53 = .ok (.iinc 2 1, 3) := by decide +kernel
theorem dX8_greatBlockPlace_56 : decode cX8_greatBlockPlace 56 = .ok (.goto (-52), 3) := by decide +kernel
theorem dX8_greatBlockPlace_59 : decode cX8_greatBlockPlace 59 = .ok (.iconst (-1), 1) := by decide +kernel
theorem dX8_greatBlockPlace_60 : decode cX8_greatBlockPlace 60 = .ok (.ireturn, 1) := by decide +kernel
theorem dX8_numberFrom_0 : decode cX8_numberFrom 0 = .ok (.iconst 0, 1) := by decide +kernel
theorem dX8_numberFrom_1 : decode cX8_numberFrom 1 = .ok (.istore_n 2, 1) := by decide +kernel
theorem dX8_numberFrom_2 : decode cX8_numberFrom 2 = .ok (.iload_n 1, 1) := by decide +kernel
theorem dX8_numberFrom_3 : decode cX8_numberFrom 3 = .ok (.istore_n 3, 1) := by decide +kernel
theorem dX8_numberFrom_4 : decode cX8_numberFrom 4 = .ok (.iload_n 3, 1) := by decide +kernel
theorem dX8_numberFrom_5 : decode cX8_numberFrom 5 = .ok (.aload_n 0, 1) := by decide +kernel
theorem dX8_numberFrom_6 : decode cX8_numberFrom 6 = .ok (.getfield 20, 3) := by decide +kernel
theorem dX8_numberFrom_9 : decode cX8_numberFrom 9 = .ok (.if_icmp .ge 40, 3) := by decide +kernel
theorem dX8_numberFrom_12 : decode cX8_numberFrom 12 = .ok (.aload_n 0, 1) := by decide +kernel
theorem dX8_numberFrom_13 : decode cX8_numberFrom 13 = .ok (.getfield 14, 3) := by decide +kernel
theorem dX8_numberFrom_16 : decode cX8_numberFrom 16 = .ok (.iload_n 3, 1) := by decide +kernel
theorem dX8_numberFrom_17 : decode cX8_numberFrom 17 = .ok (.invokevirtual 36, 3) := by decide +kernel
theorem dX8_numberFrom_20 : decode cX8_numberFrom 20 = .ok (.invokestatic 39, 3) := by decide +kernel
theorem dX8_numberFrom_23 : decode cX8_numberFrom 23 = .ok (.ifCond .eq 26, 3) := by decide +kernel
theorem dX8_numberFrom_26 : decode cX8_numberFrom 26 = .ok (.iload_n 2, 1) := by decide +kernel
theorem dX8_numberFrom_27 : decode cX8_numberFrom 27 = .ok (.bipush 10, 2) := by decide +kernel
theorem dX8_numberFrom_29 : decode cX8_numberFrom 29 = .ok (.imul, 1) := by decide +kernel
theorem dX8_numberFrom_30 : decode cX8_numberFrom 30 = .ok (.aload_n 0, 1) := by decide +kernel
theorem dX8_numberFrom_31 : decode cX8_numberFrom 31 = .ok (.getfield 14, 3) := by decide +kernel
theorem dX8_numberFrom_34 : decode cX8_numberFrom 34 = .ok (.iload_n 3, 1) := by decide +kernel
theorem dX8_numberFrom_35 : decode cX8_numberFrom 35 = .ok (.invokevirtual 36, 3) := by decide +kernel
theorem dX8_numberFrom_38 : decode cX8_numberFrom 38 = .ok (.iadd, 1) := by decide +kernel
theorem dX8_numberFrom_39 : decode cX8_numberFrom 39 = .ok (.bipush 48, 2) := by decide +kernel
theorem dX8_numberFrom_41 : decode cX8_numberFrom 41 = .ok (.isub, 1) := by decide +kernel
theorem dX8_numberFrom_42 : decode cX8_numberFrom 42 = .ok (.istore_n 2, 1) := by decide +kernel
theorem dX8_numberFrom_43 : decode cX8_numberFrom 43 = .ok (.iinc 3 1, 3) := by decide +kernel
theorem dX8_numberFrom_46 : decode cX8_numberFrom 46 = .ok (.goto (-42), 3) := by decide +kernel
theorem dX8_numberFrom_49 : decode cX8_numberFrom 49 = .ok (.iload_n 2, 1) := by decide +kernel
theorem dX8_numberFrom_50 : decode cX8_numberFrom 50 = .ok (.ireturn, 1) := by decide +kernel
theorem dX8_enterLosses_0 : decode cX8_enterLosses 0 = .ok (.iconst 0, 1) := by decide +kernel
theorem dX8_enterLosses_1 : decode cX8_enterLosses 1 = .ok (.istore_n 2, 1) := by decide +kernel
theorem dX8_enterLosses_2 : decode cX8_enterLosses 2 = .ok (.aload_n 0, 1) := by decide +kernel
theorem dX8_enterLosses_3 : decode cX8_enterLosses 3 = .ok (.iconst 0, 1) := by decide +kernel
theorem dX8_enterLosses_4 : decode cX8_enterLosses 4 = .ok (.invokevirtual 43, 3) := by decide +kernel
theorem dX8_enterLosses_7 : decode cX8_enterLosses 7 = .ok (.istore_n 3, 1) := by decide +kernel
theorem dX8_enterLosses_8 : decode cX8_enterLosses 8 = .ok (.iconst 0, 1) := by decide +kernel
theorem dX8_enterLosses_9 : decode cX8_enterLosses 9 = .ok (.istore 4, 2) := by decide +kernel
theorem dX8_enterLosses_11 : decode cX8_enterLosses 11 = .ok (.iconst 0, 1) := by decide +kernel
theorem dX8_enterLosses_12 : decode cX8_enterLosses 12 = .ok (.istore 5, 2) := by decide +kernel
theorem dX8_enterLosses_14 : decode cX8_enterLosses 14 = .ok (.iload 5, 2) := by decide +kernel
theorem dX8_enterLosses_16 : decode cX8_enterLosses 16 = .ok (.aload_n 0, 1) := by decide +kernel
theorem dX8_enterLosses_17 : decode cX8_enterLosses 17 = .ok (.getfield 20, 3) := by decide +kernel
theorem dX8_enterLosses_20 : decode cX8_enterLosses 20 = .ok (.if_icmp .ge 100, 3) := by decide +kernel
theorem dX8_enterLosses_23 : decode cX8_enterLosses 23 = .ok (.aload_n 0, 1) := by decide +kernel
theorem dX8_enterLosses_24 : decode cX8_enterLosses 24 = .ok (.getfield 14, 3) := by decide +kernel
theorem dX8_enterLosses_27 : decode cX8_enterLosses 27 = .ok (.iload 5, 2) := by decide +kernel
theorem dX8_enterLosses_29 : decode cX8_enterLosses 29 = .ok (.invokevirtual 36, 3) := by decide +kernel
theorem dX8_enterLosses_32 : decode cX8_enterLosses 32 = .ok (.istore 6, 2) := by decide +kernel
theorem dX8_enterLosses_34 : decode cX8_enterLosses 34 = .ok (.iload 6, 2) := by decide +kernel
theorem dX8_enterLosses_36 : decode cX8_enterLosses 36 = .ok (.bipush 58, 2) := by decide +kernel
theorem dX8_enterLosses_38 : decode cX8_enterLosses 38 = .ok (.if_icmp .ne 9, 3) := by decide +kernel
theorem dX8_enterLosses_41 : decode cX8_enterLosses 41 = .ok (.iconst 1, 1) := by decide +kernel
theorem dX8_enterLosses_42 : decode cX8_enterLosses 42 = .ok (.istore 4, 2) := by decide +kernel
theorem dX8_enterLosses_44 : decode cX8_enterLosses 44 = .ok (.goto 70, 3) := by decide +kernel
theorem dX8_enterLosses_47 : decode cX8_enterLosses 47 = .ok (.iload 6, 2) := by decide +kernel
theorem dX8_enterLosses_49 : decode cX8_enterLosses 49 = .ok (.bipush 59, 2) := by decide +kernel
theorem dX8_enterLosses_51 : decode cX8_enterLosses 51 = .ok (.if_icmp .ne 18, 3) := by decide +kernel
theorem dX8_enterLosses_54 : decode cX8_enterLosses 54 = .ok (.iconst 0, 1) := by decide +kernel
theorem dX8_enterLosses_55 : decode cX8_enterLosses 55 = .ok (.istore 4, 2) := by decide +kernel
theorem dX8_enterLosses_57 : decode cX8_enterLosses 57 = .ok (.aload_n 0, 1) := by decide +kernel
theorem dX8_enterLosses_58 : decode cX8_enterLosses 58 = .ok (.iload 5, 2) := by decide +kernel
theorem dX8_enterLosses_60 : decode cX8_enterLosses 60 = .ok (.iconst 1, 1) := by decide +kernel
theorem dX8_enterLosses_61 : decode cX8_enterLosses 61 = .ok (.iadd, 1) := by decide +kernel
theorem dX8_enterLosses_62 : decode cX8_enterLosses 62 = .ok (.invokevirtual 43, 3) := by decide +kernel
theorem dX8_enterLosses_65 : decode cX8_enterLosses 65 = .ok (.istore_n 3, 1) := by decide +kernel
theorem dX8_enterLosses_66 : decode cX8_enterLosses 66 = .ok (.goto 48, 3) := by decide +kernel
theorem dX8_enterLosses_69 : decode cX8_enterLosses 69 = .ok (.iload 4, 2) := by decide +kernel
theorem dX8_enterLosses_71 : decode cX8_enterLosses 71 = .ok (.ifCond .eq 43, 3) := by decide +kernel
theorem dX8_enterLosses_74 : decode cX8_enterLosses 74 = .ok (.aload_n 1, 1) := by decide +kernel
theorem dX8_enterLosses_75 : decode cX8_enterLosses 75 = .ok (.iload_n 3, 1) := by decide +kernel
theorem dX8_enterLosses_76 : decode cX8_enterLosses 76 = .ok (.invokevirtual 36, 3) := by decide +kernel
theorem dX8_enterLosses_79 : decode cX8_enterLosses 79 = .ok (.istore 7, 2) := by decide +kernel
theorem dX8_enterLosses_81 : decode cX8_enterLosses 81 = .ok (.aload_n 1, 1) := by decide +kernel
theorem dX8_enterLosses_82 : decode cX8_enterLosses 82 = .ok (.iload_n 3, 1) := by decide +kernel
theorem dX8_enterLosses_83 : decode cX8_enterLosses 83 = .ok (.iload 7, 2) := by decide +kernel
theorem dX8_enterLosses_85 : decode cX8_enterLosses 85 = .ok (.iconst 1, 1) := by decide +kernel
theorem dX8_enterLosses_86 : decode cX8_enterLosses 86 = .ok (.iload 6, 2) := by decide +kernel
theorem dX8_enterLosses_88 : decode cX8_enterLosses 88 = .ok (.bipush 48, 2) := by decide +kernel
theorem dX8_enterLosses_90 : decode cX8_enterLosses 90 = .ok (.isub, 1) := by decide +kernel
theorem dX8_enterLosses_91 : decode cX8_enterLosses 91 = .ok (.ishl, 1) := by decide +kernel
theorem dX8_enterLosses_92 : decode cX8_enterLosses 92 = .ok (.ior, 1) := by decide +kernel
theorem dX8_enterLosses_93 : decode cX8_enterLosses 93 = .ok (.invokevirtual 24, 3) := by decide +kernel
theorem dX8_enterLosses_96 : decode cX8_enterLosses 96 = .ok (.iload_n 2, 1) := by decide +kernel
theorem dX8_enterLosses_97 : decode cX8_enterLosses 97 = .ok (.aload_n 1, 1) := by decide +kernel
theorem dX8_enterLosses_98 : decode cX8_enterLosses 98 = .ok (.iload_n 3, 1) := by decide +kernel
theorem dX8_enterLosses_99 : decode cX8_enterLosses 99 = .ok (.invokevirtual 36, 3) := by decide +kernel
theorem dX8_enterLosses_102 : decode cX8_enterLosses 102 = .ok (.iload 7, 2) := by decide +kernel
theorem dX8_enterLosses_104 : decode cX8_enterLosses 104 = .ok (.if_icmp .ne 7, 3) := by decide +kernel
theorem dX8_enterLosses_107 : decode cX8_enterLosses 107 = .ok (.iconst 0, 1) := by decide +kernel
theorem dX8_enterLosses_108 : decode cX8_enterLosses 108 = .ok (.goto 4, 3) := by decide +kernel
theorem dX8_enterLosses_111 : decode cX8_enterLosses 111 = .ok (.iconst 1, 1) := by decide +kernel
theorem dX8_enterLosses_112 : decode cX8_enterLosses 112 = .ok (.iadd, 1) := by decide +kernel
theorem dX8_enterLosses_113 : decode cX8_enterLosses 113 = .ok (.istore_n 2, 1) := by decide +kernel
theorem dX8_enterLosses_114 : decode cX8_enterLosses 114 = .ok (.iinc 5 1, 3) := by decide +kernel
theorem dX8_enterLosses_117 : decode cX8_enterLosses 117 = .ok (.goto (-103), 3) := by decide +kernel
theorem dX8_enterLosses_120 : decode cX8_enterLosses 120 = .ok (.iload_n 2, 1) := by decide +kernel
theorem dX8_enterLosses_121 : decode cX8_enterLosses 121 = .ok (.ireturn, 1) := by decide +kernel
theorem dX9_init_0 : decode cX9_init 0 = .ok (.aload_n 0, 1) := by decide +kernel
theorem dX9_init_1 : decode cX9_init 1 = .ok (.invokespecial 3, 3) := by decide +kernel
theorem dX9_init_4 : decode cX9_init 4 = .ok (.aload_n 0, 1) := by decide +kernel
theorem dX9_init_5 : decode cX9_init 5 = .ok (.new 9, 3) := by decide +kernel
theorem dX9_init_8 : decode cX9_init 8 = .ok (.dup, 1) := by decide +kernel
theorem dX9_init_9 : decode cX9_init 9 = .ok (.invokespecial 11, 3) := by decide +kernel
theorem dX9_init_12 : decode cX9_init 12 = .ok (.putfield 12, 3) := by decide +kernel
theorem dX9_init_15 : decode cX9_init 15 = .ok (.aload_n 0, 1) := by decide +kernel
theorem dX9_init_16 : decode cX9_init 16 = .ok (.new 16, 3) := by decide +kernel
theorem dX9_init_19 : decode cX9_init 19 = .ok (.dup, 1) := by decide +kernel
theorem dX9_init_20 : decode cX9_init 20 = .ok (.invokespecial 18, 3) := by decide +kernel
theorem dX9_init_23 : decode cX9_init 23 = .ok (.putfield 19, 3) := by decide +kernel
theorem dX9_init_26 : decode cX9_init 26 = .ok (.aload_n 0, 1) := by decide +kernel
theorem dX9_init_27 : decode cX9_init 27 = .ok (.new 23, 3) := by decide +kernel
theorem dX9_init_30 : decode cX9_init 30 = .ok (.dup, 1) := by decide +kernel
theorem dX9_init_31 : decode cX9_init 31 = .ok (.invokespecial 25, 3) := by decide +kernel
theorem dX9_init_34 : decode cX9_init 34 = .ok (.putfield 26, 3) := by decide +kernel
theorem dX9_init_37 : decode cX9_init 37 = .ok (.aload_n 0, 1) := by decide +kernel
theorem dX9_init_38 : decode cX9_init 38 = .ok (.new 30, 3) := by decide +kernel
theorem dX9_init_41 : decode cX9_init 41 = .ok (.dup, 1) := by decide +kernel
theorem dX9_init_42 : decode cX9_init 42 = .ok (.invokespecial 32, 3) := by decide +kernel
theorem dX9_init_45 : decode cX9_init 45 = .ok (.putfield 33, 3) := by decide +kernel
theorem dX9_init_48 : decode cX9_init 48 = .ok (.aload_n 0, 1) := by decide +kernel
theorem dX9_init_49 : decode cX9_init 49 = .ok (.new 37, 3) := by decide +kernel
theorem dX9_init_52 : decode cX9_init 52 = .ok (.dup, 1) := by decide +kernel
theorem dX9_init_53 : decode cX9_init 53 = .ok (.invokespecial 39, 3) := by decide +kernel
theorem dX9_init_56 : decode cX9_init 56 = .ok (.putfield 40, 3) := by decide +kernel
theorem dX9_init_59 : decode cX9_init 59 = .ok (.return_, 1) := by decide +kernel
theorem dX9_join_0 : decode cX9_join 0 = .ok (.iload_n 1, 1) := by decide +kernel
theorem dX9_join_1 : decode cX9_join 1 = .ok (.invokestatic 44, 3) := by decide +kernel
theorem dX9_join_4 : decode cX9_join 4 = .ok (.ifCond .eq 10, 3) := by decide +kernel
theorem dX9_join_7 : decode cX9_join 7 = .ok (.iload_n 2, 1) := by decide +kernel
theorem dX9_join_8 : decode cX9_join 8 = .ok (.invokestatic 48, 3) := by decide +kernel
theorem dX9_join_11 : decode cX9_join 11 = .ok (.ifCond .ne 6, 3) := by decide +kernel
theorem dX9_join_14 : decode cX9_join 14 = .ok (.ldc 51, 2) := by decide +kernel
theorem dX9_join_16 : decode cX9_join 16 = .ok (.ireturn, 1) := by decide +kernel
theorem dX9_join_17 : decode cX9_join 17 = .ok (.aload_n 0, 1) := by decide +kernel
theorem dX9_join_18 : decode cX9_join 18 = .ok (.getfield 12, 3) := by decide +kernel
theorem dX9_join_21 : decode cX9_join 21 = .ok (.getfield 52, 3) := by decide +kernel
theorem dX9_join_24 : decode cX9_join 24 = .ok (.getfield 56, 3) := by decide +kernel
theorem dX9_join_27 : decode cX9_join 27 = .ok (.bipush 10, 2) := by decide +kernel
theorem dX9_join_29 : decode cX9_join 29 = .ok (.if_icmp .lt 6, 3) := by decide +kernel
theorem dX9_join_32 : decode cX9_join 32 = .ok (.ldc 62, 2) := by decide +kernel
theorem dX9_join_34 : decode cX9_join 34 = .ok (.ireturn, 1) := by decide +kernel
theorem dX9_join_35 : decode cX9_join 35 = .ok (.aload_n 0, 1) := by decide +kernel
theorem dX9_join_36 : decode cX9_join 36 = .ok (.getfield 19, 3) := by decide +kernel
theorem dX9_join_39 : decode cX9_join 39 = .ok (.aload_n 0, 1) := by decide +kernel
theorem dX9_join_40 : decode cX9_join 40 = .ok (.getfield 12, 3) := by decide +kernel
theorem dX9_join_43 : decode cX9_join 43 = .ok (.invokevirtual 63, 3) := by decide +kernel
theorem dX9_join_46 : decode cX9_join 46 = .ok (.aload_n 0, 1) := by decide +kernel
theorem dX9_join_47 : decode cX9_join 47 = .ok (.getfield 12, 3) := by decide +kernel
theorem dX9_join_50 : decode cX9_join 50 = .ok (.getfield 52, 3) := by decide +kernel
theorem dX9_join_53 : decode cX9_join 53 = .ok (.iload_n 1, 1) := by decide +kernel
theorem dX9_join_54 : decode cX9_join 54 = .ok (.iload_n 2, 1) := by decide +kernel
theorem dX9_join_55 : decode cX9_join 55 = .ok (.invokevirtual 67, 3) := by decide +kernel
theorem dX9_join_58 : decode cX9_join 58 = .ok (.ireturn, 1) := by decide +kernel
theorem dX9_change_0 : decode cX9_change 0 = .ok (.aload_n 0, 1) := by decide +kernel
theorem dX9_change_1 : decode cX9_change 1 = .ok (.iload_n 1, 1) := by decide +kernel
theorem dX9_change_2 : decode cX9_change 2 = .ok (.invokevirtual 71, 3) := by decide +kernel
theorem dX9_change_5 : decode cX9_change 5 = .ok (.ifCond .ne 6, 3) := by decide +kernel
theorem dX9_change_8 : decode cX9_change 8 = .ok (.ldc 51, 2) := by decide +kernel
theorem dX9_change_10 : decode cX9_change 10 = .ok (.ireturn, 1) := by decide +kernel
theorem dX9_change_11 : decode cX9_change 11 = .ok (.iload_n 2, 1) := by decide +kernel
theorem dX9_change_12 : decode cX9_change 12 = .ok (.ifCond .ne 37, 3) := by decide +kernel
theorem dX9_change_15 : decode cX9_change 15 = .ok (.iload_n 3, 1) := by decide +kernel
theorem dX9_change_16 : decode cX9_change 16 = .ok (.invokestatic 44, 3) := by decide +kernel
theorem dX9_change_19 : decode cX9_change 19 = .ok (.ifCond .eq 30, 3) := by decide +kernel
theorem dX9_change_22 : decode cX9_change 22 = .ok (.aload_n 0, 1) := by decide +kernel
theorem dX9_change_23 : decode cX9_change 23 = .ok (.getfield 19, 3) := by decide +kernel
theorem dX9_change_26 : decode cX9_change 26 = .ok (.aload_n 0, 1) := by decide +kernel
theorem dX9_change_27 : decode cX9_change 27 = .ok (.getfield 12, 3) := by decide +kernel
theorem dX9_change_30 : decode cX9_change 30 = .ok (.invokevirtual 63, 3) := by decide +kernel
theorem dX9_change_33 : decode cX9_change 33 = .ok (.aload_n 0, 1) := by decide +kernel
theorem dX9_change_34 : decode cX9_change 34 = .ok (.getfield 12, 3) := by decide +kernel
theorem dX9_change_37 : decode cX9_change 37 = .ok (.getfield 52, 3) := by decide +kernel
theorem dX9_change_40 : decode cX9_change 40 = .ok (.getfield 74, 3) := by decide +kernel
theorem dX9_change_43 : decode cX9_change 43 = .ok (.iload_n 1, 1) := by decide +kernel
theorem dX9_change_44 : decode cX9_change 44 = .ok (.iload_n 3, 1) := by decide +kernel
theorem dX9_change_45 : decode cX9_change 45 = .ok (.invokevirtual 78, 3) := by decide +kernel
theorem dX9_change_48 : decode cX9_change 48 = .ok (.ireturn, 1) := by decide +kernel
theorem dX9_change_49 : decode cX9_change 49 = .ok (.iload_n 2, 1) := by decide +kernel
theorem dX9_change_50 : decode cX9_change 50 = .ok (.iconst 1, 1) := by decide +kernel
theorem dX9_change_51 : decode cX9_change 51 = .ok (.if_icmp .ne 37, 3) := by decide +kernel
theorem dX9_change_54 : decode cX9_change 54 = .ok (.iload_n 3, 1) := by decide +kernel
theorem dX9_change_55 : decode cX9_change 55 = .ok (.invokestatic 48, 3) := by decide +kernel
theorem dX9_change_58 : decode cX9_change 58 = .ok (.ifCond .eq 30, 3) := by decide +kernel
theorem dX9_change_61 : decode cX9_change 61 = .ok (.aload_n 0, 1) := by decide +kernel
theorem dX9_change_62 : decode cX9_change 62 = .ok (.getfield 19, 3) := by decide +kernel
theorem dX9_change_65 : decode cX9_change 65 = .ok (.aload_n 0, 1) := by decide +kernel
theorem dX9_change_66 : decode cX9_change 66 = .ok (.getfield 12, 3) := by decide +kernel
theorem dX9_change_69 : decode cX9_change 69 = .ok (.invokevirtual 63, 3) := by decide +kernel
theorem dX9_change_72 : decode cX9_change 72 = .ok (.aload_n 0, 1) := by decide +kernel
theorem dX9_change_73 : decode cX9_change 73 = .ok (.getfield 12, 3) := by decide +kernel
theorem dX9_change_76 : decode cX9_change 76 = .ok (.getfield 52, 3) := by decide +kernel
theorem dX9_change_79 : decode cX9_change 79 = .ok (.getfield 83, 3) := by decide +kernel
theorem dX9_change_82 : decode cX9_change 82 = .ok (.iload_n 1, 1) := by decide +kernel
theorem dX9_change_83 : decode cX9_change 83 = .ok (.iload_n 3, 1) := by decide +kernel
theorem dX9_change_84 : decode cX9_change 84 = .ok (.invokevirtual 78, 3) := by decide +kernel
theorem dX9_change_87 : decode cX9_change 87 = .ok (.ireturn, 1) := by decide +kernel
theorem dX9_change_88 : decode cX9_change 88 = .ok (.ldc 51, 2) := by decide +kernel
theorem dX9_change_90 : decode cX9_change 90 = .ok (.ireturn, 1) := by decide +kernel
theorem dX9_live_0 : decode cX9_live 0 = .ok (.aload_n 0, 1) := by decide +kernel
theorem dX9_live_1 : decode cX9_live 1 = .ok (.iload_n 1, 1) := by decide +kernel
theorem dX9_live_2 : decode cX9_live 2 = .ok (.invokevirtual 71, 3) := by decide +kernel
theorem dX9_live_5 : decode cX9_live 5 = .ok (.ifCond .ne 6, 3) := by decide +kernel
theorem dX9_live_8 : decode cX9_live 8 = .ok (.ldc 51, 2) := by decide +kernel
theorem dX9_live_10 : decode cX9_live 10 = .ok (.ireturn, 1) := by decide +kernel
theorem dX9_live_11 : decode cX9_live 11 = .ok (.aload_n 0, 1) := by decide +kernel
theorem dX9_live_12 : decode cX9_live 12 = .ok (.getfield 19, 3) := by decide +kernel
theorem dX9_live_15 : decode cX9_live 15 = .ok (.aload_n 0, 1) := by decide +kernel
theorem dX9_live_16 : decode cX9_live 16 = .ok (.getfield 12, 3) := by decide +kernel
theorem dX9_live_19 : decode cX9_live 19 = .ok (.invokevirtual 63, 3) := by decide +kernel
theorem dX9_live_22 : decode cX9_live 22 = .ok (.aload_n 0, 1) := by decide +kernel
theorem dX9_live_23 : decode cX9_live 23 = .ok (.getfield 12, 3) := by decide +kernel
theorem dX9_live_26 : decode cX9_live 26 = .ok (.getfield 52, 3) := by decide +kernel
theorem dX9_live_29 : decode cX9_live 29 = .ok (.iload_n 1, 1) := by decide +kernel
theorem dX9_live_30 : decode cX9_live 30 = .ok (.invokevirtual 86, 3) := by decide +kernel
theorem dX9_live_33 : decode cX9_live 33 = .ok (.ifCond .eq 7, 3) := by decide +kernel
theorem dX9_live_36 : decode cX9_live 36 = .ok (.iconst 1, 1) := by decide +kernel
theorem dX9_live_37 : decode cX9_live 37 = .ok (.goto 4, 3) := by decide +kernel
theorem dX9_live_40 : decode cX9_live 40 = .ok (.iconst 0, 1) := by decide +kernel
theorem dX9_live_41 : decode cX9_live 41 = .ok (.istore_n 3, 1) := by decide +kernel
theorem dX9_live_42 : decode cX9_live 42 = .ok (.iconst 1, 1) := by decide +kernel
theorem dX9_live_43 : decode cX9_live 43 = .ok (.iload_n 1, 1) := by decide +kernel
theorem dX9_live_44 : decode cX9_live 44 = .ok (.ishl, 1) := by decide +kernel
theorem dX9_live_45 : decode cX9_live 45 = .ok (.istore 4, 2) := by decide +kernel
theorem dX9_live_47 : decode cX9_live 47 = .ok (.aload_n 0, 1) := by decide +kernel
theorem dX9_live_48 : decode cX9_live 48 = .ok (.getfield 12, 3) := by decide +kernel
theorem dX9_live_51 : decode cX9_live 51 = .ok (.getfield 52, 3) := by decide +kernel
theorem dX9_live_54 : decode cX9_live 54 = .ok (.iload_n 2, 1) := by decide +kernel
theorem dX9_live_55 : decode cX9_live 55 = .ok (.ifCond .eq 19, 3) := by decide +kernel
theorem dX9_live_58 : decode cX9_live 58 = .ok (.aload_n 0, 1) := by decide +kernel
theorem dX9_live_59 : decode cX9_live 59 = .ok (.getfield 12, 3) := by decide +kernel
theorem dX9_live_62 : decode cX9_live 62 = .ok (.getfield 52, 3) := by decide +kernel
theorem dX9_live_65 : decode cX9_live 65 = .ok (.getfield 89, 3) := by decide +kernel
theorem dX9_live_68 : decode cX9_live 68 = .ok (.iload 4, 2) := by decide +kernel
theorem dX9_live_70 : decode cX9_live 70 = .ok (.ior, 1) := by decide +kernel
theorem dX9_live_71 : decode cX9_live 71 = .ok (.goto 18, 3) := by decide +kernel
theorem dX9_live_74 : decode cX9_live 74 = .ok (.aload_n 0, 1) := by decide +kernel
theorem dX9_live_75 : decode cX9_live 75 = .ok (.getfield 12, 3) := by decide +kernel
theorem dX9_live_78 : decode cX9_live 78 = .ok (.getfield 52, 3) := by decide +kernel
theorem dX9_live_81 : decode cX9_live 81 = .ok (.getfield 89, 3) := by decide +kernel
theorem dX9_live_84 : decode cX9_live 84 = .ok (.iload 4, 2) := by decide +kernel
theorem dX9_live_86 : decode cX9_live 86 = .ok (.iconst (-1), 1) := by decide +kernel
theorem dX9_live_87 : decode cX9_live 87 = .ok (.ixor, 1) := by decide +kernel
theorem dX9_live_88 : decode cX9_live 88 = .ok (.iand, 1) := by decide +kernel
theorem dX9_live_89 : decode cX9_live 89 = .ok (.putfield 89, 3) := by decide +kernel
theorem dX9_live_92 : decode cX9_live 92 = .ok (.iload_n 3, 1) := by decide +kernel
theorem dX9_live_93 : decode cX9_live 93 = .ok (.ireturn, 1) := by decide +kernel
theorem dX9_member_0 : decode cX9_member 0 = .ok (.aload_n 0, 1) := by decide +kernel
theorem dX9_member_1 : decode cX9_member 1 = .ok (.iload_n 1, 1) := by decide +kernel
theorem dX9_member_2 : decode cX9_member 2 = .ok (.invokevirtual 71, 3) := by decide +kernel
theorem dX9_member_5 : decode cX9_member 5 = .ok (.ifCond .ne 6, 3) := by decide +kernel
theorem dX9_member_8 : decode cX9_member 8 = .ok (.ldc 51, 2) := by decide +kernel
theorem dX9_member_10 : decode cX9_member 10 = .ok (.ireturn, 1) := by decide +kernel
theorem dX9_member_11 : decode cX9_member 11 = .ok (.iload_n 2, 1) := by decide +kernel
theorem dX9_member_12 : decode cX9_member 12 = .ok (.tableswitch 183 0 8 #[52, 67, 82, 102, 117, 129, 138, 153, 168], 52) := by decide +kernel
theorem dX9_member_64 : decode cX9_member 64 = .ok (.aload_n 0, 1) := by decide +kernel
theorem dX9_member_65 : decode cX9_member 65 = .ok (.getfield 12, 3) := by decide +kernel
theorem dX9_member_68 : decode cX9_member 68 = .ok (.getfield 52, 3) := by decide +kernel
theorem dX9_member_71 : decode cX9_member 71 = .ok (.getfield 74, 3) := by decide +kernel
theorem dX9_member_74 : decode cX9_member 74 = .ok (.iload_n 1, 1) := by decide +kernel
theorem dX9_member_75 : decode cX9_member 75 = .ok (.invokevirtual 92, 3) := by decide +kernel
theorem dX9_member_78 : decode cX9_member 78 = .ok (.ireturn, 1) := by decide +kernel
theorem dX9_member_79 : decode cX9_member 79 = .ok (.aload_n 0, 1) := by decide +kernel
theorem dX9_member_80 : decode cX9_member 80 = .ok (.getfield 12, 3) := by decide +kernel
theorem dX9_member_83 : decode cX9_member 83 = .ok (.getfield 52, 3) := by decide +kernel
theorem dX9_member_86 : decode cX9_member 86 = .ok (.getfield 83, 3) := by decide +kernel
theorem dX9_member_89 : decode cX9_member 89 = .ok (.iload_n 1, 1) := by decide +kernel
theorem dX9_member_90 : decode cX9_member 90 = .ok (.invokevirtual 92, 3) := by decide +kernel
theorem dX9_member_93 : decode cX9_member 93 = .ok (.ireturn, 1) := by decide +kernel
theorem dX9_member_94 : decode cX9_member 94 = .ok (.aload_n 0, 1) := by decide +kernel
theorem dX9_member_95 : decode cX9_member 95 = .ok (.getfield 12, 3) := by decide +kernel
theorem dX9_member_98 : decode cX9_member 98 = .ok (.getfield 52, 3) := by decide +kernel
theorem dX9_member_101 : decode cX9_member 101 = .ok (.iload_n 1, 1) := by decide +kernel
theorem dX9_member_102 : decode cX9_member 102 = .ok (.invokevirtual 86, 3) := by decide +kernel
theorem dX9_member_105 : decode cX9_member 105 = .ok (.ifCond .eq 7, 3) := by decide +kernel
theorem dX9_member_108 : decode cX9_member 108 = .ok (.iconst 1, 1) := by decide +kernel
theorem dX9_member_109 : decode cX9_member 109 = .ok (.goto 4, 3) := by decide +kernel
theorem dX9_member_112 : decode cX9_member 112 = .ok (.iconst 0, 1) := by decide +kernel
theorem dX9_member_113 : decode cX9_member 113 = .ok (.ireturn, 1) := by decide +kernel
theorem dX9_member_114 : decode cX9_member 114 = .ok (.aload_n 0, 1) := by decide +kernel
theorem dX9_member_115 : decode cX9_member 115 = .ok (.getfield 12, 3) := by decide +kernel
theorem dX9_member_118 : decode cX9_member 118 = .ok (.getfield 52, 3) := by decide +kernel
theorem dX9_member_121 : decode cX9_member 121 = .ok (.getfield 96, 3) := by decide +kernel
theorem dX9_member_124 : decode cX9_member 124 = .ok (.iload_n 1, 1) := by decide +kernel
theorem dX9_member_125 : decode cX9_member 125 = .ok (.invokevirtual 92, 3) := by decide +kernel
theorem dX9_member_128 : decode cX9_member 128 = .ok (.ireturn, 1) := by decide +kernel
theorem dX9_member_129 : decode cX9_member 129 = .ok (.aload_n 0, 1) := by decide +kernel
theorem dX9_member_130 : decode cX9_member 130 = .ok (.getfield 12, 3) := by decide +kernel
theorem dX9_member_133 : decode cX9_member 133 = .ok (.getfield 99, 3) := by decide +kernel
theorem dX9_member_136 : decode cX9_member 136 = .ok (.iload_n 1, 1) := by decide +kernel
theorem dX9_member_137 : decode cX9_member 137 = .ok (.invokevirtual 102, 3) := by decide +kernel
theorem dX9_member_140 : decode cX9_member 140 = .ok (.ireturn, 1) := by decide +kernel
theorem dX9_member_141 : decode cX9_member 141 = .ok (.aload_n 0, 1) := by decide +kernel
theorem dX9_member_142 : decode cX9_member 142 = .ok (.getfield 12, 3) := by decide +kernel
theorem dX9_member_145 : decode cX9_member 145 = .ok (.iload_n 1, 1) := by decide +kernel
theorem dX9_member_146 : decode cX9_member 146 = .ok (.invokevirtual 105, 3) := by decide +kernel
theorem dX9_member_149 : decode cX9_member 149 = .ok (.ireturn, 1) := by decide +kernel
theorem dX9_member_150 : decode cX9_member 150 = .ok (.aload_n 0, 1) := by decide +kernel
theorem dX9_member_151 : decode cX9_member 151 = .ok (.getfield 12, 3) := by decide +kernel
theorem dX9_member_154 : decode cX9_member 154 = .ok (.getfield 52, 3) := by decide +kernel
theorem dX9_member_157 : decode cX9_member 157 = .ok (.getfield 108, 3) := by decide +kernel
theorem dX9_member_160 : decode cX9_member 160 = .ok (.iload_n 1, 1) := by decide +kernel
theorem dX9_member_161 : decode cX9_member 161 = .ok (.invokevirtual 92, 3) := by decide +kernel
theorem dX9_member_164 : decode cX9_member 164 = .ok (.ireturn, 1) := by decide +kernel
theorem dX9_member_165 : decode cX9_member 165 = .ok (.aload_n 0, 1) := by decide +kernel
theorem dX9_member_166 : decode cX9_member 166 = .ok (.getfield 12, 3) := by decide +kernel
theorem dX9_member_169 : decode cX9_member 169 = .ok (.getfield 52, 3) := by decide +kernel
theorem dX9_member_172 : decode cX9_member 172 = .ok (.getfield 111, 3) := by decide +kernel
theorem dX9_member_175 : decode cX9_member 175 = .ok (.iload_n 1, 1) := by decide +kernel
theorem dX9_member_176 : decode cX9_member 176 = .ok (.invokevirtual 92, 3) := by decide +kernel
theorem dX9_member_179 : decode cX9_member 179 = .ok (.ireturn, 1) := by decide +kernel
theorem dX9_member_180 : decode cX9_member 180 = .ok (.aload_n 0, 1) := by decide +kernel
theorem dX9_member_181 : decode cX9_member 181 = .ok (.getfield 12, 3) := by decide +kernel
theorem dX9_member_184 : decode cX9_member 184 = .ok (.getfield 52, 3) := by decide +kernel
theorem dX9_member_187 : decode cX9_member 187 = .ok (.getfield 114, 3) := by decide +kernel
theorem dX9_member_190 : decode cX9_member 190 = .ok (.iload_n 1, 1) := by decide +kernel
theorem dX9_member_191 : decode cX9_member 191 = .ok (.invokevirtual 92, 3) := by decide +kernel
theorem dX9_member_194 : decode cX9_member 194 = .ok (.ireturn, 1) := by decide +kernel
theorem dX9_member_195 : decode cX9_member 195 = .ok (.ldc 51, 2) := by decide +kernel
theorem dX9_member_197 : decode cX9_member 197 = .ok (.ireturn, 1) := by decide +kernel
theorem dX9_set_0 : decode cX9_set 0 = .ok (.iload_n 1, 1) := by decide +kernel
theorem dX9_set_1 : decode cX9_set 1 = .ok (.iload_n 2, 1) := by decide +kernel
theorem dX9_set_2 : decode cX9_set 2 = .ok (.invokestatic 117, 3) := by decide +kernel
theorem dX9_set_5 : decode cX9_set 5 = .ok (.ifCond .ne 6, 3) := by decide +kernel
theorem dX9_set_8 : decode cX9_set 8 = .ok (.ldc 51, 2) := by decide +kernel
theorem dX9_set_10 : decode cX9_set 10 = .ok (.ireturn, 1) := by decide +kernel
theorem dX9_set_11 : decode cX9_set 11 = .ok (.aload_n 0, 1) := by decide +kernel
theorem dX9_set_12 : decode cX9_set 12 = .ok (.getfield 19, 3) := by decide +kernel
theorem dX9_set_15 : decode cX9_set 15 = .ok (.aload_n 0, 1) := by decide +kernel
theorem dX9_set_16 : decode cX9_set 16 = .ok (.getfield 12, 3) := by decide +kernel
theorem dX9_set_19 : decode cX9_set 19 = .ok (.invokevirtual 63, 3) := by decide +kernel
theorem dX9_set_22 : decode cX9_set 22 = .ok (.aload_n 0, 1) := by decide +kernel
theorem dX9_set_23 : decode cX9_set 23 = .ok (.getfield 12, 3) := by decide +kernel
theorem dX9_set_26 : decode cX9_set 26 = .ok (.getfield 121, 3) := by decide +kernel
theorem dX9_set_29 : decode cX9_set 29 = .ok (.iload_n 1, 1) := by decide +kernel
theorem dX9_set_30 : decode cX9_set 30 = .ok (.iload_n 2, 1) := by decide +kernel
theorem dX9_set_31 : decode cX9_set 31 = .ok (.invokevirtual 78, 3) := by decide +kernel
theorem dX9_set_34 : decode cX9_set 34 = .ok (.ireturn, 1) := by decide +kernel
theorem dX9_about_0 : decode cX9_about 0 = .ok (.iload_n 1, 1) := by decide +kernel
theorem dX9_about_1 : decode cX9_about 1 = .ok (.ifCond .lt 20, 3) := by decide +kernel
theorem dX9_about_4 : decode cX9_about 4 = .ok (.iload_n 1, 1) := by decide +kernel
theorem dX9_about_5 : decode cX9_about 5 = .ok (.iconst 5, 1) := by decide +kernel
theorem dX9_about_6 : decode cX9_about 6 = .ok (.if_icmp .ge 15, 3) := by decide +kernel
theorem dX9_about_9 : decode cX9_about 9 = .ok (.aload_n 0, 1) := by decide +kernel
theorem dX9_about_10 : decode cX9_about 10 = .ok (.getfield 12, 3) := by decide +kernel
theorem dX9_about_13 : decode cX9_about 13 = .ok (.getfield 121, 3) := by decide +kernel
theorem dX9_about_16 : decode cX9_about 16 = .ok (.iload_n 1, 1) := by decide +kernel
theorem dX9_about_17 : decode cX9_about 17 = .ok (.invokevirtual 92, 3) := by decide +kernel
theorem dX9_about_20 : decode cX9_about 20 = .ok (.ireturn, 1) := by decide +kernel
theorem dX9_about_21 : decode cX9_about 21 = .ok (.iload_n 1, 1) := by decide +kernel
theorem dX9_about_22 : decode cX9_about 22 = .ok (.tableswitch 89 5 9 #[34, 45, 56, 67, 78], 34) := by decide +kernel
theorem dX9_about_56 : decode cX9_about 56 = .ok (.aload_n 0, 1) := by decide +kernel
theorem dX9_about_57 : decode cX9_about 57 = .ok (.getfield 12, 3) := by decide +kernel
theorem dX9_about_60 : decode cX9_about 60 = .ok (.getfield 52, 3) := by decide +kernel
theorem dX9_about_63 : decode cX9_about 63 = .ok (.getfield 56, 3) := by decide +kernel
theorem dX9_about_66 : decode cX9_about 66 = .ok (.ireturn, 1) := by decide +kernel
theorem dX9_about_67 : decode cX9_about 67 = .ok (.aload_n 0, 1) := by decide +kernel
theorem dX9_about_68 : decode cX9_about 68 = .ok (.getfield 12, 3) := by decide +kernel
theorem dX9_about_71 : decode cX9_about 71 = .ok (.getfield 99, 3) := by decide +kernel
theorem dX9_about_74 : decode cX9_about 74 = .ok (.getfield 124, 3) := by decide +kernel
theorem dX9_about_77 : decode cX9_about 77 = .ok (.ireturn, 1) := by decide +kernel
theorem dX9_about_78 : decode cX9_about 78 = .ok (.aload_n 0, 1) := by decide +kernel
theorem dX9_about_79 : decode cX9_about 79 = .ok (.getfield 12, 3) := by decide +kernel
theorem dX9_about_82 : decode cX9_about 82 = .ok (.getfield 127, 3) := by decide +kernel
theorem dX9_about_85 : decode cX9_about 85 = .ok (.getfield 131, 3) := by decide +kernel
theorem dX9_about_88 : decode cX9_about 88 = .ok (.ireturn, 1) := by decide +kernel
theorem dX9_about_89 : decode cX9_about 89 = .ok (.aload_n 0, 1) := by decide +kernel
theorem dX9_about_90 : decode cX9_about 90 = .ok (.getfield 12, 3) := by decide +kernel
theorem dX9_about_93 : decode cX9_about 93 = .ok (.getfield 127, 3) := by decide +kernel
theorem dX9_about_96 : decode cX9_about 96 = .ok (.getfield 136, 3) := by decide +kernel
theorem dX9_about_99 : decode cX9_about 99 = .ok (.ireturn, 1) := by decide +kernel
theorem dX9_about_100 : decode cX9_about 100 = .ok (.aload_n 0, 1) := by decide +kernel
theorem dX9_about_101 : decode cX9_about 101 = .ok (.getfield 12, 3) := by decide +kernel
theorem dX9_about_104 : decode cX9_about 104 = .ok (.getfield 127, 3) := by decide +kernel
theorem dX9_about_107 : decode cX9_about 107 = .ok (.getfield 139, 3) := by decide +kernel
theorem dX9_about_110 : decode cX9_about 110 = .ok (.ireturn, 1) := by decide +kernel
theorem dX9_about_111 : decode cX9_about 111 = .ok (.ldc 51, 2) := by decide +kernel
theorem dX9_about_113 : decode cX9_about 113 = .ok (.ireturn, 1) := by decide +kernel
theorem dX9_mix_0 : decode cX9_mix 0 = .ok (.iload_n 1, 1) := by decide +kernel
theorem dX9_mix_1 : decode cX9_mix 1 = .ok (.invokestatic 142, 3) := by decide +kernel
theorem dX9_mix_4 : decode cX9_mix 4 = .ok (.ireturn, 1) := by decide +kernel
theorem dX9_commit_0 : decode cX9_commit 0 = .ok (.aload_n 0, 1) := by decide +kernel
theorem dX9_commit_1 : decode cX9_commit 1 = .ok (.iload_n 1, 1) := by decide +kernel
theorem dX9_commit_2 : decode cX9_commit 2 = .ok (.invokevirtual 71, 3) := by decide +kernel
theorem dX9_commit_5 : decode cX9_commit 5 = .ok (.ifCond .ne 6, 3) := by decide +kernel
theorem dX9_commit_8 : decode cX9_commit 8 = .ok (.ldc 51, 2) := by decide +kernel
theorem dX9_commit_10 : decode cX9_commit 10 = .ok (.ireturn, 1) := by decide +kernel
theorem dX9_commit_11 : decode cX9_commit 11 = .ok (.aload_n 0, 1) := by decide +kernel
theorem dX9_commit_12 : decode cX9_commit 12 = .ok (.getfield 12, 3) := by decide +kernel
theorem dX9_commit_15 : decode cX9_commit 15 = .ok (.getfield 52, 3) := by decide +kernel
theorem dX9_commit_18 : decode cX9_commit 18 = .ok (.iload_n 1, 1) := by decide +kernel
theorem dX9_commit_19 : decode cX9_commit 19 = .ok (.invokevirtual 86, 3) := by decide +kernel
theorem dX9_commit_22 : decode cX9_commit 22 = .ok (.ifCond .ne 6, 3) := by decide +kernel
theorem dX9_commit_25 : decode cX9_commit 25 = .ok (.ldc 147, 2) := by decide +kernel
theorem dX9_commit_27 : decode cX9_commit 27 = .ok (.ireturn, 1) := by decide +kernel
theorem dX9_commit_28 : decode cX9_commit 28 = .ok (.aload_n 0, 1) := by decide +kernel
theorem dX9_commit_29 : decode cX9_commit 29 = .ok (.getfield 19, 3) := by decide +kernel
theorem dX9_commit_32 : decode cX9_commit 32 = .ok (.aload_n 0, 1) := by decide +kernel
theorem dX9_commit_33 : decode cX9_commit 33 = .ok (.getfield 12, 3) := by decide +kernel
theorem dX9_commit_36 : decode cX9_commit 36 = .ok (.invokevirtual 63, 3) := by decide +kernel
theorem dX9_commit_39 : decode cX9_commit 39 = .ok (.aload_n 0, 1) := by decide +kernel
theorem dX9_commit_40 : decode cX9_commit 40 = .ok (.getfield 12, 3) := by decide +kernel
theorem dX9_commit_43 : decode cX9_commit 43 = .ok (.getfield 52, 3) := by decide +kernel
theorem dX9_commit_46 : decode cX9_commit 46 = .ok (.getfield 148, 3) := by decide +kernel
theorem dX9_commit_49 : decode cX9_commit 49 = .ok (.iload_n 1, 1) := by decide +kernel
theorem dX9_commit_50 : decode cX9_commit 50 = .ok (.iload_n 2, 1) := by decide +kernel
theorem dX9_commit_51 : decode cX9_commit 51 = .ok (.invokevirtual 151, 3) := by decide +kernel
theorem dX9_commit_54 : decode cX9_commit 54 = .ok (.aload_n 0, 1) := by decide +kernel
theorem dX9_commit_55 : decode cX9_commit 55 = .ok (.getfield 12, 3) := by decide +kernel
theorem dX9_commit_58 : decode cX9_commit 58 = .ok (.getfield 52, 3) := by decide +kernel
theorem dX9_commit_61 : decode cX9_commit 61 = .ok (.getfield 114, 3) := by decide +kernel
theorem dX9_commit_64 : decode cX9_commit 64 = .ok (.iload_n 1, 1) := by decide +kernel
theorem dX9_commit_65 : decode cX9_commit 65 = .ok (.iconst 1, 1) := by decide +kernel
theorem dX9_commit_66 : decode cX9_commit 66 = .ok (.invokevirtual 78, 3) := by decide +kernel
theorem dX9_commit_69 : decode cX9_commit 69 = .ok (.istore_n 3, 1) := by decide +kernel
theorem dX9_commit_70 : decode cX9_commit 70 = .ok (.iload_n 3, 1) := by decide +kernel
theorem dX9_commit_71 : decode cX9_commit 71 = .ok (.ifCond .ne 7, 3) := by decide +kernel
theorem dX9_commit_74 : decode cX9_commit 74 = .ok (.iconst 0, 1) := by decide +kernel
theorem dX9_commit_75 : decode cX9_commit 75 = .ok (.goto 4, 3) := by decide +kernel
theorem dX9_commit_78 : decode cX9_commit 78 = .ok (.iconst 1, 1) := by decide +kernel
theorem dX9_commit_79 : decode cX9_commit 79 = .ok (.ireturn, 1) := by decide +kernel
theorem dX9_reveal_0 : decode cX9_reveal 0 = .ok (.aload_n 0, 1) := by decide +kernel
theorem dX9_reveal_1 : decode cX9_reveal 1 = .ok (.iload_n 1, 1) := by decide +kernel
theorem dX9_reveal_2 : decode cX9_reveal 2 = .ok (.invokevirtual 71, 3) := by decide +kernel
theorem dX9_reveal_5 : decode cX9_reveal 5 = .ok (.ifCond .ne 6, 3) := by decide +kernel
theorem dX9_reveal_8 : decode cX9_reveal 8 = .ok (.ldc 51, 2) := by decide +kernel
theorem dX9_reveal_10 : decode cX9_reveal 10 = .ok (.ireturn, 1) := by decide +kernel
theorem dX9_reveal_11 : decode cX9_reveal 11 = .ok (.aload_n 0, 1) := by decide +kernel
theorem dX9_reveal_12 : decode cX9_reveal 12 = .ok (.getfield 12, 3) := by decide +kernel
theorem dX9_reveal_15 : decode cX9_reveal 15 = .ok (.getfield 52, 3) := by decide +kernel
theorem dX9_reveal_18 : decode cX9_reveal 18 = .ok (.iload_n 1, 1) := by decide +kernel
theorem dX9_reveal_19 : decode cX9_reveal 19 = .ok (.invokevirtual 86, 3) := by decide +kernel
theorem dX9_reveal_22 : decode cX9_reveal 22 = .ok (.ifCond .eq 20, 3) := by decide +kernel
theorem dX9_reveal_25 : decode cX9_reveal 25 = .ok (.aload_n 0, 1) := by decide +kernel
theorem dX9_reveal_26 : decode cX9_reveal 26 = .ok (.getfield 12, 3) := by decide +kernel
theorem dX9_reveal_29 : decode cX9_reveal 29 = .ok (.getfield 52, 3) := by decide +kernel
theorem dX9_reveal_32 : decode cX9_reveal 32 = .ok (.getfield 114, 3) := by decide +kernel
theorem dX9_reveal_35 : decode cX9_reveal 35 = .ok (.iload_n 1, 1) := by decide +kernel
theorem dX9_reveal_36 : decode cX9_reveal 36 = .ok (.invokevirtual 92, 3) := by decide +kernel
theorem dX9_reveal_39 : decode cX9_reveal 39 = .ok (.ifCond .ne 6, 3) := by decide +kernel
theorem dX9_reveal_42 : decode cX9_reveal 42 = .ok (.ldc 147, 2) := by decide +kernel
theorem dX9_reveal_44 : decode cX9_reveal 44 = .ok (.ireturn, 1) := by decide +kernel
theorem dX9_reveal_45 : decode cX9_reveal 45 = .ok (.aload_n 0, 1) := by decide +kernel
theorem dX9_reveal_46 : decode cX9_reveal 46 = .ok (.getfield 19, 3) := by decide +kernel
theorem dX9_reveal_49 : decode cX9_reveal 49 = .ok (.aload_n 0, 1) := by decide +kernel
theorem dX9_reveal_50 : decode cX9_reveal 50 = .ok (.getfield 12, 3) := by decide +kernel
theorem dX9_reveal_53 : decode cX9_reveal 53 = .ok (.invokevirtual 63, 3) := by decide +kernel
theorem dX9_reveal_56 : decode cX9_reveal 56 = .ok (.iload_n 2, 1) := by decide +kernel
theorem dX9_reveal_57 : decode cX9_reveal 57 = .ok (.invokestatic 142, 3) := by decide +kernel
theorem dX9_reveal_60 : decode cX9_reveal 60 = .ok (.aload_n 0, 1) := by decide +kernel
theorem dX9_reveal_61 : decode cX9_reveal 61 = .ok (.getfield 12, 3) := by decide +kernel
theorem dX9_reveal_64 : decode cX9_reveal 64 = .ok (.getfield 52, 3) := by decide +kernel
theorem dX9_reveal_67 : decode cX9_reveal 67 = .ok (.getfield 148, 3) := by decide +kernel
theorem dX9_reveal_70 : decode cX9_reveal 70 = .ok (.iload_n 1, 1) := by decide +kernel
theorem dX9_reveal_71 : decode cX9_reveal 71 = .ok (.invokevirtual 92, 3) := by decide +kernel
theorem dX9_reveal_74 : decode cX9_reveal 74 = .ok (.if_icmp .ne 7, 3) := by decide +kernel
theorem dX9_reveal_77 : decode cX9_reveal 77 = .ok (.iconst 1, 1) := by decide +kernel
theorem dX9_reveal_78 : decode cX9_reveal 78 = .ok (.goto 4, 3) := by decide +kernel
theorem dX9_reveal_81 : decode cX9_reveal 81 = .ok (.iconst 0, 1) := by decide +kernel
theorem dX9_reveal_82 : decode cX9_reveal 82 = .ok (.istore_n 3, 1) := by decide +kernel
theorem dX9_reveal_83 : decode cX9_reveal 83 = .ok (.aload_n 0, 1) := by decide +kernel
theorem dX9_reveal_84 : decode cX9_reveal 84 = .ok (.getfield 12, 3) := by decide +kernel
theorem dX9_reveal_87 : decode cX9_reveal 87 = .ok (.getfield 52, 3) := by decide +kernel
theorem dX9_reveal_90 : decode cX9_reveal 90 = .ok (.getfield 155, 3) := by decide +kernel
theorem dX9_reveal_93 : decode cX9_reveal 93 = .ok (.iload_n 1, 1) := by decide +kernel
theorem dX9_reveal_94 : decode cX9_reveal 94 = .ok (.iload_n 2, 1) := by decide +kernel
theorem dX9_reveal_95 : decode cX9_reveal 95 = .ok (.invokevirtual 151, 3) := by decide +kernel
theorem dX9_reveal_98 : decode cX9_reveal 98 = .ok (.aload_n 0, 1) := by decide +kernel
