theorem dX5_drawWaits_98 : decode cX5_drawWaits 98 = .ok (.goto (-90), 3) := by decide +kernel
theorem dX5_drawWaits_101 : decode cX5_drawWaits 101 = .ok (.return_, 1) := by decide +kernel
theorem dX5_findWhoAsks_0 : decode cX5_findWhoAsks 0 = .ok (.aload_n 0, 1) := by decide +kernel
theorem dX5_findWhoAsks_1 : decode cX5_findWhoAsks 1 = .ok (.iconst 0, 1) := by decide +kernel
theorem dX5_findWhoAsks_2 : decode cX5_findWhoAsks 2 = .ok (.putfield 125, 3) := by decide +kernel
theorem dX5_findWhoAsks_5 : decode cX5_findWhoAsks 5 = .ok (.iconst 0, 1) := by decide +kernel
theorem dX5_findWhoAsks_6 : decode cX5_findWhoAsks 6 = .ok (.istore_n 2, 1) := by decide +kernel
theorem dX5_findWhoAsks_7 : decode cX5_findWhoAsks 7 = .ok (.iload_n 2, 1) := by decide +kernel
theorem dX5_findWhoAsks_8 : decode cX5_findWhoAsks 8 = .ok (.aload_n 1, 1) := by decide +kernel
theorem dX5_findWhoAsks_9 : decode cX5_findWhoAsks 9 = .ok (.getfield 128, 3) := by decide +kernel
theorem dX5_findWhoAsks_12 : decode cX5_findWhoAsks 12 = .ok (.if_icmp .ge 74, 3) := by decide +kernel
theorem dX5_findWhoAsks_15 : decode cX5_findWhoAsks 15 = .ok (.aload_n 0, 1) := by decide +kernel
theorem dX5_findWhoAsks_16 : decode cX5_findWhoAsks 16 = .ok (.getfield 14, 3) := by decide +kernel
theorem dX5_findWhoAsks_19 : decode cX5_findWhoAsks 19 = .ok (.iload_n 2, 1) := by decide +kernel
theorem dX5_findWhoAsks_20 : decode cX5_findWhoAsks 20 = .ok (.invokevirtual 41, 3) := by decide +kernel
theorem dX5_findWhoAsks_23 : decode cX5_findWhoAsks 23 = .ok (.aload_n 0, 1) := by decide +kernel
theorem dX5_findWhoAsks_24 : decode cX5_findWhoAsks 24 = .ok (.getfield 14, 3) := by decide +kernel
theorem dX5_findWhoAsks_27 : decode cX5_findWhoAsks 27 = .ok (.aload_n 0, 1) := by decide +kernel
theorem dX5_findWhoAsks_28 : decode cX5_findWhoAsks 28 = .ok (.getfield 112, 3) := by decide +kernel
theorem dX5_findWhoAsks_31 : decode cX5_findWhoAsks 31 = .ok (.invokevirtual 41, 3) := by decide +kernel
theorem dX5_findWhoAsks_34 : decode cX5_findWhoAsks 34 = .ok (.aload_n 1, 1) := by decide +kernel
theorem dX5_findWhoAsks_35 : decode cX5_findWhoAsks 35 = .ok (.iload_n 2, 1) := by decide +kernel
theorem dX5_findWhoAsks_36 : decode cX5_findWhoAsks 36 = .ok (.aload_n 0, 1) := by decide +kernel
theorem dX5_findWhoAsks_37 : decode cX5_findWhoAsks 37 = .ok (.getfield 112, 3) := by decide +kernel
theorem dX5_findWhoAsks_40 : decode cX5_findWhoAsks 40 = .ok (.invokevirtual 131, 3) := by decide +kernel
theorem dX5_findWhoAsks_43 : decode cX5_findWhoAsks 43 = .ok (.iadd, 1) := by decide +kernel
theorem dX5_findWhoAsks_44 : decode cX5_findWhoAsks 44 = .ok (.if_icmp .gt 7, 3) := by decide +kernel
theorem dX5_findWhoAsks_47 : decode cX5_findWhoAsks 47 = .ok (.iconst 1, 1) := by decide +kernel
theorem dX5_findWhoAsks_48 : decode cX5_findWhoAsks 48 = .ok (.goto 4, 3) := by decide +kernel
theorem dX5_findWhoAsks_51 : decode cX5_findWhoAsks 51 = .ok (.iconst 0, 1) := by decide +kernel
theorem dX5_findWhoAsks_52 : decode cX5_findWhoAsks 52 = .ok (.istore_n 3, 1) := by decide +kernel
theorem dX5_findWhoAsks_53 : decode cX5_findWhoAsks 53 = .ok (.aload_n 0, 1) := by decide +kernel
theorem dX5_findWhoAsks_54 : decode cX5_findWhoAsks 54 = .ok (.getfield 45, 3) := by decide +kernel
theorem dX5_findWhoAsks_57 : decode cX5_findWhoAsks 57 = .ok (.iload_n 2, 1) := by decide +kernel
theorem dX5_findWhoAsks_58 : decode cX5_findWhoAsks 58 = .ok (.invokestatic 103, 3) := by decide +kernel
theorem dX5_findWhoAsks_61 : decode cX5_findWhoAsks 61 = .ok (.ifCond .eq 19, 3) := by decide +kernel
theorem dX5_findWhoAsks_64 : decode cX5_findWhoAsks 64 = .ok (.iload_n 3, 1) := by decide +kernel
theorem dX5_findWhoAsks_65 : decode cX5_findWhoAsks 65 = .ok (.ifCond .eq 15, 3) := by decide +kernel
theorem dX5_findWhoAsks_68 : decode cX5_findWhoAsks 68 = .ok (.aload_n 0, 1) := by decide +kernel
theorem dX5_findWhoAsks_69 : decode cX5_findWhoAsks 69 = .ok (.dup, 1) := by decide +kernel
theorem dX5_findWhoAsks_70 : decode cX5_findWhoAsks 70 = .ok (.getfield 125, 3) := by decide +kernel
theorem dX5_findWhoAsks_73 : decode cX5_findWhoAsks 73 = .ok (.iconst 1, 1) := by decide +kernel
theorem dX5_findWhoAsks_74 : decode cX5_findWhoAsks 74 = .ok (.iload_n 2, 1) := by decide +kernel
theorem dX5_findWhoAsks_75 : decode cX5_findWhoAsks 75 = .ok (.ishl, 1) := by decide +kernel
theorem dX5_findWhoAsks_76 : decode cX5_findWhoAsks 76 = .ok (.ior, 1) := by decide +kernel
theorem dX5_findWhoAsks_77 : decode cX5_findWhoAsks 77 = .ok (.putfield 125, 3) := by decide +kernel
theorem dX5_findWhoAsks_80 : decode cX5_findWhoAsks 80 = .ok (.iinc 2 1, 3) := by decide +kernel
theorem dX5_findWhoAsks_83 : decode cX5_findWhoAsks 83 = .ok (.goto (-76), 3) := by decide +kernel
theorem dX5_findWhoAsks_86 : decode cX5_findWhoAsks 86 = .ok (.aload_n 0, 1) := by decide +kernel
theorem dX5_findWhoAsks_87 : decode cX5_findWhoAsks 87 = .ok (.aload_n 0, 1) := by decide +kernel
theorem dX5_findWhoAsks_88 : decode cX5_findWhoAsks 88 = .ok (.getfield 45, 3) := by decide +kernel
theorem dX5_findWhoAsks_91 : decode cX5_findWhoAsks 91 = .ok (.aload_n 0, 1) := by decide +kernel
theorem dX5_findWhoAsks_92 : decode cX5_findWhoAsks 92 = .ok (.getfield 125, 3) := by decide +kernel
theorem dX5_findWhoAsks_95 : decode cX5_findWhoAsks 95 = .ok (.iconst (-1), 1) := by decide +kernel
theorem dX5_findWhoAsks_96 : decode cX5_findWhoAsks 96 = .ok (.ixor, 1) := by decide +kernel
theorem dX5_findWhoAsks_97 : decode cX5_findWhoAsks 97 = .ok (.iand, 1) := by decide +kernel
theorem dX5_findWhoAsks_98 : decode cX5_findWhoAsks 98 = .ok (.putfield 134, 3) := by decide +kernel
theorem dX5_findWhoAsks_101 : decode cX5_findWhoAsks 101 = .ok (.return_, 1) := by decide +kernel
theorem dX5_reckonTimes_0 : decode cX5_reckonTimes 0 = .ok (.aload_n 0, 1) := by decide +kernel
theorem dX5_reckonTimes_1 : decode cX5_reckonTimes 1 = .ok (.aload_n 1, 1) := by decide +kernel
theorem dX5_reckonTimes_2 : decode cX5_reckonTimes 2 = .ok (.invokevirtual 137, 3) := by decide +kernel
theorem dX5_reckonTimes_5 : decode cX5_reckonTimes 5 = .ok (.iload_n 2, 1) := by decide +kernel
theorem dX5_reckonTimes_6 : decode cX5_reckonTimes 6 = .ok (.aload_n 0, 1) := by decide +kernel
theorem dX5_reckonTimes_7 : decode cX5_reckonTimes 7 = .ok (.getfield 109, 3) := by decide +kernel
theorem dX5_reckonTimes_10 : decode cX5_reckonTimes 10 = .ok (.imul, 1) := by decide +kernel
theorem dX5_reckonTimes_11 : decode cX5_reckonTimes 11 = .ok (.iadd, 1) := by decide +kernel
theorem dX5_reckonTimes_12 : decode cX5_reckonTimes 12 = .ok (.istore_n 3, 1) := by decide +kernel
theorem dX5_reckonTimes_13 : decode cX5_reckonTimes 13 = .ok (.aload_n 0, 1) := by decide +kernel
theorem dX5_reckonTimes_14 : decode cX5_reckonTimes 14 = .ok (.iconst 0, 1) := by decide +kernel
theorem dX5_reckonTimes_15 : decode cX5_reckonTimes 15 = .ok (.putfield 141, 3) := by decide +kernel
theorem dX5_reckonTimes_18 : decode cX5_reckonTimes 18 = .ok (.iconst 0, 1) := by decide +kernel
theorem dX5_reckonTimes_19 : decode cX5_reckonTimes 19 = .ok (.istore 4, 2) := by decide +kernel
theorem dX5_reckonTimes_21 : decode cX5_reckonTimes 21 = .ok (.iload 4, 2) := by decide +kernel
theorem dX5_reckonTimes_23 : decode cX5_reckonTimes 23 = .ok (.aload_n 1, 1) := by decide +kernel
theorem dX5_reckonTimes_24 : decode cX5_reckonTimes 24 = .ok (.getfield 128, 3) := by decide +kernel
theorem dX5_reckonTimes_27 : decode cX5_reckonTimes 27 = .ok (.if_icmp .ge 59, 3) := by decide +kernel
theorem dX5_reckonTimes_30 : decode cX5_reckonTimes 30 = .ok (.aload_n 0, 1) := by decide +kernel
theorem dX5_reckonTimes_31 : decode cX5_reckonTimes 31 = .ok (.getfield 45, 3) := by decide +kernel
theorem dX5_reckonTimes_34 : decode cX5_reckonTimes 34 = .ok (.iload 4, 2) := by decide +kernel
theorem dX5_reckonTimes_36 : decode cX5_reckonTimes 36 = .ok (.invokestatic 103, 3) := by decide +kernel
theorem dX5_reckonTimes_39 : decode cX5_reckonTimes 39 = .ok (.ifCond .eq 41, 3) := by decide +kernel
theorem dX5_reckonTimes_42 : decode cX5_reckonTimes 42 = .ok (.iload_n 3, 1) := by decide +kernel
theorem dX5_reckonTimes_43 : decode cX5_reckonTimes 43 = .ok (.aload_n 1, 1) := by decide +kernel
theorem dX5_reckonTimes_44 : decode cX5_reckonTimes 44 = .ok (.iload 4, 2) := by decide +kernel
theorem dX5_reckonTimes_46 : decode cX5_reckonTimes 46 = .ok (.aload_n 0, 1) := by decide +kernel
theorem dX5_reckonTimes_47 : decode cX5_reckonTimes 47 = .ok (.getfield 86, 3) := by decide +kernel
theorem dX5_reckonTimes_50 : decode cX5_reckonTimes 50 = .ok (.invokevirtual 131, 3) := by decide +kernel
theorem dX5_reckonTimes_53 : decode cX5_reckonTimes 53 = .ok (.iadd, 1) := by decide +kernel
theorem dX5_reckonTimes_54 : decode cX5_reckonTimes 54 = .ok (.istore 5, 2) := by decide +kernel
theorem dX5_reckonTimes_56 : decode cX5_reckonTimes 56 = .ok (.aload_n 0, 1) := by decide +kernel
theorem dX5_reckonTimes_57 : decode cX5_reckonTimes 57 = .ok (.getfield 20, 3) := by decide +kernel
theorem dX5_reckonTimes_60 : decode cX5_reckonTimes 60 = .ok (.iload 4, 2) := by decide +kernel
theorem dX5_reckonTimes_62 : decode cX5_reckonTimes 62 = .ok (.iload 5, 2) := by decide +kernel
theorem dX5_reckonTimes_64 : decode cX5_reckonTimes 64 = .ok (.invokevirtual 122, 3) := by decide +kernel
theorem dX5_reckonTimes_67 : decode cX5_reckonTimes 67 = .ok (.aload_n 0, 1) := by decide +kernel
theorem dX5_reckonTimes_68 : decode cX5_reckonTimes 68 = .ok (.aload_n 0, 1) := by decide +kernel
theorem dX5_reckonTimes_69 : decode cX5_reckonTimes 69 = .ok (.getfield 141, 3) := by decide +kernel
theorem dX5_reckonTimes_72 : decode cX5_reckonTimes 72 = .ok (.iload 5, 2) := by decide +kernel
theorem dX5_reckonTimes_74 : decode cX5_reckonTimes 74 = .ok (.invokestatic 144, 3) := by decide +kernel
theorem dX5_reckonTimes_77 : decode cX5_reckonTimes 77 = .ok (.putfield 141, 3) := by decide +kernel
theorem dX5_reckonTimes_80 : decode cX5_reckonTimes 80 = .ok (.iinc 4 1, 3) := by decide +kernel
theorem dX5_reckonTimes_83 : decode cX5_reckonTimes 83 = .ok (.goto (-62), 3) := by decide +kernel
theorem dX5_reckonTimes_86 : decode cX5_reckonTimes 86 = .ok (.return_, 1) := by decide +kernel
theorem dX5_timeOfHearing_0 : decode cX5_timeOfHearing 0 = .ok (.aload_n 0, 1) := by decide +kernel
theorem dX5_timeOfHearing_1 : decode cX5_timeOfHearing 1 = .ok (.getfield 14, 3) := by decide +kernel
theorem dX5_timeOfHearing_4 : decode cX5_timeOfHearing 4 = .ok (.aload_n 0, 1) := by decide +kernel
theorem dX5_timeOfHearing_5 : decode cX5_timeOfHearing 5 = .ok (.getfield 112, 3) := by decide +kernel
theorem dX5_timeOfHearing_8 : decode cX5_timeOfHearing 8 = .ok (.invokevirtual 41, 3) := by decide +kernel
theorem dX5_timeOfHearing_11 : decode cX5_timeOfHearing 11 = .ok (.aload_n 1, 1) := by decide +kernel
theorem dX5_timeOfHearing_12 : decode cX5_timeOfHearing 12 = .ok (.aload_n 0, 1) := by decide +kernel
theorem dX5_timeOfHearing_13 : decode cX5_timeOfHearing 13 = .ok (.getfield 112, 3) := by decide +kernel
theorem dX5_timeOfHearing_16 : decode cX5_timeOfHearing 16 = .ok (.aload_n 0, 1) := by decide +kernel
theorem dX5_timeOfHearing_17 : decode cX5_timeOfHearing 17 = .ok (.getfield 86, 3) := by decide +kernel
theorem dX5_timeOfHearing_20 : decode cX5_timeOfHearing 20 = .ok (.invokevirtual 131, 3) := by decide +kernel
theorem dX5_timeOfHearing_23 : decode cX5_timeOfHearing 23 = .ok (.iadd, 1) := by decide +kernel
theorem dX5_timeOfHearing_24 : decode cX5_timeOfHearing 24 = .ok (.istore_n 2, 1) := by decide +kernel
theorem dX5_timeOfHearing_25 : decode cX5_timeOfHearing 25 = .ok (.iconst 0, 1) := by decide +kernel
theorem dX5_timeOfHearing_26 : decode cX5_timeOfHearing 26 = .ok (.istore_n 3, 1) := by decide +kernel
theorem dX5_timeOfHearing_27 : decode cX5_timeOfHearing 27 = .ok (.iload_n 3, 1) := by decide +kernel
theorem dX5_timeOfHearing_28 : decode cX5_timeOfHearing 28 = .ok (.aload_n 1, 1) := by decide +kernel
theorem dX5_timeOfHearing_29 : decode cX5_timeOfHearing 29 = .ok (.getfield 128, 3) := by decide +kernel
theorem dX5_timeOfHearing_32 : decode cX5_timeOfHearing 32 = .ok (.if_icmp .ge 43, 3) := by decide +kernel
theorem dX5_timeOfHearing_35 : decode cX5_timeOfHearing 35 = .ok (.aload_n 0, 1) := by decide +kernel
theorem dX5_timeOfHearing_36 : decode cX5_timeOfHearing 36 = .ok (.getfield 125, 3) := by decide +kernel
theorem dX5_timeOfHearing_39 : decode cX5_timeOfHearing 39 = .ok (.iload_n 3, 1) := by decide +kernel
theorem dX5_timeOfHearing_40 : decode cX5_timeOfHearing 40 = .ok (.invokestatic 103, 3) := by decide +kernel
theorem dX5_timeOfHearing_43 : decode cX5_timeOfHearing 43 = .ok (.ifCond .eq 26, 3) := by decide +kernel
theorem dX5_timeOfHearing_46 : decode cX5_timeOfHearing 46 = .ok (.iload_n 2, 1) := by decide +kernel
theorem dX5_timeOfHearing_47 : decode cX5_timeOfHearing 47 = .ok (.aload_n 0, 1) := by decide +kernel
theorem dX5_timeOfHearing_48 : decode cX5_timeOfHearing 48 = .ok (.getfield 14, 3) := by decide +kernel
theorem dX5_timeOfHearing_51 : decode cX5_timeOfHearing 51 = .ok (.iload_n 3, 1) := by decide +kernel
theorem dX5_timeOfHearing_52 : decode cX5_timeOfHearing 52 = .ok (.invokevirtual 41, 3) := by decide +kernel
theorem dX5_timeOfHearing_55 : decode cX5_timeOfHearing 55 = .ok (.aload_n 1, 1) := by decide +kernel
theorem dX5_timeOfHearing_56 : decode cX5_timeOfHearing 56 = .ok (.iload_n 3, 1) := by decide +kernel
theorem dX5_timeOfHearing_57 : decode cX5_timeOfHearing 57 = .ok (.aload_n 0, 1) := by decide +kernel
theorem dX5_timeOfHearing_58 : decode cX5_timeOfHearing 58 = .ok (.getfield 86, 3) := by decide +kernel
theorem dX5_timeOfHearing_61 : decode cX5_timeOfHearing 61 = .ok (.invokevirtual 131, 3) := by decide +kernel
theorem dX5_timeOfHearing_64 : decode cX5_timeOfHearing 64 = .ok (.iadd, 1) := by decide +kernel
theorem dX5_timeOfHearing_65 : decode cX5_timeOfHearing 65 = .ok (.invokestatic 149, 3) := by decide +kernel
theorem dX5_timeOfHearing_68 : decode cX5_timeOfHearing 68 = .ok (.istore_n 2, 1) := by decide +kernel
theorem dX5_timeOfHearing_69 : decode cX5_timeOfHearing 69 = .ok (.iinc 3 1, 3) := by decide +kernel
theorem dX5_timeOfHearing_72 : decode cX5_timeOfHearing 72 = .ok (.goto (-45), 3) := by decide +kernel
theorem dX5_timeOfHearing_75 : decode cX5_timeOfHearing 75 = .ok (.iload_n 2, 1) := by decide +kernel
theorem dX5_timeOfHearing_76 : decode cX5_timeOfHearing 76 = .ok (.ireturn, 1) := by decide +kernel
theorem dX5_partOf_0 : decode cX5_partOf 0 = .ok (.iload_n 1, 1) := by decide +kernel
theorem dX5_partOf_1 : decode cX5_partOf 1 = .ok (.aload_n 0, 1) := by decide +kernel
theorem dX5_partOf_2 : decode cX5_partOf 2 = .ok (.getfield 112, 3) := by decide +kernel
theorem dX5_partOf_5 : decode cX5_partOf 5 = .ok (.if_icmp .ne 5, 3) := by decide +kernel
theorem dX5_partOf_8 : decode cX5_partOf 8 = .ok (.iconst 1, 1) := by decide +kernel
theorem dX5_partOf_9 : decode cX5_partOf 9 = .ok (.ireturn, 1) := by decide +kernel
theorem dX5_partOf_10 : decode cX5_partOf 10 = .ok (.aload_n 0, 1) := by decide +kernel
theorem dX5_partOf_11 : decode cX5_partOf 11 = .ok (.getfield 125, 3) := by decide +kernel
theorem dX5_partOf_14 : decode cX5_partOf 14 = .ok (.iload_n 1, 1) := by decide +kernel
theorem dX5_partOf_15 : decode cX5_partOf 15 = .ok (.invokestatic 103, 3) := by decide +kernel
theorem dX5_partOf_18 : decode cX5_partOf 18 = .ok (.ifCond .eq 5, 3) := by decide +kernel
theorem dX5_partOf_21 : decode cX5_partOf 21 = .ok (.iconst 2, 1) := by decide +kernel
theorem dX5_partOf_22 : decode cX5_partOf 22 = .ok (.ireturn, 1) := by decide +kernel
theorem dX5_partOf_23 : decode cX5_partOf 23 = .ok (.aload_n 0, 1) := by decide +kernel
theorem dX5_partOf_24 : decode cX5_partOf 24 = .ok (.getfield 134, 3) := by decide +kernel
theorem dX5_partOf_27 : decode cX5_partOf 27 = .ok (.iload_n 1, 1) := by decide +kernel
theorem dX5_partOf_28 : decode cX5_partOf 28 = .ok (.invokestatic 103, 3) := by decide +kernel
theorem dX5_partOf_31 : decode cX5_partOf 31 = .ok (.ifCond .eq 5, 3) := by decide +kernel
theorem dX5_partOf_34 : decode cX5_partOf 34 = .ok (.iconst 3, 1) := by decide +kernel
theorem dX5_partOf_35 : decode cX5_partOf 35 = .ok (.ireturn, 1) := by decide +kernel
theorem dX5_partOf_36 : decode cX5_partOf 36 = .ok (.iload_n 1, 1) := by decide +kernel
theorem dX5_partOf_37 : decode cX5_partOf 37 = .ok (.aload_n 0, 1) := by decide +kernel
theorem dX5_partOf_38 : decode cX5_partOf 38 = .ok (.getfield 86, 3) := by decide +kernel
theorem dX5_partOf_41 : decode cX5_partOf 41 = .ok (.if_icmp .ne 5, 3) := by decide +kernel
theorem dX5_partOf_44 : decode cX5_partOf 44 = .ok (.iconst 4, 1) := by decide +kernel
theorem dX5_partOf_45 : decode cX5_partOf 45 = .ok (.ireturn, 1) := by decide +kernel
theorem dX5_partOf_46 : decode cX5_partOf 46 = .ok (.aload_n 0, 1) := by decide +kernel
theorem dX5_partOf_47 : decode cX5_partOf 47 = .ok (.getfield 90, 3) := by decide +kernel
theorem dX5_partOf_50 : decode cX5_partOf 50 = .ok (.iload_n 1, 1) := by decide +kernel
theorem dX5_partOf_51 : decode cX5_partOf 51 = .ok (.invokestatic 103, 3) := by decide +kernel
theorem dX5_partOf_54 : decode cX5_partOf 54 = .ok (.ifCond .eq 7, 3) := by decide +kernel
theorem dX5_partOf_57 : decode cX5_partOf 57 = .ok (.iconst 5, 1) := by decide +kernel
theorem dX5_partOf_58 : decode cX5_partOf 58 = .ok (.goto 4, 3) := by decide +kernel
theorem dX5_partOf_61 : decode cX5_partOf 61 = .ok (.iconst 0, 1) := by decide +kernel
theorem dX5_partOf_62 : decode cX5_partOf 62 = .ok (.ireturn, 1) := by decide +kernel
theorem dX6_init_0 : decode cX6_init 0 = .ok (.aload_n 0, 1) := by decide +kernel
theorem dX6_init_1 : decode cX6_init 1 = .ok (.invokespecial 1, 3) := by decide +kernel
theorem dX6_init_4 : decode cX6_init 4 = .ok (.aload_n 0, 1) := by decide +kernel
theorem dX6_init_5 : decode cX6_init 5 = .ok (.iload_n 1, 1) := by decide +kernel
theorem dX6_init_6 : decode cX6_init 6 = .ok (.ifCond .le 7, 3) := by decide +kernel
theorem dX6_init_9 : decode cX6_init 9 = .ok (.iload_n 1, 1) := by decide +kernel
theorem dX6_init_10 : decode cX6_init 10 = .ok (.goto 4, 3) := by decide +kernel
theorem dX6_init_13 : decode cX6_init 13 = .ok (.iconst 0, 1) := by decide +kernel
theorem dX6_init_14 : decode cX6_init 14 = .ok (.newarray .int, 2) := by decide +kernel
theorem dX6_init_16 : decode cX6_init 16 = .ok (.putfield 7, 3) := by decide +kernel
theorem dX6_init_19 : decode cX6_init 19 = .ok (.return_, 1) := by decide +kernel
theorem dX6_at_0 : decode cX6_at 0 = .ok (.iload_n 1, 1) := by decide +kernel
theorem dX6_at_1 : decode cX6_at 1 = .ok (.ifCond .lt 21, 3) := by decide +kernel
theorem dX6_at_4 : decode cX6_at 4 = .ok (.iload_n 1, 1) := by decide +kernel
theorem dX6_at_5 : decode cX6_at 5 = .ok (.aload_n 0, 1) := by decide +kernel
theorem dX6_at_6 : decode cX6_at 6 = .ok (.getfield 7, 3) := by decide +kernel
theorem dX6_at_9 : decode cX6_at 9 = .ok (.arraylength, 1) := by decide +kernel
theorem dX6_at_10 : decode cX6_at 10 = .ok (.if_icmp .ge 12, 3) := by decide +kernel
theorem dX6_at_13 : decode cX6_at 13 = .ok (.aload_n 0, 1) := by decide +kernel
theorem dX6_at_14 : decode cX6_at 14 = .ok (.getfield 7, 3) := by decide +kernel
theorem dX6_at_17 : decode cX6_at 17 = .ok (.iload_n 1, 1) := by decide +kernel
theorem dX6_at_18 : decode cX6_at 18 = .ok (.iaload, 1) := by decide +kernel
theorem dX6_at_19 : decode cX6_at 19 = .ok (.goto 4, 3) := by decide +kernel
theorem dX6_at_22 : decode cX6_at 22 = .ok (.iconst 0, 1) := by decide +kernel
theorem dX6_at_23 : decode cX6_at 23 = .ok (.ireturn, 1) := by decide +kernel
theorem dX6_put_0 : decode cX6_put 0 = .ok (.iload_n 1, 1) := by decide +kernel
theorem dX6_put_1 : decode cX6_put 1 = .ok (.ifCond .lt 19, 3) := by decide +kernel
theorem dX6_put_4 : decode cX6_put 4 = .ok (.iload_n 1, 1) := by decide +kernel
theorem dX6_put_5 : decode cX6_put 5 = .ok (.aload_n 0, 1) := by decide +kernel
theorem dX6_put_6 : decode cX6_put 6 = .ok (.getfield 7, 3) := by decide +kernel
theorem dX6_put_9 : decode cX6_put 9 = .ok (.arraylength, 1) := by decide +kernel
theorem dX6_put_10 : decode cX6_put 10 = .ok (.if_icmp .ge 10, 3) := by decide +kernel
theorem dX6_put_13 : decode cX6_put 13 = .ok (.aload_n 0, 1) := by decide +kernel
theorem dX6_put_14 : decode cX6_put 14 = .ok (.getfield 7, 3) := by decide +kernel
theorem dX6_put_17 : decode cX6_put 17 = .ok (.iload_n 1, 1) := by decide +kernel
theorem dX6_put_18 : decode cX6_put 18 = .ok (.iload_n 2, 1) := by decide +kernel
theorem dX6_put_19 : decode cX6_put 19 = .ok (.iastore, 1) := by decide +kernel
theorem dX6_put_20 : decode cX6_put 20 = .ok (.return_, 1) := by decide +kernel
theorem dX6_add_0 : decode cX6_add 0 = .ok (.aload_n 0, 1) := by decide +kernel
theorem dX6_add_1 : decode cX6_add 1 = .ok (.iload_n 1, 1) := by decide +kernel
theorem dX6_add_2 : decode cX6_add 2 = .ok (.aload_n 0, 1) := by decide +kernel
theorem dX6_add_3 : decode cX6_add 3 = .ok (.iload_n 1, 1) := by decide +kernel
theorem dX6_add_4 : decode cX6_add 4 = .ok (.invokevirtual 13, 3) := by decide +kernel
theorem dX6_add_7 : decode cX6_add 7 = .ok (.iload_n 2, 1) := by decide +kernel
theorem dX6_add_8 : decode cX6_add 8 = .ok (.iadd, 1) := by decide +kernel
theorem dX6_add_9 : decode cX6_add 9 = .ok (.invokevirtual 17, 3) := by decide +kernel
theorem dX6_add_12 : decode cX6_add 12 = .ok (.return_, 1) := by decide +kernel
theorem dX6_swap_0 : decode cX6_swap 0 = .ok (.aload_n 0, 1) := by decide +kernel
theorem dX6_swap_1 : decode cX6_swap 1 = .ok (.iload_n 1, 1) := by decide +kernel
theorem dX6_swap_2 : decode cX6_swap 2 = .ok (.invokevirtual 13, 3) := by decide +kernel
theorem dX6_swap_5 : decode cX6_swap 5 = .ok (.istore_n 3, 1) := by decide +kernel
theorem dX6_swap_6 : decode cX6_swap 6 = .ok (.aload_n 0, 1) := by decide +kernel
theorem dX6_swap_7 : decode cX6_swap 7 = .ok (.iload_n 1, 1) := by decide +kernel
theorem dX6_swap_8 : decode cX6_swap 8 = .ok (.iload_n 2, 1) := by decide +kernel
theorem dX6_swap_9 : decode cX6_swap 9 = .ok (.invokevirtual 17, 3) := by decide +kernel
theorem dX6_swap_12 : decode cX6_swap 12 = .ok (.iload_n 3, 1) := by decide +kernel
theorem dX6_swap_13 : decode cX6_swap 13 = .ok (.ireturn, 1) := by decide +kernel
theorem dX6_copy_0 : decode cX6_copy 0 = .ok (.aload_n 0, 1) := by decide +kernel
theorem dX6_copy_1 : decode cX6_copy 1 = .ok (.getfield 7, 3) := by decide +kernel
theorem dX6_copy_4 : decode cX6_copy 4 = .ok (.arraylength, 1) := by decide +kernel
theorem dX6_copy_5 : decode cX6_copy 5 = .ok (.aload_n 1, 1) := by decide +kernel
theorem dX6_copy_6 : decode cX6_copy 6 = .ok (.getfield 7, 3) := by decide +kernel
theorem dX6_copy_9 : decode cX6_copy 9 = .ok (.arraylength, 1) := by decide +kernel
theorem dX6_copy_10 : decode cX6_copy 10 = .ok (.invokestatic 21, 3) := by decide +kernel
theorem dX6_copy_13 : decode cX6_copy 13 = .ok (.istore_n 2, 1) := by decide +kernel
theorem dX6_copy_14 : decode cX6_copy 14 = .ok (.aload_n 1, 1) := by decide +kernel
theorem dX6_copy_15 : decode cX6_copy 15 = .ok (.getfield 7, 3) := by decide +kernel
theorem dX6_copy_18 : decode cX6_copy 18 = .ok (.iconst 0, 1) := by decide +kernel
theorem dX6_copy_19 : decode cX6_copy 19 = .ok (.aload_n 0, 1) := by decide +kernel
theorem dX6_copy_20 : decode cX6_copy 20 = .ok (.getfield 7, 3) := by decide +kernel
theorem dX6_copy_23 : decode cX6_copy 23 = .ok (.iconst 0, 1) := by decide +kernel
theorem dX6_copy_24 : decode cX6_copy 24 = .ok (.iload_n 2, 1) := by decide +kernel
theorem dX6_copy_25 : decode cX6_copy 25 = .ok (.invokestatic 27, 3) := by decide +kernel
theorem dX6_copy_28 : decode cX6_copy 28 = .ok (.return_, 1) := by decide +kernel
theorem dX7_init_0 : decode cX7_init 0 = .ok (.aload_n 0, 1) := by decide +kernel
theorem dX7_init_1 : decode cX7_init 1 = .ok (.invokespecial 3, 3) := by decide +kernel
theorem dX7_init_4 : decode cX7_init 4 = .ok (.aload_n 0, 1) := by decide +kernel
theorem dX7_init_5 : decode cX7_init 5 = .ok (.new 9, 3) := by decide +kernel
theorem dX7_init_8 : decode cX7_init 8 = .ok (.dup, 1) := by decide +kernel
theorem dX7_init_9 : decode cX7_init 9 = .ok (.iconst 5, 1) := by decide +kernel
theorem dX7_init_10 : decode cX7_init 10 = .ok (.invokespecial 11, 3) := by decide +kernel
theorem dX7_init_13 : decode cX7_init 13 = .ok (.putfield 14, 3) := by decide +kernel
theorem dX7_init_16 : decode cX7_init 16 = .ok (.aload_n 0, 1) := by decide +kernel
theorem dX7_init_17 : decode cX7_init 17 = .ok (.new 20, 3) := by decide +kernel
theorem dX7_init_20 : decode cX7_init 20 = .ok (.dup, 1) := by decide +kernel
theorem dX7_init_21 : decode cX7_init 21 = .ok (.invokespecial 22, 3) := by decide +kernel
theorem dX7_init_24 : decode cX7_init 24 = .ok (.putfield 23, 3) := by decide +kernel
theorem dX7_init_27 : decode cX7_init 27 = .ok (.aload_n 0, 1) := by decide +kernel
theorem dX7_init_28 : decode cX7_init 28 = .ok (.new 27, 3) := by decide +kernel
theorem dX7_init_31 : decode cX7_init 31 = .ok (.dup, 1) := by decide +kernel
theorem dX7_init_32 : decode cX7_init 32 = .ok (.invokespecial 29, 3) := by decide +kernel
theorem dX7_init_35 : decode cX7_init 35 = .ok (.putfield 30, 3) := by decide +kernel
theorem dX7_init_38 : decode cX7_init 38 = .ok (.aload_n 0, 1) := by decide +kernel
theorem dX7_init_39 : decode cX7_init 39 = .ok (.new 9, 3) := by decide +kernel
theorem dX7_init_42 : decode cX7_init 42 = .ok (.dup, 1) := by decide +kernel
theorem dX7_init_43 : decode cX7_init 43 = .ok (.sipush 200, 3) := by decide +kernel
theorem dX7_init_46 : decode cX7_init 46 = .ok (.invokespecial 11, 3) := by decide +kernel
theorem dX7_init_49 : decode cX7_init 49 = .ok (.putfield 34, 3) := by decide +kernel
theorem dX7_init_52 : decode cX7_init 52 = .ok (.aload_n 0, 1) := by decide +kernel
theorem dX7_init_53 : decode cX7_init 53 = .ok (.new 37, 3) := by decide +kernel
theorem dX7_init_56 : decode cX7_init 56 = .ok (.dup, 1) := by decide +kernel
theorem dX7_init_57 : decode cX7_init 57 = .ok (.invokespecial 39, 3) := by decide +kernel
theorem dX7_init_60 : decode cX7_init 60 = .ok (.putfield 40, 3) := by decide +kernel
theorem dX7_init_63 : decode cX7_init 63 = .ok (.aload_n 0, 1) := by decide +kernel
theorem dX7_init_64 : decode cX7_init 64 = .ok (.getfield 14, 3) := by decide +kernel
theorem dX7_init_67 : decode cX7_init 67 = .ok (.iconst 0, 1) := by decide +kernel
theorem dX7_init_68 : decode cX7_init 68 = .ok (.bipush 100, 2) := by decide +kernel
theorem dX7_init_70 : decode cX7_init 70 = .ok (.invokevirtual 44, 3) := by decide +kernel
theorem dX7_init_73 : decode cX7_init 73 = .ok (.aload_n 0, 1) := by decide +kernel
theorem dX7_init_74 : decode cX7_init 74 = .ok (.getfield 14, 3) := by decide +kernel
theorem dX7_init_77 : decode cX7_init 77 = .ok (.iconst 1, 1) := by decide +kernel
theorem dX7_init_78 : decode cX7_init 78 = .ok (.bipush 50, 2) := by decide +kernel
theorem dX7_init_80 : decode cX7_init 80 = .ok (.invokevirtual 44, 3) := by decide +kernel
theorem dX7_init_83 : decode cX7_init 83 = .ok (.aload_n 0, 1) := by decide +kernel
theorem dX7_init_84 : decode cX7_init 84 = .ok (.getfield 14, 3) := by decide +kernel
theorem dX7_init_87 : decode cX7_init 87 = .ok (.iconst 2, 1) := by decide +kernel
theorem dX7_init_88 : decode cX7_init 88 = .ok (.iconst 2, 1) := by decide +kernel
theorem dX7_init_89 : decode cX7_init 89 = .ok (.invokevirtual 44, 3) := by decide +kernel
theorem dX7_init_92 : decode cX7_init 92 = .ok (.aload_n 0, 1) := by decide +kernel
theorem dX7_init_93 : decode cX7_init 93 = .ok (.getfield 14, 3) := by decide +kernel
theorem dX7_init_96 : decode cX7_init 96 = .ok (.iconst 3, 1) := by decide +kernel
theorem dX7_init_97 : decode cX7_init 97 = .ok (.iconst 5, 1) := by decide +kernel
theorem dX7_init_98 : decode cX7_init 98 = .ok (.invokevirtual 44, 3) := by decide +kernel
theorem dX7_init_101 : decode cX7_init 101 = .ok (.aload_n 0, 1) := by decide +kernel
theorem dX7_init_102 : decode cX7_init 102 = .ok (.getfield 14, 3) := by decide +kernel
theorem dX7_init_105 : decode cX7_init 105 = .ok (.iconst 4, 1) := by decide +kernel
theorem dX7_init_106 : decode cX7_init 106 = .ok (.iconst 3, 1) := by decide +kernel
theorem dX7_init_107 : decode cX7_init 107 = .ok (.invokevirtual 44, 3) := by decide +kernel
theorem dX7_init_110 : decode cX7_init 110 = .ok (.return_, 1) := by decide +kernel
theorem dX7_blocksLostBy_0 : decode cX7_blocksLostBy 0 = .ok (.iconst 0, 1) := by decide +kernel
theorem dX7_blocksLostBy_1 : decode cX7_blocksLostBy 1 = .ok (.istore_n 2, 1) := by decide +kernel
theorem dX7_blocksLostBy_2 : decode cX7_blocksLostBy 2 = .ok (.iconst 0, 1) := by decide +kernel
theorem dX7_blocksLostBy_3 : decode cX7_blocksLostBy 3 = .ok (.istore_n 3, 1) := by decide +kernel
theorem dX7_blocksLostBy_4 : decode cX7_blocksLostBy 4 = .ok (.iload_n 3, 1) := by decide +kernel
theorem dX7_blocksLostBy_5 : decode cX7_blocksLostBy 5 = .ok (.sipush 200, 3) := by decide +kernel
theorem dX7_blocksLostBy_8 : decode cX7_blocksLostBy 8 = .ok (.if_icmp .ge 32, 3) := by decide +kernel
theorem dX7_blocksLostBy_11 : decode cX7_blocksLostBy 11 = .ok (.iload_n 2, 1) := by decide +kernel
theorem dX7_blocksLostBy_12 : decode cX7_blocksLostBy 12 = .ok (.aload_n 0, 1) := by decide +kernel
theorem dX7_blocksLostBy_13 : decode cX7_blocksLostBy 13 = .ok (.getfield 34, 3) := by decide +kernel
theorem dX7_blocksLostBy_16 : decode cX7_blocksLostBy 16 = .ok (.iload_n 3, 1) := by decide +kernel
theorem dX7_blocksLostBy_17 : decode cX7_blocksLostBy 17 = .ok (.invokevirtual 48, 3) := by decide +kernel
theorem dX7_blocksLostBy_20 : decode cX7_blocksLostBy 20 = .ok (.iload_n 1, 1) := by decide +kernel
theorem dX7_blocksLostBy_21 : decode cX7_blocksLostBy 21 = .ok (.invokestatic 52, 3) := by decide +kernel
theorem dX7_blocksLostBy_24 : decode cX7_blocksLostBy 24 = .ok (.ifCond .eq 7, 3) := by decide +kernel
theorem dX7_blocksLostBy_27 : decode cX7_blocksLostBy 27 = .ok (.iconst 1, 1) := by decide +kernel
theorem dX7_blocksLostBy_28 : decode cX7_blocksLostBy 28 = .ok (.goto 4, 3) := by decide +kernel
theorem dX7_blocksLostBy_31 : decode cX7_blocksLostBy 31 = .ok (.iconst 0, 1) := by decide +kernel
theorem dX7_blocksLostBy_32 : decode cX7_blocksLostBy 32 = .ok (.iadd, 1) := by decide +kernel
theorem dX7_blocksLostBy_33 : decode cX7_blocksLostBy 33 = .ok (.istore_n 2, 1) := by decide +kernel
theorem dX7_blocksLostBy_34 : decode cX7_blocksLostBy 34 = .ok (.iinc 3 1, 3) := by decide +kernel
theorem dX7_blocksLostBy_37 : decode cX7_blocksLostBy 37 = .ok (.goto (-33), 3) := by decide +kernel
theorem dX7_blocksLostBy_40 : decode cX7_blocksLostBy 40 = .ok (.iload_n 2, 1) := by decide +kernel
theorem dX7_blocksLostBy_41 : decode cX7_blocksLostBy 41 = .ok (.ireturn, 1) := by decide +kernel
theorem dX7_carryOut_0 : decode cX7_carryOut 0 = .ok (.aload_n 0, 1) := by decide +kernel
theorem dX7_carryOut_1 : decode cX7_carryOut 1 = .ok (.getfield 34, 3) := by decide +kernel
theorem dX7_carryOut_4 : decode cX7_carryOut 4 = .ok (.aload_n 1, 1) := by decide +kernel
theorem dX7_carryOut_5 : decode cX7_carryOut 5 = .ok (.getfield 58, 3) := by decide +kernel
theorem dX7_carryOut_8 : decode cX7_carryOut 8 = .ok (.aload_n 0, 1) := by decide +kernel
theorem dX7_carryOut_9 : decode cX7_carryOut 9 = .ok (.getfield 34, 3) := by decide +kernel
theorem dX7_carryOut_12 : decode cX7_carryOut 12 = .ok (.aload_n 1, 1) := by decide +kernel
theorem dX7_carryOut_13 : decode cX7_carryOut 13 = .ok (.getfield 58, 3) := by decide +kernel
theorem dX7_carryOut_16 : decode cX7_carryOut 16 = .ok (.invokevirtual 48, 3) := by decide +kernel
theorem dX7_carryOut_19 : decode cX7_carryOut 19 = .ok (.aload_n 1, 1) := by decide +kernel
theorem dX7_carryOut_20 : decode cX7_carryOut 20 = .ok (.getfield 64, 3) := by decide +kernel
theorem dX7_carryOut_23 : decode cX7_carryOut 23 = .ok (.iconst (-1), 1) := by decide +kernel
theorem dX7_carryOut_24 : decode cX7_carryOut 24 = .ok (.ixor, 1) := by decide +kernel
theorem dX7_carryOut_25 : decode cX7_carryOut 25 = .ok (.iand, 1) := by decide +kernel
theorem dX7_carryOut_26 : decode cX7_carryOut 26 = .ok (.invokevirtual 44, 3) := by decide +kernel
theorem dX7_carryOut_29 : decode cX7_carryOut 29 = .ok (.aload_n 0, 1) := by decide +kernel
theorem dX7_carryOut_30 : decode cX7_carryOut 30 = .ok (.getfield 23, 3) := by decide +kernel
theorem dX7_carryOut_33 : decode cX7_carryOut 33 = .ok (.getfield 67, 3) := by decide +kernel
theorem dX7_carryOut_36 : decode cX7_carryOut 36 = .ok (.aload_n 1, 1) := by decide +kernel
theorem dX7_carryOut_37 : decode cX7_carryOut 37 = .ok (.getfield 70, 3) := by decide +kernel
theorem dX7_carryOut_40 : decode cX7_carryOut 40 = .ok (.aload_n 0, 1) := by decide +kernel
theorem dX7_carryOut_41 : decode cX7_carryOut 41 = .ok (.getfield 14, 3) := by decide +kernel
theorem dX7_carryOut_44 : decode cX7_carryOut 44 = .ok (.iconst 3, 1) := by decide +kernel
theorem dX7_carryOut_45 : decode cX7_carryOut 45 = .ok (.invokevirtual 48, 3) := by decide +kernel
theorem dX7_carryOut_48 : decode cX7_carryOut 48 = .ok (.invokevirtual 73, 3) := by decide +kernel
theorem dX7_carryOut_51 : decode cX7_carryOut 51 = .ok (.aload_n 0, 1) := by decide +kernel
theorem dX7_carryOut_52 : decode cX7_carryOut 52 = .ok (.getfield 23, 3) := by decide +kernel
theorem dX7_carryOut_55 : decode cX7_carryOut 55 = .ok (.getfield 76, 3) := by decide +kernel
theorem dX7_carryOut_58 : decode cX7_carryOut 58 = .ok (.aload_n 1, 1) := by decide +kernel
theorem dX7_carryOut_59 : decode cX7_carryOut 59 = .ok (.getfield 70, 3) := by decide +kernel
theorem dX7_carryOut_62 : decode cX7_carryOut 62 = .ok (.iconst 1, 1) := by decide +kernel
theorem dX7_carryOut_63 : decode cX7_carryOut 63 = .ok (.invokevirtual 73, 3) := by decide +kernel
theorem dX7_carryOut_66 : decode cX7_carryOut 66 = .ok (.iconst 0, 1) := by decide +kernel
theorem dX7_carryOut_67 : decode cX7_carryOut 67 = .ok (.istore_n 2, 1) := by decide +kernel
theorem dX7_carryOut_68 : decode cX7_carryOut 68 = .ok (.iload_n 2, 1) := by decide +kernel
theorem dX7_carryOut_69 : decode cX7_carryOut 69 = .ok (.aload_n 0, 1) := by decide +kernel
theorem dX7_carryOut_70 : decode cX7_carryOut 70 = .ok (.getfield 23, 3) := by decide +kernel
theorem dX7_carryOut_73 : decode cX7_carryOut 73 = .ok (.getfield 79, 3) := by decide +kernel
theorem dX7_carryOut_76 : decode cX7_carryOut 76 = .ok (.if_icmp .ge 52, 3) := by decide +kernel
theorem dX7_carryOut_79 : decode cX7_carryOut 79 = .ok (.aload_n 1, 1) := by decide +kernel
theorem dX7_carryOut_80 : decode cX7_carryOut 80 = .ok (.getfield 82, 3) := by decide +kernel
theorem dX7_carryOut_83 : decode cX7_carryOut 83 = .ok (.iload_n 2, 1) := by decide +kernel
theorem dX7_carryOut_84 : decode cX7_carryOut 84 = .ok (.invokestatic 52, 3) := by decide +kernel
theorem dX7_carryOut_87 : decode cX7_carryOut 87 = .ok (.ifCond .eq 35, 3) := by decide +kernel
theorem dX7_carryOut_90 : decode cX7_carryOut 90 = .ok (.aload_n 0, 1) := by decide +kernel
theorem dX7_carryOut_91 : decode cX7_carryOut 91 = .ok (.getfield 23, 3) := by decide +kernel
theorem dX7_carryOut_94 : decode cX7_carryOut 94 = .ok (.getfield 67, 3) := by decide +kernel
theorem dX7_carryOut_97 : decode cX7_carryOut 97 = .ok (.iload_n 2, 1) := by decide +kernel
theorem dX7_carryOut_98 : decode cX7_carryOut 98 = .ok (.aload_n 0, 1) := by decide +kernel
theorem dX7_carryOut_99 : decode cX7_carryOut 99 = .ok (.getfield 14, 3) := by decide +kernel
theorem dX7_carryOut_102 : decode cX7_carryOut 102 = .ok (.iconst 4, 1) := by decide +kernel
theorem dX7_carryOut_103 : decode cX7_carryOut 103 = .ok (.invokevirtual 48, 3) := by decide +kernel
theorem dX7_carryOut_106 : decode cX7_carryOut 106 = .ok (.ineg, 1) := by decide +kernel
theorem dX7_carryOut_107 : decode cX7_carryOut 107 = .ok (.invokevirtual 73, 3) := by decide +kernel
theorem dX7_carryOut_110 : decode cX7_carryOut 110 = .ok (.aload_n 0, 1) := by decide +kernel
theorem dX7_carryOut_111 : decode cX7_carryOut 111 = .ok (.getfield 23, 3) := by decide +kernel
theorem dX7_carryOut_114 : decode cX7_carryOut 114 = .ok (.getfield 85, 3) := by decide +kernel
theorem dX7_carryOut_117 : decode cX7_carryOut 117 = .ok (.iload_n 2, 1) := by decide +kernel
theorem dX7_carryOut_118 : decode cX7_carryOut 118 = .ok (.iconst 1, 1) := by decide +kernel
theorem dX7_carryOut_119 : decode cX7_carryOut 119 = .ok (.invokevirtual 73, 3) := by decide +kernel
theorem dX7_carryOut_122 : decode cX7_carryOut 122 = .ok (.iinc 2 1, 3) := by decide +kernel
theorem dX7_carryOut_125 : decode cX7_carryOut 125 = .ok (.goto (-57), 3) := by decide +kernel
theorem dX7_carryOut_128 : decode cX7_carryOut 128 = .ok (.aload_n 0, 1) := by decide +kernel
theorem dX7_carryOut_129 : decode cX7_carryOut 129 = .ok (.getfield 40, 3) := by decide +kernel
theorem dX7_carryOut_132 : decode cX7_carryOut 132 = .ok (.aload_n 1, 1) := by decide +kernel
theorem dX7_carryOut_133 : decode cX7_carryOut 133 = .ok (.aload_n 0, 1) := by decide +kernel
theorem dX7_carryOut_134 : decode cX7_carryOut 134 = .ok (.getfield 30, 3) := by decide +kernel
theorem dX7_carryOut_137 : decode cX7_carryOut 137 = .ok (.getfield 88, 3) := by decide +kernel
theorem dX7_carryOut_140 : decode cX7_carryOut 140 = .ok (.invokevirtual 91, 3) := by decide +kernel
theorem dX7_carryOut_143 : decode cX7_carryOut 143 = .ok (.return_, 1) := by decide +kernel
theorem dX7_copy_0 : decode cX7_copy 0 = .ok (.aload_n 0, 1) := by decide +kernel
theorem dX7_copy_1 : decode cX7_copy 1 = .ok (.getfield 14, 3) := by decide +kernel
theorem dX7_copy_4 : decode cX7_copy 4 = .ok (.aload_n 1, 1) := by decide +kernel
theorem dX7_copy_5 : decode cX7_copy 5 = .ok (.getfield 14, 3) := by decide +kernel
theorem dX7_copy_8 : decode cX7_copy 8 = .ok (.invokevirtual 94, 3) := by decide +kernel
theorem dX7_copy_11 : decode cX7_copy 11 = .ok (.aload_n 0, 1) := by decide +kernel
theorem dX7_copy_12 : decode cX7_copy 12 = .ok (.getfield 23, 3) := by decide +kernel
theorem dX7_copy_15 : decode cX7_copy 15 = .ok (.aload_n 1, 1) := by decide +kernel
theorem dX7_copy_16 : decode cX7_copy 16 = .ok (.getfield 23, 3) := by decide +kernel
theorem dX7_copy_19 : decode cX7_copy 19 = .ok (.invokevirtual 98, 3) := by decide +kernel
theorem dX7_copy_22 : decode cX7_copy 22 = .ok (.aload_n 0, 1) := by decide +kernel
theorem dX7_copy_23 : decode cX7_copy 23 = .ok (.getfield 30, 3) := by decide +kernel
theorem dX7_copy_26 : decode cX7_copy 26 = .ok (.aload_n 1, 1) := by decide +kernel
theorem dX7_copy_27 : decode cX7_copy 27 = .ok (.getfield 30, 3) := by decide +kernel
theorem dX7_copy_30 : decode cX7_copy 30 = .ok (.invokevirtual 101, 3) := by decide +kernel
theorem dX7_copy_33 : decode cX7_copy 33 = .ok (.aload_n 0, 1) := by decide +kernel
theorem dX7_copy_34 : decode cX7_copy 34 = .ok (.getfield 34, 3) := by decide +kernel
theorem dX7_copy_37 : decode cX7_copy 37 = .ok (.aload_n 1, 1) := by decide +kernel
theorem dX7_copy_38 : decode cX7_copy 38 = .ok (.getfield 34, 3) := by decide +kernel
theorem dX7_copy_41 : decode cX7_copy 41 = .ok (.invokevirtual 94, 3) := by decide +kernel
theorem dX7_copy_44 : decode cX7_copy 44 = .ok (.aload_n 0, 1) := by decide +kernel
theorem dX7_copy_45 : decode cX7_copy 45 = .ok (.getfield 40, 3) := by decide +kernel
theorem dX7_copy_48 : decode cX7_copy 48 = .ok (.aload_n 1, 1) := by decide +kernel
theorem dX7_copy_49 : decode cX7_copy 49 = .ok (.getfield 40, 3) := by decide +kernel
theorem dX7_copy_52 : decode cX7_copy 52 = .ok (.invokevirtual 104, 3) := by decide +kernel
theorem dX7_copy_55 : decode cX7_copy 55 = .ok (.return_, 1) := by decide +kernel
theorem dX8_init_0 : decode cX8_init 0 = .ok (.aload_n 0, 1) := by decide +kernel
theorem dX8_init_1 : decode cX8_init 1 = .ok (.invokespecial 3, 3) := by decide +kernel
theorem dX8_init_4 : decode cX8_init 4 = .ok (.aload_n 0, 1) := by decide +kernel
theorem dX8_init_5 : decode cX8_init 5 = .ok (.new 9, 3) := by decide +kernel
theorem dX8_init_8 : decode cX8_init 8 = .ok (.dup, 1) := by decide +kernel
theorem dX8_init_9 : decode cX8_init 9 = .ok (.bipush 60, 2) := by decide +kernel
theorem dX8_init_11 : decode cX8_init 11 = .ok (.invokespecial 11, 3) := by decide +kernel
theorem dX8_init_14 : decode cX8_init 14 = .ok (.putfield 14, 3) := by decide +kernel
theorem dX8_init_17 : decode cX8_init 17 = .ok (.return_, 1) := by decide +kernel
theorem dX8_append_0 : decode cX8_append 0 = .ok (.aload_n 0, 1) := by decide +kernel
theorem dX8_append_1 : decode cX8_append 1 = .ok (.getfield 20, 3) := by decide +kernel
theorem dX8_append_4 : decode cX8_append 4 = .ok (.bipush 60, 2) := by decide +kernel
theorem dX8_append_6 : decode cX8_append 6 = .ok (.if_icmp .lt 5, 3) := by decide +kernel
theorem dX8_append_9 : decode cX8_append 9 = .ok (.iconst 0, 1) := by decide +kernel
theorem dX8_append_10 : decode cX8_append 10 = .ok (.ireturn, 1) := by decide +kernel
theorem dX8_append_11 : decode cX8_append 11 = .ok (.aload_n 0, 1) := by decide +kernel
theorem dX8_append_12 : decode cX8_append 12 = .ok (.getfield 14, 3) := by decide +kernel
theorem dX8_append_15 : decode cX8_append 15 = .ok (.aload_n 0, 1) := by decide +kernel
theorem dX8_append_16 : decode cX8_append 16 = .ok (.getfield 20, 3) := by decide +kernel
theorem dX8_append_19 : decode cX8_append 19 = .ok (.iload_n 1, 1) := by decide +kernel
theorem dX8_append_20 : decode cX8_append 20 = .ok (.invokevirtual 24, 3) := by decide +kernel
theorem dX8_append_23 : decode cX8_append 23 = .ok (.aload_n 0, 1) := by decide +kernel
theorem dX8_append_24 : decode cX8_append 24 = .ok (.dup, 1) := by decide +kernel
theorem dX8_append_25 : decode cX8_append 25 = .ok (.getfield 20, 3) := by decide +kernel
theorem dX8_append_28 : decode cX8_append 28 = .ok (.iconst 1, 1) := by decide +kernel
theorem dX8_append_29 : decode cX8_append 29 = .ok (.iadd, 1) := by decide +kernel
theorem dX8_append_30 : decode cX8_append 30 = .ok (.putfield 20, 3) := by decide +kernel
theorem dX8_append_33 : decode cX8_append 33 = .ok (.iconst 1, 1) := by decide +kernel
theorem dX8_append_34 : decode cX8_append 34 = .ok (.ireturn, 1) := by decide +kernel
theorem dX9_init_0 : decode cX9_init 0 = .ok (.aload_n 0, 1) := by decide +kernel
theorem dX9_init_1 : decode cX9_init 1 = .ok (.invokespecial 3, 3) := by decide +kernel
theorem dX9_init_4 : decode cX9_init 4 = .ok (.aload_n 0, 1) := by decide +kernel
theorem dX9_init_5 : decode cX9_init 5 = .ok (.new 9, 3) := by decide +kernel
theorem dX9_init_8 : decode cX9_init 8 = .ok (.dup, 1) := by decide +kernel
theorem dX9_init_9 : decode cX9_init 9 = .ok (.invokespecial 11, 3) := by decide +kernel
theorem dX9_init_12 : decode cX9_init 12 = .ok (.putfield 12, 3) := by decide +kernel
theorem dX9_init_15 : decode cX9_init 15 = .ok (.aload_n 0, 1) := by decide +kernel
theorem dX9_init_16 : decode cX9_init 16 = .ok (.new 16, 3) := by decide +kernel
theorem dX9_init_19 : decode cX9_init 19 = .ok (.dup, 1) := by decide +kernel
theorem dX9_init_20 : decode cX9_init 20 = .ok (.invokespecial 18, 3) := by decide +kernel
theorem dX9_init_23 : decode cX9_init 23 = .ok (.putfield 19, 3) := by decide +kernel
theorem dX9_init_26 : decode cX9_init 26 = .ok (.aload_n 0, 1) := by decide +kernel
theorem dX9_init_27 : decode cX9_init 27 = .ok (.new 23, 3) := by decide +kernel
theorem dX9_init_30 : decode cX9_init 30 = .ok (.dup, 1) := by decide +kernel
theorem dX9_init_31 : decode cX9_init 31 = .ok (.invokespecial 25, 3) := by decide +kernel
theorem dX9_init_34 : decode cX9_init 34 = .ok (.putfield 26, 3) := by decide +kernel
theorem dX9_init_37 : decode cX9_init 37 = .ok (.aload_n 0, 1) := by decide +kernel
theorem dX9_init_38 : decode cX9_init 38 = .ok (.new 30, 3) := by decide +kernel
theorem dX9_init_41 : decode cX9_init 41 = .ok (.dup, 1) := by decide +kernel
theorem dX9_init_42 : decode cX9_init 42 = .ok (.invokespecial 32, 3) := by decide +kernel
theorem dX9_init_45 : decode cX9_init 45 = .ok (.putfield 33, 3) := by decide +kernel
theorem dX9_init_48 : decode cX9_init 48 = .ok (.aload_n 0, 1) := by decide +kernel
theorem dX9_init_49 : decode cX9_init 49 = .ok (.new 37, 3) := by decide +kernel
theorem dX9_init_52 : decode cX9_init 52 = .ok (.dup, 1) := by decide +kernel
theorem dX9_init_53 : decode cX9_init 53 = .ok (.invokespecial 39, 3) := by decide +kernel
theorem dX9_init_56 : decode cX9_init 56 = .ok (.putfield 40, 3) := by decide +kernel
theorem dX9_init_59 : decode cX9_init 59 = .ok (.return_, 1) := by decide +kernel
theorem dX9_join_0 : decode cX9_join 0 = .ok (.iload_n 1, 1) := by decide +kernel
theorem dX9_join_1 : decode cX9_join 1 = .ok (.invokestatic 44, 3) := by decide +kernel
theorem dX9_join_4 : decode cX9_join 4 = .ok (.ifCond .eq 10, 3) := by decide +kernel
theorem dX9_join_7 : decode cX9_join 7 = .ok (.iload_n 2, 1) := by decide +kernel
theorem dX9_join_8 : decode cX9_join 8 = .ok (.invokestatic 48, 3) := by decide +kernel
theorem dX9_join_11 : decode cX9_join 11 = .ok (.ifCond .ne 6, 3) := by decide +kernel
theorem dX9_join_14 : decode cX9_join 14 = .ok (.ldc 51, 2) := by decide +kernel
theorem dX9_join_16 : decode cX9_join 16 = .ok (.ireturn, 1) := by decide +kernel
theorem dX9_join_17 : decode cX9_join 17 = .ok (.aload_n 0, 1) := by decide +kernel
theorem dX9_join_18 : decode cX9_join 18 = .ok (.getfield 12, 3) := by decide +kernel
theorem dX9_join_21 : decode cX9_join 21 = .ok (.getfield 52, 3) := by decide +kernel
theorem dX9_join_24 : decode cX9_join 24 = .ok (.getfield 56, 3) := by decide +kernel
theorem dX9_join_27 : decode cX9_join 27 = .ok (.bipush 10, 2) := by decide +kernel
theorem dX9_join_29 : decode cX9_join 29 = .ok (.if_icmp .lt 6, 3) := by decide +kernel
theorem dX9_join_32 : decode cX9_join 32 = .ok (.ldc 62, 2) := by decide +kernel
theorem dX9_join_34 : decode cX9_join 34 = .ok (.ireturn, 1) := by decide +kernel
theorem dX9_join_35 : decode cX9_join 35 = .ok (.aload_n 0, 1) := by decide +kernel
theorem dX9_join_36 : decode cX9_join 36 = .ok (.getfield 19, 3) := by decide +kernel
theorem dX9_join_39 : decode cX9_join 39 = .ok (.aload_n 0, 1) := by decide +kernel
theorem dX9_join_40 : decode cX9_join 40 = .ok (.getfield 12, 3) := by decide +kernel
theorem dX9_join_43 : decode cX9_join 43 = .ok (.invokevirtual 63, 3) := by decide +kernel
theorem dX9_join_46 : decode cX9_join 46 = .ok (.aload_n 0, 1) := by decide +kernel
theorem dX9_join_47 : decode cX9_join 47 = .ok (.getfield 12, 3) := by decide +kernel
theorem dX9_join_50 : decode cX9_join 50 = .ok (.getfield 52, 3) := by decide +kernel
theorem dX9_join_53 : decode cX9_join 53 = .ok (.iload_n 1, 1) := by decide +kernel
theorem dX9_join_54 : decode cX9_join 54 = .ok (.iload_n 2, 1) := by decide +kernel
theorem dX9_join_55 : decode cX9_join 55 = .ok (.invokevirtual 67, 3) := by decide +kernel
theorem dX9_join_58 : decode cX9_join 58 = .ok (.ireturn, 1) := by decide +kernel
theorem dX9_change_0 : decode cX9_change 0 = .ok (.aload_n 0, 1) := by decide +kernel
theorem dX9_change_1 : decode cX9_change 1 = .ok (.iload_n 1, 1) := by decide +kernel
theorem dX9_change_2 : decode cX9_change 2 = .ok (.invokevirtual 71, 3) := by decide +kernel
theorem dX9_change_5 : decode cX9_change 5 = .ok (.ifCond .ne 6, 3) := by decide +kernel
theorem dX9_change_8 : decode cX9_change 8 = .ok (.ldc 51, 2) := by decide +kernel
theorem dX9_change_10 : decode cX9_change 10 = .ok (.ireturn, 1) := by decide +kernel
theorem dX9_change_11 : decode cX9_change 11 = .ok (.iload_n 2, 1) := by decide +kernel
theorem dX9_change_12 : decode cX9_change 12 = .ok (.ifCond .ne 37, 3) := by decide +kernel
theorem dX9_change_15 : decode cX9_change 15 = .ok (.iload_n 3, 1) := by decide +kernel
theorem dX9_change_16 : decode cX9_change 16 = .ok (.invokestatic 44, 3) := by decide +kernel
theorem dX9_change_19 : decode cX9_change 19 = .ok (.ifCond .eq 30, 3) := by decide +kernel
theorem dX9_change_22 : decode cX9_change 22 = .ok (.aload_n 0, 1) := by decide +kernel
theorem dX9_change_23 : decode cX9_change 23 = .ok (.getfield 19, 3) := by decide +kernel
theorem dX9_change_26 : decode cX9_change 26 = .ok (.aload_n 0, 1) := by decide +kernel
theorem dX9_change_27 : decode cX9_change 27 = .ok (.getfield 12, 3) := by decide +kernel
theorem dX9_change_30 : decode cX9_change 30 = .ok (.invokevirtual 63, 3) := by decide +kernel
theorem dX9_change_33 : decode cX9_change 33 = .ok (.aload_n 0, 1) := by decide +kernel
theorem dX9_change_34 : decode cX9_change 34 = .ok (.getfield 12, 3) := by decide +kernel
theorem dX9_change_37 : decode cX9_change 37 = .ok (.getfield 52, 3) := by decide +kernel
theorem dX9_change_40 : decode cX9_change 40 = .ok (.getfield 74, 3) := by decide +kernel
theorem dX9_change_43 : decode cX9_change 43 = .ok (.iload_n 1, 1) := by decide +kernel
theorem dX9_change_44 : decode cX9_change 44 = .ok (.iload_n 3, 1) := by decide +kernel
theorem dX9_change_45 : decode cX9_change 45 = .ok (.invokevirtual 78, 3) := by decide +kernel
theorem dX9_change_48 : decode cX9_change 48 = .ok (.ireturn, 1) := by decide +kernel
theorem dX9_change_49 : decode cX9_change 49 = .ok (.iload_n 2, 1) := by decide +kernel
theorem dX9_change_50 : decode cX9_change 50 = .ok (.iconst 1, 1) := by decide +kernel
theorem dX9_change_51 : decode cX9_change 51 = .ok (.if_icmp .ne 37, 3) := by decide +kernel
theorem dX9_change_54 : decode cX9_change 54 = .ok (.iload_n 3, 1) := by decide +kernel
theorem dX9_change_55 : decode cX9_change 55 = .ok (.invokestatic 48, 3) := by decide +kernel
theorem dX9_change_58 : decode cX9_change 58 = .ok (.ifCond .eq 30, 3) := by decide +kernel
theorem dX9_change_61 : decode cX9_change 61 = .ok (.aload_n 0, 1) := by decide +kernel
theorem dX9_change_62 : decode cX9_change 62 = .ok (.getfield 19, 3) := by decide +kernel
theorem dX9_change_65 : decode cX9_change 65 = .ok (.aload_n 0, 1) := by decide +kernel
theorem dX9_change_66 : decode cX9_change 66 = .ok (.getfield 12, 3) := by decide +kernel
theorem dX9_change_69 : decode cX9_change 69 = .ok (.invokevirtual 63, 3) := by decide +kernel
theorem dX9_change_72 : decode cX9_change 72 = .ok (.aload_n 0, 1) := by decide +kernel
theorem dX9_change_73 : decode cX9_change 73 = .ok (.getfield 12, 3) := by decide +kernel
theorem dX9_change_76 : decode cX9_change 76 = .ok (.getfield 52, 3) := by decide +kernel
theorem dX9_change_79 : decode cX9_change 79 = .ok (.getfield 83, 3) := by decide +kernel
theorem dX9_change_82 : decode cX9_change 82 = .ok (.iload_n 1, 1) := by decide +kernel
theorem dX9_change_83 : decode cX9_change 83 = .ok (.iload_n 3, 1) := by decide +kernel
theorem dX9_change_84 : decode cX9_change 84 = .ok (.invokevirtual 78, 3) := by decide +kernel
theorem dX9_change_87 : decode cX9_change 87 = .ok (.ireturn, 1) := by decide +kernel
theorem dX9_change_88 : decode cX9_change 88 = .ok (.ldc 51, 2) := by decide +kernel
theorem dX9_change_90 : decode cX9_change 90 = .ok (.ireturn, 1) := by decide +kernel
theorem dX9_live_0 : decode cX9_live 0 = .ok (.aload_n 0, 1) := by decide +kernel
theorem dX9_live_1 : decode cX9_live 1 = .ok (.iload_n 1, 1) := by decide +kernel
theorem dX9_live_2 : decode cX9_live 2 = .ok (.invokevirtual 71, 3) := by decide +kernel
theorem dX9_live_5 : decode cX9_live 5 = .ok (.ifCond .ne 6, 3) := by decide +kernel
theorem dX9_live_8 : decode cX9_live 8 = .ok (.ldc 51, 2) := by decide +kernel
theorem dX9_live_10 : decode cX9_live 10 = .ok (.ireturn, 1) := by decide +kernel
theorem dX9_live_11 : decode cX9_live 11 = .ok (.aload_n 0, 1) := by decide +kernel
theorem dX9_live_12 : decode cX9_live 12 = .ok (.getfield 19, 3) := by decide +kernel
theorem dX9_live_15 : decode cX9_live 15 = .ok (.aload_n 0, 1) := by decide +kernel
theorem dX9_live_16 : decode cX9_live 16 = .ok (.getfield 12, 3) := by decide +kernel
theorem dX9_live_19 : decode cX9_live 19 = .ok (.invokevirtual 63, 3) := by decide +kernel
theorem dX9_live_22 : decode cX9_live 22 = .ok (.aload_n 0, 1) := by decide +kernel
theorem dX9_live_23 : decode cX9_live 23 = .ok (.getfield 12, 3) := by decide +kernel
theorem dX9_live_26 : decode cX9_live 26 = .ok (.getfield 52, 3) := by decide +kernel
theorem dX9_live_29 : decode cX9_live 29 = .ok (.iload_n 1, 1) := by decide +kernel
theorem dX9_live_30 : decode cX9_live 30 = .ok (.invokevirtual 86, 3) := by decide +kernel
theorem dX9_live_33 : decode cX9_live 33 = .ok (.ifCond .eq 7, 3) := by decide +kernel
theorem dX9_live_36 : decode cX9_live 36 = .ok (.iconst 1, 1) := by decide +kernel
theorem dX9_live_37 : decode cX9_live 37 = .ok (.goto 4, 3) := by decide +kernel
theorem dX9_live_40 : decode cX9_live 40 = .ok (.iconst 0, 1) := by decide +kernel
theorem dX9_live_41 : decode cX9_live 41 = .ok (.istore_n 3, 1) := by decide +kernel
theorem dX9_live_42 : decode cX9_live 42 = .ok (.iconst 1, 1) := by decide +kernel
theorem dX9_live_43 : decode cX9_live 43 = .ok (.iload_n 1, 1) := by decide +kernel
theorem dX9_live_44 : decode cX9_live 44 = .ok (.ishl, 1) := by decide +kernel
theorem dX9_live_45 : decode cX9_live 45 = .ok (.istore 4, 2) := by decide +kernel
theorem dX9_live_47 : decode cX9_live 47 = .ok (.aload_n 0, 1) := by decide +kernel
theorem dX9_live_48 : decode cX9_live 48 = .ok (.getfield 12, 3) := by decide +kernel
theorem dX9_live_51 : decode cX9_live 51 = .ok (.getfield 52, 3) := by decide +kernel
theorem dX9_live_54 : decode cX9_live 54 = .ok (.iload_n 2, 1) := by decide +kernel
theorem dX9_live_55 : decode cX9_live 55 = .ok (.ifCond .eq 19, 3) := by decide +kernel
theorem dX9_live_58 : decode cX9_live 58 = .ok (.aload_n 0, 1) := by decide +kernel
theorem dX9_live_59 : decode cX9_live 59 = .ok (.getfield 12, 3) := by decide +kernel
theorem dX9_live_62 : decode cX9_live 62 = .ok (.getfield 52, 3) := by decide +kernel
theorem dX9_live_65 : decode cX9_live 65 = .ok (.getfield 89, 3) := by decide +kernel
theorem dX9_live_68 : decode cX9_live 68 = .ok (.iload 4, 2) := by decide +kernel
theorem dX9_live_70 : decode cX9_live 70 = .ok (.ior, 1) := by decide +kernel
theorem dX9_live_71 : decode cX9_live 71 = .ok (.goto 18, 3) := by decide +kernel
theorem dX9_live_74 : decode cX9_live 74 = .ok (.aload_n 0, 1) := by decide +kernel
theorem dX9_live_75 : decode cX9_live 75 = .ok (.getfield 12, 3) := by decide +kernel
theorem dX9_live_78 : decode cX9_live 78 = .ok (.getfield 52, 3) := by decide +kernel
theorem dX9_live_81 : decode cX9_live 81 = .ok (.getfield 89, 3) := by decide +kernel
theorem dX9_live_84 : decode cX9_live 84 = .ok (.iload 4, 2) := by decide +kernel
theorem dX9_live_86 : decode cX9_live 86 = .ok (.iconst (-1), 1) := by decide +kernel
theorem dX9_live_87 : decode cX9_live 87 = .ok (.ixor, 1) := by decide +kernel
theorem dX9_live_88 : decode cX9_live 88 = .ok (.iand, 1) := by decide +kernel
theorem dX9_live_89 : decode cX9_live 89 = .ok (.putfield 89, 3) := by decide +kernel
theorem dX9_live_92 : decode cX9_live 92 = .ok (.iload_n 3, 1) := by decide +kernel
theorem dX9_live_93 : decode cX9_live 93 = .ok (.ireturn, 1) := by decide +kernel
theorem dX9_member_0 : decode cX9_member 0 = .ok (.aload_n 0, 1) := by decide +kernel
theorem dX9_member_1 : decode cX9_member 1 = .ok (.iload_n 1, 1) := by decide +kernel
theorem dX9_member_2 : decode cX9_member 2 = .ok (.invokevirtual 71, 3) := by decide +kernel
theorem dX9_member_5 : decode cX9_member 5 = .ok (.ifCond .ne 6, 3) := by decide +kernel
theorem dX9_member_8 : decode cX9_member 8 = .ok (.ldc 51, 2) := by decide +kernel
theorem dX9_member_10 : decode cX9_member 10 = .ok (.ireturn, 1) := by decide +kernel
theorem dX9_member_11 : decode cX9_member 11 = .ok (.iload_n 2, 1) := by decide +kernel
theorem dX9_member_12 : decode cX9_member 12 = .ok (.tableswitch 183 0 8 #[52, 67, 82, 102, 117, 129, 138, 153, 168], 52) := by decide +kernel
theorem dX9_member_64 : decode cX9_member 64 = .ok (.aload_n 0, 1) := by decide +kernel
theorem dX9_member_65 : decode cX9_member 65 = .ok (.getfield 12, 3) := by decide +kernel
theorem dX9_member_68 : decode cX9_member 68 = .ok (.getfield 52, 3) := by decide +kernel
theorem dX9_member_71 : decode cX9_member 71 = .ok (.getfield 74, 3) := by decide +kernel
theorem dX9_member_74 : decode cX9_member 74 = .ok (.iload_n 1, 1) := by decide +kernel
theorem dX9_member_75 : decode cX9_member 75 = .ok (.invokevirtual 92, 3) := by decide +kernel
theorem dX9_member_78 : decode cX9_member 78 = .ok (.ireturn, 1) := by decide +kernel
theorem dX9_member_79 : decode cX9_member 79 = .ok (.aload_n 0, 1) := by decide +kernel
theorem dX9_member_80 : decode cX9_member 80 = .ok (.getfield 12, 3) := by decide +kernel
theorem dX9_member_83 : decode cX9_member 83 = .ok (.getfield 52, 3) := by decide +kernel
theorem dX9_member_86 : decode cX9_member 86 = .ok (.getfield 83, 3) := by decide +kernel
theorem dX9_member_89 : decode cX9_member 89 = .ok (.iload_n 1, 1) := by decide +kernel
theorem dX9_member_90 : decode cX9_member 90 = .ok (.invokevirtual 92, 3) := by decide +kernel
theorem dX9_member_93 : decode cX9_member 93 = .ok (.ireturn, 1) := by decide +kernel
theorem dX9_member_94 : decode cX9_member 94 = .ok (.aload_n 0, 1) := by decide +kernel
theorem dX9_member_95 : decode cX9_member 95 = .ok (.getfield 12, 3) := by decide +kernel
theorem dX9_member_98 : decode cX9_member 98 = .ok (.getfield 52, 3) := by decide +kernel
theorem dX9_member_101 : decode cX9_member 101 = .ok (.iload_n 1, 1) := by decide +kernel
theorem dX9_member_102 : decode cX9_member 102 = .ok (.invokevirtual 86, 3) := by decide +kernel
theorem dX9_member_105 : decode cX9_member 105 = .ok (.ifCond .eq 7, 3) := by decide +kernel
theorem dX9_member_108 : decode cX9_member 108 = .ok (.iconst 1, 1) := by decide +kernel
theorem dX9_member_109 : decode cX9_member 109 = .ok (.goto 4, 3) := by decide +kernel
theorem dX9_member_112 : decode cX9_member 112 = .ok (.iconst 0, 1) := by decide +kernel
theorem dX9_member_113 : decode cX9_member 113 = .ok (.ireturn, 1) := by decide +kernel
theorem dX9_member_114 : decode cX9_member 114 = .ok (.aload_n 0, 1) := by decide +kernel
theorem dX9_member_115 : decode cX9_member 115 = .ok (.getfield 12, 3) := by decide +kernel
theorem dX9_member_118 : decode cX9_member 118 = .ok (.getfield 52, 3) := by decide +kernel
theorem dX9_member_121 : decode cX9_member 121 = .ok (.getfield 96, 3) := by decide +kernel
theorem dX9_member_124 : decode cX9_member 124 = .ok (.iload_n 1, 1) := by decide +kernel
theorem dX9_member_125 : decode cX9_member 125 = .ok (.invokevirtual 92, 3) := by decide +kernel
theorem dX9_member_128 : decode cX9_member 128 = .ok (.ireturn, 1) := by decide +kernel
theorem dX9_member_129 : decode cX9_member 129 = .ok (.aload_n 0, 1) := by decide +kernel
theorem dX9_member_130 : decode cX9_member 130 = .ok (.getfield 12, 3) := by decide +kernel
theorem dX9_member_133 : decode cX9_member 133 = .ok (.getfield 99, 3) := by decide +kernel
theorem dX9_member_136 : decode cX9_member 136 = .ok (.iload_n 1, 1) := by decide +kernel
theorem dX9_member_137 : decode cX9_member 137 = .ok (.invokevirtual 102, 3) := by decide +kernel
theorem dX9_member_140 : decode cX9_member 140 = .ok (.ireturn, 1) := by decide +kernel
theorem dX9_member_141 : decode cX9_member 141 = .ok (.aload_n 0, 1) := by decide +kernel
theorem dX9_member_142 : decode cX9_member 142 = .ok (.getfield 12, 3) := by decide +kernel
theorem dX9_member_145 : decode cX9_member 145 = .ok (.iload_n 1, 1) := by decide +kernel
theorem dX9_member_146 : decode cX9_member 146 = .ok (.invokevirtual 105, 3) := by decide +kernel
theorem dX9_member_149 : decode cX9_member 149 = .ok (.ireturn, 1) := by decide +kernel
theorem dX9_member_150 : decode cX9_member 150 = .ok (.aload_n 0, 1) := by decide +kernel
theorem dX9_member_151 : decode cX9_member 151 = .ok (.getfield 12, 3) := by decide +kernel
theorem dX9_member_154 : decode cX9_member 154 = .ok (.getfield 52, 3) := by decide +kernel
theorem dX9_member_157 : decode cX9_member 157 = .ok (.getfield 108, 3) := by decide +kernel
theorem dX9_member_160 : decode cX9_member 160 = .ok (.iload_n 1, 1) := by decide +kernel
theorem dX9_member_161 : decode cX9_member 161 = .ok (.invokevirtual 92, 3) := by decide +kernel
theorem dX9_member_164 : decode cX9_member 164 = .ok (.ireturn, 1) := by decide +kernel
theorem dX9_member_165 : decode cX9_member 165 = .ok (.aload_n 0, 1) := by decide +kernel
theorem dX9_member_166 : decode cX9_member 166 = .ok (.getfield 12, 3) := by decide +kernel
theorem dX9_member_169 : decode cX9_member 169 = .ok (.getfield 52, 3) := by decide +kernel
theorem dX9_member_172 : decode cX9_member 172 = .ok (.getfield 111, 3) := by decide +kernel
theorem dX9_member_175 : decode cX9_member 175 = .ok (.iload_n 1, 1) := by decide +kernel
theorem dX9_member_176 : decode cX9_member 176 = .ok (.invokevirtual 92, 3) := by decide +kernel
theorem dX9_member_179 : decode cX9_member 179 = .ok (.ireturn, 1) := by decide +kernel
theorem dX9_member_180 : decode cX9_member 180 = .ok (.aload_n 0, 1) := by decide +kernel
theorem dX9_member_181 : decode cX9_member 181 = .ok (.getfield 12, 3) := by decide +kernel
theorem dX9_member_184 : decode cX9_member 184 = .ok (.getfield 52, 3) := by decide +kernel
theorem dX9_member_187 : decode cX9_member 187 = .ok (.getfield 114, 3) := by decide +kernel
theorem dX9_member_190 : decode cX9_member 190 = .ok (.iload_n 1, 1) := by decide +kernel
theorem dX9_member_191 : decode cX9_member 191 = .ok (.invokevirtual 92, 3) := by decide +kernel
theorem dX9_member_194 : decode cX9_member 194 = .ok (.ireturn, 1) := by decide +kernel
theorem dX9_member_195 : decode cX9_member 195 = .ok (.ldc 51, 2) := by decide +kernel
theorem dX9_member_197 : decode cX9_member 197 = .ok (.ireturn, 1) := by decide +kernel
theorem dX9_set_0 : decode cX9_set 0 = .ok (.iload_n 1, 1) := by decide +kernel
theorem dX9_set_1 : decode cX9_set 1 = .ok (.iload_n 2, 1) := by decide +kernel
theorem dX9_set_2 : decode cX9_set 2 = .ok (.invokestatic 117, 3) := by decide +kernel
theorem dX9_set_5 : decode cX9_set 5 = .ok (.ifCond .ne 6, 3) := by decide +kernel
theorem dX9_set_8 : decode cX9_set 8 = .ok (.ldc 51, 2) := by decide +kernel
theorem dX9_set_10 : decode cX9_set 10 = .ok (.ireturn, 1) := by decide +kernel
theorem dX9_set_11 : decode cX9_set 11 = .ok (.aload_n 0, 1) := by decide +kernel
theorem dX9_set_12 : decode cX9_set 12 = .ok (.getfield 19, 3) := by decide +kernel
theorem dX9_set_15 : decode cX9_set 15 = .ok (.aload_n 0, 1) := by decide +kernel
theorem dX9_set_16 : decode cX9_set 16 = .ok (.getfield 12, 3) := by decide +kernel
theorem dX9_set_19 : decode cX9_set 19 = .ok (.invokevirtual 63, 3) := by decide +kernel
theorem dX9_set_22 : decode cX9_set 22 = .ok (.aload_n 0, 1) := by decide +kernel
theorem dX9_set_23 : decode cX9_set 23 = .ok (.getfield 12, 3) := by decide +kernel
theorem dX9_set_26 : decode cX9_set 26 = .ok (.getfield 121, 3) := by decide +kernel
theorem dX9_set_29 : decode cX9_set 29 = .ok (.iload_n 1, 1) := by decide +kernel
theorem dX9_set_30 : decode cX9_set 30 = .ok (.iload_n 2, 1) := by decide +kernel
theorem dX9_set_31 : decode cX9_set 31 = .ok (.invokevirtual 78, 3) := by decide +kernel
theorem dX9_set_34 : decode cX9_set 34 = .ok (.ireturn, 1) := by decide +kernel
theorem dX9_about_0 : decode cX9_about 0 = .ok (.iload_n 1, 1) := by decide +kernel
theorem dX9_about_1 : decode cX9_about 1 = .ok (.ifCond .lt 20, 3) := by decide +kernel
theorem dX9_about_4 : decode cX9_about 4 = .ok (.iload_n 1, 1) := by decide +kernel
theorem dX9_about_5 : decode cX9_about 5 = .ok (.iconst 5, 1) := by decide +kernel
theorem dX9_about_6 : decode cX9_about 6 = .ok (.if_icmp .ge 15, 3) := by decide +kernel
theorem dX9_about_9 : decode cX9_about 9 = .ok (.aload_n 0, 1) := by decide +kernel
theorem dX9_about_10 : decode cX9_about 10 = .ok (.getfield 12, 3) := by decide +kernel
theorem dX9_about_13 : decode cX9_about 13 = .ok (.getfield 121, 3) := by decide +kernel
theorem dX9_about_16 : decode cX9_about 16 = .ok (.iload_n 1, 1) := by decide +kernel
theorem dX9_about_17 : decode cX9_about 17 = .ok (.invokevirtual 92, 3) := by decide +kernel
theorem dX9_about_20 : decode cX9_about 20 = .ok (.ireturn, 1) := by decide +kernel
theorem dX9_about_21 : decode cX9_about 21 = .ok (.iload_n 1, 1) := by decide +kernel
theorem dX9_about_22 : decode cX9_about 22 = .ok (.tableswitch 89 5 9 #[34, 45, 56, 67, 78], 34) := by decide +kernel
theorem dX9_about_56 : decode cX9_about 56 = .ok (.aload_n 0, 1) := by decide +kernel
theorem dX9_about_57 : decode cX9_about 57 = .ok (.getfield 12, 3) := by decide +kernel
theorem dX9_about_60 : decode cX9_about 60 = .ok (.getfield 52, 3) := by decide +kernel
theorem dX9_about_63 : decode cX9_about 63 = .ok (.getfield 56, 3) := by decide +kernel
theorem dX9_about_66 : decode cX9_about 66 = .ok (.ireturn, 1) := by decide +kernel
theorem dX9_about_67 : decode cX9_about 67 = .ok (.aload_n 0, 1) := by decide +kernel
theorem dX9_about_68 : decode cX9_about 68 = .ok (.getfield 12, 3) := by decide +kernel
theorem dX9_about_71 : decode cX9_about 71 = .ok (.getfield 99, 3) := by decide +kernel
theorem dX9_about_74 : decode cX9_about 74 = .ok (.getfield 124, 3) := by decide +kernel
theorem dX9_about_77 : decode cX9_about 77 = .ok (.ireturn, 1) := by decide +kernel
theorem dX9_about_78 : decode cX9_about 78 = .ok (.aload_n 0, 1) := by decide +kernel
theorem dX9_about_79 : decode cX9_about 79 = .ok (.getfield 12, 3) := by decide +kernel
theorem dX9_about_82 : decode cX9_about 82 = .ok (.getfield 127, 3) := by decide +kernel
theorem dX9_about_85 : decode cX9_about 85 = .ok (.getfield 131, 3) := by decide +kernel
theorem dX9_about_88 : decode cX9_about 88 = .ok (.ireturn, 1) := by decide +kernel
theorem dX9_about_89 : decode cX9_about 89 = .ok (.aload_n 0, 1) := by decide +kernel
theorem dX9_about_90 : decode cX9_about 90 = .ok (.getfield 12, 3) := by decide +kernel
theorem dX9_about_93 : decode cX9_about 93 = .ok (.getfield 127, 3) := by decide +kernel
theorem dX9_about_96 : decode cX9_about 96 = .ok (.getfield 136, 3) := by decide +kernel
theorem dX9_about_99 : decode cX9_about 99 = .ok (.ireturn, 1) := by decide +kernel
theorem dX9_about_100 : decode cX9_about 100 = .ok (.aload_n 0, 1) := by decide +kernel
theorem dX9_about_101 : decode cX9_about 101 = .ok (.getfield 12, 3) := by decide +kernel
theorem dX9_about_104 : decode cX9_about 104 = .ok (.getfield 127, 3) := by decide +kernel
theorem dX9_about_107 : decode cX9_about 107 = .ok (.getfield 139, 3) := by decide +kernel
theorem dX9_about_110 : decode cX9_about 110 = .ok (.ireturn, 1) := by decide +kernel
theorem dX9_about_111 : decode cX9_about 111 = .ok (.ldc 51, 2) := by decide +kernel
theorem dX9_about_113 : decode cX9_about 113 = .ok (.ireturn, 1) := by decide +kernel
theorem dX9_mix_0 : decode cX9_mix 0 = .ok (.iload_n 1, 1) := by decide +kernel
theorem dX9_mix_1 : decode cX9_mix 1 = .ok (.invokestatic 142, 3) := by decide +kernel
theorem dX9_mix_4 : decode cX9_mix 4 = .ok (.ireturn, 1) := by decide +kernel
theorem dX9_commit_0 : decode cX9_commit 0 = .ok (.aload_n 0, 1) := by decide +kernel
theorem dX9_commit_1 : decode cX9_commit 1 = .ok (.iload_n 1, 1) := by decide +kernel
theorem dX9_commit_2 : decode cX9_commit 2 = .ok (.invokevirtual 71, 3) := by decide +kernel
theorem dX9_commit_5 : decode cX9_commit 5 = .ok (.ifCond .ne 6, 3) := by decide +kernel
theorem dX9_commit_8 : decode cX9_commit 8 = .ok (.ldc 51, 2) := by decide +kernel
theorem dX9_commit_10 : decode cX9_commit 10 = .ok (.ireturn, 1) := by decide +kernel
theorem dX9_commit_11 : decode cX9_commit 11 = .ok (.aload_n 0, 1) := by decide +kernel
theorem dX9_commit_12 : decode cX9_commit 12 = .ok (.getfield 12, 3) := by decide +kernel
theorem dX9_commit_15 : decode cX9_commit 15 = .ok (.getfield 52, 3) := by decide +kernel
theorem dX9_commit_18 : decode cX9_commit 18 = .ok (.iload_n 1, 1) := by decide +kernel
theorem dX9_commit_19 : decode cX9_commit 19 = .ok (.invokevirtual 86, 3) := by decide +kernel
theorem dX9_commit_22 : decode cX9_commit 22 = .ok (.ifCond .ne 6, 3) := by decide +kernel
theorem dX9_commit_25 : decode cX9_commit 25 = .ok (.ldc 147, 2) := by decide +kernel
theorem dX9_commit_27 : decode cX9_commit 27 = .ok (.ireturn, 1) := by decide +kernel
theorem dX9_commit_28 : decode cX9_commit 28 = .ok (.aload_n 0, 1) := by decide +kernel
theorem dX9_commit_29 : decode cX9_commit 29 = .ok (.getfield 19, 3) := by decide +kernel
theorem dX9_commit_32 : decode cX9_commit 32 = .ok (.aload_n 0, 1) := by decide +kernel
theorem dX9_commit_33 : decode cX9_commit 33 = .ok (.getfield 12, 3) := by decide +kernel
theorem dX9_commit_36 : decode cX9_commit 36 = .ok (.invokevirtual 63, 3) := by decide +kernel
theorem dX9_commit_39 : decode cX9_commit 39 = .ok (.aload_n 0, 1) := by decide +kernel
theorem dX9_commit_40 : decode cX9_commit 40 = .ok (.getfield 12, 3) := by decide +kernel
theorem dX9_commit_43 : decode cX9_commit 43 = .ok (.getfield 52, 3) := by decide +kernel
theorem dX9_commit_46 : decode cX9_commit 46 = .ok (.getfield 148, 3) := by decide +kernel
theorem dX9_commit_49 : decode cX9_commit 49 = .ok (.iload_n 1, 1) := by decide +kernel
theorem dX9_commit_50 : decode cX9_commit 50 = .ok (.iload_n 2, 1) := by decide +kernel
theorem dX9_commit_51 : decode cX9_commit 51 = .ok (.invokevirtual 151, 3) := by decide +kernel
theorem dX9_commit_54 : decode cX9_commit 54 = .ok (.aload_n 0, 1) := by decide +kernel
theorem dX9_commit_55 : decode cX9_commit 55 = .ok (.getfield 12, 3) := by decide +kernel
theorem dX9_commit_58 : decode cX9_commit 58 = .ok (.getfield 52, 3) := by decide +kernel
theorem dX9_commit_61 : decode cX9_commit 61 = .ok (.getfield 114, 3) := by decide +kernel
theorem dX9_commit_64 : decode cX9_commit 64 = .ok (.iload_n 1, 1) := by decide +kernel
theorem dX9_commit_65 : decode cX9_commit 65 = .ok (.iconst 1, 1) := by decide +kernel
theorem dX9_commit_66 : decode cX9_commit 66 = .ok (.invokevirtual 78, 3) := by decide +kernel
theorem dX9_commit_69 : decode cX9_commit 69 = .ok (.istore_n 3, 1) := by decide +kernel
theorem dX9_commit_70 : decode cX9_commit 70 = .ok (.iload_n 3, 1) := by decide +kernel
theorem dX9_commit_71 : decode cX9_commit 71 = .ok (.ifCond .ne 7, 3) := by decide +kernel
theorem dX9_commit_74 : decode cX9_commit 74 = .ok (.iconst 0, 1) := by decide +kernel
theorem dX9_commit_75 : decode cX9_commit 75 = .ok (.goto 4, 3) := by decide +kernel
theorem dX9_commit_78 : decode cX9_commit 78 = .ok (.iconst 1, 1) := by decide +kernel
theorem dX9_commit_79 : decode cX9_commit 79 = .ok (.ireturn, 1) := by decide +kernel
theorem dX9_reveal_0 : decode cX9_reveal 0 = .ok (.aload_n 0, 1) := by decide +kernel
theorem dX9_reveal_1 : decode cX9_reveal 1 = .ok (.iload_n 1, 1) := by decide +kernel
theorem dX9_reveal_2 : decode cX9_reveal 2 = .ok (.invokevirtual 71, 3) := by decide +kernel
theorem dX9_reveal_5 : decode cX9_reveal 5 = .ok (.ifCond .ne 6, 3) := by decide +kernel
theorem dX9_reveal_8 : decode cX9_reveal 8 = .ok (.ldc 51, 2) := by decide +kernel
theorem dX9_reveal_10 : decode cX9_reveal 10 = .ok (.ireturn, 1) := by decide +kernel
theorem dX9_reveal_11 : decode cX9_reveal 11 = .ok (.aload_n 0, 1) := by decide +kernel
theorem dX9_reveal_12 : decode cX9_reveal 12 = .ok (.getfield 12, 3) := by decide +kernel
theorem dX9_reveal_15 : decode cX9_reveal 15 = .ok (.getfield 52, 3) := by decide +kernel
theorem dX9_reveal_18 : decode cX9_reveal 18 = .ok (.iload_n 1, 1) := by decide +kernel
theorem dX9_reveal_19 : decode cX9_reveal 19 = .ok (.invokevirtual 86, 3) := by decide +kernel
theorem dX9_reveal_22 : decode cX9_reveal 22 = .ok (.ifCond .eq 20, 3) := by decide +kernel
theorem dX9_reveal_25 : decode cX9_reveal 25 = .ok (.aload_n 0, 1) := by decide +kernel
theorem dX9_reveal_26 : decode cX9_reveal 26 = .ok (.getfield 12, 3) := by decide +kernel
theorem dX9_reveal_29 : decode cX9_reveal 29 = .ok (.getfield 52, 3) := by decide +kernel
theorem dX9_reveal_32 : decode cX9_reveal 32 = .ok (.getfield 114, 3) := by decide +kernel
theorem dX9_reveal_35 : decode cX9_reveal 35 = .ok (.iload_n 1, 1) := by decide +kernel
theorem dX9_reveal_36 : decode cX9_reveal 36 = .ok (.invokevirtual 92, 3) := by decide +kernel
theorem dX9_reveal_39 : decode cX9_reveal 39 = .ok (.ifCond .ne 6, 3) := by decide +kernel
theorem dX9_reveal_42 : decode cX9_reveal 42 = .ok (.ldc 147, 2) := by decide +kernel
theorem dX9_reveal_44 : decode cX9_reveal 44 = .ok (.ireturn, 1) := by decide +kernel
theorem dX9_reveal_45 : decode cX9_reveal 45 = .ok (.aload_n 0, 1) := by decide +kernel
theorem dX9_reveal_46 : decode cX9_reveal 46 = .ok (.getfield 19, 3) := by decide +kernel
theorem dX9_reveal_49 : decode cX9_reveal 49 = .ok (.aload_n 0, 1) := by decide +kernel
theorem dX9_reveal_50 : decode cX9_reveal 50 = .ok (.getfield 12, 3) := by decide +kernel
theorem dX9_reveal_53 : decode cX9_reveal 53 = .ok (.invokevirtual 63, 3) := by decide +kernel
theorem dX9_reveal_56 : decode cX9_reveal 56 = .ok (.iload_n 2, 1) := by decide +kernel
theorem dX9_reveal_57 : decode cX9_reveal 57 = .ok (.invokestatic 142, 3) := by decide +kernel
theorem dX9_reveal_60 : decode cX9_reveal 60 = .ok (.aload_n 0, 1) := by decide +kernel
theorem dX9_reveal_61 : decode cX9_reveal 61 = .ok (.getfield 12, 3) := by decide +kernel
theorem dX9_reveal_64 : decode cX9_reveal 64 = .ok (.getfield 52, 3) := by decide +kernel
theorem dX9_reveal_67 : decode cX9_reveal 67 = .ok (.getfield 148, 3) := by decide +kernel
theorem dX9_reveal_70 : decode cX9_reveal 70 = .ok (.iload_n 1, 1) := by decide +kernel
theorem dX9_reveal_71 : decode cX9_reveal 71 = .ok (.invokevirtual 92, 3) := by decide +kernel
theorem dX9_reveal_74 : decode cX9_reveal 74 = .ok (.if_icmp .ne 7, 3) := by decide +kernel
theorem dX9_reveal_77 : decode cX9_reveal 77 = .ok (.iconst 1, 1) := by decide +kernel
theorem dX9_reveal_78 : decode cX9_reveal 78 = .ok (.goto 4, 3) := by decide +kernel
theorem dX9_reveal_81 : decode cX9_reveal 81 = .ok (.iconst 0, 1) := by decide +kernel
theorem dX9_reveal_82 : decode cX9_reveal 82 = .ok (.istore_n 3, 1) := by decide +kernel
theorem dX9_reveal_83 : decode cX9_reveal 83 = .ok (.aload_n 0, 1) := by decide +kernel
theorem dX9_reveal_84 : decode cX9_reveal 84 = .ok (.getfield 12, 3) := by decide +kernel
theorem dX9_reveal_87 : decode cX9_reveal 87 = .ok (.getfield 52, 3) := by decide +kernel
theorem dX9_reveal_90 : decode cX9_reveal 90 = .ok (.getfield 155, 3) := by decide +kernel
theorem dX9_reveal_93 : decode cX9_reveal 93 = .ok (.iload_n 1, 1) := by decide +kernel
theorem dX9_reveal_94 : decode cX9_reveal 94 = .ok (.iload_n 2, 1) := by decide +kernel
theorem dX9_reveal_95 : decode cX9_reveal 95 = .ok (.invokevirtual 151, 3) := by decide +kernel
theorem dX9_reveal_98 : decode cX9_reveal 98 = .ok (.aload_n 0, 1) := by decide +kernel
theorem dX9_reveal_99 : decode cX9_reveal 99 = .ok (.getfield 12, 3) := by decide +kernel
theorem dX9_reveal_102 : decode cX9_reveal 102 = .ok (.getfield 52, 3) := by decide +kernel
theorem dX9_reveal_105 : decode cX9_reveal 105 = .ok (.getfield 114, 3) := by decide +kernel
theorem dX9_reveal_108 : decode cX9_reveal 108 = .ok (.iload_n 1, 1) := by decide +kernel
theorem dX9_reveal_109 : decode cX9_reveal 109 = .ok (.iload_n 3, 1) := by decide +kernel
theorem dX9_reveal_110 : decode cX9_reveal 110 = .ok (.ifCond .eq 7, 3) := by decide +kernel
theorem dX9_reveal_113 : decode cX9_reveal 113 = .ok (.iconst 2, 1) := by decide +kernel
theorem dX9_reveal_114 : decode cX9_reveal 114 = .ok (.goto 4, 3) := by decide +kernel
theorem dX9_reveal_117 : decode cX9_reveal 117 = .ok (.iconst 3, 1) := by decide +kernel
theorem dX9_reveal_118 : decode cX9_reveal 118 = .ok (.invokevirtual 151, 3) := by decide +kernel
theorem dX9_reveal_121 : decode cX9_reveal 121 = .ok (.iload_n 3, 1) := by decide +kernel
theorem dX9_reveal_122 : decode cX9_reveal 122 = .ok (.ifCond .eq 7, 3) := by decide +kernel
theorem dX9_reveal_125 : decode cX9_reveal 125 = .ok (.iconst 1, 1) := by decide +kernel
theorem dX9_reveal_126 : decode cX9_reveal 126 = .ok (.goto 4, 3) := by decide +kernel
theorem dX9_reveal_129 : decode cX9_reveal 129 = .ok (.iconst 0, 1) := by decide +kernel
theorem dX9_reveal_130 : decode cX9_reveal 130 = .ok (.ireturn, 1) := by decide +kernel
theorem dX9_draw_0 : decode cX9_draw 0 = .ok (.aload_n 0, 1) := by decide +kernel
theorem dX9_draw_1 : decode cX9_draw 1 = .ok (.getfield 12, 3) := by decide +kernel
theorem dX9_draw_4 : decode cX9_draw 4 = .ok (.getfield 52, 3) := by decide +kernel
theorem dX9_draw_7 : decode cX9_draw 7 = .ok (.invokevirtual 158, 3) := by decide +kernel
theorem dX9_draw_10 : decode cX9_draw 10 = .ok (.istore_n 1, 1) := by decide +kernel
theorem dX9_draw_11 : decode cX9_draw 11 = .ok (.aload_n 0, 1) := by decide +kernel
theorem dX9_draw_12 : decode cX9_draw 12 = .ok (.iload_n 1, 1) := by decide +kernel
theorem dX9_draw_13 : decode cX9_draw 13 = .ok (.invokevirtual 162, 3) := by decide +kernel
theorem dX9_draw_16 : decode cX9_draw 16 = .ok (.ifCond .ne 6, 3) := by decide +kernel
theorem dX9_draw_19 : decode cX9_draw 19 = .ok (.ldc 147, 2) := by decide +kernel
theorem dX9_draw_21 : decode cX9_draw 21 = .ok (.ireturn, 1) := by decide +kernel
theorem dX9_draw_22 : decode cX9_draw 22 = .ok (.aload_n 0, 1) := by decide +kernel
theorem dX9_draw_23 : decode cX9_draw 23 = .ok (.getfield 19, 3) := by decide +kernel
theorem dX9_draw_26 : decode cX9_draw 26 = .ok (.aload_n 0, 1) := by decide +kernel
theorem dX9_draw_27 : decode cX9_draw 27 = .ok (.getfield 12, 3) := by decide +kernel
theorem dX9_draw_30 : decode cX9_draw 30 = .ok (.invokevirtual 63, 3) := by decide +kernel
theorem dX9_draw_33 : decode cX9_draw 33 = .ok (.aload_n 0, 1) := by decide +kernel
theorem dX9_draw_34 : decode cX9_draw 34 = .ok (.getfield 12, 3) := by decide +kernel
theorem dX9_draw_37 : decode cX9_draw 37 = .ok (.getfield 99, 3) := by decide +kernel
theorem dX9_draw_40 : decode cX9_draw 40 = .ok (.aload_n 0, 1) := by decide +kernel
theorem dX9_draw_41 : decode cX9_draw 41 = .ok (.getfield 12, 3) := by decide +kernel
theorem dX9_draw_44 : decode cX9_draw 44 = .ok (.getfield 99, 3) := by decide +kernel
theorem dX9_draw_47 : decode cX9_draw 47 = .ok (.getfield 124, 3) := by decide +kernel
theorem dX9_draw_50 : decode cX9_draw 50 = .ok (.aload_n 0, 1) := by decide +kernel
theorem dX9_draw_51 : decode cX9_draw 51 = .ok (.getfield 12, 3) := by decide +kernel
theorem dX9_draw_54 : decode cX9_draw 54 = .ok (.getfield 52, 3) := by decide +kernel
theorem dX9_draw_57 : decode cX9_draw 57 = .ok (.iload_n 1, 1) := by decide +kernel
theorem dX9_draw_58 : decode cX9_draw 58 = .ok (.invokevirtual 165, 3) := by decide +kernel
theorem dX9_draw_61 : decode cX9_draw 61 = .ok (.aload_n 0, 1) := by decide +kernel
theorem dX9_draw_62 : decode cX9_draw 62 = .ok (.getfield 12, 3) := by decide +kernel
theorem dX9_draw_65 : decode cX9_draw 65 = .ok (.getfield 52, 3) := by decide +kernel
theorem dX9_draw_68 : decode cX9_draw 68 = .ok (.aload_n 0, 1) := by decide +kernel
theorem dX9_draw_69 : decode cX9_draw 69 = .ok (.getfield 12, 3) := by decide +kernel
theorem dX9_draw_72 : decode cX9_draw 72 = .ok (.getfield 121, 3) := by decide +kernel
theorem dX9_draw_75 : decode cX9_draw 75 = .ok (.iconst 4, 1) := by decide +kernel
theorem dX9_draw_76 : decode cX9_draw 76 = .ok (.invokevirtual 92, 3) := by decide +kernel
theorem dX9_draw_79 : decode cX9_draw 79 = .ok (.invokevirtual 169, 3) := by decide +kernel
theorem dX9_draw_82 : decode cX9_draw 82 = .ok (.aload_n 0, 1) := by decide +kernel
theorem dX9_draw_83 : decode cX9_draw 83 = .ok (.getfield 12, 3) := by decide +kernel
theorem dX9_draw_86 : decode cX9_draw 86 = .ok (.getfield 99, 3) := by decide +kernel
theorem dX9_draw_89 : decode cX9_draw 89 = .ok (.getfield 124, 3) := by decide +kernel
theorem dX9_draw_92 : decode cX9_draw 92 = .ok (.ireturn, 1) := by decide +kernel
theorem dX9_seed_0 : decode cX9_seed 0 = .ok (.aload_n 0, 1) := by decide +kernel
theorem dX9_seed_1 : decode cX9_seed 1 = .ok (.getfield 12, 3) := by decide +kernel
theorem dX9_seed_4 : decode cX9_seed 4 = .ok (.getfield 99, 3) := by decide +kernel
theorem dX9_seed_7 : decode cX9_seed 7 = .ok (.getfield 124, 3) := by decide +kernel
theorem dX9_seed_10 : decode cX9_seed 10 = .ok (.ifCond .ne 9, 3) := by decide +kernel
theorem dX9_seed_13 : decode cX9_seed 13 = .ok (.ldc2_w 173, 3) := by decide +kernel
theorem dX9_seed_16 : decode cX9_seed 16 = .ok (.goto 14, 3) := by decide +kernel
theorem dX9_seed_19 : decode cX9_seed 19 = .ok (.aload_n 0, 1) := by decide +kernel
theorem dX9_seed_20 : decode cX9_seed 20 = .ok (.getfield 12, 3) := by decide +kernel
theorem dX9_seed_23 : decode cX9_seed 23 = .ok (.getfield 99, 3) := by decide +kernel
theorem dX9_seed_26 : decode cX9_seed 26 = .ok (.getfield 175, 3) := by decide +kernel
theorem dX9_seed_29 : decode cX9_seed 29 = .ok (.i2l, 1) := by decide +kernel
theorem dX9_seed_30 : decode cX9_seed 30 = .ok (.lreturn, 1) := by decide +kernel
theorem dX9_duty_0 : decode cX9_duty 0 = .ok (.iload_n 1, 1) := by decide +kernel
theorem dX9_duty_1 : decode cX9_duty 1 = .ok (.ifCond .ge 8, 3) := by decide +kernel
theorem dX9_duty_4 : decode cX9_duty 4 = .ok (.ldc 51, 2) := by decide +kernel
theorem dX9_duty_6 : decode cX9_duty 6 = .ok (.goto 14, 3) := by decide +kernel
theorem dX9_duty_9 : decode cX9_duty 9 = .ok (.aload_n 0, 1) := by decide +kernel
theorem dX9_duty_10 : decode cX9_duty 10 = .ok (.getfield 12, 3) := by decide +kernel
theorem dX9_duty_13 : decode cX9_duty 13 = .ok (.getfield 99, 3) := by decide +kernel
theorem dX9_duty_16 : decode cX9_duty 16 = .ok (.iload_n 1, 1) := by decide +kernel
theorem dX9_duty_17 : decode cX9_duty 17 = .ok (.invokevirtual 178, 3) := by decide +kernel
theorem dX9_duty_20 : decode cX9_duty 20 = .ok (.ireturn, 1) := by decide +kernel
theorem dX9_ifLeft_0 : decode cX9_ifLeft 0 = .ok (.iload_n 1, 1) := by decide +kernel
theorem dX9_ifLeft_1 : decode cX9_ifLeft 1 = .ok (.ifCond .lt 14, 3) := by decide +kernel
theorem dX9_ifLeft_4 : decode cX9_ifLeft 4 = .ok (.iload_n 1, 1) := by decide +kernel
theorem dX9_ifLeft_5 : decode cX9_ifLeft 5 = .ok (.sipush 1023, 3) := by decide +kernel
theorem dX9_ifLeft_8 : decode cX9_ifLeft 8 = .ok (.if_icmp .gt 7, 3) := by decide +kernel
theorem dX9_ifLeft_11 : decode cX9_ifLeft 11 = .ok (.iload_n 2, 1) := by decide +kernel
theorem dX9_ifLeft_12 : decode cX9_ifLeft 12 = .ok (.ifCond .ge 6, 3) := by decide +kernel
theorem dX9_ifLeft_15 : decode cX9_ifLeft 15 = .ok (.ldc 51, 2) := by decide +kernel
theorem dX9_ifLeft_17 : decode cX9_ifLeft 17 = .ok (.ireturn, 1) := by decide +kernel
theorem dX9_ifLeft_18 : decode cX9_ifLeft 18 = .ok (.aload_n 0, 1) := by decide +kernel
theorem dX9_ifLeft_19 : decode cX9_ifLeft 19 = .ok (.getfield 12, 3) := by decide +kernel
theorem dX9_ifLeft_22 : decode cX9_ifLeft 22 = .ok (.getfield 52, 3) := by decide +kernel
theorem dX9_ifLeft_25 : decode cX9_ifLeft 25 = .ok (.invokevirtual 158, 3) := by decide +kernel
theorem dX9_ifLeft_28 : decode cX9_ifLeft 28 = .ok (.iload_n 1, 1) := by decide +kernel
theorem dX9_ifLeft_29 : decode cX9_ifLeft 29 = .ok (.iconst (-1), 1) := by decide +kernel
theorem dX9_ifLeft_30 : decode cX9_ifLeft 30 = .ok (.ixor, 1) := by decide +kernel
theorem dX9_ifLeft_31 : decode cX9_ifLeft 31 = .ok (.iand, 1) := by decide +kernel
theorem dX9_ifLeft_32 : decode cX9_ifLeft 32 = .ok (.istore_n 3, 1) := by decide +kernel
theorem dX9_ifLeft_33 : decode cX9_ifLeft 33 = .ok (.aload_n 0, 1) := by decide +kernel
theorem dX9_ifLeft_34 : decode cX9_ifLeft 34 = .ok (.iload_n 3, 1) := by decide +kernel
theorem dX9_ifLeft_35 : decode cX9_ifLeft 35 = .ok (.invokevirtual 162, 3) := by decide +kernel
theorem dX9_ifLeft_38 : decode cX9_ifLeft 38 = .ok (.ifCond .ne 6, 3) := by decide +kernel
theorem dX9_ifLeft_41 : decode cX9_ifLeft 41 = .ok (.ldc 147, 2) := by decide +kernel
theorem dX9_ifLeft_43 : decode cX9_ifLeft 43 = .ok (.ireturn, 1) := by decide +kernel
theorem dX9_ifLeft_44 : decode cX9_ifLeft 44 = .ok (.aload_n 0, 1) := by decide +kernel
theorem dX9_ifLeft_45 : decode cX9_ifLeft 45 = .ok (.getfield 40, 3) := by decide +kernel
theorem dX9_ifLeft_48 : decode cX9_ifLeft 48 = .ok (.aload_n 0, 1) := by decide +kernel
theorem dX9_ifLeft_49 : decode cX9_ifLeft 49 = .ok (.getfield 12, 3) := by decide +kernel
theorem dX9_ifLeft_52 : decode cX9_ifLeft 52 = .ok (.getfield 99, 3) := by decide +kernel
theorem dX9_ifLeft_55 : decode cX9_ifLeft 55 = .ok (.getfield 124, 3) := by decide +kernel
theorem dX9_ifLeft_58 : decode cX9_ifLeft 58 = .ok (.aload_n 0, 1) := by decide +kernel
theorem dX9_ifLeft_59 : decode cX9_ifLeft 59 = .ok (.getfield 12, 3) := by decide +kernel
theorem dX9_ifLeft_62 : decode cX9_ifLeft 62 = .ok (.getfield 52, 3) := by decide +kernel
theorem dX9_ifLeft_65 : decode cX9_ifLeft 65 = .ok (.iload_n 3, 1) := by decide +kernel
theorem dX9_ifLeft_66 : decode cX9_ifLeft 66 = .ok (.invokevirtual 165, 3) := by decide +kernel
theorem dX9_ifLeft_69 : decode cX9_ifLeft 69 = .ok (.aload_n 0, 1) := by decide +kernel
theorem dX9_ifLeft_70 : decode cX9_ifLeft 70 = .ok (.getfield 40, 3) := by decide +kernel
theorem dX9_ifLeft_73 : decode cX9_ifLeft 73 = .ok (.iload_n 2, 1) := by decide +kernel
theorem dX9_ifLeft_74 : decode cX9_ifLeft 74 = .ok (.invokevirtual 178, 3) := by decide +kernel
theorem dX9_ifLeft_77 : decode cX9_ifLeft 77 = .ok (.ireturn, 1) := by decide +kernel
theorem dX9_lose_0 : decode cX9_lose 0 = .ok (.aload_n 0, 1) := by decide +kernel
theorem dX9_lose_1 : decode cX9_lose 1 = .ok (.iload_n 1, 1) := by decide +kernel
theorem dX9_lose_2 : decode cX9_lose 2 = .ok (.invokevirtual 71, 3) := by decide +kernel
theorem dX9_lose_5 : decode cX9_lose 5 = .ok (.ifCond .eq 10, 3) := by decide +kernel
theorem dX9_lose_8 : decode cX9_lose 8 = .ok (.iload_n 2, 1) := by decide +kernel
theorem dX9_lose_9 : decode cX9_lose 9 = .ok (.invokestatic 181, 3) := by decide +kernel
theorem dX9_lose_12 : decode cX9_lose 12 = .ok (.ifCond .ne 6, 3) := by decide +kernel
theorem dX9_lose_15 : decode cX9_lose 15 = .ok (.ldc 51, 2) := by decide +kernel
theorem dX9_lose_17 : decode cX9_lose 17 = .ok (.ireturn, 1) := by decide +kernel
theorem dX9_lose_18 : decode cX9_lose 18 = .ok (.aload_n 0, 1) := by decide +kernel
theorem dX9_lose_19 : decode cX9_lose 19 = .ok (.getfield 19, 3) := by decide +kernel
theorem dX9_lose_22 : decode cX9_lose 22 = .ok (.aload_n 0, 1) := by decide +kernel
theorem dX9_lose_23 : decode cX9_lose 23 = .ok (.getfield 12, 3) := by decide +kernel
theorem dX9_lose_26 : decode cX9_lose 26 = .ok (.invokevirtual 63, 3) := by decide +kernel
theorem dX9_lose_29 : decode cX9_lose 29 = .ok (.aload_n 0, 1) := by decide +kernel
theorem dX9_lose_30 : decode cX9_lose 30 = .ok (.getfield 12, 3) := by decide +kernel
theorem dX9_lose_33 : decode cX9_lose 33 = .ok (.getfield 184, 3) := by decide +kernel
theorem dX9_lose_36 : decode cX9_lose 36 = .ok (.iload_n 2, 1) := by decide +kernel
theorem dX9_lose_37 : decode cX9_lose 37 = .ok (.aload_n 0, 1) := by decide +kernel
theorem dX9_lose_38 : decode cX9_lose 38 = .ok (.getfield 12, 3) := by decide +kernel
theorem dX9_lose_41 : decode cX9_lose 41 = .ok (.getfield 184, 3) := by decide +kernel
theorem dX9_lose_44 : decode cX9_lose 44 = .ok (.iload_n 2, 1) := by decide +kernel
theorem dX9_lose_45 : decode cX9_lose 45 = .ok (.invokevirtual 92, 3) := by decide +kernel
theorem dX9_lose_48 : decode cX9_lose 48 = .ok (.iconst 1, 1) := by decide +kernel
theorem dX9_lose_49 : decode cX9_lose 49 = .ok (.iload_n 1, 1) := by decide +kernel
theorem dX9_lose_50 : decode cX9_lose 50 = .ok (.ishl, 1) := by decide +kernel
theorem dX9_lose_51 : decode cX9_lose 51 = .ok (.ior, 1) := by decide +kernel
theorem dX9_lose_52 : decode cX9_lose 52 = .ok (.invokevirtual 151, 3) := by decide +kernel
theorem dX9_lose_55 : decode cX9_lose 55 = .ok (.aload_n 0, 1) := by decide +kernel
theorem dX9_lose_56 : decode cX9_lose 56 = .ok (.getfield 12, 3) := by decide +kernel
theorem dX9_lose_59 : decode cX9_lose 59 = .ok (.getfield 184, 3) := by decide +kernel
theorem dX9_lose_62 : decode cX9_lose 62 = .ok (.iload_n 2, 1) := by decide +kernel
theorem dX9_lose_63 : decode cX9_lose 63 = .ok (.invokevirtual 92, 3) := by decide +kernel
theorem dX9_lose_66 : decode cX9_lose 66 = .ok (.invokestatic 187, 3) := by decide +kernel
theorem dX9_lose_69 : decode cX9_lose 69 = .ok (.ireturn, 1) := by decide +kernel
theorem dX9_type_0 : decode cX9_type 0 = .ok (.iload_n 1, 1) := by decide +kernel
theorem dX9_type_1 : decode cX9_type 1 = .ok (.bipush 32, 2) := by decide +kernel
theorem dX9_type_3 : decode cX9_type 3 = .ok (.if_icmp .lt 9, 3) := by decide +kernel
theorem dX9_type_6 : decode cX9_type 6 = .ok (.iload_n 1, 1) := by decide +kernel
theorem dX9_type_7 : decode cX9_type 7 = .ok (.bipush 126, 2) := by decide +kernel
theorem dX9_type_9 : decode cX9_type 9 = .ok (.if_icmp .le 6, 3) := by decide +kernel
theorem dX9_type_12 : decode cX9_type 12 = .ok (.ldc 51, 2) := by decide +kernel
theorem dX9_type_14 : decode cX9_type 14 = .ok (.ireturn, 1) := by decide +kernel
theorem dX9_type_15 : decode cX9_type 15 = .ok (.aload_n 0, 1) := by decide +kernel
theorem dX9_type_16 : decode cX9_type 16 = .ok (.getfield 26, 3) := by decide +kernel
theorem dX9_type_19 : decode cX9_type 19 = .ok (.iload_n 1, 1) := by decide +kernel
theorem dX9_type_20 : decode cX9_type 20 = .ok (.invokevirtual 192, 3) := by decide +kernel
theorem dX9_type_23 : decode cX9_type 23 = .ok (.ifCond .eq 13, 3) := by decide +kernel
theorem dX9_type_26 : decode cX9_type 26 = .ok (.aload_n 0, 1) := by decide +kernel
theorem dX9_type_27 : decode cX9_type 27 = .ok (.getfield 26, 3) := by decide +kernel
theorem dX9_type_30 : decode cX9_type 30 = .ok (.getfield 195, 3) := by decide +kernel
theorem dX9_type_33 : decode cX9_type 33 = .ok (.goto 5, 3) := by decide +kernel
theorem dX9_type_36 : decode cX9_type 36 = .ok (.ldc 62, 2) := by decide +kernel
theorem dX9_type_38 : decode cX9_type 38 = .ok (.ireturn, 1) := by decide +kernel
theorem dX9_lost_0 : decode cX9_lost 0 = .ok (.aload_n 0, 1) := by decide +kernel
theorem dX9_lost_1 : decode cX9_lost 1 = .ok (.iload_n 1, 1) := by decide +kernel
theorem dX9_lost_2 : decode cX9_lost 2 = .ok (.invokevirtual 71, 3) := by decide +kernel
theorem dX9_lost_5 : decode cX9_lost 5 = .ok (.ifCond .eq 10, 3) := by decide +kernel
theorem dX9_lost_8 : decode cX9_lost 8 = .ok (.iload_n 2, 1) := by decide +kernel
theorem dX9_lost_9 : decode cX9_lost 9 = .ok (.invokestatic 181, 3) := by decide +kernel
theorem dX9_lost_12 : decode cX9_lost 12 = .ok (.ifCond .ne 6, 3) := by decide +kernel
theorem dX9_lost_15 : decode cX9_lost 15 = .ok (.ldc 51, 2) := by decide +kernel
theorem dX9_lost_17 : decode cX9_lost 17 = .ok (.ireturn, 1) := by decide +kernel
theorem dX9_lost_18 : decode cX9_lost 18 = .ok (.aload_n 0, 1) := by decide +kernel
theorem dX9_lost_19 : decode cX9_lost 19 = .ok (.getfield 12, 3) := by decide +kernel
theorem dX9_lost_22 : decode cX9_lost 22 = .ok (.getfield 184, 3) := by decide +kernel
theorem dX9_lost_25 : decode cX9_lost 25 = .ok (.iload_n 2, 1) := by decide +kernel
theorem dX9_lost_26 : decode cX9_lost 26 = .ok (.invokevirtual 92, 3) := by decide +kernel
theorem dX9_lost_29 : decode cX9_lost 29 = .ok (.iload_n 1, 1) := by decide +kernel
theorem dX9_lost_30 : decode cX9_lost 30 = .ok (.invokestatic 208, 3) := by decide +kernel
theorem dX9_lost_33 : decode cX9_lost 33 = .ok (.ifCond .eq 7, 3) := by decide +kernel
theorem dX9_lost_36 : decode cX9_lost 36 = .ok (.iconst 1, 1) := by decide +kernel
theorem dX9_lost_37 : decode cX9_lost 37 = .ok (.goto 4, 3) := by decide +kernel
theorem dX9_lost_40 : decode cX9_lost 40 = .ok (.iconst 0, 1) := by decide +kernel
theorem dX9_lost_41 : decode cX9_lost 41 = .ok (.ireturn, 1) := by decide +kernel
theorem dX9_repair_0 : decode cX9_repair 0 = .ok (.iload_n 1, 1) := by decide +kernel
theorem dX9_repair_1 : decode cX9_repair 1 = .ok (.invokestatic 181, 3) := by decide +kernel
theorem dX9_repair_4 : decode cX9_repair 4 = .ok (.ifCond .ne 6, 3) := by decide +kernel
theorem dX9_repair_7 : decode cX9_repair 7 = .ok (.ldc 51, 2) := by decide +kernel
theorem dX9_repair_9 : decode cX9_repair 9 = .ok (.ireturn, 1) := by decide +kernel
theorem dX9_repair_10 : decode cX9_repair 10 = .ok (.aload_n 0, 1) := by decide +kernel
theorem dX9_repair_11 : decode cX9_repair 11 = .ok (.getfield 33, 3) := by decide +kernel
theorem dX9_repair_14 : decode cX9_repair 14 = .ok (.aload_n 0, 1) := by decide +kernel
theorem dX9_repair_15 : decode cX9_repair 15 = .ok (.getfield 12, 3) := by decide +kernel
theorem dX9_repair_18 : decode cX9_repair 18 = .ok (.iload_n 1, 1) := by decide +kernel
theorem dX9_repair_19 : decode cX9_repair 19 = .ok (.aload_n 0, 1) := by decide +kernel
theorem dX9_repair_20 : decode cX9_repair 20 = .ok (.getfield 12, 3) := by decide +kernel
theorem dX9_repair_23 : decode cX9_repair 23 = .ok (.getfield 121, 3) := by decide +kernel
theorem dX9_repair_26 : decode cX9_repair 26 = .ok (.iconst 0, 1) := by decide +kernel
theorem dX9_repair_27 : decode cX9_repair 27 = .ok (.invokevirtual 92, 3) := by decide +kernel
theorem dX9_repair_30 : decode cX9_repair 30 = .ok (.invokevirtual 211, 3) := by decide +kernel
theorem dX9_repair_33 : decode cX9_repair 33 = .ok (.aload_n 0, 1) := by decide +kernel
theorem dX9_repair_34 : decode cX9_repair 34 = .ok (.getfield 33, 3) := by decide +kernel
theorem dX9_repair_37 : decode cX9_repair 37 = .ok (.getfield 215, 3) := by decide +kernel
theorem dX9_repair_40 : decode cX9_repair 40 = .ok (.ifCond .eq 6, 3) := by decide +kernel
theorem dX9_repair_43 : decode cX9_repair 43 = .ok (.ldc 147, 2) := by decide +kernel
theorem dX9_repair_45 : decode cX9_repair 45 = .ok (.ireturn, 1) := by decide +kernel
theorem dX9_repair_46 : decode cX9_repair 46 = .ok (.aload_n 0, 1) := by decide +kernel
theorem dX9_repair_47 : decode cX9_repair 47 = .ok (.getfield 19, 3) := by decide +kernel
theorem dX9_repair_50 : decode cX9_repair 50 = .ok (.aload_n 0, 1) := by decide +kernel
theorem dX9_repair_51 : decode cX9_repair 51 = .ok (.getfield 12, 3) := by decide +kernel
theorem dX9_repair_54 : decode cX9_repair 54 = .ok (.invokevirtual 63, 3) := by decide +kernel
theorem dX9_repair_57 : decode cX9_repair 57 = .ok (.aload_n 0, 1) := by decide +kernel
theorem dX9_repair_58 : decode cX9_repair 58 = .ok (.getfield 12, 3) := by decide +kernel
theorem dX9_repair_61 : decode cX9_repair 61 = .ok (.aload_n 0, 1) := by decide +kernel
theorem dX9_repair_62 : decode cX9_repair 62 = .ok (.getfield 33, 3) := by decide +kernel
theorem dX9_repair_65 : decode cX9_repair 65 = .ok (.invokevirtual 218, 3) := by decide +kernel
theorem dX9_repair_68 : decode cX9_repair 68 = .ok (.aload_n 0, 1) := by decide +kernel
theorem dX9_repair_69 : decode cX9_repair 69 = .ok (.getfield 33, 3) := by decide +kernel
theorem dX9_repair_72 : decode cX9_repair 72 = .ok (.getfield 222, 3) := by decide +kernel
theorem dX9_repair_75 : decode cX9_repair 75 = .ok (.ireturn, 1) := by decide +kernel
theorem dX9_repairAll_0 : decode cX9_repairAll 0 = .ok (.aload_n 0, 1) := by decide +kernel
theorem dX9_repairAll_1 : decode cX9_repairAll 1 = .ok (.getfield 19, 3) := by decide +kernel
theorem dX9_repairAll_4 : decode cX9_repairAll 4 = .ok (.aload_n 0, 1) := by decide +kernel
theorem dX9_repairAll_5 : decode cX9_repairAll 5 = .ok (.getfield 12, 3) := by decide +kernel
theorem dX9_repairAll_8 : decode cX9_repairAll 8 = .ok (.invokevirtual 63, 3) := by decide +kernel
theorem dX9_repairAll_11 : decode cX9_repairAll 11 = .ok (.iconst 0, 1) := by decide +kernel
theorem dX9_repairAll_12 : decode cX9_repairAll 12 = .ok (.istore_n 1, 1) := by decide +kernel
theorem dX9_repairAll_13 : decode cX9_repairAll 13 = .ok (.iconst 0, 1) := by decide +kernel
theorem dX9_repairAll_14 : decode cX9_repairAll 14 = .ok (.istore_n 2, 1) := by decide +kernel
theorem dX9_repairAll_15 : decode cX9_repairAll 15 = .ok (.iload_n 2, 1) := by decide +kernel
theorem dX9_repairAll_16 : decode cX9_repairAll 16 = .ok (.sipush 200, 3) := by decide +kernel
theorem dX9_repairAll_19 : decode cX9_repairAll 19 = .ok (.if_icmp .ge 56, 3) := by decide +kernel
theorem dX9_repairAll_22 : decode cX9_repairAll 22 = .ok (.aload_n 0, 1) := by decide +kernel
theorem dX9_repairAll_23 : decode cX9_repairAll 23 = .ok (.getfield 33, 3) := by decide +kernel
theorem dX9_repairAll_26 : decode cX9_repairAll 26 = .ok (.aload_n 0, 1) := by decide +kernel
theorem dX9_repairAll_27 : decode cX9_repairAll 27 = .ok (.getfield 12, 3) := by decide +kernel
theorem dX9_repairAll_30 : decode cX9_repairAll 30 = .ok (.iload_n 2, 1) := by decide +kernel
theorem dX9_repairAll_31 : decode cX9_repairAll 31 = .ok (.aload_n 0, 1) := by decide +kernel
theorem dX9_repairAll_32 : decode cX9_repairAll 32 = .ok (.getfield 12, 3) := by decide +kernel
theorem dX9_repairAll_35 : decode cX9_repairAll 35 = .ok (.getfield 121, 3) := by decide +kernel
theorem dX9_repairAll_38 : decode cX9_repairAll 38 = .ok (.iconst 0, 1) := by decide +kernel
theorem dX9_repairAll_39 : decode cX9_repairAll 39 = .ok (.invokevirtual 92, 3) := by decide +kernel
theorem dX9_repairAll_42 : decode cX9_repairAll 42 = .ok (.invokevirtual 211, 3) := by decide +kernel
theorem dX9_repairAll_45 : decode cX9_repairAll 45 = .ok (.aload_n 0, 1) := by decide +kernel
theorem dX9_repairAll_46 : decode cX9_repairAll 46 = .ok (.getfield 33, 3) := by decide +kernel
theorem dX9_repairAll_49 : decode cX9_repairAll 49 = .ok (.getfield 215, 3) := by decide +kernel
theorem dX9_repairAll_52 : decode cX9_repairAll 52 = .ok (.ifCond .ne 17, 3) := by decide +kernel
theorem dX9_repairAll_55 : decode cX9_repairAll 55 = .ok (.aload_n 0, 1) := by decide +kernel
theorem dX9_repairAll_56 : decode cX9_repairAll 56 = .ok (.getfield 12, 3) := by decide +kernel
theorem dX9_repairAll_59 : decode cX9_repairAll 59 = .ok (.aload_n 0, 1) := by decide +kernel
theorem dX9_repairAll_60 : decode cX9_repairAll 60 = .ok (.getfield 33, 3) := by decide +kernel
theorem dX9_repairAll_63 : decode cX9_repairAll 63 = .ok (.invokevirtual 218, 3) := by decide +kernel
theorem dX9_repairAll_66 : decode cX9_repairAll 66 = .ok (.iinc 1 1, 3) := by decide +kernel
theorem dX9_repairAll_69 : decode cX9_repairAll 69 = .ok (.iinc 2 1, 3) := by decide +kernel
theorem dX9_repairAll_72 : decode cX9_repairAll 72 = .ok (.goto (-57), 3) := by decide +kernel
theorem dX9_repairAll_75 : decode cX9_repairAll 75 = .ok (.iload_n 1, 1) := by decide +kernel
theorem dX9_repairAll_76 : decode cX9_repairAll 76 = .ok (.ireturn, 1) := by decide +kernel
theorem dX9_look_0 : decode cX9_look 0 = .ok (.iload_n 1, 1) := by decide +kernel
theorem dX9_look_1 : decode cX9_look 1 = .ok (.invokestatic 181, 3) := by decide +kernel
theorem dX9_look_4 : decode cX9_look 4 = .ok (.ifCond .eq 20, 3) := by decide +kernel
theorem dX9_look_7 : decode cX9_look 7 = .ok (.aload_n 0, 1) := by decide +kernel
theorem dX9_look_8 : decode cX9_look 8 = .ok (.iload_n 2, 1) := by decide +kernel
theorem dX9_look_9 : decode cX9_look 9 = .ok (.invokevirtual 71, 3) := by decide +kernel
theorem dX9_look_12 : decode cX9_look 12 = .ok (.ifCond .eq 12, 3) := by decide +kernel
theorem dX9_look_15 : decode cX9_look 15 = .ok (.iload_n 3, 1) := by decide +kernel
theorem dX9_look_16 : decode cX9_look 16 = .ok (.ifCond .lt 8, 3) := by decide +kernel
theorem dX9_look_19 : decode cX9_look 19 = .ok (.iload_n 3, 1) := by decide +kernel
theorem dX9_look_20 : decode cX9_look 20 = .ok (.iconst 2, 1) := by decide +kernel
theorem dX9_look_21 : decode cX9_look 21 = .ok (.if_icmp .le 6, 3) := by decide +kernel
theorem dX9_look_24 : decode cX9_look 24 = .ok (.ldc 51, 2) := by decide +kernel
theorem dX9_look_26 : decode cX9_look 26 = .ok (.ireturn, 1) := by decide +kernel
theorem dX9_look_27 : decode cX9_look 27 = .ok (.aload_n 0, 1) := by decide +kernel
theorem dX9_look_28 : decode cX9_look 28 = .ok (.getfield 33, 3) := by decide +kernel
theorem dX9_look_31 : decode cX9_look 31 = .ok (.aload_n 0, 1) := by decide +kernel
theorem dX9_look_32 : decode cX9_look 32 = .ok (.getfield 12, 3) := by decide +kernel
theorem dX9_look_35 : decode cX9_look 35 = .ok (.iload_n 1, 1) := by decide +kernel
theorem dX9_look_36 : decode cX9_look 36 = .ok (.aload_n 0, 1) := by decide +kernel
theorem dX9_look_37 : decode cX9_look 37 = .ok (.getfield 12, 3) := by decide +kernel
theorem dX9_look_40 : decode cX9_look 40 = .ok (.getfield 121, 3) := by decide +kernel
theorem dX9_look_43 : decode cX9_look 43 = .ok (.iconst 0, 1) := by decide +kernel
theorem dX9_look_44 : decode cX9_look 44 = .ok (.invokevirtual 92, 3) := by decide +kernel
theorem dX9_look_47 : decode cX9_look 47 = .ok (.invokevirtual 211, 3) := by decide +kernel
theorem dX9_look_50 : decode cX9_look 50 = .ok (.aload_n 0, 1) := by decide +kernel
theorem dX9_look_51 : decode cX9_look 51 = .ok (.getfield 33, 3) := by decide +kernel
theorem dX9_look_54 : decode cX9_look 54 = .ok (.getfield 215, 3) := by decide +kernel
theorem dX9_look_57 : decode cX9_look 57 = .ok (.ifCond .eq 6, 3) := by decide +kernel
theorem dX9_look_60 : decode cX9_look 60 = .ok (.ldc 147, 2) := by decide +kernel
theorem dX9_look_62 : decode cX9_look 62 = .ok (.ireturn, 1) := by decide +kernel
theorem dX9_look_63 : decode cX9_look 63 = .ok (.iload_n 3, 1) := by decide +kernel
theorem dX9_look_64 : decode cX9_look 64 = .ok (.ifCond .ne 12, 3) := by decide +kernel
theorem dX9_look_67 : decode cX9_look 67 = .ok (.aload_n 0, 1) := by decide +kernel
theorem dX9_look_68 : decode cX9_look 68 = .ok (.getfield 33, 3) := by decide +kernel
theorem dX9_look_71 : decode cX9_look 71 = .ok (.iload_n 2, 1) := by decide +kernel
theorem dX9_look_72 : decode cX9_look 72 = .ok (.invokevirtual 225, 3) := by decide +kernel
theorem dX9_look_75 : decode cX9_look 75 = .ok (.ireturn, 1) := by decide +kernel
theorem dX9_look_76 : decode cX9_look 76 = .ok (.aload_n 0, 1) := by decide +kernel
theorem dX9_look_77 : decode cX9_look 77 = .ok (.getfield 33, 3) := by decide +kernel
theorem dX9_look_80 : decode cX9_look 80 = .ok (.getfield 228, 3) := by decide +kernel
theorem dX9_look_83 : decode cX9_look 83 = .ok (.iload_n 2, 1) := by decide +kernel
theorem dX9_look_84 : decode cX9_look 84 = .ok (.invokestatic 208, 3) := by decide +kernel
theorem dX9_look_87 : decode cX9_look 87 = .ok (.ifCond .ne 6, 3) := by decide +kernel
theorem dX9_look_90 : decode cX9_look 90 = .ok (.ldc 231, 2) := by decide +kernel
theorem dX9_look_92 : decode cX9_look 92 = .ok (.ireturn, 1) := by decide +kernel
theorem dX9_look_93 : decode cX9_look 93 = .ok (.iload_n 3, 1) := by decide +kernel
theorem dX9_look_94 : decode cX9_look 94 = .ok (.iconst 1, 1) := by decide +kernel
theorem dX9_look_95 : decode cX9_look 95 = .ok (.if_icmp .ne 17, 3) := by decide +kernel
theorem dX9_look_98 : decode cX9_look 98 = .ok (.aload_n 0, 1) := by decide +kernel
theorem dX9_look_99 : decode cX9_look 99 = .ok (.getfield 33, 3) := by decide +kernel
theorem dX9_look_102 : decode cX9_look 102 = .ok (.getfield 232, 3) := by decide +kernel
theorem dX9_look_105 : decode cX9_look 105 = .ok (.iload_n 2, 1) := by decide +kernel
theorem dX9_look_106 : decode cX9_look 106 = .ok (.invokevirtual 92, 3) := by decide +kernel
theorem dX9_look_109 : decode cX9_look 109 = .ok (.goto 14, 3) := by decide +kernel
theorem dX9_look_112 : decode cX9_look 112 = .ok (.aload_n 0, 1) := by decide +kernel
theorem dX9_look_113 : decode cX9_look 113 = .ok (.getfield 33, 3) := by decide +kernel
theorem dX9_look_116 : decode cX9_look 116 = .ok (.getfield 235, 3) := by decide +kernel
theorem dX9_look_119 : decode cX9_look 119 = .ok (.iload_n 2, 1) := by decide +kernel
theorem dX9_look_120 : decode cX9_look 120 = .ok (.invokevirtual 92, 3) := by decide +kernel
theorem dX9_look_123 : decode cX9_look 123 = .ok (.ireturn, 1) := by decide +kernel
theorem dX9_past_0 : decode cX9_past 0 = .ok (.iload_n 1, 1) := by decide +kernel
theorem dX9_past_1 : decode cX9_past 1 = .ok (.ifCond .lt 13, 3) := by decide +kernel
theorem dX9_past_4 : decode cX9_past 4 = .ok (.iload_n 2, 1) := by decide +kernel
theorem dX9_past_5 : decode cX9_past 5 = .ok (.ifCond .lt 9, 3) := by decide +kernel
theorem dX9_past_8 : decode cX9_past 8 = .ok (.iload_n 2, 1) := by decide +kernel
theorem dX9_past_9 : decode cX9_past 9 = .ok (.bipush 7, 2) := by decide +kernel
theorem dX9_past_11 : decode cX9_past 11 = .ok (.if_icmp .lt 6, 3) := by decide +kernel
theorem dX9_past_14 : decode cX9_past 14 = .ok (.ldc 51, 2) := by decide +kernel
theorem dX9_past_16 : decode cX9_past 16 = .ok (.ireturn, 1) := by decide +kernel
theorem dX9_past_17 : decode cX9_past 17 = .ok (.aload_n 0, 1) := by decide +kernel
theorem dX9_past_18 : decode cX9_past 18 = .ok (.getfield 12, 3) := by decide +kernel
theorem dX9_past_21 : decode cX9_past 21 = .ok (.getfield 127, 3) := by decide +kernel
theorem dX9_past_24 : decode cX9_past 24 = .ok (.iload_n 1, 1) := by decide +kernel
theorem dX9_past_25 : decode cX9_past 25 = .ok (.iload_n 2, 1) := by decide +kernel
theorem dX9_past_26 : decode cX9_past 26 = .ok (.invokevirtual 238, 3) := by decide +kernel
theorem dX9_past_29 : decode cX9_past 29 = .ok (.ireturn, 1) := by decide +kernel
theorem dX9_why_0 : decode cX9_why 0 = .ok (.iload_n 1, 1) := by decide +kernel
theorem dX9_why_1 : decode cX9_why 1 = .ok (.invokestatic 181, 3) := by decide +kernel
theorem dX9_why_4 : decode cX9_why 4 = .ok (.ifCond .ne 6, 3) := by decide +kernel
theorem dX9_why_7 : decode cX9_why 7 = .ok (.ldc 51, 2) := by decide +kernel
theorem dX9_why_9 : decode cX9_why 9 = .ok (.ireturn, 1) := by decide +kernel
theorem dX9_why_10 : decode cX9_why 10 = .ok (.aload_n 0, 1) := by decide +kernel
theorem dX9_why_11 : decode cX9_why 11 = .ok (.getfield 33, 3) := by decide +kernel
theorem dX9_why_14 : decode cX9_why 14 = .ok (.aload_n 0, 1) := by decide +kernel
theorem dX9_why_15 : decode cX9_why 15 = .ok (.getfield 12, 3) := by decide +kernel
theorem dX9_why_18 : decode cX9_why 18 = .ok (.iload_n 1, 1) := by decide +kernel
theorem dX9_why_19 : decode cX9_why 19 = .ok (.aload_n 0, 1) := by decide +kernel
theorem dX9_why_20 : decode cX9_why 20 = .ok (.getfield 12, 3) := by decide +kernel
theorem dX9_why_23 : decode cX9_why 23 = .ok (.getfield 121, 3) := by decide +kernel
theorem dX9_why_26 : decode cX9_why 26 = .ok (.iconst 0, 1) := by decide +kernel
theorem dX9_why_27 : decode cX9_why 27 = .ok (.invokevirtual 92, 3) := by decide +kernel
theorem dX9_why_30 : decode cX9_why 30 = .ok (.invokevirtual 211, 3) := by decide +kernel
theorem dX9_why_33 : decode cX9_why 33 = .ok (.aload_n 0, 1) := by decide +kernel
theorem dX9_why_34 : decode cX9_why 34 = .ok (.getfield 33, 3) := by decide +kernel
theorem dX9_why_37 : decode cX9_why 37 = .ok (.getfield 215, 3) := by decide +kernel
theorem dX9_why_40 : decode cX9_why 40 = .ok (.ireturn, 1) := by decide +kernel
theorem dX9_silence_0 : decode cX9_silence 0 = .ok (.aload_n 0, 1) := by decide +kernel
theorem dX9_silence_1 : decode cX9_silence 1 = .ok (.getfield 12, 3) := by decide +kernel
theorem dX9_silence_4 : decode cX9_silence 4 = .ok (.getfield 127, 3) := by decide +kernel
theorem dX9_silence_7 : decode cX9_silence 7 = .ok (.getfield 139, 3) := by decide +kernel
theorem dX9_silence_10 : decode cX9_silence 10 = .ok (.i2f, 1) := by decide +kernel
theorem dX9_silence_11 : decode cX9_silence 11 = .ok (.fstore_n 1, 1) := by decide +kernel
theorem dX9_silence_12 : decode cX9_silence 12 = .ok (.aload_n 0, 1) := by decide +kernel
