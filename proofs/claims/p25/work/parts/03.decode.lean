theorem dX0_init_0 : decode cX0_init 0 = .ok (.aload_n 0, 1) := by decide +kernel
theorem dX0_init_1 : decode cX0_init 1 = .ok (.invokespecial 3, 3) := by decide +kernel
theorem dX0_init_4 : decode cX0_init 4 = .ok (.aload_n 0, 1) := by decide +kernel
theorem dX0_init_5 : decode cX0_init 5 = .ok (.sipush 160, 3) := by decide +kernel
theorem dX0_init_8 : decode cX0_init 8 = .ok (.newarray .boolean, 2) := by decide +kernel
theorem dX0_init_10 : decode cX0_init 10 = .ok (.putfield 9, 3) := by decide +kernel
theorem dX0_init_13 : decode cX0_init 13 = .ok (.aload_n 0, 1) := by decide +kernel
theorem dX0_init_14 : decode cX0_init 14 = .ok (.sipush 160, 3) := by decide +kernel
theorem dX0_init_17 : decode cX0_init 17 = .ok (.newarray .int, 2) := by decide +kernel
theorem dX0_init_19 : decode cX0_init 19 = .ok (.putfield 15, 3) := by decide +kernel
theorem dX0_init_22 : decode cX0_init 22 = .ok (.aload_n 0, 1) := by decide +kernel
theorem dX0_init_23 : decode cX0_init 23 = .ok (.sipush 160, 3) := by decide +kernel
theorem dX0_init_26 : decode cX0_init 26 = .ok (.newarray .boolean, 2) := by decide +kernel
theorem dX0_init_28 : decode cX0_init 28 = .ok (.putfield 19, 3) := by decide +kernel
theorem dX0_init_31 : decode cX0_init 31 = .ok (.aload_n 0, 1) := by decide +kernel
theorem dX0_init_32 : decode cX0_init 32 = .ok (.sipush 160, 3) := by decide +kernel
theorem dX0_init_35 : decode cX0_init 35 = .ok (.newarray .boolean, 2) := by decide +kernel
theorem dX0_init_37 : decode cX0_init 37 = .ok (.putfield 22, 3) := by decide +kernel
theorem dX0_init_40 : decode cX0_init 40 = .ok (.aload_n 0, 1) := by decide +kernel
theorem dX0_init_41 : decode cX0_init 41 = .ok (.sipush 160, 3) := by decide +kernel
theorem dX0_init_44 : decode cX0_init 44 = .ok (.newarray .int, 2) := by decide +kernel
theorem dX0_init_46 : decode cX0_init 46 = .ok (.putfield 25, 3) := by decide +kernel
theorem dX0_init_49 : decode cX0_init 49 = .ok (.aload_n 0, 1) := by decide +kernel
theorem dX0_init_50 : decode cX0_init 50 = .ok (.iconst 0, 1) := by decide +kernel
theorem dX0_init_51 : decode cX0_init 51 = .ok (.putfield 28, 3) := by decide +kernel
theorem dX0_init_54 : decode cX0_init 54 = .ok (.aload_n 0, 1) := by decide +kernel
theorem dX0_init_55 : decode cX0_init 55 = .ok (.iconst 0, 1) := by decide +kernel
theorem dX0_init_56 : decode cX0_init 56 = .ok (.putfield 32, 3) := by decide +kernel
theorem dX0_init_59 : decode cX0_init 59 = .ok (.return_, 1) := by decide +kernel
theorem dX0_search_0 : decode cX0_search 0 = .ok (.aload_n 0, 1) := by decide +kernel
theorem dX0_search_1 : decode cX0_search 1 = .ok (.aload_n 1, 1) := by decide +kernel
theorem dX0_search_2 : decode cX0_search 2 = .ok (.iload_n 2, 1) := by decide +kernel
theorem dX0_search_3 : decode cX0_search 3 = .ok (.iload_n 3, 1) := by decide +kernel
theorem dX0_search_4 : decode cX0_search 4 = .ok (.iload 4, 2) := by decide +kernel
theorem dX0_search_6 : decode cX0_search 6 = .ok (.invokevirtual 35, 3) := by decide +kernel
theorem dX0_search_9 : decode cX0_search 9 = .ok (.pop, 1) := by decide +kernel
theorem dX0_search_10 : decode cX0_search 10 = .ok (.aload_n 0, 1) := by decide +kernel
theorem dX0_search_11 : decode cX0_search 11 = .ok (.iload_n 2, 1) := by decide +kernel
theorem dX0_search_12 : decode cX0_search 12 = .ok (.iload 5, 2) := by decide +kernel
theorem dX0_search_14 : decode cX0_search 14 = .ok (.invokevirtual 39, 3) := by decide +kernel
theorem dX0_search_17 : decode cX0_search 17 = .ok (.ireturn, 1) := by decide +kernel
theorem dX0_softLevels_0 : decode cX0_softLevels 0 = .ok (.sipush 160, 3) := by decide +kernel
theorem dX0_softLevels_3 : decode cX0_softLevels 3 = .ok (.newarray .int, 2) := by decide +kernel
theorem dX0_softLevels_5 : decode cX0_softLevels 5 = .ok (.astore_n 2, 1) := by decide +kernel
theorem dX0_softLevels_6 : decode cX0_softLevels 6 = .ok (.iconst 0, 1) := by decide +kernel
theorem dX0_softLevels_7 : decode cX0_softLevels 7 = .ok (.istore_n 3, 1) := by decide +kernel
theorem dX0_softLevels_8 : decode cX0_softLevels 8 = .ok (.iload_n 3, 1) := by decide +kernel
theorem dX0_softLevels_9 : decode cX0_softLevels 9 = .ok (.sipush 160, 3) := by decide +kernel
theorem dX0_softLevels_12 : decode cX0_softLevels 12 = .ok (.if_icmp .ge 27, 3) := by decide +kernel
theorem dX0_softLevels_15 : decode cX0_softLevels 15 = .ok (.aload_n 2, 1) := by decide +kernel
theorem dX0_softLevels_16 : decode cX0_softLevels 16 = .ok (.iload_n 3, 1) := by decide +kernel
theorem dX0_softLevels_17 : decode cX0_softLevels 17 = .ok (.aload_n 0, 1) := by decide +kernel
theorem dX0_softLevels_18 : decode cX0_softLevels 18 = .ok (.getfield 22, 3) := by decide +kernel
theorem dX0_softLevels_21 : decode cX0_softLevels 21 = .ok (.iload_n 3, 1) := by decide +kernel
theorem dX0_softLevels_22 : decode cX0_softLevels 22 = .ok (.baload, 1) := by decide +kernel
theorem dX0_softLevels_23 : decode cX0_softLevels 23 = .ok (.ifCond .eq 8, 3) := by decide +kernel
theorem dX0_softLevels_26 : decode cX0_softLevels 26 = .ok (.bipush 100, 2) := by decide +kernel
theorem dX0_softLevels_28 : decode cX0_softLevels 28 = .ok (.goto 4, 3) := by decide +kernel
theorem dX0_softLevels_31 : decode cX0_softLevels 31 = .ok (.iconst 0, 1) := by decide +kernel
theorem dX0_softLevels_32 : decode cX0_softLevels 32 = .ok (.iastore, 1) := by decide +kernel
theorem dX0_softLevels_33 : decode cX0_softLevels 33 = .ok (.iinc 3 1, 3) := by decide +kernel
theorem dX0_softLevels_36 : decode cX0_softLevels 36 = .ok (.goto (-28), 3) := by decide +kernel
theorem dX0_softLevels_39 : decode cX0_softLevels 39 = .ok (.bipush 100, 2) := by decide +kernel
theorem dX0_softLevels_41 : decode cX0_softLevels 41 = .ok (.istore_n 3, 1) := by decide +kernel
theorem dX0_softLevels_42 : decode cX0_softLevels 42 = .ok (.iconst 1, 1) := by decide +kernel
theorem dX0_softLevels_43 : decode cX0_softLevels 43 = .ok (.istore 4, 2) := by decide +kernel
theorem dX0_softLevels_45 : decode cX0_softLevels 45 = .ok (.iload 4, 2) := by decide +kernel
theorem dX0_softLevels_47 : decode cX0_softLevels 47 = .ok (.iload_n 1, 1) := by decide +kernel
theorem dX0_softLevels_48 : decode cX0_softLevels 48 = .ok (.if_icmp .gt 34, 3) := by decide +kernel
theorem dX0_softLevels_51 : decode cX0_softLevels 51 = .ok (.bipush 100, 2) := by decide +kernel
theorem dX0_softLevels_53 : decode cX0_softLevels 53 = .ok (.iload_n 1, 1) := by decide +kernel
theorem dX0_softLevels_54 : decode cX0_softLevels 54 = .ok (.iconst 1, 1) := by decide +kernel
theorem dX0_softLevels_55 : decode cX0_softLevels 55 = .ok (.iadd, 1) := by decide +kernel
theorem dX0_softLevels_56 : decode cX0_softLevels 56 = .ok (.iload 4, 2) := by decide +kernel
theorem dX0_softLevels_58 : decode cX0_softLevels 58 = .ok (.isub, 1) := by decide +kernel
theorem dX0_softLevels_59 : decode cX0_softLevels 59 = .ok (.imul, 1) := by decide +kernel
theorem dX0_softLevels_60 : decode cX0_softLevels 60 = .ok (.iload_n 1, 1) := by decide +kernel
theorem dX0_softLevels_61 : decode cX0_softLevels 61 = .ok (.iconst 1, 1) := by decide +kernel
theorem dX0_softLevels_62 : decode cX0_softLevels 62 = .ok (.iadd, 1) := by decide +kernel
theorem dX0_softLevels_63 : decode cX0_softLevels 63 = .ok (.idiv, 1) := by decide +kernel
theorem dX0_softLevels_64 : decode cX0_softLevels 64 = .ok (.istore 5, 2) := by decide +kernel
theorem dX0_softLevels_66 : decode cX0_softLevels 66 = .ok (.aload_n 2, 1) := by decide +kernel
theorem dX0_softLevels_67 : decode cX0_softLevels 67 = .ok (.iload_n 3, 1) := by decide +kernel
theorem dX0_softLevels_68 : decode cX0_softLevels 68 = .ok (.iload 5, 2) := by decide +kernel
theorem dX0_softLevels_70 : decode cX0_softLevels 70 = .ok (.invokestatic 51, 3) := by decide +kernel
theorem dX0_softLevels_73 : decode cX0_softLevels 73 = .ok (.iload 5, 2) := by decide +kernel
theorem dX0_softLevels_75 : decode cX0_softLevels 75 = .ok (.istore_n 3, 1) := by decide +kernel
theorem dX0_softLevels_76 : decode cX0_softLevels 76 = .ok (.iinc 4 1, 3) := by decide +kernel
theorem dX0_softLevels_79 : decode cX0_softLevels 79 = .ok (.goto (-34), 3) := by decide +kernel
theorem dX0_softLevels_82 : decode cX0_softLevels 82 = .ok (.aload_n 2, 1) := by decide +kernel
theorem dX0_softLevels_83 : decode cX0_softLevels 83 = .ok (.areturn, 1) := by decide +kernel
theorem dX0_clear_0 : decode cX0_clear 0 = .ok (.iconst 0, 1) := by decide +kernel
theorem dX0_clear_1 : decode cX0_clear 1 = .ok (.istore_n 1, 1) := by decide +kernel
theorem dX0_clear_2 : decode cX0_clear 2 = .ok (.iload_n 1, 1) := by decide +kernel
theorem dX0_clear_3 : decode cX0_clear 3 = .ok (.sipush 160, 3) := by decide +kernel
theorem dX0_clear_6 : decode cX0_clear 6 = .ok (.if_icmp .ge 13, 3) := by decide +kernel
theorem dX0_clear_9 : decode cX0_clear 9 = .ok (.aload_n 0, 1) := by decide +kernel
theorem dX0_clear_10 : decode cX0_clear 10 = .ok (.iload_n 1, 1) := by decide +kernel
theorem dX0_clear_11 : decode cX0_clear 11 = .ok (.iconst 0, 1) := by decide +kernel
theorem dX0_clear_12 : decode cX0_clear 12 = .ok (.bastore, 1) := by decide +kernel
theorem dX0_clear_13 : decode cX0_clear 13 = .ok (.iinc 1 1, 3) := by decide +kernel
theorem dX0_clear_16 : decode cX0_clear 16 = .ok (.goto (-14), 3) := by decide +kernel
theorem dX0_clear_19 : decode cX0_clear 19 = .ok (.return_, 1) := by decide +kernel
theorem dX0_findAlike_0 : decode cX0_findAlike 0 = .ok (.aload_n 0, 1) := by decide +kernel
theorem dX0_findAlike_1 : decode cX0_findAlike 1 = .ok (.getfield 9, 3) := by decide +kernel
theorem dX0_findAlike_4 : decode cX0_findAlike 4 = .ok (.invokestatic 43, 3) := by decide +kernel
theorem dX0_findAlike_7 : decode cX0_findAlike 7 = .ok (.iload 4, 2) := by decide +kernel
theorem dX0_findAlike_9 : decode cX0_findAlike 9 = .ok (.iconst 1, 1) := by decide +kernel
theorem dX0_findAlike_10 : decode cX0_findAlike 10 = .ok (.if_icmp .ne 11, 3) := by decide +kernel
theorem dX0_findAlike_13 : decode cX0_findAlike 13 = .ok (.aload_n 0, 1) := by decide +kernel
theorem dX0_findAlike_14 : decode cX0_findAlike 14 = .ok (.aload_n 1, 1) := by decide +kernel
theorem dX0_findAlike_15 : decode cX0_findAlike 15 = .ok (.iload_n 2, 1) := by decide +kernel
theorem dX0_findAlike_16 : decode cX0_findAlike 16 = .ok (.iload_n 3, 1) := by decide +kernel
theorem dX0_findAlike_17 : decode cX0_findAlike 17 = .ok (.invokevirtual 47, 3) := by decide +kernel
theorem dX0_findAlike_20 : decode cX0_findAlike 20 = .ok (.ireturn, 1) := by decide +kernel
theorem dX0_findAlike_21 : decode cX0_findAlike 21 = .ok (.iconst 0, 1) := by decide +kernel
theorem dX0_findAlike_22 : decode cX0_findAlike 22 = .ok (.istore 5, 2) := by decide +kernel
theorem dX0_findAlike_24 : decode cX0_findAlike 24 = .ok (.iconst 0, 1) := by decide +kernel
theorem dX0_findAlike_25 : decode cX0_findAlike 25 = .ok (.istore 6, 2) := by decide +kernel
theorem dX0_findAlike_27 : decode cX0_findAlike 27 = .ok (.iload 6, 2) := by decide +kernel
theorem dX0_findAlike_29 : decode cX0_findAlike 29 = .ok (.sipush 160, 3) := by decide +kernel
theorem dX0_findAlike_32 : decode cX0_findAlike 32 = .ok (.if_icmp .ge 35, 3) := by decide +kernel
theorem dX0_findAlike_35 : decode cX0_findAlike 35 = .ok (.aload_n 1, 1) := by decide +kernel
theorem dX0_findAlike_36 : decode cX0_findAlike 36 = .ok (.iload 6, 2) := by decide +kernel
theorem dX0_findAlike_38 : decode cX0_findAlike 38 = .ok (.iaload, 1) := by decide +kernel
theorem dX0_findAlike_39 : decode cX0_findAlike 39 = .ok (.aload_n 1, 1) := by decide +kernel
theorem dX0_findAlike_40 : decode cX0_findAlike 40 = .ok (.iload_n 2, 1) := by decide +kernel
theorem dX0_findAlike_41 : decode cX0_findAlike 41 = .ok (.iaload, 1) := by decide +kernel
theorem dX0_findAlike_42 : decode cX0_findAlike 42 = .ok (.isub, 1) := by decide +kernel
theorem dX0_findAlike_43 : decode cX0_findAlike 43 = .ok (.invokestatic 55, 3) := by decide +kernel
theorem dX0_findAlike_46 : decode cX0_findAlike 46 = .ok (.iload_n 3, 1) := by decide +kernel
theorem dX0_findAlike_47 : decode cX0_findAlike 47 = .ok (.if_icmp .gt 14, 3) := by decide +kernel
theorem dX0_findAlike_50 : decode cX0_findAlike 50 = .ok (.aload_n 0, 1) := by decide +kernel
theorem dX0_findAlike_51 : decode cX0_findAlike 51 = .ok (.getfield 9, 3) := by decide +kernel
theorem dX0_findAlike_54 : decode cX0_findAlike 54 = .ok (.iload 6, 2) := by decide +kernel
theorem dX0_findAlike_56 : decode cX0_findAlike 56 = .ok (.iconst 1, 1) := by decide +kernel
theorem dX0_findAlike_57 : decode cX0_findAlike 57 = .ok (.bastore, 1) := by decide +kernel
theorem dX0_findAlike_58 : decode cX0_findAlike 58 = .ok (.iinc 5 1, 3) := by decide +kernel
theorem dX0_findAlike_61 : decode cX0_findAlike 61 = .ok (.iinc 6 1, 3) := by decide +kernel
theorem dX0_findAlike_64 : decode cX0_findAlike 64 = .ok (.goto (-37), 3) := by decide +kernel
theorem dX0_findAlike_67 : decode cX0_findAlike 67 = .ok (.iload 5, 2) := by decide +kernel
theorem dX0_findAlike_69 : decode cX0_findAlike 69 = .ok (.ireturn, 1) := by decide +kernel
theorem dX0_flood_0 : decode cX0_flood 0 = .ok (.aload_n 0, 1) := by decide +kernel
theorem dX0_flood_1 : decode cX0_flood 1 = .ok (.iconst 0, 1) := by decide +kernel
theorem dX0_flood_2 : decode cX0_flood 2 = .ok (.putfield 28, 3) := by decide +kernel
theorem dX0_flood_5 : decode cX0_flood 5 = .ok (.aload_n 0, 1) := by decide +kernel
theorem dX0_flood_6 : decode cX0_flood 6 = .ok (.aload_n 0, 1) := by decide +kernel
theorem dX0_flood_7 : decode cX0_flood 7 = .ok (.getfield 9, 3) := by decide +kernel
theorem dX0_flood_10 : decode cX0_flood 10 = .ok (.iload_n 2, 1) := by decide +kernel
theorem dX0_flood_11 : decode cX0_flood 11 = .ok (.invokevirtual 61, 3) := by decide +kernel
theorem dX0_flood_14 : decode cX0_flood 14 = .ok (.iconst 0, 1) := by decide +kernel
theorem dX0_flood_15 : decode cX0_flood 15 = .ok (.istore 4, 2) := by decide +kernel
theorem dX0_flood_17 : decode cX0_flood 17 = .ok (.iload 4, 2) := by decide +kernel
theorem dX0_flood_19 : decode cX0_flood 19 = .ok (.aload_n 0, 1) := by decide +kernel
theorem dX0_flood_20 : decode cX0_flood 20 = .ok (.getfield 28, 3) := by decide +kernel
theorem dX0_flood_23 : decode cX0_flood 23 = .ok (.if_icmp .ge 81, 3) := by decide +kernel
theorem dX0_flood_26 : decode cX0_flood 26 = .ok (.iload 4, 2) := by decide +kernel
theorem dX0_flood_28 : decode cX0_flood 28 = .ok (.sipush 160, 3) := by decide +kernel
theorem dX0_flood_31 : decode cX0_flood 31 = .ok (.if_icmp .ge 73, 3) := by decide +kernel
theorem dX0_flood_34 : decode cX0_flood 34 = .ok (.aload_n 0, 1) := by decide +kernel
theorem dX0_flood_35 : decode cX0_flood 35 = .ok (.getfield 25, 3) := by decide +kernel
theorem dX0_flood_38 : decode cX0_flood 38 = .ok (.iload 4, 2) := by decide +kernel
theorem dX0_flood_40 : decode cX0_flood 40 = .ok (.iaload, 1) := by decide +kernel
theorem dX0_flood_41 : decode cX0_flood 41 = .ok (.istore 5, 2) := by decide +kernel
theorem dX0_flood_43 : decode cX0_flood 43 = .ok (.iconst 0, 1) := by decide +kernel
theorem dX0_flood_44 : decode cX0_flood 44 = .ok (.istore 6, 2) := by decide +kernel
theorem dX0_flood_46 : decode cX0_flood 46 = .ok (.iload 6, 2) := by decide +kernel
theorem dX0_flood_48 : decode cX0_flood 48 = .ok (.iconst 4, 1) := by decide +kernel
theorem dX0_flood_49 : decode cX0_flood 49 = .ok (.if_icmp .ge 49, 3) := by decide +kernel
theorem dX0_flood_52 : decode cX0_flood 52 = .ok (.iload 5, 2) := by decide +kernel
theorem dX0_flood_54 : decode cX0_flood 54 = .ok (.iload 6, 2) := by decide +kernel
theorem dX0_flood_56 : decode cX0_flood 56 = .ok (.invokestatic 65, 3) := by decide +kernel
theorem dX0_flood_59 : decode cX0_flood 59 = .ok (.istore 7, 2) := by decide +kernel
theorem dX0_flood_61 : decode cX0_flood 61 = .ok (.iload 7, 2) := by decide +kernel
theorem dX0_flood_63 : decode cX0_flood 63 = .ok (.ifCond .lt 29, 3) := by decide +kernel
theorem dX0_flood_66 : decode cX0_flood 66 = .ok (.aload_n 1, 1) := by decide +kernel
theorem dX0_flood_67 : decode cX0_flood 67 = .ok (.iload 7, 2) := by decide +kernel
theorem dX0_flood_69 : decode cX0_flood 69 = .ok (.iaload, 1) := by decide +kernel
theorem dX0_flood_70 : decode cX0_flood 70 = .ok (.aload_n 1, 1) := by decide +kernel
theorem dX0_flood_71 : decode cX0_flood 71 = .ok (.iload 5, 2) := by decide +kernel
theorem dX0_flood_73 : decode cX0_flood 73 = .ok (.iaload, 1) := by decide +kernel
theorem dX0_flood_74 : decode cX0_flood 74 = .ok (.isub, 1) := by decide +kernel
theorem dX0_flood_75 : decode cX0_flood 75 = .ok (.invokestatic 55, 3) := by decide +kernel
theorem dX0_flood_78 : decode cX0_flood 78 = .ok (.iload_n 3, 1) := by decide +kernel
theorem dX0_flood_79 : decode cX0_flood 79 = .ok (.if_icmp .gt 13, 3) := by decide +kernel
theorem dX0_flood_82 : decode cX0_flood 82 = .ok (.aload_n 0, 1) := by decide +kernel
theorem dX0_flood_83 : decode cX0_flood 83 = .ok (.aload_n 0, 1) := by decide +kernel
theorem dX0_flood_84 : decode cX0_flood 84 = .ok (.getfield 9, 3) := by decide +kernel
theorem dX0_flood_87 : decode cX0_flood 87 = .ok (.iload 7, 2) := by decide +kernel
theorem dX0_flood_89 : decode cX0_flood 89 = .ok (.invokevirtual 61, 3) := by decide +kernel
theorem dX0_flood_92 : decode cX0_flood 92 = .ok (.iinc 6 1, 3) := by decide +kernel
theorem dX0_flood_95 : decode cX0_flood 95 = .ok (.goto (-49), 3) := by decide +kernel
theorem dX0_flood_98 : decode cX0_flood 98 = .ok (.iinc 4 1, 3) := by decide +kernel
theorem dX0_flood_101 : decode cX0_flood 101 = .ok (.goto (-84), 3) := by decide +kernel
theorem dX0_flood_104 : decode cX0_flood 104 = .ok (.aload_n 0, 1) := by decide +kernel
theorem dX0_flood_105 : decode cX0_flood 105 = .ok (.getfield 28, 3) := by decide +kernel
theorem dX0_flood_108 : decode cX0_flood 108 = .ok (.ireturn, 1) := by decide +kernel
theorem dX0_enter_0 : decode cX0_enter 0 = .ok (.aload_n 1, 1) := by decide +kernel
theorem dX0_enter_1 : decode cX0_enter 1 = .ok (.iload_n 2, 1) := by decide +kernel
theorem dX0_enter_2 : decode cX0_enter 2 = .ok (.baload, 1) := by decide +kernel
theorem dX0_enter_3 : decode cX0_enter 3 = .ok (.ifCond .ne 37, 3) := by decide +kernel
theorem dX0_enter_6 : decode cX0_enter 6 = .ok (.aload_n 0, 1) := by decide +kernel
theorem dX0_enter_7 : decode cX0_enter 7 = .ok (.getfield 28, 3) := by decide +kernel
theorem dX0_enter_10 : decode cX0_enter 10 = .ok (.sipush 160, 3) := by decide +kernel
theorem dX0_enter_13 : decode cX0_enter 13 = .ok (.if_icmp .ge 27, 3) := by decide +kernel
theorem dX0_enter_16 : decode cX0_enter 16 = .ok (.aload_n 1, 1) := by decide +kernel
theorem dX0_enter_17 : decode cX0_enter 17 = .ok (.iload_n 2, 1) := by decide +kernel
theorem dX0_enter_18 : decode cX0_enter 18 = .ok (.iconst 1, 1) := by decide +kernel
theorem dX0_enter_19 : decode cX0_enter 19 = .ok (.bastore, 1) := by decide +kernel
theorem dX0_enter_20 : decode cX0_enter 20 = .ok (.aload_n 0, 1) := by decide +kernel
theorem dX0_enter_21 : decode cX0_enter 21 = .ok (.getfield 25, 3) := by decide +kernel
theorem dX0_enter_24 : decode cX0_enter 24 = .ok (.aload_n 0, 1) := by decide +kernel
theorem dX0_enter_25 : decode cX0_enter 25 = .ok (.getfield 28, 3) := by decide +kernel
theorem dX0_enter_28 : decode cX0_enter 28 = .ok (.iload_n 2, 1) := by decide +kernel
theorem dX0_enter_29 : decode cX0_enter 29 = .ok (.iastore, 1) := by decide +kernel
theorem dX0_enter_30 : decode cX0_enter 30 = .ok (.aload_n 0, 1) := by decide +kernel
theorem dX0_enter_31 : decode cX0_enter 31 = .ok (.dup, 1) := by decide +kernel
theorem dX0_enter_32 : decode cX0_enter 32 = .ok (.getfield 28, 3) := by decide +kernel
theorem dX0_enter_35 : decode cX0_enter 35 = .ok (.iconst 1, 1) := by decide +kernel
theorem dX0_enter_36 : decode cX0_enter 36 = .ok (.iadd, 1) := by decide +kernel
theorem dX0_enter_37 : decode cX0_enter 37 = .ok (.putfield 28, 3) := by decide +kernel
theorem dX0_enter_40 : decode cX0_enter 40 = .ok (.return_, 1) := by decide +kernel
theorem dX0_spread_0 : decode cX0_spread 0 = .ok (.aload_n 0, 1) := by decide +kernel
theorem dX0_spread_1 : decode cX0_spread 1 = .ok (.invokevirtual 68, 3) := by decide +kernel
theorem dX0_spread_4 : decode cX0_spread 4 = .ok (.aload_n 0, 1) := by decide +kernel
theorem dX0_spread_5 : decode cX0_spread 5 = .ok (.iload_n 2, 1) := by decide +kernel
theorem dX0_spread_6 : decode cX0_spread 6 = .ok (.putfield 32, 3) := by decide +kernel
theorem dX0_spread_9 : decode cX0_spread 9 = .ok (.aload_n 0, 1) := by decide +kernel
theorem dX0_spread_10 : decode cX0_spread 10 = .ok (.getfield 32, 3) := by decide +kernel
theorem dX0_spread_13 : decode cX0_spread 13 = .ok (.ifCond .le 24, 3) := by decide +kernel
theorem dX0_spread_16 : decode cX0_spread 16 = .ok (.aload_n 0, 1) := by decide +kernel
theorem dX0_spread_17 : decode cX0_spread 17 = .ok (.iload_n 1, 1) := by decide +kernel
theorem dX0_spread_18 : decode cX0_spread 18 = .ok (.invokevirtual 71, 3) := by decide +kernel
theorem dX0_spread_21 : decode cX0_spread 21 = .ok (.ifCond .ne 16, 3) := by decide +kernel
theorem dX0_spread_24 : decode cX0_spread 24 = .ok (.aload_n 0, 1) := by decide +kernel
theorem dX0_spread_25 : decode cX0_spread 25 = .ok (.dup, 1) := by decide +kernel
theorem dX0_spread_26 : decode cX0_spread 26 = .ok (.getfield 32, 3) := by decide +kernel
theorem dX0_spread_29 : decode cX0_spread 29 = .ok (.iconst 1, 1) := by decide +kernel
theorem dX0_spread_30 : decode cX0_spread 30 = .ok (.isub, 1) := by decide +kernel
theorem dX0_spread_31 : decode cX0_spread 31 = .ok (.putfield 32, 3) := by decide +kernel
theorem dX0_spread_34 : decode cX0_spread 34 = .ok (.goto (-25), 3) := by decide +kernel
theorem dX0_spread_37 : decode cX0_spread 37 = .ok (.aload_n 0, 1) := by decide +kernel
theorem dX0_spread_38 : decode cX0_spread 38 = .ok (.iload_n 1, 1) := by decide +kernel
theorem dX0_spread_39 : decode cX0_spread 39 = .ok (.invokevirtual 75, 3) := by decide +kernel
theorem dX0_spread_42 : decode cX0_spread 42 = .ok (.iconst 0, 1) := by decide +kernel
theorem dX0_spread_43 : decode cX0_spread 43 = .ok (.istore_n 3, 1) := by decide +kernel
theorem dX0_spread_44 : decode cX0_spread 44 = .ok (.iload_n 3, 1) := by decide +kernel
theorem dX0_spread_45 : decode cX0_spread 45 = .ok (.aload_n 0, 1) := by decide +kernel
theorem dX0_spread_46 : decode cX0_spread 46 = .ok (.getfield 28, 3) := by decide +kernel
theorem dX0_spread_49 : decode cX0_spread 49 = .ok (.if_icmp .ge 26, 3) := by decide +kernel
theorem dX0_spread_52 : decode cX0_spread 52 = .ok (.iload_n 3, 1) := by decide +kernel
theorem dX0_spread_53 : decode cX0_spread 53 = .ok (.sipush 160, 3) := by decide +kernel
theorem dX0_spread_56 : decode cX0_spread 56 = .ok (.if_icmp .ge 19, 3) := by decide +kernel
theorem dX0_spread_59 : decode cX0_spread 59 = .ok (.aload_n 0, 1) := by decide +kernel
theorem dX0_spread_60 : decode cX0_spread 60 = .ok (.aload_n 0, 1) := by decide +kernel
theorem dX0_spread_61 : decode cX0_spread 61 = .ok (.getfield 25, 3) := by decide +kernel
theorem dX0_spread_64 : decode cX0_spread 64 = .ok (.iload_n 3, 1) := by decide +kernel
theorem dX0_spread_65 : decode cX0_spread 65 = .ok (.iaload, 1) := by decide +kernel
theorem dX0_spread_66 : decode cX0_spread 66 = .ok (.invokevirtual 79, 3) := by decide +kernel
theorem dX0_spread_69 : decode cX0_spread 69 = .ok (.iinc 3 1, 3) := by decide +kernel
theorem dX0_spread_72 : decode cX0_spread 72 = .ok (.goto (-28), 3) := by decide +kernel
theorem dX0_spread_75 : decode cX0_spread 75 = .ok (.aload_n 0, 1) := by decide +kernel
theorem dX0_spread_76 : decode cX0_spread 76 = .ok (.invokevirtual 82, 3) := by decide +kernel
theorem dX0_spread_79 : decode cX0_spread 79 = .ok (.ireturn, 1) := by decide +kernel
theorem dX0_measureSquares_0 : decode cX0_measureSquares 0 = .ok (.sipush 159, 3) := by decide +kernel
theorem dX0_measureSquares_3 : decode cX0_measureSquares 3 = .ok (.istore_n 1, 1) := by decide +kernel
theorem dX0_measureSquares_4 : decode cX0_measureSquares 4 = .ok (.iload_n 1, 1) := by decide +kernel
theorem dX0_measureSquares_5 : decode cX0_measureSquares 5 = .ok (.ifCond .lt 76, 3) := by decide +kernel
theorem dX0_measureSquares_8 : decode cX0_measureSquares 8 = .ok (.iload_n 1, 1) := by decide +kernel
theorem dX0_measureSquares_9 : decode cX0_measureSquares 9 = .ok (.bipush 16, 2) := by decide +kernel
theorem dX0_measureSquares_11 : decode cX0_measureSquares 11 = .ok (.irem, 1) := by decide +kernel
theorem dX0_measureSquares_12 : decode cX0_measureSquares 12 = .ok (.istore_n 2, 1) := by decide +kernel
theorem dX0_measureSquares_13 : decode cX0_measureSquares 13 = .ok (.iload_n 1, 1) := by decide +kernel
theorem dX0_measureSquares_14 : decode cX0_measureSquares 14 = .ok (.bipush 16, 2) := by decide +kernel
theorem dX0_measureSquares_16 : decode cX0_measureSquares 16 = .ok (.idiv, 1) := by decide +kernel
theorem dX0_measureSquares_17 : decode cX0_measureSquares 17 = .ok (.istore_n 3, 1) := by decide +kernel
theorem dX0_measureSquares_18 : decode cX0_measureSquares 18 = .ok (.aload_n 0, 1) := by decide +kernel
theorem dX0_measureSquares_19 : decode cX0_measureSquares 19 = .ok (.iload_n 2, 1) := by decide +kernel
theorem dX0_measureSquares_20 : decode cX0_measureSquares 20 = .ok (.iconst 1, 1) := by decide +kernel
theorem dX0_measureSquares_21 : decode cX0_measureSquares 21 = .ok (.iadd, 1) := by decide +kernel
theorem dX0_measureSquares_22 : decode cX0_measureSquares 22 = .ok (.iload_n 3, 1) := by decide +kernel
theorem dX0_measureSquares_23 : decode cX0_measureSquares 23 = .ok (.invokevirtual 86, 3) := by decide +kernel
theorem dX0_measureSquares_26 : decode cX0_measureSquares 26 = .ok (.aload_n 0, 1) := by decide +kernel
theorem dX0_measureSquares_27 : decode cX0_measureSquares 27 = .ok (.iload_n 2, 1) := by decide +kernel
theorem dX0_measureSquares_28 : decode cX0_measureSquares 28 = .ok (.iload_n 3, 1) := by decide +kernel
theorem dX0_measureSquares_29 : decode cX0_measureSquares 29 = .ok (.iconst 1, 1) := by decide +kernel
theorem dX0_measureSquares_30 : decode cX0_measureSquares 30 = .ok (.iadd, 1) := by decide +kernel
theorem dX0_measureSquares_31 : decode cX0_measureSquares 31 = .ok (.invokevirtual 86, 3) := by decide +kernel
theorem dX0_measureSquares_34 : decode cX0_measureSquares 34 = .ok (.invokestatic 89, 3) := by decide +kernel
theorem dX0_measureSquares_37 : decode cX0_measureSquares 37 = .ok (.istore 4, 2) := by decide +kernel
theorem dX0_measureSquares_39 : decode cX0_measureSquares 39 = .ok (.aload_n 0, 1) := by decide +kernel
theorem dX0_measureSquares_40 : decode cX0_measureSquares 40 = .ok (.getfield 15, 3) := by decide +kernel
theorem dX0_measureSquares_43 : decode cX0_measureSquares 43 = .ok (.iload_n 1, 1) := by decide +kernel
theorem dX0_measureSquares_44 : decode cX0_measureSquares 44 = .ok (.aload_n 0, 1) := by decide +kernel
theorem dX0_measureSquares_45 : decode cX0_measureSquares 45 = .ok (.getfield 9, 3) := by decide +kernel
theorem dX0_measureSquares_48 : decode cX0_measureSquares 48 = .ok (.iload_n 1, 1) := by decide +kernel
theorem dX0_measureSquares_49 : decode cX0_measureSquares 49 = .ok (.baload, 1) := by decide +kernel
theorem dX0_measureSquares_50 : decode cX0_measureSquares 50 = .ok (.ifCond .eq 23, 3) := by decide +kernel
theorem dX0_measureSquares_53 : decode cX0_measureSquares 53 = .ok (.iconst 1, 1) := by decide +kernel
theorem dX0_measureSquares_54 : decode cX0_measureSquares 54 = .ok (.iload 4, 2) := by decide +kernel
theorem dX0_measureSquares_56 : decode cX0_measureSquares 56 = .ok (.aload_n 0, 1) := by decide +kernel
theorem dX0_measureSquares_57 : decode cX0_measureSquares 57 = .ok (.iload_n 2, 1) := by decide +kernel
theorem dX0_measureSquares_58 : decode cX0_measureSquares 58 = .ok (.iconst 1, 1) := by decide +kernel
theorem dX0_measureSquares_59 : decode cX0_measureSquares 59 = .ok (.iadd, 1) := by decide +kernel
theorem dX0_measureSquares_60 : decode cX0_measureSquares 60 = .ok (.iload_n 3, 1) := by decide +kernel
theorem dX0_measureSquares_61 : decode cX0_measureSquares 61 = .ok (.iconst 1, 1) := by decide +kernel
theorem dX0_measureSquares_62 : decode cX0_measureSquares 62 = .ok (.iadd, 1) := by decide +kernel
theorem dX0_measureSquares_63 : decode cX0_measureSquares 63 = .ok (.invokevirtual 86, 3) := by decide +kernel
theorem dX0_measureSquares_66 : decode cX0_measureSquares 66 = .ok (.invokestatic 89, 3) := by decide +kernel
theorem dX0_measureSquares_69 : decode cX0_measureSquares 69 = .ok (.iadd, 1) := by decide +kernel
theorem dX0_measureSquares_70 : decode cX0_measureSquares 70 = .ok (.goto 4, 3) := by decide +kernel
theorem dX0_measureSquares_73 : decode cX0_measureSquares 73 = .ok (.iconst 0, 1) := by decide +kernel
theorem dX0_measureSquares_74 : decode cX0_measureSquares 74 = .ok (.iastore, 1) := by decide +kernel
theorem dX0_measureSquares_75 : decode cX0_measureSquares 75 = .ok (.iinc 1 (-1), 3) := by decide +kernel
theorem dX0_measureSquares_78 : decode cX0_measureSquares 78 = .ok (.goto (-74), 3) := by decide +kernel
theorem dX0_measureSquares_81 : decode cX0_measureSquares 81 = .ok (.return_, 1) := by decide +kernel
theorem dX0_sideAt_0 : decode cX0_sideAt 0 = .ok (.iload_n 1, 1) := by decide +kernel
theorem dX0_sideAt_1 : decode cX0_sideAt 1 = .ok (.iload_n 2, 1) := by decide +kernel
theorem dX0_sideAt_2 : decode cX0_sideAt 2 = .ok (.invokestatic 92, 3) := by decide +kernel
theorem dX0_sideAt_5 : decode cX0_sideAt 5 = .ok (.ifCond .eq 16, 3) := by decide +kernel
theorem dX0_sideAt_8 : decode cX0_sideAt 8 = .ok (.aload_n 0, 1) := by decide +kernel
theorem dX0_sideAt_9 : decode cX0_sideAt 9 = .ok (.getfield 15, 3) := by decide +kernel
theorem dX0_sideAt_12 : decode cX0_sideAt 12 = .ok (.iload_n 1, 1) := by decide +kernel
theorem dX0_sideAt_13 : decode cX0_sideAt 13 = .ok (.iload_n 2, 1) := by decide +kernel
theorem dX0_sideAt_14 : decode cX0_sideAt 14 = .ok (.invokestatic 96, 3) := by decide +kernel
theorem dX0_sideAt_17 : decode cX0_sideAt 17 = .ok (.iaload, 1) := by decide +kernel
theorem dX0_sideAt_18 : decode cX0_sideAt 18 = .ok (.goto 4, 3) := by decide +kernel
theorem dX0_sideAt_21 : decode cX0_sideAt 21 = .ok (.iconst 0, 1) := by decide +kernel
theorem dX0_sideAt_22 : decode cX0_sideAt 22 = .ok (.ireturn, 1) := by decide +kernel
theorem dX0_liesInSquare_0 : decode cX0_liesInSquare 0 = .ok (.iload_n 1, 1) := by decide +kernel
theorem dX0_liesInSquare_1 : decode cX0_liesInSquare 1 = .ok (.bipush 16, 2) := by decide +kernel
theorem dX0_liesInSquare_3 : decode cX0_liesInSquare 3 = .ok (.irem, 1) := by decide +kernel
theorem dX0_liesInSquare_4 : decode cX0_liesInSquare 4 = .ok (.istore_n 2, 1) := by decide +kernel
theorem dX0_liesInSquare_5 : decode cX0_liesInSquare 5 = .ok (.iload_n 1, 1) := by decide +kernel
theorem dX0_liesInSquare_6 : decode cX0_liesInSquare 6 = .ok (.bipush 16, 2) := by decide +kernel
theorem dX0_liesInSquare_8 : decode cX0_liesInSquare 8 = .ok (.idiv, 1) := by decide +kernel
theorem dX0_liesInSquare_9 : decode cX0_liesInSquare 9 = .ok (.istore_n 3, 1) := by decide +kernel
theorem dX0_liesInSquare_10 : decode cX0_liesInSquare 10 = .ok (.iload_n 3, 1) := by decide +kernel
theorem dX0_liesInSquare_11 : decode cX0_liesInSquare 11 = .ok (.aload_n 0, 1) := by decide +kernel
theorem dX0_liesInSquare_12 : decode cX0_liesInSquare 12 = .ok (.getfield 32, 3) := by decide +kernel
theorem dX0_liesInSquare_15 : decode cX0_liesInSquare 15 = .ok (.isub, 1) := by decide +kernel
theorem dX0_liesInSquare_16 : decode cX0_liesInSquare 16 = .ok (.istore 4, 2) := by decide +kernel
theorem dX0_liesInSquare_18 : decode cX0_liesInSquare 18 = .ok (.iload 4, 2) := by decide +kernel
theorem dX0_liesInSquare_20 : decode cX0_liesInSquare 20 = .ok (.iload_n 3, 1) := by decide +kernel
theorem dX0_liesInSquare_21 : decode cX0_liesInSquare 21 = .ok (.if_icmp .gt 46, 3) := by decide +kernel
theorem dX0_liesInSquare_24 : decode cX0_liesInSquare 24 = .ok (.iload_n 2, 1) := by decide +kernel
theorem dX0_liesInSquare_25 : decode cX0_liesInSquare 25 = .ok (.aload_n 0, 1) := by decide +kernel
theorem dX0_liesInSquare_26 : decode cX0_liesInSquare 26 = .ok (.getfield 32, 3) := by decide +kernel
theorem dX0_liesInSquare_29 : decode cX0_liesInSquare 29 = .ok (.isub, 1) := by decide +kernel
theorem dX0_liesInSquare_30 : decode cX0_liesInSquare 30 = .ok (.istore 5, 2) := by decide +kernel
theorem dX0_liesInSquare_32 : decode cX0_liesInSquare 32 = .ok (.iload 5, 2) := by decide +kernel
theorem dX0_liesInSquare_34 : decode cX0_liesInSquare 34 = .ok (.iload_n 2, 1) := by decide +kernel
theorem dX0_liesInSquare_35 : decode cX0_liesInSquare 35 = .ok (.if_icmp .gt 26, 3) := by decide +kernel
theorem dX0_liesInSquare_38 : decode cX0_liesInSquare 38 = .ok (.aload_n 0, 1) := by decide +kernel
theorem dX0_liesInSquare_39 : decode cX0_liesInSquare 39 = .ok (.iload 5, 2) := by decide +kernel
theorem dX0_liesInSquare_41 : decode cX0_liesInSquare 41 = .ok (.iload 4, 2) := by decide +kernel
theorem dX0_liesInSquare_43 : decode cX0_liesInSquare 43 = .ok (.invokevirtual 86, 3) := by decide +kernel
theorem dX0_liesInSquare_46 : decode cX0_liesInSquare 46 = .ok (.aload_n 0, 1) := by decide +kernel
theorem dX0_liesInSquare_47 : decode cX0_liesInSquare 47 = .ok (.getfield 32, 3) := by decide +kernel
theorem dX0_liesInSquare_50 : decode cX0_liesInSquare 50 = .ok (.if_icmp .le 5, 3) := by decide +kernel
theorem dX0_liesInSquare_53 : decode cX0_liesInSquare 53 = .ok (.iconst 1, 1) := by decide +kernel
theorem dX0_liesInSquare_54 : decode cX0_liesInSquare 54 = .ok (.ireturn, 1) := by decide +kernel
theorem dX0_liesInSquare_55 : decode cX0_liesInSquare 55 = .ok (.iinc 5 1, 3) := by decide +kernel
theorem dX0_liesInSquare_58 : decode cX0_liesInSquare 58 = .ok (.goto (-26), 3) := by decide +kernel
theorem dX0_liesInSquare_61 : decode cX0_liesInSquare 61 = .ok (.iinc 4 1, 3) := by decide +kernel
theorem dX0_liesInSquare_64 : decode cX0_liesInSquare 64 = .ok (.goto (-46), 3) := by decide +kernel
theorem dX0_liesInSquare_67 : decode cX0_liesInSquare 67 = .ok (.iconst 0, 1) := by decide +kernel
theorem dX0_liesInSquare_68 : decode cX0_liesInSquare 68 = .ok (.ireturn, 1) := by decide +kernel
theorem dX0_joinSquaresOver_0 : decode cX0_joinSquaresOver 0 = .ok (.aload_n 0, 1) := by decide +kernel
theorem dX0_joinSquaresOver_1 : decode cX0_joinSquaresOver 1 = .ok (.getfield 19, 3) := by decide +kernel
theorem dX0_joinSquaresOver_4 : decode cX0_joinSquaresOver 4 = .ok (.invokestatic 43, 3) := by decide +kernel
theorem dX0_joinSquaresOver_7 : decode cX0_joinSquaresOver 7 = .ok (.aload_n 0, 1) := by decide +kernel
theorem dX0_joinSquaresOver_8 : decode cX0_joinSquaresOver 8 = .ok (.iconst 0, 1) := by decide +kernel
theorem dX0_joinSquaresOver_9 : decode cX0_joinSquaresOver 9 = .ok (.putfield 28, 3) := by decide +kernel
theorem dX0_joinSquaresOver_12 : decode cX0_joinSquaresOver 12 = .ok (.iload_n 1, 1) := by decide +kernel
theorem dX0_joinSquaresOver_13 : decode cX0_joinSquaresOver 13 = .ok (.bipush 16, 2) := by decide +kernel
theorem dX0_joinSquaresOver_15 : decode cX0_joinSquaresOver 15 = .ok (.irem, 1) := by decide +kernel
theorem dX0_joinSquaresOver_16 : decode cX0_joinSquaresOver 16 = .ok (.istore_n 2, 1) := by decide +kernel
theorem dX0_joinSquaresOver_17 : decode cX0_joinSquaresOver 17 = .ok (.iload_n 1, 1) := by decide +kernel
theorem dX0_joinSquaresOver_18 : decode cX0_joinSquaresOver 18 = .ok (.bipush 16, 2) := by decide +kernel
theorem dX0_joinSquaresOver_20 : decode cX0_joinSquaresOver 20 = .ok (.idiv, 1) := by decide +kernel
theorem dX0_joinSquaresOver_21 : decode cX0_joinSquaresOver 21 = .ok (.istore_n 3, 1) := by decide +kernel
theorem dX0_joinSquaresOver_22 : decode cX0_joinSquaresOver 22 = .ok (.iload_n 3, 1) := by decide +kernel
theorem dX0_joinSquaresOver_23 : decode cX0_joinSquaresOver 23 = .ok (.aload_n 0, 1) := by decide +kernel
theorem dX0_joinSquaresOver_24 : decode cX0_joinSquaresOver 24 = .ok (.getfield 32, 3) := by decide +kernel
theorem dX0_joinSquaresOver_27 : decode cX0_joinSquaresOver 27 = .ok (.isub, 1) := by decide +kernel
theorem dX0_joinSquaresOver_28 : decode cX0_joinSquaresOver 28 = .ok (.istore 4, 2) := by decide +kernel
theorem dX0_joinSquaresOver_30 : decode cX0_joinSquaresOver 30 = .ok (.iload 4, 2) := by decide +kernel
theorem dX0_joinSquaresOver_32 : decode cX0_joinSquaresOver 32 = .ok (.iload_n 3, 1) := by decide +kernel
theorem dX0_joinSquaresOver_33 : decode cX0_joinSquaresOver 33 = .ok (.if_icmp .gt 37, 3) := by decide +kernel
theorem dX0_joinSquaresOver_36 : decode cX0_joinSquaresOver 36 = .ok (.iload_n 2, 1) := by decide +kernel
theorem dX0_joinSquaresOver_37 : decode cX0_joinSquaresOver 37 = .ok (.aload_n 0, 1) := by decide +kernel
theorem dX0_joinSquaresOver_38 : decode cX0_joinSquaresOver 38 = .ok (.getfield 32, 3) := by decide +kernel
theorem dX0_joinSquaresOver_41 : decode cX0_joinSquaresOver 41 = .ok (.isub, 1) := by decide +kernel
theorem dX0_joinSquaresOver_42 : decode cX0_joinSquaresOver 42 = .ok (.istore 5, 2) := by decide +kernel
theorem dX0_joinSquaresOver_44 : decode cX0_joinSquaresOver 44 = .ok (.iload 5, 2) := by decide +kernel
theorem dX0_joinSquaresOver_46 : decode cX0_joinSquaresOver 46 = .ok (.iload_n 2, 1) := by decide +kernel
theorem dX0_joinSquaresOver_47 : decode cX0_joinSquaresOver 47 = .ok (.if_icmp .gt 17, 3) := by decide +kernel
theorem dX0_joinSquaresOver_50 : decode cX0_joinSquaresOver 50 = .ok (.aload_n 0, 1) := by decide +kernel
theorem dX0_joinSquaresOver_51 : decode cX0_joinSquaresOver 51 = .ok (.iload 5, 2) := by decide +kernel
theorem dX0_joinSquaresOver_53 : decode cX0_joinSquaresOver 53 = .ok (.iload 4, 2) := by decide +kernel
theorem dX0_joinSquaresOver_55 : decode cX0_joinSquaresOver 55 = .ok (.invokevirtual 99, 3) := by decide +kernel
theorem dX0_joinSquaresOver_58 : decode cX0_joinSquaresOver 58 = .ok (.iinc 5 1, 3) := by decide +kernel
theorem dX0_joinSquaresOver_61 : decode cX0_joinSquaresOver 61 = .ok (.goto (-17), 3) := by decide +kernel
theorem dX0_joinSquaresOver_64 : decode cX0_joinSquaresOver 64 = .ok (.iinc 4 1, 3) := by decide +kernel
theorem dX0_joinSquaresOver_67 : decode cX0_joinSquaresOver 67 = .ok (.goto (-37), 3) := by decide +kernel
theorem dX0_joinSquaresOver_70 : decode cX0_joinSquaresOver 70 = .ok (.return_, 1) := by decide +kernel
theorem dX0_joinAround_0 : decode cX0_joinAround 0 = .ok (.iload_n 1, 1) := by decide +kernel
theorem dX0_joinAround_1 : decode cX0_joinAround 1 = .ok (.bipush 16, 2) := by decide +kernel
theorem dX0_joinAround_3 : decode cX0_joinAround 3 = .ok (.irem, 1) := by decide +kernel
theorem dX0_joinAround_4 : decode cX0_joinAround 4 = .ok (.istore_n 2, 1) := by decide +kernel
theorem dX0_joinAround_5 : decode cX0_joinAround 5 = .ok (.iload_n 1, 1) := by decide +kernel
theorem dX0_joinAround_6 : decode cX0_joinAround 6 = .ok (.bipush 16, 2) := by decide +kernel
theorem dX0_joinAround_8 : decode cX0_joinAround 8 = .ok (.idiv, 1) := by decide +kernel
theorem dX0_joinAround_9 : decode cX0_joinAround 9 = .ok (.istore_n 3, 1) := by decide +kernel
theorem dX0_joinAround_10 : decode cX0_joinAround 10 = .ok (.aload_n 0, 1) := by decide +kernel
theorem dX0_joinAround_11 : decode cX0_joinAround 11 = .ok (.getfield 32, 3) := by decide +kernel
theorem dX0_joinAround_14 : decode cX0_joinAround 14 = .ok (.iconst 1, 1) := by decide +kernel
theorem dX0_joinAround_15 : decode cX0_joinAround 15 = .ok (.invokestatic 103, 3) := by decide +kernel
theorem dX0_joinAround_18 : decode cX0_joinAround 18 = .ok (.istore 4, 2) := by decide +kernel
theorem dX0_joinAround_20 : decode cX0_joinAround 20 = .ok (.iload 4, 2) := by decide +kernel
theorem dX0_joinAround_22 : decode cX0_joinAround 22 = .ok (.ineg, 1) := by decide +kernel
theorem dX0_joinAround_23 : decode cX0_joinAround 23 = .ok (.istore 5, 2) := by decide +kernel
theorem dX0_joinAround_25 : decode cX0_joinAround 25 = .ok (.iload 5, 2) := by decide +kernel
theorem dX0_joinAround_27 : decode cX0_joinAround 27 = .ok (.iload 4, 2) := by decide +kernel
theorem dX0_joinAround_29 : decode cX0_joinAround 29 = .ok (.if_icmp .gt 56, 3) := by decide +kernel
theorem dX0_joinAround_32 : decode cX0_joinAround 32 = .ok (.iload 4, 2) := by decide +kernel
theorem dX0_joinAround_34 : decode cX0_joinAround 34 = .ok (.ineg, 1) := by decide +kernel
theorem dX0_joinAround_35 : decode cX0_joinAround 35 = .ok (.istore 6, 2) := by decide +kernel
theorem dX0_joinAround_37 : decode cX0_joinAround 37 = .ok (.iload 6, 2) := by decide +kernel
theorem dX0_joinAround_39 : decode cX0_joinAround 39 = .ok (.iload 4, 2) := by decide +kernel
theorem dX0_joinAround_41 : decode cX0_joinAround 41 = .ok (.if_icmp .gt 38, 3) := by decide +kernel
theorem dX0_joinAround_44 : decode cX0_joinAround 44 = .ok (.aload_n 0, 1) := by decide +kernel
theorem dX0_joinAround_45 : decode cX0_joinAround 45 = .ok (.getfield 32, 3) := by decide +kernel
theorem dX0_joinAround_48 : decode cX0_joinAround 48 = .ok (.ifCond .gt 13, 3) := by decide +kernel
theorem dX0_joinAround_51 : decode cX0_joinAround 51 = .ok (.iload 5, 2) := by decide +kernel
theorem dX0_joinAround_53 : decode cX0_joinAround 53 = .ok (.ifCond .eq 8, 3) := by decide +kernel
theorem dX0_joinAround_56 : decode cX0_joinAround 56 = .ok (.iload 6, 2) := by decide +kernel
theorem dX0_joinAround_58 : decode cX0_joinAround 58 = .ok (.ifCond .ne 15, 3) := by decide +kernel
theorem dX0_joinAround_61 : decode cX0_joinAround 61 = .ok (.aload_n 0, 1) := by decide +kernel
theorem dX0_joinAround_62 : decode cX0_joinAround 62 = .ok (.iload_n 2, 1) := by decide +kernel
theorem dX0_joinAround_63 : decode cX0_joinAround 63 = .ok (.iload 6, 2) := by decide +kernel
theorem dX0_joinAround_65 : decode cX0_joinAround 65 = .ok (.iadd, 1) := by decide +kernel
theorem dX0_joinAround_66 : decode cX0_joinAround 66 = .ok (.iload_n 3, 1) := by decide +kernel
theorem dX0_joinAround_67 : decode cX0_joinAround 67 = .ok (.iload 5, 2) := by decide +kernel
theorem dX0_joinAround_69 : decode cX0_joinAround 69 = .ok (.iadd, 1) := by decide +kernel
theorem dX0_joinAround_70 : decode cX0_joinAround 70 = .ok (.invokevirtual 99, 3) := by decide +kernel
theorem dX0_joinAround_73 : decode cX0_joinAround 73 = .ok (.iinc 6 1, 3) := by decide +kernel
theorem dX0_joinAround_76 : decode cX0_joinAround 76 = .ok (.goto (-39), 3) := by decide +kernel
theorem dX0_joinAround_79 : decode cX0_joinAround 79 = .ok (.iinc 5 1, 3) := by decide +kernel
theorem dX0_joinAround_82 : decode cX0_joinAround 82 = .ok (.goto (-57), 3) := by decide +kernel
theorem dX0_joinAround_85 : decode cX0_joinAround 85 = .ok (.return_, 1) := by decide +kernel
theorem dX0_join_0 : decode cX0_join 0 = .ok (.aload_n 0, 1) := by decide +kernel
theorem dX0_join_1 : decode cX0_join 1 = .ok (.iload_n 1, 1) := by decide +kernel
theorem dX0_join_2 : decode cX0_join 2 = .ok (.iload_n 2, 1) := by decide +kernel
theorem dX0_join_3 : decode cX0_join 3 = .ok (.invokevirtual 86, 3) := by decide +kernel
theorem dX0_join_6 : decode cX0_join 6 = .ok (.aload_n 0, 1) := by decide +kernel
theorem dX0_join_7 : decode cX0_join 7 = .ok (.getfield 32, 3) := by decide +kernel
theorem dX0_join_10 : decode cX0_join 10 = .ok (.if_icmp .le 16, 3) := by decide +kernel
theorem dX0_join_13 : decode cX0_join 13 = .ok (.aload_n 0, 1) := by decide +kernel
theorem dX0_join_14 : decode cX0_join 14 = .ok (.aload_n 0, 1) := by decide +kernel
theorem dX0_join_15 : decode cX0_join 15 = .ok (.getfield 19, 3) := by decide +kernel
theorem dX0_join_18 : decode cX0_join 18 = .ok (.iload_n 1, 1) := by decide +kernel
theorem dX0_join_19 : decode cX0_join 19 = .ok (.iload_n 2, 1) := by decide +kernel
theorem dX0_join_20 : decode cX0_join 20 = .ok (.invokestatic 96, 3) := by decide +kernel
theorem dX0_join_23 : decode cX0_join 23 = .ok (.invokevirtual 61, 3) := by decide +kernel
theorem dX0_join_26 : decode cX0_join 26 = .ok (.return_, 1) := by decide +kernel
theorem dX0_coverSquares_0 : decode cX0_coverSquares 0 = .ok (.aload_n 0, 1) := by decide +kernel
theorem dX0_coverSquares_1 : decode cX0_coverSquares 1 = .ok (.getfield 22, 3) := by decide +kernel
theorem dX0_coverSquares_4 : decode cX0_coverSquares 4 = .ok (.invokestatic 43, 3) := by decide +kernel
theorem dX0_coverSquares_7 : decode cX0_coverSquares 7 = .ok (.iconst 0, 1) := by decide +kernel
theorem dX0_coverSquares_8 : decode cX0_coverSquares 8 = .ok (.istore_n 1, 1) := by decide +kernel
theorem dX0_coverSquares_9 : decode cX0_coverSquares 9 = .ok (.iload_n 1, 1) := by decide +kernel
theorem dX0_coverSquares_10 : decode cX0_coverSquares 10 = .ok (.aload_n 0, 1) := by decide +kernel
theorem dX0_coverSquares_11 : decode cX0_coverSquares 11 = .ok (.getfield 28, 3) := by decide +kernel
theorem dX0_coverSquares_14 : decode cX0_coverSquares 14 = .ok (.if_icmp .ge 26, 3) := by decide +kernel
theorem dX0_coverSquares_17 : decode cX0_coverSquares 17 = .ok (.iload_n 1, 1) := by decide +kernel
theorem dX0_coverSquares_18 : decode cX0_coverSquares 18 = .ok (.sipush 160, 3) := by decide +kernel
theorem dX0_coverSquares_21 : decode cX0_coverSquares 21 = .ok (.if_icmp .ge 19, 3) := by decide +kernel
theorem dX0_coverSquares_24 : decode cX0_coverSquares 24 = .ok (.aload_n 0, 1) := by decide +kernel
theorem dX0_coverSquares_25 : decode cX0_coverSquares 25 = .ok (.aload_n 0, 1) := by decide +kernel
theorem dX0_coverSquares_26 : decode cX0_coverSquares 26 = .ok (.getfield 25, 3) := by decide +kernel
theorem dX0_coverSquares_29 : decode cX0_coverSquares 29 = .ok (.iload_n 1, 1) := by decide +kernel
theorem dX0_coverSquares_30 : decode cX0_coverSquares 30 = .ok (.iaload, 1) := by decide +kernel
theorem dX0_coverSquares_31 : decode cX0_coverSquares 31 = .ok (.invokevirtual 106, 3) := by decide +kernel
theorem dX0_coverSquares_34 : decode cX0_coverSquares 34 = .ok (.iinc 1 1, 3) := by decide +kernel
theorem dX0_coverSquares_37 : decode cX0_coverSquares 37 = .ok (.goto (-28), 3) := by decide +kernel
theorem dX0_coverSquares_40 : decode cX0_coverSquares 40 = .ok (.iconst 0, 1) := by decide +kernel
theorem dX0_coverSquares_41 : decode cX0_coverSquares 41 = .ok (.istore_n 1, 1) := by decide +kernel
theorem dX0_coverSquares_42 : decode cX0_coverSquares 42 = .ok (.iconst 0, 1) := by decide +kernel
theorem dX0_coverSquares_43 : decode cX0_coverSquares 43 = .ok (.istore_n 2, 1) := by decide +kernel
theorem dX0_coverSquares_44 : decode cX0_coverSquares 44 = .ok (.iload_n 2, 1) := by decide +kernel
theorem dX0_coverSquares_45 : decode cX0_coverSquares 45 = .ok (.sipush 160, 3) := by decide +kernel
theorem dX0_coverSquares_48 : decode cX0_coverSquares 48 = .ok (.if_icmp .ge 21, 3) := by decide +kernel
theorem dX0_coverSquares_51 : decode cX0_coverSquares 51 = .ok (.aload_n 0, 1) := by decide +kernel
theorem dX0_coverSquares_52 : decode cX0_coverSquares 52 = .ok (.getfield 22, 3) := by decide +kernel
theorem dX0_coverSquares_55 : decode cX0_coverSquares 55 = .ok (.iload_n 2, 1) := by decide +kernel
theorem dX0_coverSquares_56 : decode cX0_coverSquares 56 = .ok (.baload, 1) := by decide +kernel
theorem dX0_coverSquares_57 : decode cX0_coverSquares 57 = .ok (.ifCond .eq 6, 3) := by decide +kernel
theorem dX0_coverSquares_60 : decode cX0_coverSquares 60 = .ok (.iinc 1 1, 3) := by decide +kernel
theorem dX0_coverSquares_63 : decode cX0_coverSquares 63 = .ok (.iinc 2 1, 3) := by decide +kernel
theorem dX0_coverSquares_66 : decode cX0_coverSquares 66 = .ok (.goto (-22), 3) := by decide +kernel
theorem dX0_coverSquares_69 : decode cX0_coverSquares 69 = .ok (.iload_n 1, 1) := by decide +kernel
theorem dX0_coverSquares_70 : decode cX0_coverSquares 70 = .ok (.ireturn, 1) := by decide +kernel
theorem dX0_coverSquare_0 : decode cX0_coverSquare 0 = .ok (.iload_n 1, 1) := by decide +kernel
theorem dX0_coverSquare_1 : decode cX0_coverSquare 1 = .ok (.bipush 16, 2) := by decide +kernel
theorem dX0_coverSquare_3 : decode cX0_coverSquare 3 = .ok (.irem, 1) := by decide +kernel
theorem dX0_coverSquare_4 : decode cX0_coverSquare 4 = .ok (.istore_n 2, 1) := by decide +kernel
theorem dX0_coverSquare_5 : decode cX0_coverSquare 5 = .ok (.iload_n 1, 1) := by decide +kernel
theorem dX0_coverSquare_6 : decode cX0_coverSquare 6 = .ok (.bipush 16, 2) := by decide +kernel
theorem dX0_coverSquare_8 : decode cX0_coverSquare 8 = .ok (.idiv, 1) := by decide +kernel
theorem dX0_coverSquare_9 : decode cX0_coverSquare 9 = .ok (.istore_n 3, 1) := by decide +kernel
theorem dX0_coverSquare_10 : decode cX0_coverSquare 10 = .ok (.iload_n 3, 1) := by decide +kernel
theorem dX0_coverSquare_11 : decode cX0_coverSquare 11 = .ok (.istore 4, 2) := by decide +kernel
theorem dX0_coverSquare_13 : decode cX0_coverSquare 13 = .ok (.iload 4, 2) := by decide +kernel
theorem dX0_coverSquare_15 : decode cX0_coverSquare 15 = .ok (.iload_n 3, 1) := by decide +kernel
theorem dX0_coverSquare_16 : decode cX0_coverSquare 16 = .ok (.aload_n 0, 1) := by decide +kernel
theorem dX0_coverSquare_17 : decode cX0_coverSquare 17 = .ok (.getfield 32, 3) := by decide +kernel
theorem dX0_coverSquare_20 : decode cX0_coverSquare 20 = .ok (.iadd, 1) := by decide +kernel
theorem dX0_coverSquare_21 : decode cX0_coverSquare 21 = .ok (.if_icmp .gt 52, 3) := by decide +kernel
theorem dX0_coverSquare_24 : decode cX0_coverSquare 24 = .ok (.iload_n 2, 1) := by decide +kernel
theorem dX0_coverSquare_25 : decode cX0_coverSquare 25 = .ok (.istore 5, 2) := by decide +kernel
theorem dX0_coverSquare_27 : decode cX0_coverSquare 27 = .ok (.iload 5, 2) := by decide +kernel
theorem dX0_coverSquare_29 : decode cX0_coverSquare 29 = .ok (.iload_n 2, 1) := by decide +kernel
theorem dX0_coverSquare_30 : decode cX0_coverSquare 30 = .ok (.aload_n 0, 1) := by decide +kernel
theorem dX0_coverSquare_31 : decode cX0_coverSquare 31 = .ok (.getfield 32, 3) := by decide +kernel
theorem dX0_coverSquare_34 : decode cX0_coverSquare 34 = .ok (.iadd, 1) := by decide +kernel
theorem dX0_coverSquare_35 : decode cX0_coverSquare 35 = .ok (.if_icmp .gt 32, 3) := by decide +kernel
theorem dX0_coverSquare_38 : decode cX0_coverSquare 38 = .ok (.iload 5, 2) := by decide +kernel
theorem dX0_coverSquare_40 : decode cX0_coverSquare 40 = .ok (.iload 4, 2) := by decide +kernel
theorem dX0_coverSquare_42 : decode cX0_coverSquare 42 = .ok (.invokestatic 92, 3) := by decide +kernel
theorem dX0_coverSquare_45 : decode cX0_coverSquare 45 = .ok (.ifCond .eq 16, 3) := by decide +kernel
theorem dX0_coverSquare_48 : decode cX0_coverSquare 48 = .ok (.aload_n 0, 1) := by decide +kernel
theorem dX0_coverSquare_49 : decode cX0_coverSquare 49 = .ok (.getfield 22, 3) := by decide +kernel
theorem dX0_coverSquare_52 : decode cX0_coverSquare 52 = .ok (.iload 5, 2) := by decide +kernel
theorem dX0_coverSquare_54 : decode cX0_coverSquare 54 = .ok (.iload 4, 2) := by decide +kernel
theorem dX0_coverSquare_56 : decode cX0_coverSquare 56 = .ok (.invokestatic 96, 3) := by decide +kernel
theorem dX0_coverSquare_59 : decode cX0_coverSquare 59 = .ok (.iconst 1, 1) := by decide +kernel
theorem dX0_coverSquare_60 : decode cX0_coverSquare 60 = .ok (.bastore, 1) := by decide +kernel
theorem dX0_coverSquare_61 : decode cX0_coverSquare 61 = .ok (.iinc 5 1, 3) := by decide +kernel
theorem dX0_coverSquare_64 : decode cX0_coverSquare 64 = .ok (.goto (-37), 3) := by decide +kernel
theorem dX0_coverSquare_67 : decode cX0_coverSquare 67 = .ok (.iinc 4 1, 3) := by decide +kernel
theorem dX0_coverSquare_70 : decode cX0_coverSquare 70 = .ok (.goto (-57), 3) := by decide +kernel
theorem dX0_coverSquare_73 : decode cX0_coverSquare 73 = .ok (.return_, 1) := by decide +kernel
theorem dX0_addRing_0 : decode cX0_addRing 0 = .ok (.iconst 0, 1) := by decide +kernel
theorem dX0_addRing_1 : decode cX0_addRing 1 = .ok (.istore_n 3, 1) := by decide +kernel
theorem dX0_addRing_2 : decode cX0_addRing 2 = .ok (.iload_n 3, 1) := by decide +kernel
theorem dX0_addRing_3 : decode cX0_addRing 3 = .ok (.sipush 160, 3) := by decide +kernel
theorem dX0_addRing_6 : decode cX0_addRing 6 = .ok (.if_icmp .ge 28, 3) := by decide +kernel
theorem dX0_addRing_9 : decode cX0_addRing 9 = .ok (.aload_n 0, 1) := by decide +kernel
theorem dX0_addRing_10 : decode cX0_addRing 10 = .ok (.iload_n 3, 1) := by decide +kernel
theorem dX0_addRing_11 : decode cX0_addRing 11 = .ok (.iaload, 1) := by decide +kernel
theorem dX0_addRing_12 : decode cX0_addRing 12 = .ok (.ifCond .ne 16, 3) := by decide +kernel
theorem dX0_addRing_15 : decode cX0_addRing 15 = .ok (.aload_n 0, 1) := by decide +kernel
theorem dX0_addRing_16 : decode cX0_addRing 16 = .ok (.iload_n 3, 1) := by decide +kernel
theorem dX0_addRing_17 : decode cX0_addRing 17 = .ok (.iload_n 1, 1) := by decide +kernel
theorem dX0_addRing_18 : decode cX0_addRing 18 = .ok (.invokestatic 109, 3) := by decide +kernel
theorem dX0_addRing_21 : decode cX0_addRing 21 = .ok (.ifCond .eq 7, 3) := by decide +kernel
theorem dX0_addRing_24 : decode cX0_addRing 24 = .ok (.aload_n 0, 1) := by decide +kernel
theorem dX0_addRing_25 : decode cX0_addRing 25 = .ok (.iload_n 3, 1) := by decide +kernel
theorem dX0_addRing_26 : decode cX0_addRing 26 = .ok (.iload_n 2, 1) := by decide +kernel
theorem dX0_addRing_27 : decode cX0_addRing 27 = .ok (.iastore, 1) := by decide +kernel
theorem dX0_addRing_28 : decode cX0_addRing 28 = .ok (.iinc 3 1, 3) := by decide +kernel
theorem dX0_addRing_31 : decode cX0_addRing 31 = .ok (.goto (-29), 3) := by decide +kernel
theorem dX0_addRing_34 : decode cX0_addRing 34 = .ok (.return_, 1) := by decide +kernel
theorem dX0_touches_0 : decode cX0_touches 0 = .ok (.iload_n 1, 1) := by decide +kernel
theorem dX0_touches_1 : decode cX0_touches 1 = .ok (.bipush 16, 2) := by decide +kernel
theorem dX0_touches_3 : decode cX0_touches 3 = .ok (.irem, 1) := by decide +kernel
theorem dX0_touches_4 : decode cX0_touches 4 = .ok (.istore_n 3, 1) := by decide +kernel
theorem dX0_touches_5 : decode cX0_touches 5 = .ok (.iload_n 1, 1) := by decide +kernel
theorem dX0_touches_6 : decode cX0_touches 6 = .ok (.bipush 16, 2) := by decide +kernel
theorem dX0_touches_8 : decode cX0_touches 8 = .ok (.idiv, 1) := by decide +kernel
theorem dX0_touches_9 : decode cX0_touches 9 = .ok (.istore 4, 2) := by decide +kernel
theorem dX0_touches_11 : decode cX0_touches 11 = .ok (.iload 4, 2) := by decide +kernel
theorem dX0_touches_13 : decode cX0_touches 13 = .ok (.iconst 1, 1) := by decide +kernel
theorem dX0_touches_14 : decode cX0_touches 14 = .ok (.isub, 1) := by decide +kernel
theorem dX0_touches_15 : decode cX0_touches 15 = .ok (.istore 5, 2) := by decide +kernel
theorem dX0_touches_17 : decode cX0_touches 17 = .ok (.iload 5, 2) := by decide +kernel
theorem dX0_touches_19 : decode cX0_touches 19 = .ok (.iload 4, 2) := by decide +kernel
theorem dX0_touches_21 : decode cX0_touches 21 = .ok (.iconst 1, 1) := by decide +kernel
theorem dX0_touches_22 : decode cX0_touches 22 = .ok (.iadd, 1) := by decide +kernel
theorem dX0_touches_23 : decode cX0_touches 23 = .ok (.if_icmp .gt 53, 3) := by decide +kernel
theorem dX0_touches_26 : decode cX0_touches 26 = .ok (.iload_n 3, 1) := by decide +kernel
theorem dX0_touches_27 : decode cX0_touches 27 = .ok (.iconst 1, 1) := by decide +kernel
theorem dX0_touches_28 : decode cX0_touches 28 = .ok (.isub, 1) := by decide +kernel
theorem dX0_touches_29 : decode cX0_touches 29 = .ok (.istore 6, 2) := by decide +kernel
theorem dX0_touches_31 : decode cX0_touches 31 = .ok (.iload 6, 2) := by decide +kernel
theorem dX0_touches_33 : decode cX0_touches 33 = .ok (.iload_n 3, 1) := by decide +kernel
theorem dX0_touches_34 : decode cX0_touches 34 = .ok (.iconst 1, 1) := by decide +kernel
theorem dX0_touches_35 : decode cX0_touches 35 = .ok (.iadd, 1) := by decide +kernel
theorem dX0_touches_36 : decode cX0_touches 36 = .ok (.if_icmp .gt 34, 3) := by decide +kernel
theorem dX0_touches_39 : decode cX0_touches 39 = .ok (.iload 6, 2) := by decide +kernel
theorem dX0_touches_41 : decode cX0_touches 41 = .ok (.iload 5, 2) := by decide +kernel
theorem dX0_touches_43 : decode cX0_touches 43 = .ok (.invokestatic 92, 3) := by decide +kernel
theorem dX0_touches_46 : decode cX0_touches 46 = .ok (.ifCond .eq 18, 3) := by decide +kernel
theorem dX0_touches_49 : decode cX0_touches 49 = .ok (.aload_n 0, 1) := by decide +kernel
theorem dX0_touches_50 : decode cX0_touches 50 = .ok (.iload 6, 2) := by decide +kernel
theorem dX0_touches_52 : decode cX0_touches 52 = .ok (.iload 5, 2) := by decide +kernel
theorem dX0_touches_54 : decode cX0_touches 54 = .ok (.invokestatic 96, 3) := by decide +kernel
theorem dX0_touches_57 : decode cX0_touches 57 = .ok (.iaload, 1) := by decide +kernel
theorem dX0_touches_58 : decode cX0_touches 58 = .ok (.iload_n 2, 1) := by decide +kernel
theorem dX0_touches_59 : decode cX0_touches 59 = .ok (.if_icmp .ne 5, 3) := by decide +kernel
theorem dX0_touches_62 : decode cX0_touches 62 = .ok (.iconst 1, 1) := by decide +kernel
theorem dX0_touches_63 : decode cX0_touches 63 = .ok (.ireturn, 1) := by decide +kernel
theorem dX0_touches_64 : decode cX0_touches 64 = .ok (.iinc 6 1, 3) := by decide +kernel
theorem dX0_touches_67 : decode cX0_touches 67 = .ok (.goto (-36), 3) := by decide +kernel
theorem dX0_touches_70 : decode cX0_touches 70 = .ok (.iinc 5 1, 3) := by decide +kernel
theorem dX0_touches_73 : decode cX0_touches 73 = .ok (.goto (-56), 3) := by decide +kernel
theorem dX0_touches_76 : decode cX0_touches 76 = .ok (.iconst 0, 1) := by decide +kernel
theorem dX0_touches_77 : decode cX0_touches 77 = .ok (.ireturn, 1) := by decide +kernel
theorem dX1_init_0 : decode cX1_init 0 = .ok (.aload_n 0, 1) := by decide +kernel
theorem dX1_init_1 : decode cX1_init 1 = .ok (.invokespecial 1, 3) := by decide +kernel
theorem dX1_init_4 : decode cX1_init 4 = .ok (.aload_n 0, 1) := by decide +kernel
theorem dX1_init_5 : decode cX1_init 5 = .ok (.iload_n 1, 1) := by decide +kernel
theorem dX1_init_6 : decode cX1_init 6 = .ok (.putfield 7, 3) := by decide +kernel
theorem dX1_init_9 : decode cX1_init 9 = .ok (.aload_n 0, 1) := by decide +kernel
theorem dX1_init_10 : decode cX1_init 10 = .ok (.iload_n 2, 1) := by decide +kernel
theorem dX1_init_11 : decode cX1_init 11 = .ok (.putfield 13, 3) := by decide +kernel
theorem dX1_init_14 : decode cX1_init 14 = .ok (.aload_n 0, 1) := by decide +kernel
theorem dX1_init_15 : decode cX1_init 15 = .ok (.iload_n 3, 1) := by decide +kernel
theorem dX1_init_16 : decode cX1_init 16 = .ok (.putfield 16, 3) := by decide +kernel
theorem dX1_init_19 : decode cX1_init 19 = .ok (.aload_n 0, 1) := by decide +kernel
theorem dX1_init_20 : decode cX1_init 20 = .ok (.iload 4, 2) := by decide +kernel
theorem dX1_init_22 : decode cX1_init 22 = .ok (.putfield 19, 3) := by decide +kernel
theorem dX1_init_25 : decode cX1_init 25 = .ok (.aload_n 0, 1) := by decide +kernel
theorem dX1_init_26 : decode cX1_init 26 = .ok (.iload 5, 2) := by decide +kernel
theorem dX1_init_28 : decode cX1_init 28 = .ok (.putfield 22, 3) := by decide +kernel
theorem dX1_init_31 : decode cX1_init 31 = .ok (.aload_n 0, 1) := by decide +kernel
theorem dX1_init_32 : decode cX1_init 32 = .ok (.iload 6, 2) := by decide +kernel
theorem dX1_init_34 : decode cX1_init 34 = .ok (.putfield 25, 3) := by decide +kernel
theorem dX1_init_37 : decode cX1_init 37 = .ok (.aload_n 0, 1) := by decide +kernel
theorem dX1_init_38 : decode cX1_init 38 = .ok (.aload 7, 2) := by decide +kernel
theorem dX1_init_40 : decode cX1_init 40 = .ok (.putfield 28, 3) := by decide +kernel
theorem dX1_init_43 : decode cX1_init 43 = .ok (.return_, 1) := by decide +kernel
theorem dX2_init_0 : decode cX2_init 0 = .ok (.aload_n 0, 1) := by decide +kernel
theorem dX2_init_1 : decode cX2_init 1 = .ok (.invokespecial 3, 3) := by decide +kernel
theorem dX2_init_4 : decode cX2_init 4 = .ok (.aload_n 0, 1) := by decide +kernel
theorem dX2_init_5 : decode cX2_init 5 = .ok (.bipush 6, 2) := by decide +kernel
theorem dX2_init_7 : decode cX2_init 7 = .ok (.anewarray 9, 3) := by decide +kernel
theorem dX2_init_10 : decode cX2_init 10 = .ok (.putfield 11, 3) := by decide +kernel
theorem dX2_init_13 : decode cX2_init 13 = .ok (.aload_n 0, 1) := by decide +kernel
theorem dX2_init_14 : decode cX2_init 14 = .ok (.iconst 0, 1) := by decide +kernel
theorem dX2_init_15 : decode cX2_init 15 = .ok (.putfield 17, 3) := by decide +kernel
theorem dX2_init_18 : decode cX2_init 18 = .ok (.iconst 0, 1) := by decide +kernel
theorem dX2_init_19 : decode cX2_init 19 = .ok (.istore_n 2, 1) := by decide +kernel
theorem dX2_init_20 : decode cX2_init 20 = .ok (.iload_n 2, 1) := by decide +kernel
theorem dX2_init_21 : decode cX2_init 21 = .ok (.bipush 6, 2) := by decide +kernel
theorem dX2_init_23 : decode cX2_init 23 = .ok (.if_icmp .ge 23, 3) := by decide +kernel
theorem dX2_init_26 : decode cX2_init 26 = .ok (.aload_n 0, 1) := by decide +kernel
theorem dX2_init_27 : decode cX2_init 27 = .ok (.getfield 11, 3) := by decide +kernel
theorem dX2_init_30 : decode cX2_init 30 = .ok (.iload_n 2, 1) := by decide +kernel
theorem dX2_init_31 : decode cX2_init 31 = .ok (.new 9, 3) := by decide +kernel
theorem dX2_init_34 : decode cX2_init 34 = .ok (.dup, 1) := by decide +kernel
theorem dX2_init_35 : decode cX2_init 35 = .ok (.aload_n 1, 1) := by decide +kernel
theorem dX2_init_36 : decode cX2_init 36 = .ok (.invokespecial 21, 3) := by decide +kernel
theorem dX2_init_39 : decode cX2_init 39 = .ok (.aastore, 1) := by decide +kernel
theorem dX2_init_40 : decode cX2_init 40 = .ok (.iinc 2 1, 3) := by decide +kernel
theorem dX2_init_43 : decode cX2_init 43 = .ok (.goto (-23), 3) := by decide +kernel
theorem dX2_init_46 : decode cX2_init 46 = .ok (.return_, 1) := by decide +kernel
theorem dX2_keep_0 : decode cX2_keep 0 = .ok (.aload_n 0, 1) := by decide +kernel
theorem dX2_keep_1 : decode cX2_keep 1 = .ok (.getfield 17, 3) := by decide +kernel
theorem dX2_keep_4 : decode cX2_keep 4 = .ok (.bipush 6, 2) := by decide +kernel
theorem dX2_keep_6 : decode cX2_keep 6 = .ok (.if_icmp .lt 7, 3) := by decide +kernel
theorem dX2_keep_9 : decode cX2_keep 9 = .ok (.aload_n 0, 1) := by decide +kernel
theorem dX2_keep_10 : decode cX2_keep 10 = .ok (.invokevirtual 24, 3) := by decide +kernel
theorem dX2_keep_13 : decode cX2_keep 13 = .ok (.aload_n 0, 1) := by decide +kernel
theorem dX2_keep_14 : decode cX2_keep 14 = .ok (.getfield 11, 3) := by decide +kernel
theorem dX2_keep_17 : decode cX2_keep 17 = .ok (.aload_n 0, 1) := by decide +kernel
theorem dX2_keep_18 : decode cX2_keep 18 = .ok (.getfield 17, 3) := by decide +kernel
theorem dX2_keep_21 : decode cX2_keep 21 = .ok (.aaload, 1) := by decide +kernel
theorem dX2_keep_22 : decode cX2_keep 22 = .ok (.aload_n 1, 1) := by decide +kernel
theorem dX2_keep_23 : decode cX2_keep 23 = .ok (.invokevirtual 27, 3) := by decide +kernel
theorem dX2_keep_26 : decode cX2_keep 26 = .ok (.aload_n 0, 1) := by decide +kernel
theorem dX2_keep_27 : decode cX2_keep 27 = .ok (.dup, 1) := by decide +kernel
theorem dX2_keep_28 : decode cX2_keep 28 = .ok (.getfield 17, 3) := by decide +kernel
theorem dX2_keep_31 : decode cX2_keep 31 = .ok (.iconst 1, 1) := by decide +kernel
theorem dX2_keep_32 : decode cX2_keep 32 = .ok (.iadd, 1) := by decide +kernel
theorem dX2_keep_33 : decode cX2_keep 33 = .ok (.putfield 17, 3) := by decide +kernel
theorem dX2_keep_36 : decode cX2_keep 36 = .ok (.return_, 1) := by decide +kernel
theorem dX2_dropOldest_0 : decode cX2_dropOldest 0 = .ok (.aload_n 0, 1) := by decide +kernel
theorem dX2_dropOldest_1 : decode cX2_dropOldest 1 = .ok (.getfield 11, 3) := by decide +kernel
theorem dX2_dropOldest_4 : decode cX2_dropOldest 4 = .ok (.iconst 0, 1) := by decide +kernel
theorem dX2_dropOldest_5 : decode cX2_dropOldest 5 = .ok (.aaload, 1) := by decide +kernel
theorem dX2_dropOldest_6 : decode cX2_dropOldest 6 = .ok (.astore_n 1, 1) := by decide +kernel
theorem dX2_dropOldest_7 : decode cX2_dropOldest 7 = .ok (.iconst 1, 1) := by decide +kernel
theorem dX2_dropOldest_8 : decode cX2_dropOldest 8 = .ok (.istore_n 2, 1) := by decide +kernel
theorem dX2_dropOldest_9 : decode cX2_dropOldest 9 = .ok (.iload_n 2, 1) := by decide +kernel
theorem dX2_dropOldest_10 : decode cX2_dropOldest 10 = .ok (.bipush 6, 2) := by decide +kernel
theorem dX2_dropOldest_12 : decode cX2_dropOldest 12 = .ok (.if_icmp .ge 23, 3) := by decide +kernel
theorem dX2_dropOldest_15 : decode cX2_dropOldest 15 = .ok (.aload_n 0, 1) := by decide +kernel
theorem dX2_dropOldest_16 : decode cX2_dropOldest 16 = .ok (.getfield 11, 3) := by decide +kernel
theorem dX2_dropOldest_19 : decode cX2_dropOldest 19 = .ok (.iload_n 2, 1) := by decide +kernel
theorem dX2_dropOldest_20 : decode cX2_dropOldest 20 = .ok (.iconst 1, 1) := by decide +kernel
theorem dX2_dropOldest_21 : decode cX2_dropOldest 21 = .ok (.isub, 1) := by decide +kernel
theorem dX2_dropOldest_22 : decode cX2_dropOldest 22 = .ok (.aload_n 0, 1) := by decide +kernel
theorem dX2_dropOldest_23 : decode cX2_dropOldest 23 = .ok (.getfield 11, 3) := by decide +kernel
theorem dX2_dropOldest_26 : decode cX2_dropOldest 26 = .ok (.iload_n 2, 1) := by decide +kernel
theorem dX2_dropOldest_27 : decode cX2_dropOldest 27 = .ok (.aaload, 1) := by decide +kernel
theorem dX2_dropOldest_28 : decode cX2_dropOldest 28 = .ok (.aastore, 1) := by decide +kernel
theorem dX2_dropOldest_29 : decode cX2_dropOldest 29 = .ok (.iinc 2 1, 3) := by decide +kernel
theorem dX2_dropOldest_32 : decode cX2_dropOldest 32 = .ok (.goto (-23), 3) := by decide +kernel
theorem dX2_dropOldest_35 : decode cX2_dropOldest 35 = .ok (.aload_n 0, 1) := by decide +kernel
theorem dX2_dropOldest_36 : decode cX2_dropOldest 36 = .ok (.getfield 11, 3) := by decide +kernel
theorem dX2_dropOldest_39 : decode cX2_dropOldest 39 = .ok (.iconst 5, 1) := by decide +kernel
theorem dX2_dropOldest_40 : decode cX2_dropOldest 40 = .ok (.aload_n 1, 1) := by decide +kernel
theorem dX2_dropOldest_41 : decode cX2_dropOldest 41 = .ok (.aastore, 1) := by decide +kernel
theorem dX2_dropOldest_42 : decode cX2_dropOldest 42 = .ok (.aload_n 0, 1) := by decide +kernel
theorem dX2_dropOldest_43 : decode cX2_dropOldest 43 = .ok (.iconst 5, 1) := by decide +kernel
theorem dX2_dropOldest_44 : decode cX2_dropOldest 44 = .ok (.putfield 17, 3) := by decide +kernel
theorem dX2_dropOldest_47 : decode cX2_dropOldest 47 = .ok (.return_, 1) := by decide +kernel
theorem dX2_restore_0 : decode cX2_restore 0 = .ok (.aload_n 0, 1) := by decide +kernel
theorem dX2_restore_1 : decode cX2_restore 1 = .ok (.getfield 17, 3) := by decide +kernel
theorem dX2_restore_4 : decode cX2_restore 4 = .ok (.ifCond .le 26, 3) := by decide +kernel
theorem dX2_restore_7 : decode cX2_restore 7 = .ok (.aload_n 0, 1) := by decide +kernel
theorem dX2_restore_8 : decode cX2_restore 8 = .ok (.dup, 1) := by decide +kernel
theorem dX2_restore_9 : decode cX2_restore 9 = .ok (.getfield 17, 3) := by decide +kernel
theorem dX2_restore_12 : decode cX2_restore 12 = .ok (.iconst 1, 1) := by decide +kernel
theorem dX2_restore_13 : decode cX2_restore 13 = .ok (.isub, 1) := by decide +kernel
theorem dX2_restore_14 : decode cX2_restore 14 = .ok (.putfield 17, 3) := by decide +kernel
theorem dX2_restore_17 : decode cX2_restore 17 = .ok (.aload_n 1, 1) := by decide +kernel
theorem dX2_restore_18 : decode cX2_restore 18 = .ok (.aload_n 0, 1) := by decide +kernel
theorem dX2_restore_19 : decode cX2_restore 19 = .ok (.getfield 11, 3) := by decide +kernel
theorem dX2_restore_22 : decode cX2_restore 22 = .ok (.aload_n 0, 1) := by decide +kernel
theorem dX2_restore_23 : decode cX2_restore 23 = .ok (.getfield 17, 3) := by decide +kernel
theorem dX2_restore_26 : decode cX2_restore 26 = .ok (.aaload, 1) := by decide +kernel
theorem dX2_restore_27 : decode cX2_restore 27 = .ok (.invokevirtual 27, 3) := by decide +kernel
theorem dX2_restore_30 : decode cX2_restore 30 = .ok (.return_, 1) := by decide +kernel
theorem dX3_init_0 : decode cX3_init 0 = .ok (.aload_n 0, 1) := by decide +kernel
theorem dX3_init_1 : decode cX3_init 1 = .ok (.invokespecial 3, 3) := by decide +kernel
theorem dX3_init_4 : decode cX3_init 4 = .ok (.aload_n 0, 1) := by decide +kernel
theorem dX3_init_5 : decode cX3_init 5 = .ok (.aload_n 1, 1) := by decide +kernel
theorem dX3_init_6 : decode cX3_init 6 = .ok (.putfield 9, 3) := by decide +kernel
theorem dX3_init_9 : decode cX3_init 9 = .ok (.aload_n 0, 1) := by decide +kernel
theorem dX3_init_10 : decode cX3_init 10 = .ok (.iload_n 2, 1) := by decide +kernel
theorem dX3_init_11 : decode cX3_init 11 = .ok (.putfield 15, 3) := by decide +kernel
theorem dX3_init_14 : decode cX3_init 14 = .ok (.aload_n 0, 1) := by decide +kernel
theorem dX3_init_15 : decode cX3_init 15 = .ok (.iload_n 3, 1) := by decide +kernel
theorem dX3_init_16 : decode cX3_init 16 = .ok (.putfield 19, 3) := by decide +kernel
theorem dX3_init_19 : decode cX3_init 19 = .ok (.return_, 1) := by decide +kernel
theorem dX3_over_0 : decode cX3_over 0 = .ok (.aload_n 0, 1) := by decide +kernel
theorem dX3_over_1 : decode cX3_over 1 = .ok (.getfield 9, 3) := by decide +kernel
theorem dX3_over_4 : decode cX3_over 4 = .ok (.getfield 23, 3) := by decide +kernel
theorem dX3_over_7 : decode cX3_over 7 = .ok (.iload_n 2, 1) := by decide +kernel
theorem dX3_over_8 : decode cX3_over 8 = .ok (.iaload, 1) := by decide +kernel
theorem dX3_over_9 : decode cX3_over 9 = .ok (.istore_n 3, 1) := by decide +kernel
theorem dX3_over_10 : decode cX3_over 10 = .ok (.aload_n 0, 1) := by decide +kernel
theorem dX3_over_11 : decode cX3_over 11 = .ok (.getfield 15, 3) := by decide +kernel
theorem dX3_over_14 : decode cX3_over 14 = .ok (.tableswitch 43 0 2 #[26, 28, 34], 26) := by decide +kernel
theorem dX3_over_40 : decode cX3_over 40 = .ok (.iload_n 3, 1) := by decide +kernel
theorem dX3_over_41 : decode cX3_over 41 = .ok (.ireturn, 1) := by decide +kernel
theorem dX3_over_42 : decode cX3_over 42 = .ok (.iload_n 1, 1) := by decide +kernel
theorem dX3_over_43 : decode cX3_over 43 = .ok (.iload_n 3, 1) := by decide +kernel
theorem dX3_over_44 : decode cX3_over 44 = .ok (.invokestatic 29, 3) := by decide +kernel
theorem dX3_over_47 : decode cX3_over 47 = .ok (.ireturn, 1) := by decide +kernel
theorem dX3_over_48 : decode cX3_over 48 = .ok (.iload_n 1, 1) := by decide +kernel
theorem dX3_over_49 : decode cX3_over 49 = .ok (.bipush 100, 2) := by decide +kernel
theorem dX3_over_51 : decode cX3_over 51 = .ok (.iload_n 3, 1) := by decide +kernel
theorem dX3_over_52 : decode cX3_over 52 = .ok (.isub, 1) := by decide +kernel
theorem dX3_over_53 : decode cX3_over 53 = .ok (.invokestatic 35, 3) := by decide +kernel
theorem dX3_over_56 : decode cX3_over 56 = .ok (.ireturn, 1) := by decide +kernel
theorem dX3_over_57 : decode cX3_over 57 = .ok (.iload_n 1, 1) := by decide +kernel
theorem dX3_over_58 : decode cX3_over 58 = .ok (.iload_n 3, 1) := by decide +kernel
theorem dX3_over_59 : decode cX3_over 59 = .ok (.invokestatic 35, 3) := by decide +kernel
theorem dX3_over_62 : decode cX3_over 62 = .ok (.ireturn, 1) := by decide +kernel
theorem dX3_property_0 : decode cX3_property 0 = .ok (.iload_n 1, 1) := by decide +kernel
theorem dX3_property_1 : decode cX3_property 1 = .ok (.tableswitch 164 0 10 #[59, 70, 81, 89, 97, 105, 110, 118, 131, 139, 152], 59) := by decide +kernel
theorem dX3_property_60 : decode cX3_property 60 = .ok (.aload_n 0, 1) := by decide +kernel
theorem dX3_property_61 : decode cX3_property 61 = .ok (.getfield 9, 3) := by decide +kernel
theorem dX3_property_64 : decode cX3_property 64 = .ok (.getfield 38, 3) := by decide +kernel
theorem dX3_property_67 : decode cX3_property 67 = .ok (.bipush 16, 2) := by decide +kernel
theorem dX3_property_69 : decode cX3_property 69 = .ok (.irem, 1) := by decide +kernel
theorem dX3_property_70 : decode cX3_property 70 = .ok (.ireturn, 1) := by decide +kernel
theorem dX3_property_71 : decode cX3_property 71 = .ok (.aload_n 0, 1) := by decide +kernel
theorem dX3_property_72 : decode cX3_property 72 = .ok (.getfield 9, 3) := by decide +kernel
theorem dX3_property_75 : decode cX3_property 75 = .ok (.getfield 38, 3) := by decide +kernel
theorem dX3_property_78 : decode cX3_property 78 = .ok (.bipush 16, 2) := by decide +kernel
theorem dX3_property_80 : decode cX3_property 80 = .ok (.idiv, 1) := by decide +kernel
theorem dX3_property_81 : decode cX3_property 81 = .ok (.ireturn, 1) := by decide +kernel
theorem dX3_property_82 : decode cX3_property 82 = .ok (.aload_n 0, 1) := by decide +kernel
theorem dX3_property_83 : decode cX3_property 83 = .ok (.getfield 9, 3) := by decide +kernel
theorem dX3_property_86 : decode cX3_property 86 = .ok (.getfield 41, 3) := by decide +kernel
theorem dX3_property_89 : decode cX3_property 89 = .ok (.ireturn, 1) := by decide +kernel
theorem dX3_property_90 : decode cX3_property 90 = .ok (.aload_n 0, 1) := by decide +kernel
theorem dX3_property_91 : decode cX3_property 91 = .ok (.getfield 9, 3) := by decide +kernel
theorem dX3_property_94 : decode cX3_property 94 = .ok (.getfield 44, 3) := by decide +kernel
theorem dX3_property_97 : decode cX3_property 97 = .ok (.ireturn, 1) := by decide +kernel
theorem dX3_property_98 : decode cX3_property 98 = .ok (.aload_n 0, 1) := by decide +kernel
theorem dX3_property_99 : decode cX3_property 99 = .ok (.getfield 9, 3) := by decide +kernel
theorem dX3_property_102 : decode cX3_property 102 = .ok (.getfield 47, 3) := by decide +kernel
theorem dX3_property_105 : decode cX3_property 105 = .ok (.ireturn, 1) := by decide +kernel
theorem dX3_property_106 : decode cX3_property 106 = .ok (.aload_n 0, 1) := by decide +kernel
theorem dX3_property_107 : decode cX3_property 107 = .ok (.getfield 15, 3) := by decide +kernel
theorem dX3_property_110 : decode cX3_property 110 = .ok (.ireturn, 1) := by decide +kernel
theorem dX3_property_111 : decode cX3_property 111 = .ok (.aload_n 0, 1) := by decide +kernel
theorem dX3_property_112 : decode cX3_property 112 = .ok (.getfield 9, 3) := by decide +kernel
theorem dX3_property_115 : decode cX3_property 115 = .ok (.getfield 50, 3) := by decide +kernel
theorem dX3_property_118 : decode cX3_property 118 = .ok (.ireturn, 1) := by decide +kernel
theorem dX3_property_119 : decode cX3_property 119 = .ok (.aload_n 0, 1) := by decide +kernel
theorem dX3_property_120 : decode cX3_property 120 = .ok (.getfield 19, 3) := by decide +kernel
theorem dX3_property_123 : decode cX3_property 123 = .ok (.ifCond .eq 7, 3) := by decide +kernel
theorem dX3_property_126 : decode cX3_property 126 = .ok (.iconst 1, 1) := by decide +kernel
theorem dX3_property_127 : decode cX3_property 127 = .ok (.goto 4, 3) := by decide +kernel
theorem dX3_property_130 : decode cX3_property 130 = .ok (.iconst 0, 1) := by decide +kernel
theorem dX3_property_131 : decode cX3_property 131 = .ok (.ireturn, 1) := by decide +kernel
theorem dX3_property_132 : decode cX3_property 132 = .ok (.aload_n 0, 1) := by decide +kernel
theorem dX3_property_133 : decode cX3_property 133 = .ok (.getfield 9, 3) := by decide +kernel
theorem dX3_property_136 : decode cX3_property 136 = .ok (.getfield 53, 3) := by decide +kernel
theorem dX3_property_139 : decode cX3_property 139 = .ok (.ireturn, 1) := by decide +kernel
theorem dX3_property_140 : decode cX3_property 140 = .ok (.aload_n 0, 1) := by decide +kernel
theorem dX3_property_141 : decode cX3_property 141 = .ok (.getfield 9, 3) := by decide +kernel
theorem dX3_property_144 : decode cX3_property 144 = .ok (.getfield 23, 3) := by decide +kernel
theorem dX3_property_147 : decode cX3_property 147 = .ok (.bipush 100, 2) := by decide +kernel
theorem dX3_property_149 : decode cX3_property 149 = .ok (.invokestatic 56, 3) := by decide +kernel
theorem dX3_property_152 : decode cX3_property 152 = .ok (.ireturn, 1) := by decide +kernel
theorem dX3_property_153 : decode cX3_property 153 = .ok (.aload_n 0, 1) := by decide +kernel
theorem dX3_property_154 : decode cX3_property 154 = .ok (.getfield 9, 3) := by decide +kernel
theorem dX3_property_157 : decode cX3_property 157 = .ok (.getfield 23, 3) := by decide +kernel
theorem dX3_property_160 : decode cX3_property 160 = .ok (.iconst 1, 1) := by decide +kernel
theorem dX3_property_161 : decode cX3_property 161 = .ok (.invokestatic 56, 3) := by decide +kernel
theorem dX3_property_164 : decode cX3_property 164 = .ok (.ireturn, 1) := by decide +kernel
theorem dX3_property_165 : decode cX3_property 165 = .ok (.aload_n 0, 1) := by decide +kernel
theorem dX3_property_166 : decode cX3_property 166 = .ok (.getfield 9, 3) := by decide +kernel
theorem dX3_property_169 : decode cX3_property 169 = .ok (.getfield 23, 3) := by decide +kernel
theorem dX3_property_172 : decode cX3_property 172 = .ok (.invokestatic 60, 3) := by decide +kernel
theorem dX3_property_175 : decode cX3_property 175 = .ok (.ireturn, 1) := by decide +kernel
theorem dX4_init_0 : decode cX4_init 0 = .ok (.aload_n 0, 1) := by decide +kernel
theorem dX4_init_1 : decode cX4_init 1 = .ok (.invokespecial 3, 3) := by decide +kernel
theorem dX4_init_4 : decode cX4_init 4 = .ok (.aload_n 0, 1) := by decide +kernel
theorem dX4_init_5 : decode cX4_init 5 = .ok (.bipush 60, 2) := by decide +kernel
theorem dX4_init_7 : decode cX4_init 7 = .ok (.newarray .int, 2) := by decide +kernel
theorem dX4_init_9 : decode cX4_init 9 = .ok (.putfield 9, 3) := by decide +kernel
theorem dX4_init_12 : decode cX4_init 12 = .ok (.aload_n 0, 1) := by decide +kernel
theorem dX4_init_13 : decode cX4_init 13 = .ok (.iconst 0, 1) := by decide +kernel
theorem dX4_init_14 : decode cX4_init 14 = .ok (.putfield 15, 3) := by decide +kernel
theorem dX4_init_17 : decode cX4_init 17 = .ok (.return_, 1) := by decide +kernel
theorem dX5_init_0 : decode cX5_init 0 = .ok (.aload_n 0, 1) := by decide +kernel
theorem dX5_init_1 : decode cX5_init 1 = .ok (.invokespecial 3, 3) := by decide +kernel
theorem dX5_init_4 : decode cX5_init 4 = .ok (.aload_n 0, 1) := by decide +kernel
theorem dX5_init_5 : decode cX5_init 5 = .ok (.sipush 160, 3) := by decide +kernel
theorem dX5_init_8 : decode cX5_init 8 = .ok (.newarray .int, 2) := by decide +kernel
theorem dX5_init_10 : decode cX5_init 10 = .ok (.putfield 9, 3) := by decide +kernel
theorem dX5_init_13 : decode cX5_init 13 = .ok (.aload_n 0, 1) := by decide +kernel
theorem dX5_init_14 : decode cX5_init 14 = .ok (.bipush 12, 2) := by decide +kernel
theorem dX5_init_16 : decode cX5_init 16 = .ok (.anewarray 15, 3) := by decide +kernel
theorem dX5_init_19 : decode cX5_init 19 = .ok (.putfield 17, 3) := by decide +kernel
theorem dX5_init_22 : decode cX5_init 22 = .ok (.aload_n 0, 1) := by decide +kernel
theorem dX5_init_23 : decode cX5_init 23 = .ok (.iconst 0, 1) := by decide +kernel
theorem dX5_init_24 : decode cX5_init 24 = .ok (.putfield 21, 3) := by decide +kernel
theorem dX5_init_27 : decode cX5_init 27 = .ok (.iconst 0, 1) := by decide +kernel
theorem dX5_init_28 : decode cX5_init 28 = .ok (.istore_n 2, 1) := by decide +kernel
theorem dX5_init_29 : decode cX5_init 29 = .ok (.iload_n 2, 1) := by decide +kernel
theorem dX5_init_30 : decode cX5_init 30 = .ok (.sipush 160, 3) := by decide +kernel
theorem dX5_init_33 : decode cX5_init 33 = .ok (.if_icmp .ge 17, 3) := by decide +kernel
theorem dX5_init_36 : decode cX5_init 36 = .ok (.aload_n 0, 1) := by decide +kernel
theorem dX5_init_37 : decode cX5_init 37 = .ok (.getfield 9, 3) := by decide +kernel
theorem dX5_init_40 : decode cX5_init 40 = .ok (.iload_n 2, 1) := by decide +kernel
theorem dX5_init_41 : decode cX5_init 41 = .ok (.bipush 50, 2) := by decide +kernel
theorem dX5_init_43 : decode cX5_init 43 = .ok (.iastore, 1) := by decide +kernel
theorem dX5_init_44 : decode cX5_init 44 = .ok (.iinc 2 1, 3) := by decide +kernel
theorem dX5_init_47 : decode cX5_init 47 = .ok (.goto (-18), 3) := by decide +kernel
theorem dX5_init_50 : decode cX5_init 50 = .ok (.iconst 0, 1) := by decide +kernel
theorem dX5_init_51 : decode cX5_init 51 = .ok (.istore_n 2, 1) := by decide +kernel
theorem dX5_init_52 : decode cX5_init 52 = .ok (.iload_n 2, 1) := by decide +kernel
theorem dX5_init_53 : decode cX5_init 53 = .ok (.bipush 12, 2) := by decide +kernel
theorem dX5_init_55 : decode cX5_init 55 = .ok (.if_icmp .ge 16, 3) := by decide +kernel
theorem dX5_init_58 : decode cX5_init 58 = .ok (.aload_n 0, 1) := by decide +kernel
theorem dX5_init_59 : decode cX5_init 59 = .ok (.getfield 17, 3) := by decide +kernel
theorem dX5_init_62 : decode cX5_init 62 = .ok (.iload_n 2, 1) := by decide +kernel
theorem dX5_init_63 : decode cX5_init 63 = .ok (.aload_n 1, 1) := by decide +kernel
theorem dX5_init_64 : decode cX5_init 64 = .ok (.aastore, 1) := by decide +kernel
theorem dX5_init_65 : decode cX5_init 65 = .ok (.iinc 2 1, 3) := by decide +kernel
theorem dX5_init_68 : decode cX5_init 68 = .ok (.goto (-16), 3) := by decide +kernel
theorem dX5_init_71 : decode cX5_init 71 = .ok (.return_, 1) := by decide +kernel
theorem dX5_become_0 : decode cX5_become 0 = .ok (.aload_n 1, 1) := by decide +kernel
theorem dX5_become_1 : decode cX5_become 1 = .ok (.getfield 9, 3) := by decide +kernel
theorem dX5_become_4 : decode cX5_become 4 = .ok (.iconst 0, 1) := by decide +kernel
theorem dX5_become_5 : decode cX5_become 5 = .ok (.aload_n 0, 1) := by decide +kernel
theorem dX5_become_6 : decode cX5_become 6 = .ok (.getfield 9, 3) := by decide +kernel
theorem dX5_become_9 : decode cX5_become 9 = .ok (.iconst 0, 1) := by decide +kernel
theorem dX5_become_10 : decode cX5_become 10 = .ok (.sipush 160, 3) := by decide +kernel
theorem dX5_become_13 : decode cX5_become 13 = .ok (.invokestatic 25, 3) := by decide +kernel
theorem dX5_become_16 : decode cX5_become 16 = .ok (.iconst 0, 1) := by decide +kernel
theorem dX5_become_17 : decode cX5_become 17 = .ok (.istore_n 2, 1) := by decide +kernel
theorem dX5_become_18 : decode cX5_become 18 = .ok (.iload_n 2, 1) := by decide +kernel
theorem dX5_become_19 : decode cX5_become 19 = .ok (.bipush 12, 2) := by decide +kernel
theorem dX5_become_21 : decode cX5_become 21 = .ok (.if_icmp .ge 21, 3) := by decide +kernel
theorem dX5_become_24 : decode cX5_become 24 = .ok (.aload_n 0, 1) := by decide +kernel
theorem dX5_become_25 : decode cX5_become 25 = .ok (.getfield 17, 3) := by decide +kernel
theorem dX5_become_28 : decode cX5_become 28 = .ok (.iload_n 2, 1) := by decide +kernel
theorem dX5_become_29 : decode cX5_become 29 = .ok (.aload_n 1, 1) := by decide +kernel
theorem dX5_become_30 : decode cX5_become 30 = .ok (.getfield 17, 3) := by decide +kernel
theorem dX5_become_33 : decode cX5_become 33 = .ok (.iload_n 2, 1) := by decide +kernel
theorem dX5_become_34 : decode cX5_become 34 = .ok (.aaload, 1) := by decide +kernel
theorem dX5_become_35 : decode cX5_become 35 = .ok (.aastore, 1) := by decide +kernel
theorem dX5_become_36 : decode cX5_become 36 = .ok (.iinc 2 1, 3) := by decide +kernel
theorem dX5_become_39 : decode cX5_become 39 = .ok (.goto (-21), 3) := by decide +kernel
theorem dX5_become_42 : decode cX5_become 42 = .ok (.aload_n 0, 1) := by decide +kernel
theorem dX5_become_43 : decode cX5_become 43 = .ok (.aload_n 1, 1) := by decide +kernel
theorem dX5_become_44 : decode cX5_become 44 = .ok (.getfield 21, 3) := by decide +kernel
theorem dX5_become_47 : decode cX5_become 47 = .ok (.putfield 21, 3) := by decide +kernel
theorem dX5_become_50 : decode cX5_become 50 = .ok (.return_, 1) := by decide +kernel
theorem dX5_paint_0 : decode cX5_paint 0 = .ok (.aload_n 0, 1) := by decide +kernel
theorem dX5_paint_1 : decode cX5_paint 1 = .ok (.getfield 9, 3) := by decide +kernel
theorem dX5_paint_4 : decode cX5_paint 4 = .ok (.iload_n 1, 1) := by decide +kernel
theorem dX5_paint_5 : decode cX5_paint 5 = .ok (.iaload, 1) := by decide +kernel
theorem dX5_paint_6 : decode cX5_paint 6 = .ok (.iload_n 2, 1) := by decide +kernel
theorem dX5_paint_7 : decode cX5_paint 7 = .ok (.if_icmp .eq 7, 3) := by decide +kernel
theorem dX5_paint_10 : decode cX5_paint 10 = .ok (.iconst 1, 1) := by decide +kernel
theorem dX5_paint_11 : decode cX5_paint 11 = .ok (.goto 4, 3) := by decide +kernel
theorem dX5_paint_14 : decode cX5_paint 14 = .ok (.iconst 0, 1) := by decide +kernel
theorem dX5_paint_15 : decode cX5_paint 15 = .ok (.istore_n 3, 1) := by decide +kernel
theorem dX5_paint_16 : decode cX5_paint 16 = .ok (.aload_n 0, 1) := by decide +kernel
theorem dX5_paint_17 : decode cX5_paint 17 = .ok (.getfield 9, 3) := by decide +kernel
theorem dX5_paint_20 : decode cX5_paint 20 = .ok (.iload_n 1, 1) := by decide +kernel
theorem dX5_paint_21 : decode cX5_paint 21 = .ok (.iload_n 2, 1) := by decide +kernel
theorem dX5_paint_22 : decode cX5_paint 22 = .ok (.iastore, 1) := by decide +kernel
theorem dX5_paint_23 : decode cX5_paint 23 = .ok (.iload_n 3, 1) := by decide +kernel
theorem dX5_paint_24 : decode cX5_paint 24 = .ok (.ireturn, 1) := by decide +kernel
theorem dX5_addPick_0 : decode cX5_addPick 0 = .ok (.aload_n 0, 1) := by decide +kernel
theorem dX5_addPick_1 : decode cX5_addPick 1 = .ok (.getfield 21, 3) := by decide +kernel
theorem dX5_addPick_4 : decode cX5_addPick 4 = .ok (.bipush 12, 2) := by decide +kernel
theorem dX5_addPick_6 : decode cX5_addPick 6 = .ok (.if_icmp .ge 23, 3) := by decide +kernel
theorem dX5_addPick_9 : decode cX5_addPick 9 = .ok (.aload_n 0, 1) := by decide +kernel
theorem dX5_addPick_10 : decode cX5_addPick 10 = .ok (.getfield 17, 3) := by decide +kernel
theorem dX5_addPick_13 : decode cX5_addPick 13 = .ok (.aload_n 0, 1) := by decide +kernel
theorem dX5_addPick_14 : decode cX5_addPick 14 = .ok (.getfield 21, 3) := by decide +kernel
theorem dX5_addPick_17 : decode cX5_addPick 17 = .ok (.aload_n 1, 1) := by decide +kernel
theorem dX5_addPick_18 : decode cX5_addPick 18 = .ok (.aastore, 1) := by decide +kernel
theorem dX5_addPick_19 : decode cX5_addPick 19 = .ok (.aload_n 0, 1) := by decide +kernel
theorem dX5_addPick_20 : decode cX5_addPick 20 = .ok (.dup, 1) := by decide +kernel
theorem dX5_addPick_21 : decode cX5_addPick 21 = .ok (.getfield 21, 3) := by decide +kernel
theorem dX5_addPick_24 : decode cX5_addPick 24 = .ok (.iconst 1, 1) := by decide +kernel
theorem dX5_addPick_25 : decode cX5_addPick 25 = .ok (.iadd, 1) := by decide +kernel
theorem dX5_addPick_26 : decode cX5_addPick 26 = .ok (.putfield 21, 3) := by decide +kernel
theorem dX5_addPick_29 : decode cX5_addPick 29 = .ok (.return_, 1) := by decide +kernel
theorem dX5_movePick_0 : decode cX5_movePick 0 = .ok (.aload_n 0, 1) := by decide +kernel
theorem dX5_movePick_1 : decode cX5_movePick 1 = .ok (.getfield 17, 3) := by decide +kernel
theorem dX5_movePick_4 : decode cX5_movePick 4 = .ok (.iload_n 1, 1) := by decide +kernel
theorem dX5_movePick_5 : decode cX5_movePick 5 = .ok (.aaload, 1) := by decide +kernel
theorem dX5_movePick_6 : decode cX5_movePick 6 = .ok (.astore_n 3, 1) := by decide +kernel
theorem dX5_movePick_7 : decode cX5_movePick 7 = .ok (.iload_n 1, 1) := by decide +kernel
theorem dX5_movePick_8 : decode cX5_movePick 8 = .ok (.istore 4, 2) := by decide +kernel
theorem dX5_movePick_10 : decode cX5_movePick 10 = .ok (.iload 4, 2) := by decide +kernel
theorem dX5_movePick_12 : decode cX5_movePick 12 = .ok (.iload_n 2, 1) := by decide +kernel
theorem dX5_movePick_13 : decode cX5_movePick 13 = .ok (.if_icmp .ge 25, 3) := by decide +kernel
theorem dX5_movePick_16 : decode cX5_movePick 16 = .ok (.aload_n 0, 1) := by decide +kernel
theorem dX5_movePick_17 : decode cX5_movePick 17 = .ok (.getfield 17, 3) := by decide +kernel
theorem dX5_movePick_20 : decode cX5_movePick 20 = .ok (.iload 4, 2) := by decide +kernel
theorem dX5_movePick_22 : decode cX5_movePick 22 = .ok (.aload_n 0, 1) := by decide +kernel
theorem dX5_movePick_23 : decode cX5_movePick 23 = .ok (.getfield 17, 3) := by decide +kernel
theorem dX5_movePick_26 : decode cX5_movePick 26 = .ok (.iload 4, 2) := by decide +kernel
theorem dX5_movePick_28 : decode cX5_movePick 28 = .ok (.iconst 1, 1) := by decide +kernel
theorem dX5_movePick_29 : decode cX5_movePick 29 = .ok (.iadd, 1) := by decide +kernel
theorem dX5_movePick_30 : decode cX5_movePick 30 = .ok (.aaload, 1) := by decide +kernel
theorem dX5_movePick_31 : decode cX5_movePick 31 = .ok (.aastore, 1) := by decide +kernel
theorem dX5_movePick_32 : decode cX5_movePick 32 = .ok (.iinc 4 1, 3) := by decide +kernel
theorem dX5_movePick_35 : decode cX5_movePick 35 = .ok (.goto (-25), 3) := by decide +kernel
theorem dX5_movePick_38 : decode cX5_movePick 38 = .ok (.iload_n 1, 1) := by decide +kernel
theorem dX5_movePick_39 : decode cX5_movePick 39 = .ok (.istore 4, 2) := by decide +kernel
theorem dX5_movePick_41 : decode cX5_movePick 41 = .ok (.iload 4, 2) := by decide +kernel
theorem dX5_movePick_43 : decode cX5_movePick 43 = .ok (.iload_n 2, 1) := by decide +kernel
theorem dX5_movePick_44 : decode cX5_movePick 44 = .ok (.if_icmp .le 25, 3) := by decide +kernel
theorem dX5_movePick_47 : decode cX5_movePick 47 = .ok (.aload_n 0, 1) := by decide +kernel
theorem dX5_movePick_48 : decode cX5_movePick 48 = .ok (.getfield 17, 3) := by decide +kernel
theorem dX5_movePick_51 : decode cX5_movePick 51 = .ok (.iload 4, 2) := by decide +kernel
theorem dX5_movePick_53 : decode cX5_movePick 53 = .ok (.aload_n 0, 1) := by decide +kernel
theorem dX5_movePick_54 : decode cX5_movePick 54 = .ok (.getfield 17, 3) := by decide +kernel
theorem dX5_movePick_57 : decode cX5_movePick 57 = .ok (.iload 4, 2) := by decide +kernel
theorem dX5_movePick_59 : decode cX5_movePick 59 = .ok (.iconst 1, 1) := by decide +kernel
theorem dX5_movePick_60 : decode cX5_movePick 60 = .ok (.isub, 1) := by decide +kernel
theorem dX5_movePick_61 : decode cX5_movePick 61 = .ok (.aaload, 1) := by decide +kernel
theorem dX5_movePick_62 : decode cX5_movePick 62 = .ok (.aastore, 1) := by decide +kernel
theorem dX5_movePick_63 : decode cX5_movePick 63 = .ok (.iinc 4 (-1), 3) := by decide +kernel
theorem dX5_movePick_66 : decode cX5_movePick 66 = .ok (.goto (-25), 3) := by decide +kernel
theorem dX5_movePick_69 : decode cX5_movePick 69 = .ok (.aload_n 0, 1) := by decide +kernel
theorem dX5_movePick_70 : decode cX5_movePick 70 = .ok (.getfield 17, 3) := by decide +kernel
theorem dX5_movePick_73 : decode cX5_movePick 73 = .ok (.iload_n 2, 1) := by decide +kernel
theorem dX5_movePick_74 : decode cX5_movePick 74 = .ok (.aload_n 3, 1) := by decide +kernel
theorem dX5_movePick_75 : decode cX5_movePick 75 = .ok (.aastore, 1) := by decide +kernel
theorem dX5_movePick_76 : decode cX5_movePick 76 = .ok (.return_, 1) := by decide +kernel
theorem dX5_removePicksThatAreOut_0 : decode cX5_removePicksThatAreOut 0 = .ok (.iconst 0, 1) := by decide +kernel
theorem dX5_removePicksThatAreOut_1 : decode cX5_removePicksThatAreOut 1 = .ok (.istore_n 1, 1) := by decide +kernel
theorem dX5_removePicksThatAreOut_2 : decode cX5_removePicksThatAreOut 2 = .ok (.iconst 0, 1) := by decide +kernel
theorem dX5_removePicksThatAreOut_3 : decode cX5_removePicksThatAreOut 3 = .ok (.istore_n 2, 1) := by decide +kernel
theorem dX5_removePicksThatAreOut_4 : decode cX5_removePicksThatAreOut 4 = .ok (.iload_n 2, 1) := by decide +kernel
theorem dX5_removePicksThatAreOut_5 : decode cX5_removePicksThatAreOut 5 = .ok (.aload_n 0, 1) := by decide +kernel
theorem dX5_removePicksThatAreOut_6 : decode cX5_removePicksThatAreOut 6 = .ok (.getfield 21, 3) := by decide +kernel
theorem dX5_removePicksThatAreOut_9 : decode cX5_removePicksThatAreOut 9 = .ok (.if_icmp .ge 42, 3) := by decide +kernel
theorem dX5_removePicksThatAreOut_12 : decode cX5_removePicksThatAreOut 12 = .ok (.iload_n 2, 1) := by decide +kernel
theorem dX5_removePicksThatAreOut_13 : decode cX5_removePicksThatAreOut 13 = .ok (.bipush 12, 2) := by decide +kernel
theorem dX5_removePicksThatAreOut_15 : decode cX5_removePicksThatAreOut 15 = .ok (.if_icmp .ge 36, 3) := by decide +kernel
theorem dX5_removePicksThatAreOut_18 : decode cX5_removePicksThatAreOut 18 = .ok (.aload_n 0, 1) := by decide +kernel
theorem dX5_removePicksThatAreOut_19 : decode cX5_removePicksThatAreOut 19 = .ok (.getfield 17, 3) := by decide +kernel
theorem dX5_removePicksThatAreOut_22 : decode cX5_removePicksThatAreOut 22 = .ok (.iload_n 2, 1) := by decide +kernel
theorem dX5_removePicksThatAreOut_23 : decode cX5_removePicksThatAreOut 23 = .ok (.aaload, 1) := by decide +kernel
theorem dX5_removePicksThatAreOut_24 : decode cX5_removePicksThatAreOut 24 = .ok (.getfield 31, 3) := by decide +kernel
theorem dX5_removePicksThatAreOut_27 : decode cX5_removePicksThatAreOut 27 = .ok (.ifCond .eq 18, 3) := by decide +kernel
theorem dX5_removePicksThatAreOut_30 : decode cX5_removePicksThatAreOut 30 = .ok (.aload_n 0, 1) := by decide +kernel
theorem dX5_removePicksThatAreOut_31 : decode cX5_removePicksThatAreOut 31 = .ok (.getfield 17, 3) := by decide +kernel
theorem dX5_removePicksThatAreOut_34 : decode cX5_removePicksThatAreOut 34 = .ok (.iload_n 1, 1) := by decide +kernel
theorem dX5_removePicksThatAreOut_35 : decode cX5_removePicksThatAreOut 35 = .ok (.aload_n 0, 1) := by decide +kernel
theorem dX5_removePicksThatAreOut_36 : decode cX5_removePicksThatAreOut 36 = .ok (.getfield 17, 3) := by decide +kernel
theorem dX5_removePicksThatAreOut_39 : decode cX5_removePicksThatAreOut 39 = .ok (.iload_n 2, 1) := by decide +kernel
theorem dX5_removePicksThatAreOut_40 : decode cX5_removePicksThatAreOut 40 = .ok (.aaload, 1) := by decide +kernel
theorem dX5_removePicksThatAreOut_41 : decode cX5_removePicksThatAreOut 41 = .ok (.aastore, 1) := by decide +kernel
theorem dX5_removePicksThatAreOut_42 : decode cX5_removePicksThatAreOut 42 = .ok (.iinc 1 1, 3) := by decide +kernel
theorem dX5_removePicksThatAreOut_45 : decode cX5_removePicksThatAreOut 45 = .ok (.iinc 2 1, 3) := by decide +kernel
theorem dX5_removePicksThatAreOut_48 : decode cX5_removePicksThatAreOut 48 = .ok (.goto (-44), 3) := by decide +kernel
theorem dX5_removePicksThatAreOut_51 : decode cX5_removePicksThatAreOut 51 = .ok (.aload_n 0, 1) := by decide +kernel
theorem dX5_removePicksThatAreOut_52 : decode cX5_removePicksThatAreOut 52 = .ok (.getfield 21, 3) := by decide +kernel
theorem dX5_removePicksThatAreOut_55 : decode cX5_removePicksThatAreOut 55 = .ok (.iload_n 1, 1) := by decide +kernel
theorem dX5_removePicksThatAreOut_56 : decode cX5_removePicksThatAreOut 56 = .ok (.isub, 1) := by decide +kernel
theorem dX5_removePicksThatAreOut_57 : decode cX5_removePicksThatAreOut 57 = .ok (.istore_n 2, 1) := by decide +kernel
theorem dX5_removePicksThatAreOut_58 : decode cX5_removePicksThatAreOut 58 = .ok (.aload_n 0, 1) := by decide +kernel
theorem dX5_removePicksThatAreOut_59 : decode cX5_removePicksThatAreOut 59 = .ok (.iload_n 1, 1) := by decide +kernel
theorem dX5_removePicksThatAreOut_60 : decode cX5_removePicksThatAreOut 60 = .ok (.putfield 21, 3) := by decide +kernel
theorem dX5_removePicksThatAreOut_63 : decode cX5_removePicksThatAreOut 63 = .ok (.iload_n 2, 1) := by decide +kernel
theorem dX5_removePicksThatAreOut_64 : decode cX5_removePicksThatAreOut 64 = .ok (.ireturn, 1) := by decide +kernel
theorem dX5_picksThatAreIn_0 : decode cX5_picksThatAreIn 0 = .ok (.iconst 0, 1) := by decide +kernel
theorem dX5_picksThatAreIn_1 : decode cX5_picksThatAreIn 1 = .ok (.istore_n 1, 1) := by decide +kernel
theorem dX5_picksThatAreIn_2 : decode cX5_picksThatAreIn 2 = .ok (.iconst 0, 1) := by decide +kernel
theorem dX5_picksThatAreIn_3 : decode cX5_picksThatAreIn 3 = .ok (.istore_n 2, 1) := by decide +kernel
theorem dX5_picksThatAreIn_4 : decode cX5_picksThatAreIn 4 = .ok (.iload_n 2, 1) := by decide +kernel
theorem dX5_picksThatAreIn_5 : decode cX5_picksThatAreIn 5 = .ok (.aload_n 0, 1) := by decide +kernel
theorem dX5_picksThatAreIn_6 : decode cX5_picksThatAreIn 6 = .ok (.getfield 21, 3) := by decide +kernel
theorem dX5_picksThatAreIn_9 : decode cX5_picksThatAreIn 9 = .ok (.if_icmp .ge 30, 3) := by decide +kernel
theorem dX5_picksThatAreIn_12 : decode cX5_picksThatAreIn 12 = .ok (.iload_n 2, 1) := by decide +kernel
theorem dX5_picksThatAreIn_13 : decode cX5_picksThatAreIn 13 = .ok (.bipush 12, 2) := by decide +kernel
theorem dX5_picksThatAreIn_15 : decode cX5_picksThatAreIn 15 = .ok (.if_icmp .ge 24, 3) := by decide +kernel
theorem dX5_picksThatAreIn_18 : decode cX5_picksThatAreIn 18 = .ok (.aload_n 0, 1) := by decide +kernel
theorem dX5_picksThatAreIn_19 : decode cX5_picksThatAreIn 19 = .ok (.getfield 17, 3) := by decide +kernel
theorem dX5_picksThatAreIn_22 : decode cX5_picksThatAreIn 22 = .ok (.iload_n 2, 1) := by decide +kernel
theorem dX5_picksThatAreIn_23 : decode cX5_picksThatAreIn 23 = .ok (.aaload, 1) := by decide +kernel
theorem dX5_picksThatAreIn_24 : decode cX5_picksThatAreIn 24 = .ok (.getfield 31, 3) := by decide +kernel
theorem dX5_picksThatAreIn_27 : decode cX5_picksThatAreIn 27 = .ok (.ifCond .eq 6, 3) := by decide +kernel
theorem dX5_picksThatAreIn_30 : decode cX5_picksThatAreIn 30 = .ok (.iinc 1 1, 3) := by decide +kernel
theorem dX5_picksThatAreIn_33 : decode cX5_picksThatAreIn 33 = .ok (.iinc 2 1, 3) := by decide +kernel
theorem dX5_picksThatAreIn_36 : decode cX5_picksThatAreIn 36 = .ok (.goto (-32), 3) := by decide +kernel
theorem dX5_picksThatAreIn_39 : decode cX5_picksThatAreIn 39 = .ok (.iload_n 1, 1) := by decide +kernel
theorem dX5_picksThatAreIn_40 : decode cX5_picksThatAreIn 40 = .ok (.ireturn, 1) := by decide +kernel
theorem dX5_makeMask_0 : decode cX5_makeMask 0 = .ok (.iconst 0, 1) := by decide +kernel
theorem dX5_makeMask_1 : decode cX5_makeMask 1 = .ok (.istore_n 2, 1) := by decide +kernel
theorem dX5_makeMask_2 : decode cX5_makeMask 2 = .ok (.iload_n 2, 1) := by decide +kernel
theorem dX5_makeMask_3 : decode cX5_makeMask 3 = .ok (.sipush 160, 3) := by decide +kernel
theorem dX5_makeMask_6 : decode cX5_makeMask 6 = .ok (.if_icmp .ge 17, 3) := by decide +kernel
theorem dX5_makeMask_9 : decode cX5_makeMask 9 = .ok (.aload_n 1, 1) := by decide +kernel
theorem dX5_makeMask_10 : decode cX5_makeMask 10 = .ok (.iload_n 2, 1) := by decide +kernel
theorem dX5_makeMask_11 : decode cX5_makeMask 11 = .ok (.aload_n 0, 1) := by decide +kernel
theorem dX5_makeMask_12 : decode cX5_makeMask 12 = .ok (.iload_n 2, 1) := by decide +kernel
theorem dX5_makeMask_13 : decode cX5_makeMask 13 = .ok (.invokevirtual 35, 3) := by decide +kernel
theorem dX5_makeMask_16 : decode cX5_makeMask 16 = .ok (.iastore, 1) := by decide +kernel
theorem dX5_makeMask_17 : decode cX5_makeMask 17 = .ok (.iinc 2 1, 3) := by decide +kernel
theorem dX5_makeMask_20 : decode cX5_makeMask 20 = .ok (.goto (-18), 3) := by decide +kernel
theorem dX5_makeMask_23 : decode cX5_makeMask 23 = .ok (.return_, 1) := by decide +kernel
theorem dX5_maskLevel_0 : decode cX5_maskLevel 0 = .ok (.iconst 0, 1) := by decide +kernel
theorem dX5_maskLevel_1 : decode cX5_maskLevel 1 = .ok (.istore_n 2, 1) := by decide +kernel
theorem dX5_maskLevel_2 : decode cX5_maskLevel 2 = .ok (.iconst 0, 1) := by decide +kernel
theorem dX5_maskLevel_3 : decode cX5_maskLevel 3 = .ok (.istore_n 3, 1) := by decide +kernel
theorem dX5_maskLevel_4 : decode cX5_maskLevel 4 = .ok (.iload_n 3, 1) := by decide +kernel
theorem dX5_maskLevel_5 : decode cX5_maskLevel 5 = .ok (.aload_n 0, 1) := by decide +kernel
theorem dX5_maskLevel_6 : decode cX5_maskLevel 6 = .ok (.getfield 21, 3) := by decide +kernel
theorem dX5_maskLevel_9 : decode cX5_maskLevel 9 = .ok (.if_icmp .ge 39, 3) := by decide +kernel
theorem dX5_maskLevel_12 : decode cX5_maskLevel 12 = .ok (.iload_n 3, 1) := by decide +kernel
theorem dX5_maskLevel_13 : decode cX5_maskLevel 13 = .ok (.bipush 12, 2) := by decide +kernel
theorem dX5_maskLevel_15 : decode cX5_maskLevel 15 = .ok (.if_icmp .ge 33, 3) := by decide +kernel
theorem dX5_maskLevel_18 : decode cX5_maskLevel 18 = .ok (.aload_n 0, 1) := by decide +kernel
theorem dX5_maskLevel_19 : decode cX5_maskLevel 19 = .ok (.getfield 17, 3) := by decide +kernel
theorem dX5_maskLevel_22 : decode cX5_maskLevel 22 = .ok (.iload_n 3, 1) := by decide +kernel
theorem dX5_maskLevel_23 : decode cX5_maskLevel 23 = .ok (.aaload, 1) := by decide +kernel
theorem dX5_maskLevel_24 : decode cX5_maskLevel 24 = .ok (.getfield 31, 3) := by decide +kernel
theorem dX5_maskLevel_27 : decode cX5_maskLevel 27 = .ok (.ifCond .eq 15, 3) := by decide +kernel
theorem dX5_maskLevel_30 : decode cX5_maskLevel 30 = .ok (.aload_n 0, 1) := by decide +kernel
theorem dX5_maskLevel_31 : decode cX5_maskLevel 31 = .ok (.getfield 17, 3) := by decide +kernel
theorem dX5_maskLevel_34 : decode cX5_maskLevel 34 = .ok (.iload_n 3, 1) := by decide +kernel
theorem dX5_maskLevel_35 : decode cX5_maskLevel 35 = .ok (.aaload, 1) := by decide +kernel
theorem dX5_maskLevel_36 : decode cX5_maskLevel 36 = .ok (.iload_n 2, 1) := by decide +kernel
theorem dX5_maskLevel_37 : decode cX5_maskLevel 37 = .ok (.iload_n 1, 1) := by decide +kernel
theorem dX5_maskLevel_38 : decode cX5_maskLevel 38 = .ok (.invokevirtual 39, 3) := by decide +kernel
theorem dX5_maskLevel_41 : decode cX5_maskLevel 41 = .ok (.istore_n 2, 1) := by decide +kernel
theorem dX5_maskLevel_42 : decode cX5_maskLevel 42 = .ok (.iinc 3 1, 3) := by decide +kernel
theorem dX5_maskLevel_45 : decode cX5_maskLevel 45 = .ok (.goto (-41), 3) := by decide +kernel
theorem dX5_maskLevel_48 : decode cX5_maskLevel 48 = .ok (.iload_n 2, 1) := by decide +kernel
theorem dX5_maskLevel_49 : decode cX5_maskLevel 49 = .ok (.ireturn, 1) := by decide +kernel
theorem dX5_picksOver_0 : decode cX5_picksOver 0 = .ok (.iconst 0, 1) := by decide +kernel
theorem dX5_picksOver_1 : decode cX5_picksOver 1 = .ok (.istore_n 2, 1) := by decide +kernel
theorem dX5_picksOver_2 : decode cX5_picksOver 2 = .ok (.iconst 0, 1) := by decide +kernel
theorem dX5_picksOver_3 : decode cX5_picksOver 3 = .ok (.istore_n 3, 1) := by decide +kernel
theorem dX5_picksOver_4 : decode cX5_picksOver 4 = .ok (.iload_n 3, 1) := by decide +kernel
theorem dX5_picksOver_5 : decode cX5_picksOver 5 = .ok (.aload_n 0, 1) := by decide +kernel
theorem dX5_picksOver_6 : decode cX5_picksOver 6 = .ok (.getfield 21, 3) := by decide +kernel
theorem dX5_picksOver_9 : decode cX5_picksOver 9 = .ok (.if_icmp .ge 35, 3) := by decide +kernel
theorem dX5_picksOver_12 : decode cX5_picksOver 12 = .ok (.iload_n 3, 1) := by decide +kernel
theorem dX5_picksOver_13 : decode cX5_picksOver 13 = .ok (.bipush 12, 2) := by decide +kernel
theorem dX5_picksOver_15 : decode cX5_picksOver 15 = .ok (.if_icmp .ge 29, 3) := by decide +kernel
theorem dX5_picksOver_18 : decode cX5_picksOver 18 = .ok (.aload_n 0, 1) := by decide +kernel
theorem dX5_picksOver_19 : decode cX5_picksOver 19 = .ok (.getfield 17, 3) := by decide +kernel
theorem dX5_picksOver_22 : decode cX5_picksOver 22 = .ok (.iload_n 3, 1) := by decide +kernel
theorem dX5_picksOver_23 : decode cX5_picksOver 23 = .ok (.aaload, 1) := by decide +kernel
theorem dX5_picksOver_24 : decode cX5_picksOver 24 = .ok (.getfield 43, 3) := by decide +kernel
theorem dX5_picksOver_27 : decode cX5_picksOver 27 = .ok (.getfield 47, 3) := by decide +kernel
theorem dX5_picksOver_30 : decode cX5_picksOver 30 = .ok (.iload_n 1, 1) := by decide +kernel
theorem dX5_picksOver_31 : decode cX5_picksOver 31 = .ok (.iaload, 1) := by decide +kernel
theorem dX5_picksOver_32 : decode cX5_picksOver 32 = .ok (.ifCond .le 6, 3) := by decide +kernel
theorem dX5_picksOver_35 : decode cX5_picksOver 35 = .ok (.iinc 2 1, 3) := by decide +kernel
theorem dX5_picksOver_38 : decode cX5_picksOver 38 = .ok (.iinc 3 1, 3) := by decide +kernel
theorem dX5_picksOver_41 : decode cX5_picksOver 41 = .ok (.goto (-37), 3) := by decide +kernel
theorem dX5_picksOver_44 : decode cX5_picksOver 44 = .ok (.iload_n 2, 1) := by decide +kernel
theorem dX5_picksOver_45 : decode cX5_picksOver 45 = .ok (.ireturn, 1) := by decide +kernel
theorem dX5_cellProperty_0 : decode cX5_cellProperty 0 = .ok (.iload_n 2, 1) := by decide +kernel
theorem dX5_cellProperty_1 : decode cX5_cellProperty 1 = .ok (.ifCond .ne 10, 3) := by decide +kernel
theorem dX5_cellProperty_4 : decode cX5_cellProperty 4 = .ok (.aload_n 0, 1) := by decide +kernel
theorem dX5_cellProperty_5 : decode cX5_cellProperty 5 = .ok (.getfield 9, 3) := by decide +kernel
theorem dX5_cellProperty_8 : decode cX5_cellProperty 8 = .ok (.iload_n 1, 1) := by decide +kernel
theorem dX5_cellProperty_9 : decode cX5_cellProperty 9 = .ok (.iaload, 1) := by decide +kernel
theorem dX5_cellProperty_10 : decode cX5_cellProperty 10 = .ok (.ireturn, 1) := by decide +kernel
theorem dX5_cellProperty_11 : decode cX5_cellProperty 11 = .ok (.iload_n 2, 1) := by decide +kernel
theorem dX5_cellProperty_12 : decode cX5_cellProperty 12 = .ok (.iconst 1, 1) := by decide +kernel
theorem dX5_cellProperty_13 : decode cX5_cellProperty 13 = .ok (.if_icmp .ne 11, 3) := by decide +kernel
theorem dX5_cellProperty_16 : decode cX5_cellProperty 16 = .ok (.aload_n 0, 1) := by decide +kernel
theorem dX5_cellProperty_17 : decode cX5_cellProperty 17 = .ok (.iload_n 1, 1) := by decide +kernel
theorem dX5_cellProperty_18 : decode cX5_cellProperty 18 = .ok (.invokevirtual 35, 3) := by decide +kernel
theorem dX5_cellProperty_21 : decode cX5_cellProperty 21 = .ok (.goto 8, 3) := by decide +kernel
theorem dX5_cellProperty_24 : decode cX5_cellProperty 24 = .ok (.aload_n 0, 1) := by decide +kernel
theorem dX5_cellProperty_25 : decode cX5_cellProperty 25 = .ok (.iload_n 1, 1) := by decide +kernel
theorem dX5_cellProperty_26 : decode cX5_cellProperty 26 = .ok (.invokevirtual 52, 3) := by decide +kernel
theorem dX5_cellProperty_29 : decode cX5_cellProperty 29 = .ok (.ireturn, 1) := by decide +kernel
theorem dX6_init_0 : decode cX6_init 0 = .ok (.aload_n 0, 1) := by decide +kernel
theorem dX6_init_1 : decode cX6_init 1 = .ok (.invokespecial 3, 3) := by decide +kernel
theorem dX6_init_4 : decode cX6_init 4 = .ok (.new 9, 3) := by decide +kernel
theorem dX6_init_7 : decode cX6_init 7 = .ok (.dup, 1) := by decide +kernel
theorem dX6_init_8 : decode cX6_init 8 = .ok (.new 11, 3) := by decide +kernel
theorem dX6_init_11 : decode cX6_init 11 = .ok (.dup, 1) := by decide +kernel
theorem dX6_init_12 : decode cX6_init 12 = .ok (.iconst 0, 1) := by decide +kernel
theorem dX6_init_13 : decode cX6_init 13 = .ok (.iconst 0, 1) := by decide +kernel
theorem dX6_init_14 : decode cX6_init 14 = .ok (.iconst 0, 1) := by decide +kernel
theorem dX6_init_15 : decode cX6_init 15 = .ok (.iconst 0, 1) := by decide +kernel
theorem dX6_init_16 : decode cX6_init 16 = .ok (.iconst 0, 1) := by decide +kernel
theorem dX6_init_17 : decode cX6_init 17 = .ok (.iconst 0, 1) := by decide +kernel
theorem dX6_init_18 : decode cX6_init 18 = .ok (.sipush 160, 3) := by decide +kernel
theorem dX6_init_21 : decode cX6_init 21 = .ok (.newarray .int, 2) := by decide +kernel
theorem dX6_init_23 : decode cX6_init 23 = .ok (.invokespecial 13, 3) := by decide +kernel
theorem dX6_init_26 : decode cX6_init 26 = .ok (.iconst 0, 1) := by decide +kernel
theorem dX6_init_27 : decode cX6_init 27 = .ok (.iconst 0, 1) := by decide +kernel
theorem dX6_init_28 : decode cX6_init 28 = .ok (.invokespecial 16, 3) := by decide +kernel
theorem dX6_init_31 : decode cX6_init 31 = .ok (.astore_n 1, 1) := by decide +kernel
theorem dX6_init_32 : decode cX6_init 32 = .ok (.aload_n 0, 1) := by decide +kernel
theorem dX6_init_33 : decode cX6_init 33 = .ok (.new 19, 3) := by decide +kernel
theorem dX6_init_36 : decode cX6_init 36 = .ok (.dup, 1) := by decide +kernel
theorem dX6_init_37 : decode cX6_init 37 = .ok (.aload_n 1, 1) := by decide +kernel
theorem dX6_init_38 : decode cX6_init 38 = .ok (.invokespecial 21, 3) := by decide +kernel
theorem dX6_init_41 : decode cX6_init 41 = .ok (.putfield 24, 3) := by decide +kernel
theorem dX6_init_44 : decode cX6_init 44 = .ok (.aload_n 0, 1) := by decide +kernel
theorem dX6_init_45 : decode cX6_init 45 = .ok (.new 28, 3) := by decide +kernel
theorem dX6_init_48 : decode cX6_init 48 = .ok (.dup, 1) := by decide +kernel
theorem dX6_init_49 : decode cX6_init 49 = .ok (.aload_n 1, 1) := by decide +kernel
theorem dX6_init_50 : decode cX6_init 50 = .ok (.invokespecial 30, 3) := by decide +kernel
theorem dX6_init_53 : decode cX6_init 53 = .ok (.putfield 31, 3) := by decide +kernel
theorem dX6_init_56 : decode cX6_init 56 = .ok (.aload_n 0, 1) := by decide +kernel
theorem dX6_init_57 : decode cX6_init 57 = .ok (.new 35, 3) := by decide +kernel
theorem dX6_init_60 : decode cX6_init 60 = .ok (.dup, 1) := by decide +kernel
theorem dX6_init_61 : decode cX6_init 61 = .ok (.invokespecial 37, 3) := by decide +kernel
theorem dX6_init_64 : decode cX6_init 64 = .ok (.putfield 38, 3) := by decide +kernel
theorem dX6_init_67 : decode cX6_init 67 = .ok (.aload_n 0, 1) := by decide +kernel
theorem dX6_init_68 : decode cX6_init 68 = .ok (.new 42, 3) := by decide +kernel
theorem dX6_init_71 : decode cX6_init 71 = .ok (.dup, 1) := by decide +kernel
theorem dX6_init_72 : decode cX6_init 72 = .ok (.invokespecial 44, 3) := by decide +kernel
theorem dX6_init_75 : decode cX6_init 75 = .ok (.putfield 45, 3) := by decide +kernel
theorem dX6_init_78 : decode cX6_init 78 = .ok (.aload_n 0, 1) := by decide +kernel
theorem dX6_init_79 : decode cX6_init 79 = .ok (.sipush 160, 3) := by decide +kernel
theorem dX6_init_82 : decode cX6_init 82 = .ok (.newarray .int, 2) := by decide +kernel
theorem dX6_init_84 : decode cX6_init 84 = .ok (.putfield 49, 3) := by decide +kernel
theorem dX6_init_87 : decode cX6_init 87 = .ok (.aload_n 0, 1) := by decide +kernel
theorem dX6_init_88 : decode cX6_init 88 = .ok (.sipush 160, 3) := by decide +kernel
theorem dX6_init_91 : decode cX6_init 91 = .ok (.newarray .int, 2) := by decide +kernel
theorem dX6_init_93 : decode cX6_init 93 = .ok (.putfield 53, 3) := by decide +kernel
theorem dX6_init_96 : decode cX6_init 96 = .ok (.return_, 1) := by decide +kernel
theorem dX6_draw_0 : decode cX6_draw 0 = .ok (.iload_n 1, 1) := by decide +kernel
theorem dX6_draw_1 : decode cX6_draw 1 = .ok (.iload_n 2, 1) := by decide +kernel
theorem dX6_draw_2 : decode cX6_draw 2 = .ok (.invokestatic 56, 3) := by decide +kernel
theorem dX6_draw_5 : decode cX6_draw 5 = .ok (.iload_n 3, 1) := by decide +kernel
theorem dX6_draw_6 : decode cX6_draw 6 = .ok (.iload 4, 2) := by decide +kernel
theorem dX6_draw_8 : decode cX6_draw 8 = .ok (.invokestatic 56, 3) := by decide +kernel
theorem dX6_draw_11 : decode cX6_draw 11 = .ok (.iload 5, 2) := by decide +kernel
theorem dX6_draw_13 : decode cX6_draw 13 = .ok (.iconst 0, 1) := by decide +kernel
theorem dX6_draw_14 : decode cX6_draw 14 = .ok (.bipush 99, 2) := by decide +kernel
theorem dX6_draw_16 : decode cX6_draw 16 = .ok (.invokestatic 60, 3) := by decide +kernel
theorem dX6_draw_19 : decode cX6_draw 19 = .ok (.aload_n 0, 1) := by decide +kernel
theorem dX6_draw_20 : decode cX6_draw 20 = .ok (.getfield 31, 3) := by decide +kernel
theorem dX6_draw_23 : decode cX6_draw 23 = .ok (.aload_n 0, 1) := by decide +kernel
theorem dX6_draw_24 : decode cX6_draw 24 = .ok (.getfield 24, 3) := by decide +kernel
theorem dX6_draw_27 : decode cX6_draw 27 = .ok (.invokevirtual 64, 3) := by decide +kernel
theorem dX6_draw_30 : decode cX6_draw 30 = .ok (.iload_n 2, 1) := by decide +kernel
theorem dX6_draw_31 : decode cX6_draw 31 = .ok (.iload 4, 2) := by decide +kernel
theorem dX6_draw_33 : decode cX6_draw 33 = .ok (.invokestatic 68, 3) := by decide +kernel
theorem dX6_draw_36 : decode cX6_draw 36 = .ok (.istore 6, 2) := by decide +kernel
theorem dX6_draw_38 : decode cX6_draw 38 = .ok (.iload_n 1, 1) := by decide +kernel
theorem dX6_draw_39 : decode cX6_draw 39 = .ok (.iload_n 3, 1) := by decide +kernel
theorem dX6_draw_40 : decode cX6_draw 40 = .ok (.invokestatic 68, 3) := by decide +kernel
theorem dX6_draw_43 : decode cX6_draw 43 = .ok (.istore 7, 2) := by decide +kernel
theorem dX6_draw_45 : decode cX6_draw 45 = .ok (.iconst 0, 1) := by decide +kernel
theorem dX6_draw_46 : decode cX6_draw 46 = .ok (.istore 8, 2) := by decide +kernel
theorem dX6_draw_48 : decode cX6_draw 48 = .ok (.iload_n 2, 1) := by decide +kernel
theorem dX6_draw_49 : decode cX6_draw 49 = .ok (.iload 4, 2) := by decide +kernel
theorem dX6_draw_51 : decode cX6_draw 51 = .ok (.invokestatic 74, 3) := by decide +kernel
theorem dX6_draw_54 : decode cX6_draw 54 = .ok (.istore 9, 2) := by decide +kernel
theorem dX6_draw_56 : decode cX6_draw 56 = .ok (.iload 9, 2) := by decide +kernel
theorem dX6_draw_58 : decode cX6_draw 58 = .ok (.iload 6, 2) := by decide +kernel
theorem dX6_draw_60 : decode cX6_draw 60 = .ok (.if_icmp .gt 50, 3) := by decide +kernel
theorem dX6_draw_63 : decode cX6_draw 63 = .ok (.iload_n 1, 1) := by decide +kernel
theorem dX6_draw_64 : decode cX6_draw 64 = .ok (.iload_n 3, 1) := by decide +kernel
theorem dX6_draw_65 : decode cX6_draw 65 = .ok (.invokestatic 74, 3) := by decide +kernel
theorem dX6_draw_68 : decode cX6_draw 68 = .ok (.istore 10, 2) := by decide +kernel
theorem dX6_draw_70 : decode cX6_draw 70 = .ok (.iload 10, 2) := by decide +kernel
theorem dX6_draw_72 : decode cX6_draw 72 = .ok (.iload 7, 2) := by decide +kernel
theorem dX6_draw_74 : decode cX6_draw 74 = .ok (.if_icmp .gt 30, 3) := by decide +kernel
theorem dX6_draw_77 : decode cX6_draw 77 = .ok (.iload 8, 2) := by decide +kernel
theorem dX6_draw_79 : decode cX6_draw 79 = .ok (.aload_n 0, 1) := by decide +kernel
theorem dX6_draw_80 : decode cX6_draw 80 = .ok (.getfield 24, 3) := by decide +kernel
theorem dX6_draw_83 : decode cX6_draw 83 = .ok (.iload 10, 2) := by decide +kernel
theorem dX6_draw_85 : decode cX6_draw 85 = .ok (.iload 9, 2) := by decide +kernel
theorem dX6_draw_87 : decode cX6_draw 87 = .ok (.invokestatic 77, 3) := by decide +kernel
theorem dX6_draw_90 : decode cX6_draw 90 = .ok (.iload 5, 2) := by decide +kernel
theorem dX6_draw_92 : decode cX6_draw 92 = .ok (.invokevirtual 80, 3) := by decide +kernel
theorem dX6_draw_95 : decode cX6_draw 95 = .ok (.iadd, 1) := by decide +kernel
theorem dX6_draw_96 : decode cX6_draw 96 = .ok (.istore 8, 2) := by decide +kernel
theorem dX6_draw_98 : decode cX6_draw 98 = .ok (.iinc 10 1, 3) := by decide +kernel
theorem dX6_draw_101 : decode cX6_draw 101 = .ok (.goto (-31), 3) := by decide +kernel
theorem dX6_draw_104 : decode cX6_draw 104 = .ok (.iinc 9 1, 3) := by decide +kernel
theorem dX6_draw_107 : decode cX6_draw 107 = .ok (.goto (-51), 3) := by decide +kernel
theorem dX6_draw_110 : decode cX6_draw 110 = .ok (.iload 8, 2) := by decide +kernel
theorem dX6_draw_112 : decode cX6_draw 112 = .ok (.ireturn, 1) := by decide +kernel
theorem dX6_fill_0 : decode cX6_fill 0 = .ok (.iload_n 1, 1) := by decide +kernel
theorem dX6_fill_1 : decode cX6_fill 1 = .ok (.iconst 0, 1) := by decide +kernel
theorem dX6_fill_2 : decode cX6_fill 2 = .ok (.bipush 99, 2) := by decide +kernel
theorem dX6_fill_4 : decode cX6_fill 4 = .ok (.invokestatic 60, 3) := by decide +kernel
theorem dX6_fill_7 : decode cX6_fill 7 = .ok (.aload_n 0, 1) := by decide +kernel
theorem dX6_fill_8 : decode cX6_fill 8 = .ok (.getfield 31, 3) := by decide +kernel
theorem dX6_fill_11 : decode cX6_fill 11 = .ok (.aload_n 0, 1) := by decide +kernel
theorem dX6_fill_12 : decode cX6_fill 12 = .ok (.getfield 24, 3) := by decide +kernel
theorem dX6_fill_15 : decode cX6_fill 15 = .ok (.invokevirtual 64, 3) := by decide +kernel
theorem dX6_fill_18 : decode cX6_fill 18 = .ok (.aload_n 0, 1) := by decide +kernel
theorem dX6_fill_19 : decode cX6_fill 19 = .ok (.getfield 24, 3) := by decide +kernel
theorem dX6_fill_22 : decode cX6_fill 22 = .ok (.aload_n 0, 1) := by decide +kernel
theorem dX6_fill_23 : decode cX6_fill 23 = .ok (.getfield 49, 3) := by decide +kernel
theorem dX6_fill_26 : decode cX6_fill 26 = .ok (.invokevirtual 83, 3) := by decide +kernel
theorem dX6_fill_29 : decode cX6_fill 29 = .ok (.iconst 0, 1) := by decide +kernel
theorem dX6_fill_30 : decode cX6_fill 30 = .ok (.istore_n 2, 1) := by decide +kernel
theorem dX6_fill_31 : decode cX6_fill 31 = .ok (.iconst 0, 1) := by decide +kernel
theorem dX6_fill_32 : decode cX6_fill 32 = .ok (.istore_n 3, 1) := by decide +kernel
theorem dX6_fill_33 : decode cX6_fill 33 = .ok (.iload_n 3, 1) := by decide +kernel
theorem dX6_fill_34 : decode cX6_fill 34 = .ok (.sipush 160, 3) := by decide +kernel
theorem dX6_fill_37 : decode cX6_fill 37 = .ok (.if_icmp .ge 48, 3) := by decide +kernel
theorem dX6_fill_40 : decode cX6_fill 40 = .ok (.aload_n 0, 1) := by decide +kernel
theorem dX6_fill_41 : decode cX6_fill 41 = .ok (.getfield 24, 3) := by decide +kernel
theorem dX6_fill_44 : decode cX6_fill 44 = .ok (.getfield 87, 3) := by decide +kernel
theorem dX6_fill_47 : decode cX6_fill 47 = .ok (.iload_n 3, 1) := by decide +kernel
theorem dX6_fill_48 : decode cX6_fill 48 = .ok (.iaload, 1) := by decide +kernel
theorem dX6_fill_49 : decode cX6_fill 49 = .ok (.istore 4, 2) := by decide +kernel
theorem dX6_fill_51 : decode cX6_fill 51 = .ok (.iload_n 2, 1) := by decide +kernel
theorem dX6_fill_52 : decode cX6_fill 52 = .ok (.aload_n 0, 1) := by decide +kernel
theorem dX6_fill_53 : decode cX6_fill 53 = .ok (.getfield 24, 3) := by decide +kernel
theorem dX6_fill_56 : decode cX6_fill 56 = .ok (.iload_n 3, 1) := by decide +kernel
theorem dX6_fill_57 : decode cX6_fill 57 = .ok (.iload 4, 2) := by decide +kernel
theorem dX6_fill_59 : decode cX6_fill 59 = .ok (.iload_n 1, 1) := by decide +kernel
theorem dX6_fill_60 : decode cX6_fill 60 = .ok (.iload 4, 2) := by decide +kernel
theorem dX6_fill_62 : decode cX6_fill 62 = .ok (.isub, 1) := by decide +kernel
theorem dX6_fill_63 : decode cX6_fill 63 = .ok (.aload_n 0, 1) := by decide +kernel
theorem dX6_fill_64 : decode cX6_fill 64 = .ok (.getfield 49, 3) := by decide +kernel
theorem dX6_fill_67 : decode cX6_fill 67 = .ok (.iload_n 3, 1) := by decide +kernel
theorem dX6_fill_68 : decode cX6_fill 68 = .ok (.iaload, 1) := by decide +kernel
theorem dX6_fill_69 : decode cX6_fill 69 = .ok (.imul, 1) := by decide +kernel
theorem dX6_fill_70 : decode cX6_fill 70 = .ok (.bipush 100, 2) := by decide +kernel
theorem dX6_fill_72 : decode cX6_fill 72 = .ok (.idiv, 1) := by decide +kernel
theorem dX6_fill_73 : decode cX6_fill 73 = .ok (.iadd, 1) := by decide +kernel
theorem dX6_fill_74 : decode cX6_fill 74 = .ok (.invokevirtual 80, 3) := by decide +kernel
theorem dX6_fill_77 : decode cX6_fill 77 = .ok (.iadd, 1) := by decide +kernel
theorem dX6_fill_78 : decode cX6_fill 78 = .ok (.istore_n 2, 1) := by decide +kernel
theorem dX6_fill_79 : decode cX6_fill 79 = .ok (.iinc 3 1, 3) := by decide +kernel
theorem dX6_fill_82 : decode cX6_fill 82 = .ok (.goto (-49), 3) := by decide +kernel
theorem dX6_fill_85 : decode cX6_fill 85 = .ok (.iload_n 2, 1) := by decide +kernel
theorem dX6_fill_86 : decode cX6_fill 86 = .ok (.ireturn, 1) := by decide +kernel
theorem dX6_pick_0 : decode cX6_pick 0 = .ok (.iload_n 1, 1) := by decide +kernel
theorem dX6_pick_1 : decode cX6_pick 1 = .ok (.iload_n 2, 1) := by decide +kernel
theorem dX6_pick_2 : decode cX6_pick 2 = .ok (.invokestatic 56, 3) := by decide +kernel
theorem dX6_pick_5 : decode cX6_pick 5 = .ok (.iload_n 3, 1) := by decide +kernel
theorem dX6_pick_6 : decode cX6_pick 6 = .ok (.iload 4, 2) := by decide +kernel
theorem dX6_pick_8 : decode cX6_pick 8 = .ok (.iload 5, 2) := by decide +kernel
theorem dX6_pick_10 : decode cX6_pick 10 = .ok (.invokestatic 90, 3) := by decide +kernel
theorem dX6_pick_13 : decode cX6_pick 13 = .ok (.iload 6, 2) := by decide +kernel
theorem dX6_pick_15 : decode cX6_pick 15 = .ok (.iconst 0, 1) := by decide +kernel
theorem dX6_pick_16 : decode cX6_pick 16 = .ok (.bipush 43, 2) := by decide +kernel
theorem dX6_pick_18 : decode cX6_pick 18 = .ok (.invokestatic 60, 3) := by decide +kernel
theorem dX6_pick_21 : decode cX6_pick 21 = .ok (.iload 6, 2) := by decide +kernel
theorem dX6_pick_23 : decode cX6_pick 23 = .ok (.bipush 10, 2) := by decide +kernel
theorem dX6_pick_25 : decode cX6_pick 25 = .ok (.irem, 1) := by decide +kernel
theorem dX6_pick_26 : decode cX6_pick 26 = .ok (.iconst 0, 1) := by decide +kernel
theorem dX6_pick_27 : decode cX6_pick 27 = .ok (.iconst 3, 1) := by decide +kernel
theorem dX6_pick_28 : decode cX6_pick 28 = .ok (.invokestatic 60, 3) := by decide +kernel
theorem dX6_pick_31 : decode cX6_pick 31 = .ok (.aload_n 0, 1) := by decide +kernel
theorem dX6_pick_32 : decode cX6_pick 32 = .ok (.getfield 24, 3) := by decide +kernel
theorem dX6_pick_35 : decode cX6_pick 35 = .ok (.getfield 93, 3) := by decide +kernel
theorem dX6_pick_38 : decode cX6_pick 38 = .ok (.bipush 12, 2) := by decide +kernel
theorem dX6_pick_40 : decode cX6_pick 40 = .ok (.if_icmp .lt 13, 3) := by decide +kernel
theorem dX6_pick_43 : decode cX6_pick 43 = .ok (.new 97, 3) := by decide +kernel
theorem dX6_pick_46 : decode cX6_pick 46 = .ok (.dup, 1) := by decide +kernel
theorem dX6_pick_47 : decode cX6_pick 47 = .ok (.ldc 99, 2) := by decide +kernel
theorem dX6_pick_49 : decode cX6_pick 49 = .ok (.invokespecial 101, 3) := by decide +kernel
theorem dX6_pick_52 : decode cX6_pick 52 = .ok (.athrow, 1) := by decide +kernel
theorem dX6_pick_53 : decode cX6_pick 53 = .ok (.aload_n 0, 1) := by decide +kernel
theorem dX6_pick_54 : decode cX6_pick 54 = .ok (.getfield 31, 3) := by decide +kernel
theorem dX6_pick_57 : decode cX6_pick 57 = .ok (.aload_n 0, 1) := by decide +kernel
theorem dX6_pick_58 : decode cX6_pick 58 = .ok (.getfield 24, 3) := by decide +kernel
theorem dX6_pick_61 : decode cX6_pick 61 = .ok (.invokevirtual 64, 3) := by decide +kernel
theorem dX6_pick_64 : decode cX6_pick 64 = .ok (.iload_n 1, 1) := by decide +kernel
theorem dX6_pick_65 : decode cX6_pick 65 = .ok (.iload_n 2, 1) := by decide +kernel
theorem dX6_pick_66 : decode cX6_pick 66 = .ok (.invokestatic 77, 3) := by decide +kernel
theorem dX6_pick_69 : decode cX6_pick 69 = .ok (.istore 7, 2) := by decide +kernel
theorem dX6_pick_71 : decode cX6_pick 71 = .ok (.iload 6, 2) := by decide +kernel
theorem dX6_pick_73 : decode cX6_pick 73 = .ok (.bipush 10, 2) := by decide +kernel
theorem dX6_pick_75 : decode cX6_pick 75 = .ok (.idiv, 1) := by decide +kernel
theorem dX6_pick_76 : decode cX6_pick 76 = .ok (.istore 8, 2) := by decide +kernel
theorem dX6_pick_78 : decode cX6_pick 78 = .ok (.aload_n 0, 1) := by decide +kernel
theorem dX6_pick_79 : decode cX6_pick 79 = .ok (.getfield 45, 3) := by decide +kernel
theorem dX6_pick_82 : decode cX6_pick 82 = .ok (.aload_n 0, 1) := by decide +kernel
theorem dX6_pick_83 : decode cX6_pick 83 = .ok (.getfield 24, 3) := by decide +kernel
theorem dX6_pick_86 : decode cX6_pick 86 = .ok (.getfield 87, 3) := by decide +kernel
theorem dX6_pick_89 : decode cX6_pick 89 = .ok (.iload 7, 2) := by decide +kernel
theorem dX6_pick_91 : decode cX6_pick 91 = .ok (.iload_n 3, 1) := by decide +kernel
theorem dX6_pick_92 : decode cX6_pick 92 = .ok (.iload 4, 2) := by decide +kernel
theorem dX6_pick_94 : decode cX6_pick 94 = .ok (.iload 5, 2) := by decide +kernel
theorem dX6_pick_96 : decode cX6_pick 96 = .ok (.invokevirtual 104, 3) := by decide +kernel
theorem dX6_pick_99 : decode cX6_pick 99 = .ok (.istore 9, 2) := by decide +kernel
theorem dX6_pick_101 : decode cX6_pick 101 = .ok (.aload_n 0, 1) := by decide +kernel
theorem dX6_pick_102 : decode cX6_pick 102 = .ok (.getfield 45, 3) := by decide +kernel
theorem dX6_pick_105 : decode cX6_pick 105 = .ok (.iload 8, 2) := by decide +kernel
theorem dX6_pick_107 : decode cX6_pick 107 = .ok (.invokevirtual 108, 3) := by decide +kernel
theorem dX6_pick_110 : decode cX6_pick 110 = .ok (.astore 10, 2) := by decide +kernel
theorem dX6_pick_112 : decode cX6_pick 112 = .ok (.new 11, 3) := by decide +kernel
theorem dX6_pick_115 : decode cX6_pick 115 = .ok (.dup, 1) := by decide +kernel
theorem dX6_pick_116 : decode cX6_pick 116 = .ok (.iload 7, 2) := by decide +kernel
theorem dX6_pick_118 : decode cX6_pick 118 = .ok (.iload_n 3, 1) := by decide +kernel
theorem dX6_pick_119 : decode cX6_pick 119 = .ok (.iload 4, 2) := by decide +kernel
theorem dX6_pick_121 : decode cX6_pick 121 = .ok (.iload 5, 2) := by decide +kernel
theorem dX6_pick_123 : decode cX6_pick 123 = .ok (.iload 8, 2) := by decide +kernel
theorem dX6_pick_125 : decode cX6_pick 125 = .ok (.aload_n 0, 1) := by decide +kernel
theorem dX6_pick_126 : decode cX6_pick 126 = .ok (.getfield 45, 3) := by decide +kernel
theorem dX6_pick_129 : decode cX6_pick 129 = .ok (.getfield 112, 3) := by decide +kernel
theorem dX6_pick_132 : decode cX6_pick 132 = .ok (.aload 10, 2) := by decide +kernel
theorem dX6_pick_134 : decode cX6_pick 134 = .ok (.invokespecial 13, 3) := by decide +kernel
theorem dX6_pick_137 : decode cX6_pick 137 = .ok (.astore 11, 2) := by decide +kernel
theorem dX6_pick_139 : decode cX6_pick 139 = .ok (.aload_n 0, 1) := by decide +kernel
theorem dX6_pick_140 : decode cX6_pick 140 = .ok (.getfield 24, 3) := by decide +kernel
theorem dX6_pick_143 : decode cX6_pick 143 = .ok (.new 9, 3) := by decide +kernel
theorem dX6_pick_146 : decode cX6_pick 146 = .ok (.dup, 1) := by decide +kernel
theorem dX6_pick_147 : decode cX6_pick 147 = .ok (.aload 11, 2) := by decide +kernel
theorem dX6_pick_149 : decode cX6_pick 149 = .ok (.iload 6, 2) := by decide +kernel
theorem dX6_pick_151 : decode cX6_pick 151 = .ok (.bipush 10, 2) := by decide +kernel
theorem dX6_pick_153 : decode cX6_pick 153 = .ok (.irem, 1) := by decide +kernel
theorem dX6_pick_154 : decode cX6_pick 154 = .ok (.iconst 1, 1) := by decide +kernel
theorem dX6_pick_155 : decode cX6_pick 155 = .ok (.invokespecial 16, 3) := by decide +kernel
theorem dX6_pick_158 : decode cX6_pick 158 = .ok (.invokevirtual 115, 3) := by decide +kernel
theorem dX6_pick_161 : decode cX6_pick 161 = .ok (.iload 9, 2) := by decide +kernel
theorem dX6_pick_163 : decode cX6_pick 163 = .ok (.ireturn, 1) := by decide +kernel
theorem dX6_toggle_0 : decode cX6_toggle 0 = .ok (.aload_n 0, 1) := by decide +kernel
theorem dX6_toggle_1 : decode cX6_toggle 1 = .ok (.iload_n 1, 1) := by decide +kernel
theorem dX6_toggle_2 : decode cX6_toggle 2 = .ok (.invokevirtual 118, 3) := by decide +kernel
theorem dX6_toggle_5 : decode cX6_toggle 5 = .ok (.aload_n 0, 1) := by decide +kernel
theorem dX6_toggle_6 : decode cX6_toggle 6 = .ok (.getfield 31, 3) := by decide +kernel
theorem dX6_toggle_9 : decode cX6_toggle 9 = .ok (.aload_n 0, 1) := by decide +kernel
theorem dX6_toggle_10 : decode cX6_toggle 10 = .ok (.getfield 24, 3) := by decide +kernel
theorem dX6_toggle_13 : decode cX6_toggle 13 = .ok (.invokevirtual 64, 3) := by decide +kernel
theorem dX6_toggle_16 : decode cX6_toggle 16 = .ok (.aload_n 0, 1) := by decide +kernel
theorem dX6_toggle_17 : decode cX6_toggle 17 = .ok (.getfield 24, 3) := by decide +kernel
theorem dX6_toggle_20 : decode cX6_toggle 20 = .ok (.getfield 122, 3) := by decide +kernel
theorem dX6_toggle_23 : decode cX6_toggle 23 = .ok (.iload_n 1, 1) := by decide +kernel
theorem dX6_toggle_24 : decode cX6_toggle 24 = .ok (.aaload, 1) := by decide +kernel
theorem dX6_toggle_25 : decode cX6_toggle 25 = .ok (.astore_n 2, 1) := by decide +kernel
theorem dX6_toggle_26 : decode cX6_toggle 26 = .ok (.aload_n 0, 1) := by decide +kernel
theorem dX6_toggle_27 : decode cX6_toggle 27 = .ok (.getfield 24, 3) := by decide +kernel
theorem dX6_toggle_30 : decode cX6_toggle 30 = .ok (.getfield 122, 3) := by decide +kernel
theorem dX6_toggle_33 : decode cX6_toggle 33 = .ok (.iload_n 1, 1) := by decide +kernel
theorem dX6_toggle_34 : decode cX6_toggle 34 = .ok (.new 9, 3) := by decide +kernel
theorem dX6_toggle_37 : decode cX6_toggle 37 = .ok (.dup, 1) := by decide +kernel
theorem dX6_toggle_38 : decode cX6_toggle 38 = .ok (.aload_n 2, 1) := by decide +kernel
theorem dX6_toggle_39 : decode cX6_toggle 39 = .ok (.getfield 126, 3) := by decide +kernel
theorem dX6_toggle_42 : decode cX6_toggle 42 = .ok (.aload_n 2, 1) := by decide +kernel
theorem dX6_toggle_43 : decode cX6_toggle 43 = .ok (.getfield 130, 3) := by decide +kernel
theorem dX6_toggle_46 : decode cX6_toggle 46 = .ok (.aload_n 2, 1) := by decide +kernel
theorem dX6_toggle_47 : decode cX6_toggle 47 = .ok (.getfield 133, 3) := by decide +kernel
theorem dX6_toggle_50 : decode cX6_toggle 50 = .ok (.ifCond .ne 7, 3) := by decide +kernel
theorem dX6_toggle_53 : decode cX6_toggle 53 = .ok (.iconst 1, 1) := by decide +kernel
theorem dX6_toggle_54 : decode cX6_toggle 54 = .ok (.goto 4, 3) := by decide +kernel
theorem dX6_toggle_57 : decode cX6_toggle 57 = .ok (.iconst 0, 1) := by decide +kernel
theorem dX6_toggle_58 : decode cX6_toggle 58 = .ok (.invokespecial 16, 3) := by decide +kernel
theorem dX6_toggle_61 : decode cX6_toggle 61 = .ok (.aastore, 1) := by decide +kernel
theorem dX6_toggle_62 : decode cX6_toggle 62 = .ok (.aload_n 2, 1) := by decide +kernel
theorem dX6_toggle_63 : decode cX6_toggle 63 = .ok (.getfield 133, 3) := by decide +kernel
theorem dX6_toggle_66 : decode cX6_toggle 66 = .ok (.ifCond .eq 7, 3) := by decide +kernel
theorem dX6_toggle_69 : decode cX6_toggle 69 = .ok (.iconst 0, 1) := by decide +kernel
theorem dX6_toggle_70 : decode cX6_toggle 70 = .ok (.goto 4, 3) := by decide +kernel
theorem dX6_toggle_73 : decode cX6_toggle 73 = .ok (.iconst 1, 1) := by decide +kernel
theorem dX6_toggle_74 : decode cX6_toggle 74 = .ok (.ireturn, 1) := by decide +kernel
theorem dX6_setKind_0 : decode cX6_setKind 0 = .ok (.aload_n 0, 1) := by decide +kernel
theorem dX6_setKind_1 : decode cX6_setKind 1 = .ok (.iload_n 1, 1) := by decide +kernel
theorem dX6_setKind_2 : decode cX6_setKind 2 = .ok (.invokevirtual 118, 3) := by decide +kernel
theorem dX6_setKind_5 : decode cX6_setKind 5 = .ok (.iload_n 2, 1) := by decide +kernel
theorem dX6_setKind_6 : decode cX6_setKind 6 = .ok (.iconst 0, 1) := by decide +kernel
theorem dX6_setKind_7 : decode cX6_setKind 7 = .ok (.iconst 3, 1) := by decide +kernel
theorem dX6_setKind_8 : decode cX6_setKind 8 = .ok (.invokestatic 60, 3) := by decide +kernel
theorem dX6_setKind_11 : decode cX6_setKind 11 = .ok (.aload_n 0, 1) := by decide +kernel
theorem dX6_setKind_12 : decode cX6_setKind 12 = .ok (.getfield 31, 3) := by decide +kernel
theorem dX6_setKind_15 : decode cX6_setKind 15 = .ok (.aload_n 0, 1) := by decide +kernel
theorem dX6_setKind_16 : decode cX6_setKind 16 = .ok (.getfield 24, 3) := by decide +kernel
theorem dX6_setKind_19 : decode cX6_setKind 19 = .ok (.invokevirtual 64, 3) := by decide +kernel
theorem dX6_setKind_22 : decode cX6_setKind 22 = .ok (.aload_n 0, 1) := by decide +kernel
theorem dX6_setKind_23 : decode cX6_setKind 23 = .ok (.getfield 24, 3) := by decide +kernel
theorem dX6_setKind_26 : decode cX6_setKind 26 = .ok (.getfield 122, 3) := by decide +kernel
theorem dX6_setKind_29 : decode cX6_setKind 29 = .ok (.iload_n 1, 1) := by decide +kernel
theorem dX6_setKind_30 : decode cX6_setKind 30 = .ok (.aaload, 1) := by decide +kernel
theorem dX6_setKind_31 : decode cX6_setKind 31 = .ok (.astore_n 3, 1) := by decide +kernel
theorem dX6_setKind_32 : decode cX6_setKind 32 = .ok (.aload_n 0, 1) := by decide +kernel
theorem dX6_setKind_33 : decode cX6_setKind 33 = .ok (.getfield 24, 3) := by decide +kernel
theorem dX6_setKind_36 : decode cX6_setKind 36 = .ok (.getfield 122, 3) := by decide +kernel
theorem dX6_setKind_39 : decode cX6_setKind 39 = .ok (.iload_n 1, 1) := by decide +kernel
theorem dX6_setKind_40 : decode cX6_setKind 40 = .ok (.new 9, 3) := by decide +kernel
theorem dX6_setKind_43 : decode cX6_setKind 43 = .ok (.dup, 1) := by decide +kernel
theorem dX6_setKind_44 : decode cX6_setKind 44 = .ok (.aload_n 3, 1) := by decide +kernel
theorem dX6_setKind_45 : decode cX6_setKind 45 = .ok (.getfield 126, 3) := by decide +kernel
theorem dX6_setKind_48 : decode cX6_setKind 48 = .ok (.iload_n 2, 1) := by decide +kernel
theorem dX6_setKind_49 : decode cX6_setKind 49 = .ok (.aload_n 3, 1) := by decide +kernel
theorem dX6_setKind_50 : decode cX6_setKind 50 = .ok (.getfield 133, 3) := by decide +kernel
theorem dX6_setKind_53 : decode cX6_setKind 53 = .ok (.invokespecial 16, 3) := by decide +kernel
theorem dX6_setKind_56 : decode cX6_setKind 56 = .ok (.aastore, 1) := by decide +kernel
theorem dX6_setKind_57 : decode cX6_setKind 57 = .ok (.aload_n 3, 1) := by decide +kernel
theorem dX6_setKind_58 : decode cX6_setKind 58 = .ok (.getfield 130, 3) := by decide +kernel
theorem dX6_setKind_61 : decode cX6_setKind 61 = .ok (.ireturn, 1) := by decide +kernel
theorem dX6_reorder_0 : decode cX6_reorder 0 = .ok (.aload_n 0, 1) := by decide +kernel
theorem dX6_reorder_1 : decode cX6_reorder 1 = .ok (.iload_n 1, 1) := by decide +kernel
theorem dX6_reorder_2 : decode cX6_reorder 2 = .ok (.invokevirtual 118, 3) := by decide +kernel
theorem dX6_reorder_5 : decode cX6_reorder 5 = .ok (.aload_n 0, 1) := by decide +kernel
theorem dX6_reorder_6 : decode cX6_reorder 6 = .ok (.iload_n 2, 1) := by decide +kernel
theorem dX6_reorder_7 : decode cX6_reorder 7 = .ok (.invokevirtual 118, 3) := by decide +kernel
theorem dX6_reorder_10 : decode cX6_reorder 10 = .ok (.aload_n 0, 1) := by decide +kernel
theorem dX6_reorder_11 : decode cX6_reorder 11 = .ok (.getfield 31, 3) := by decide +kernel
theorem dX6_reorder_14 : decode cX6_reorder 14 = .ok (.aload_n 0, 1) := by decide +kernel
theorem dX6_reorder_15 : decode cX6_reorder 15 = .ok (.getfield 24, 3) := by decide +kernel
theorem dX6_reorder_18 : decode cX6_reorder 18 = .ok (.invokevirtual 64, 3) := by decide +kernel
theorem dX6_reorder_21 : decode cX6_reorder 21 = .ok (.aload_n 0, 1) := by decide +kernel
theorem dX6_reorder_22 : decode cX6_reorder 22 = .ok (.getfield 24, 3) := by decide +kernel
theorem dX6_reorder_25 : decode cX6_reorder 25 = .ok (.aload_n 0, 1) := by decide +kernel
theorem dX6_reorder_26 : decode cX6_reorder 26 = .ok (.getfield 53, 3) := by decide +kernel
theorem dX6_reorder_29 : decode cX6_reorder 29 = .ok (.invokevirtual 83, 3) := by decide +kernel
theorem dX6_reorder_32 : decode cX6_reorder 32 = .ok (.aload_n 0, 1) := by decide +kernel
theorem dX6_reorder_33 : decode cX6_reorder 33 = .ok (.getfield 24, 3) := by decide +kernel
theorem dX6_reorder_36 : decode cX6_reorder 36 = .ok (.iload_n 1, 1) := by decide +kernel
theorem dX6_reorder_37 : decode cX6_reorder 37 = .ok (.iload_n 2, 1) := by decide +kernel
theorem dX6_reorder_38 : decode cX6_reorder 38 = .ok (.invokevirtual 137, 3) := by decide +kernel
theorem dX6_reorder_41 : decode cX6_reorder 41 = .ok (.aload_n 0, 1) := by decide +kernel
theorem dX6_reorder_42 : decode cX6_reorder 42 = .ok (.getfield 24, 3) := by decide +kernel
theorem dX6_reorder_45 : decode cX6_reorder 45 = .ok (.aload_n 0, 1) := by decide +kernel
theorem dX6_reorder_46 : decode cX6_reorder 46 = .ok (.getfield 49, 3) := by decide +kernel
theorem dX6_reorder_49 : decode cX6_reorder 49 = .ok (.invokevirtual 83, 3) := by decide +kernel
theorem dX6_reorder_52 : decode cX6_reorder 52 = .ok (.aload_n 0, 1) := by decide +kernel
theorem dX6_reorder_53 : decode cX6_reorder 53 = .ok (.getfield 53, 3) := by decide +kernel
theorem dX6_reorder_56 : decode cX6_reorder 56 = .ok (.aload_n 0, 1) := by decide +kernel
theorem dX6_reorder_57 : decode cX6_reorder 57 = .ok (.getfield 49, 3) := by decide +kernel
theorem dX6_reorder_60 : decode cX6_reorder 60 = .ok (.invokestatic 140, 3) := by decide +kernel
theorem dX6_reorder_63 : decode cX6_reorder 63 = .ok (.ireturn, 1) := by decide +kernel
theorem dX6_clean_0 : decode cX6_clean 0 = .ok (.aload_n 0, 1) := by decide +kernel
theorem dX6_clean_1 : decode cX6_clean 1 = .ok (.getfield 31, 3) := by decide +kernel
theorem dX6_clean_4 : decode cX6_clean 4 = .ok (.aload_n 0, 1) := by decide +kernel
theorem dX6_clean_5 : decode cX6_clean 5 = .ok (.getfield 24, 3) := by decide +kernel
theorem dX6_clean_8 : decode cX6_clean 8 = .ok (.invokevirtual 64, 3) := by decide +kernel
theorem dX6_clean_11 : decode cX6_clean 11 = .ok (.aload_n 0, 1) := by decide +kernel
theorem dX6_clean_12 : decode cX6_clean 12 = .ok (.getfield 24, 3) := by decide +kernel
theorem dX6_clean_15 : decode cX6_clean 15 = .ok (.invokevirtual 144, 3) := by decide +kernel
theorem dX6_clean_18 : decode cX6_clean 18 = .ok (.ireturn, 1) := by decide +kernel
theorem dX6_undo_0 : decode cX6_undo 0 = .ok (.aload_n 0, 1) := by decide +kernel
theorem dX6_undo_1 : decode cX6_undo 1 = .ok (.getfield 31, 3) := by decide +kernel
theorem dX6_undo_4 : decode cX6_undo 4 = .ok (.getfield 177, 3) := by decide +kernel
theorem dX6_undo_7 : decode cX6_undo 7 = .ok (.ifCond .gt 13, 3) := by decide +kernel
theorem dX6_undo_10 : decode cX6_undo 10 = .ok (.new 97, 3) := by decide +kernel
theorem dX6_undo_13 : decode cX6_undo 13 = .ok (.dup, 1) := by decide +kernel
theorem dX6_undo_14 : decode cX6_undo 14 = .ok (.ldc 180, 2) := by decide +kernel
theorem dX6_undo_16 : decode cX6_undo 16 = .ok (.invokespecial 101, 3) := by decide +kernel
theorem dX6_undo_19 : decode cX6_undo 19 = .ok (.athrow, 1) := by decide +kernel
theorem dX6_undo_20 : decode cX6_undo 20 = .ok (.aload_n 0, 1) := by decide +kernel
theorem dX6_undo_21 : decode cX6_undo 21 = .ok (.getfield 31, 3) := by decide +kernel
theorem dX6_undo_24 : decode cX6_undo 24 = .ok (.aload_n 0, 1) := by decide +kernel
theorem dX6_undo_25 : decode cX6_undo 25 = .ok (.getfield 24, 3) := by decide +kernel
theorem dX6_undo_28 : decode cX6_undo 28 = .ok (.invokevirtual 182, 3) := by decide +kernel
theorem dX6_undo_31 : decode cX6_undo 31 = .ok (.aload_n 0, 1) := by decide +kernel
theorem dX6_undo_32 : decode cX6_undo 32 = .ok (.getfield 31, 3) := by decide +kernel
theorem dX6_undo_35 : decode cX6_undo 35 = .ok (.getfield 177, 3) := by decide +kernel
theorem dX6_undo_38 : decode cX6_undo 38 = .ok (.ireturn, 1) := by decide +kernel
theorem dX6_cell_0 : decode cX6_cell 0 = .ok (.iload_n 1, 1) := by decide +kernel
theorem dX6_cell_1 : decode cX6_cell 1 = .ok (.iload_n 2, 1) := by decide +kernel
theorem dX6_cell_2 : decode cX6_cell 2 = .ok (.invokestatic 56, 3) := by decide +kernel
theorem dX6_cell_5 : decode cX6_cell 5 = .ok (.iload_n 3, 1) := by decide +kernel
theorem dX6_cell_6 : decode cX6_cell 6 = .ok (.iconst 0, 1) := by decide +kernel
theorem dX6_cell_7 : decode cX6_cell 7 = .ok (.iconst 2, 1) := by decide +kernel
theorem dX6_cell_8 : decode cX6_cell 8 = .ok (.invokestatic 60, 3) := by decide +kernel
theorem dX6_cell_11 : decode cX6_cell 11 = .ok (.aload_n 0, 1) := by decide +kernel
theorem dX6_cell_12 : decode cX6_cell 12 = .ok (.getfield 24, 3) := by decide +kernel
theorem dX6_cell_15 : decode cX6_cell 15 = .ok (.iload_n 1, 1) := by decide +kernel
theorem dX6_cell_16 : decode cX6_cell 16 = .ok (.iload_n 2, 1) := by decide +kernel
theorem dX6_cell_17 : decode cX6_cell 17 = .ok (.invokestatic 77, 3) := by decide +kernel
theorem dX6_cell_20 : decode cX6_cell 20 = .ok (.iload_n 3, 1) := by decide +kernel
theorem dX6_cell_21 : decode cX6_cell 21 = .ok (.invokevirtual 185, 3) := by decide +kernel
theorem dX6_cell_24 : decode cX6_cell 24 = .ok (.ireturn, 1) := by decide +kernel
theorem dX6_picked_0 : decode cX6_picked 0 = .ok (.aload_n 0, 1) := by decide +kernel
theorem dX6_picked_1 : decode cX6_picked 1 = .ok (.iload_n 1, 1) := by decide +kernel
theorem dX6_picked_2 : decode cX6_picked 2 = .ok (.invokevirtual 118, 3) := by decide +kernel
theorem dX6_picked_5 : decode cX6_picked 5 = .ok (.iload_n 2, 1) := by decide +kernel
theorem dX6_picked_6 : decode cX6_picked 6 = .ok (.iconst 0, 1) := by decide +kernel
theorem dX6_picked_7 : decode cX6_picked 7 = .ok (.bipush 11, 2) := by decide +kernel
theorem dX6_picked_9 : decode cX6_picked 9 = .ok (.invokestatic 60, 3) := by decide +kernel
theorem dX6_picked_12 : decode cX6_picked 12 = .ok (.aload_n 0, 1) := by decide +kernel
theorem dX6_picked_13 : decode cX6_picked 13 = .ok (.getfield 24, 3) := by decide +kernel
theorem dX6_picked_16 : decode cX6_picked 16 = .ok (.getfield 122, 3) := by decide +kernel
theorem dX6_picked_19 : decode cX6_picked 19 = .ok (.iload_n 1, 1) := by decide +kernel
theorem dX6_picked_20 : decode cX6_picked 20 = .ok (.aaload, 1) := by decide +kernel
theorem dX6_picked_21 : decode cX6_picked 21 = .ok (.iload_n 2, 1) := by decide +kernel
theorem dX6_picked_22 : decode cX6_picked 22 = .ok (.invokevirtual 188, 3) := by decide +kernel
theorem dX6_picked_25 : decode cX6_picked 25 = .ok (.ireturn, 1) := by decide +kernel
theorem dX6_level_0 : decode cX6_level 0 = .ok (.aload_n 0, 1) := by decide +kernel
theorem dX6_level_1 : decode cX6_level 1 = .ok (.iload_n 1, 1) := by decide +kernel
theorem dX6_level_2 : decode cX6_level 2 = .ok (.invokevirtual 118, 3) := by decide +kernel
theorem dX6_level_5 : decode cX6_level 5 = .ok (.iload_n 2, 1) := by decide +kernel
theorem dX6_level_6 : decode cX6_level 6 = .ok (.iload_n 3, 1) := by decide +kernel
theorem dX6_level_7 : decode cX6_level 7 = .ok (.invokestatic 56, 3) := by decide +kernel
theorem dX6_level_10 : decode cX6_level 10 = .ok (.aload_n 0, 1) := by decide +kernel
theorem dX6_level_11 : decode cX6_level 11 = .ok (.getfield 24, 3) := by decide +kernel
theorem dX6_level_14 : decode cX6_level 14 = .ok (.getfield 122, 3) := by decide +kernel
theorem dX6_level_17 : decode cX6_level 17 = .ok (.iload_n 1, 1) := by decide +kernel
theorem dX6_level_18 : decode cX6_level 18 = .ok (.aaload, 1) := by decide +kernel
theorem dX6_level_19 : decode cX6_level 19 = .ok (.getfield 126, 3) := by decide +kernel
theorem dX6_level_22 : decode cX6_level 22 = .ok (.getfield 192, 3) := by decide +kernel
theorem dX6_level_25 : decode cX6_level 25 = .ok (.iload_n 2, 1) := by decide +kernel
theorem dX6_level_26 : decode cX6_level 26 = .ok (.iload_n 3, 1) := by decide +kernel
theorem dX6_level_27 : decode cX6_level 27 = .ok (.invokestatic 77, 3) := by decide +kernel
theorem dX6_level_30 : decode cX6_level 30 = .ok (.iaload, 1) := by decide +kernel
theorem dX6_level_31 : decode cX6_level 31 = .ok (.ireturn, 1) := by decide +kernel
theorem dX6_count_0 : decode cX6_count 0 = .ok (.iload_n 1, 1) := by decide +kernel
theorem dX6_count_1 : decode cX6_count 1 = .ok (.iconst 0, 1) := by decide +kernel
theorem dX6_count_2 : decode cX6_count 2 = .ok (.bipush 8, 2) := by decide +kernel
theorem dX6_count_4 : decode cX6_count 4 = .ok (.invokestatic 60, 3) := by decide +kernel
theorem dX6_count_7 : decode cX6_count 7 = .ok (.aload_n 0, 1) := by decide +kernel
theorem dX6_count_8 : decode cX6_count 8 = .ok (.iload_n 1, 1) := by decide +kernel
theorem dX6_count_9 : decode cX6_count 9 = .ok (.invokevirtual 195, 3) := by decide +kernel
theorem dX6_count_12 : decode cX6_count 12 = .ok (.ireturn, 1) := by decide +kernel
theorem dX6_areaOf_0 : decode cX6_areaOf 0 = .ok (.iload_n 1, 1) := by decide +kernel
theorem dX6_areaOf_1 : decode cX6_areaOf 1 = .ok (.iload_n 2, 1) := by decide +kernel
theorem dX6_areaOf_2 : decode cX6_areaOf 2 = .ok (.invokestatic 56, 3) := by decide +kernel
theorem dX6_areaOf_5 : decode cX6_areaOf 5 = .ok (.iload_n 3, 1) := by decide +kernel
theorem dX6_areaOf_6 : decode cX6_areaOf 6 = .ok (.iload 4, 2) := by decide +kernel
theorem dX6_areaOf_8 : decode cX6_areaOf 8 = .ok (.iload 5, 2) := by decide +kernel
theorem dX6_areaOf_10 : decode cX6_areaOf 10 = .ok (.invokestatic 90, 3) := by decide +kernel
theorem dX6_areaOf_13 : decode cX6_areaOf 13 = .ok (.aload_n 0, 1) := by decide +kernel
theorem dX6_areaOf_14 : decode cX6_areaOf 14 = .ok (.getfield 45, 3) := by decide +kernel
theorem dX6_areaOf_17 : decode cX6_areaOf 17 = .ok (.aload_n 0, 1) := by decide +kernel
theorem dX6_areaOf_18 : decode cX6_areaOf 18 = .ok (.getfield 24, 3) := by decide +kernel
theorem dX6_areaOf_21 : decode cX6_areaOf 21 = .ok (.getfield 87, 3) := by decide +kernel
theorem dX6_areaOf_24 : decode cX6_areaOf 24 = .ok (.iload_n 1, 1) := by decide +kernel
theorem dX6_areaOf_25 : decode cX6_areaOf 25 = .ok (.iload_n 2, 1) := by decide +kernel
theorem dX6_areaOf_26 : decode cX6_areaOf 26 = .ok (.invokestatic 77, 3) := by decide +kernel
theorem dX6_areaOf_29 : decode cX6_areaOf 29 = .ok (.iload_n 3, 1) := by decide +kernel
theorem dX6_areaOf_30 : decode cX6_areaOf 30 = .ok (.iload 4, 2) := by decide +kernel
theorem dX6_areaOf_32 : decode cX6_areaOf 32 = .ok (.iload 5, 2) := by decide +kernel
theorem dX6_areaOf_34 : decode cX6_areaOf 34 = .ok (.invokevirtual 104, 3) := by decide +kernel
theorem dX6_areaOf_37 : decode cX6_areaOf 37 = .ok (.ireturn, 1) := by decide +kernel
theorem dX6_coverage_0 : decode cX6_coverage 0 = .ok (.aload_n 0, 1) := by decide +kernel
theorem dX6_coverage_1 : decode cX6_coverage 1 = .ok (.iconst 4, 1) := by decide +kernel
theorem dX6_coverage_2 : decode cX6_coverage 2 = .ok (.invokevirtual 195, 3) := by decide +kernel
theorem dX6_coverage_5 : decode cX6_coverage 5 = .ok (.i2d, 1) := by decide +kernel
theorem dX6_coverage_6 : decode cX6_coverage 6 = .ok (.ldc2_w 209, 3) := by decide +kernel
theorem dX6_coverage_9 : decode cX6_coverage 9 = .ok (.ddiv, 1) := by decide +kernel
theorem dX6_coverage_10 : decode cX6_coverage 10 = .ok (.dreturn, 1) := by decide +kernel
theorem dX6_number_0 : decode cX6_number 0 = .ok (.iload_n 1, 1) := by decide +kernel
theorem dX6_number_1 : decode cX6_number 1 = .ok (.tableswitch 97 0 8 #[51, 59, 97, 97, 97, 97, 67, 78, 89], 51) := by decide +kernel
theorem dX6_number_52 : decode cX6_number 52 = .ok (.aload_n 0, 1) := by decide +kernel
theorem dX6_number_53 : decode cX6_number 53 = .ok (.getfield 24, 3) := by decide +kernel
theorem dX6_number_56 : decode cX6_number 56 = .ok (.getfield 93, 3) := by decide +kernel
theorem dX6_number_59 : decode cX6_number 59 = .ok (.ireturn, 1) := by decide +kernel
theorem dX6_number_60 : decode cX6_number 60 = .ok (.aload_n 0, 1) := by decide +kernel
theorem dX6_number_61 : decode cX6_number 61 = .ok (.getfield 24, 3) := by decide +kernel
theorem dX6_number_64 : decode cX6_number 64 = .ok (.invokevirtual 243, 3) := by decide +kernel
theorem dX6_number_67 : decode cX6_number 67 = .ok (.ireturn, 1) := by decide +kernel
theorem dX6_number_68 : decode cX6_number 68 = .ok (.aload_n 0, 1) := by decide +kernel
theorem dX6_number_69 : decode cX6_number 69 = .ok (.getfield 24, 3) := by decide +kernel
theorem dX6_number_72 : decode cX6_number 72 = .ok (.getfield 87, 3) := by decide +kernel
theorem dX6_number_75 : decode cX6_number 75 = .ok (.invokestatic 246, 3) := by decide +kernel
theorem dX6_number_78 : decode cX6_number 78 = .ok (.ireturn, 1) := by decide +kernel
theorem dX6_number_79 : decode cX6_number 79 = .ok (.aload_n 0, 1) := by decide +kernel
theorem dX6_number_80 : decode cX6_number 80 = .ok (.getfield 24, 3) := by decide +kernel
theorem dX6_number_83 : decode cX6_number 83 = .ok (.getfield 87, 3) := by decide +kernel
theorem dX6_number_86 : decode cX6_number 86 = .ok (.invokestatic 250, 3) := by decide +kernel
theorem dX6_number_89 : decode cX6_number 89 = .ok (.ireturn, 1) := by decide +kernel
theorem dX6_number_90 : decode cX6_number 90 = .ok (.aload_n 0, 1) := by decide +kernel
theorem dX6_number_91 : decode cX6_number 91 = .ok (.getfield 31, 3) := by decide +kernel
theorem dX6_number_94 : decode cX6_number 94 = .ok (.getfield 177, 3) := by decide +kernel
theorem dX6_number_97 : decode cX6_number 97 = .ok (.ireturn, 1) := by decide +kernel
theorem dX6_number_98 : decode cX6_number 98 = .ok (.aload_n 0, 1) := by decide +kernel
theorem dX6_number_99 : decode cX6_number 99 = .ok (.getfield 24, 3) := by decide +kernel
theorem dX6_number_102 : decode cX6_number 102 = .ok (.aload_n 0, 1) := by decide +kernel
theorem dX6_number_103 : decode cX6_number 103 = .ok (.getfield 49, 3) := by decide +kernel
theorem dX6_number_106 : decode cX6_number 106 = .ok (.invokevirtual 83, 3) := by decide +kernel
theorem dX6_number_109 : decode cX6_number 109 = .ok (.aload_n 0, 1) := by decide +kernel
theorem dX6_number_110 : decode cX6_number 110 = .ok (.iload_n 1, 1) := by decide +kernel
theorem dX6_number_111 : decode cX6_number 111 = .ok (.invokevirtual 253, 3) := by decide +kernel
theorem dX6_number_114 : decode cX6_number 114 = .ok (.ireturn, 1) := by decide +kernel
theorem dX6_maskNumber_0 : decode cX6_maskNumber 0 = .ok (.iload_n 1, 1) := by decide +kernel
theorem dX6_maskNumber_1 : decode cX6_maskNumber 1 = .ok (.tableswitch 54 2 4 #[27, 37, 46], 27) := by decide +kernel
theorem dX6_maskNumber_28 : decode cX6_maskNumber 28 = .ok (.aload_n 0, 1) := by decide +kernel
theorem dX6_maskNumber_29 : decode cX6_maskNumber 29 = .ok (.getfield 49, 3) := by decide +kernel
theorem dX6_maskNumber_32 : decode cX6_maskNumber 32 = .ok (.bipush 100, 2) := by decide +kernel
theorem dX6_maskNumber_34 : decode cX6_maskNumber 34 = .ok (.invokestatic 256, 3) := by decide +kernel
theorem dX6_maskNumber_37 : decode cX6_maskNumber 37 = .ok (.ireturn, 1) := by decide +kernel
theorem dX6_maskNumber_38 : decode cX6_maskNumber 38 = .ok (.aload_n 0, 1) := by decide +kernel
theorem dX6_maskNumber_39 : decode cX6_maskNumber 39 = .ok (.getfield 49, 3) := by decide +kernel
theorem dX6_maskNumber_42 : decode cX6_maskNumber 42 = .ok (.iconst 1, 1) := by decide +kernel
theorem dX6_maskNumber_43 : decode cX6_maskNumber 43 = .ok (.invokestatic 256, 3) := by decide +kernel
theorem dX6_maskNumber_46 : decode cX6_maskNumber 46 = .ok (.ireturn, 1) := by decide +kernel
theorem dX6_maskNumber_47 : decode cX6_maskNumber 47 = .ok (.aload_n 0, 1) := by decide +kernel
theorem dX6_maskNumber_48 : decode cX6_maskNumber 48 = .ok (.getfield 49, 3) := by decide +kernel
theorem dX6_maskNumber_51 : decode cX6_maskNumber 51 = .ok (.invokestatic 246, 3) := by decide +kernel
theorem dX6_maskNumber_54 : decode cX6_maskNumber 54 = .ok (.ireturn, 1) := by decide +kernel
theorem dX6_maskNumber_55 : decode cX6_maskNumber 55 = .ok (.aload_n 0, 1) := by decide +kernel
theorem dX6_maskNumber_56 : decode cX6_maskNumber 56 = .ok (.getfield 49, 3) := by decide +kernel
theorem dX6_maskNumber_59 : decode cX6_maskNumber 59 = .ok (.invokestatic 259, 3) := by decide +kernel
theorem dX6_maskNumber_62 : decode cX6_maskNumber 62 = .ok (.ireturn, 1) := by decide +kernel
theorem dX6_edgeLength_0 : decode cX6_edgeLength 0 = .ok (.iconst 0, 1) := by decide +kernel
theorem dX6_edgeLength_1 : decode cX6_edgeLength 1 = .ok (.istore_n 1, 1) := by decide +kernel
theorem dX6_edgeLength_2 : decode cX6_edgeLength 2 = .ok (.iconst 0, 1) := by decide +kernel
theorem dX6_edgeLength_3 : decode cX6_edgeLength 3 = .ok (.istore_n 2, 1) := by decide +kernel
theorem dX6_edgeLength_4 : decode cX6_edgeLength 4 = .ok (.iload_n 2, 1) := by decide +kernel
theorem dX6_edgeLength_5 : decode cX6_edgeLength 5 = .ok (.sipush 160, 3) := by decide +kernel
theorem dX6_edgeLength_8 : decode cX6_edgeLength 8 = .ok (.if_icmp .ge 25, 3) := by decide +kernel
theorem dX6_edgeLength_11 : decode cX6_edgeLength 11 = .ok (.aload_n 0, 1) := by decide +kernel
theorem dX6_edgeLength_12 : decode cX6_edgeLength 12 = .ok (.iload_n 2, 1) := by decide +kernel
theorem dX6_edgeLength_13 : decode cX6_edgeLength 13 = .ok (.iaload, 1) := by decide +kernel
theorem dX6_edgeLength_14 : decode cX6_edgeLength 14 = .ok (.bipush 50, 2) := by decide +kernel
theorem dX6_edgeLength_16 : decode cX6_edgeLength 16 = .ok (.if_icmp .lt 11, 3) := by decide +kernel
theorem dX6_edgeLength_19 : decode cX6_edgeLength 19 = .ok (.iload_n 1, 1) := by decide +kernel
theorem dX6_edgeLength_20 : decode cX6_edgeLength 20 = .ok (.aload_n 0, 1) := by decide +kernel
theorem dX6_edgeLength_21 : decode cX6_edgeLength 21 = .ok (.iload_n 2, 1) := by decide +kernel
theorem dX6_edgeLength_22 : decode cX6_edgeLength 22 = .ok (.invokestatic 262, 3) := by decide +kernel
theorem dX6_edgeLength_25 : decode cX6_edgeLength 25 = .ok (.iadd, 1) := by decide +kernel
theorem dX6_edgeLength_26 : decode cX6_edgeLength 26 = .ok (.istore_n 1, 1) := by decide +kernel
theorem dX6_edgeLength_27 : decode cX6_edgeLength 27 = .ok (.iinc 2 1, 3) := by decide +kernel
theorem dX6_edgeLength_30 : decode cX6_edgeLength 30 = .ok (.goto (-26), 3) := by decide +kernel
theorem dX6_edgeLength_33 : decode cX6_edgeLength 33 = .ok (.iload_n 1, 1) := by decide +kernel
theorem dX6_edgeLength_34 : decode cX6_edgeLength 34 = .ok (.ireturn, 1) := by decide +kernel
theorem dX6_openSides_0 : decode cX6_openSides 0 = .ok (.iconst 0, 1) := by decide +kernel
theorem dX6_openSides_1 : decode cX6_openSides 1 = .ok (.istore_n 2, 1) := by decide +kernel
theorem dX6_openSides_2 : decode cX6_openSides 2 = .ok (.iconst 0, 1) := by decide +kernel
theorem dX6_openSides_3 : decode cX6_openSides 3 = .ok (.istore_n 3, 1) := by decide +kernel
theorem dX6_openSides_4 : decode cX6_openSides 4 = .ok (.iload_n 3, 1) := by decide +kernel
theorem dX6_openSides_5 : decode cX6_openSides 5 = .ok (.iconst 4, 1) := by decide +kernel
theorem dX6_openSides_6 : decode cX6_openSides 6 = .ok (.if_icmp .ge 33, 3) := by decide +kernel
theorem dX6_openSides_9 : decode cX6_openSides 9 = .ok (.iload_n 1, 1) := by decide +kernel
theorem dX6_openSides_10 : decode cX6_openSides 10 = .ok (.iload_n 3, 1) := by decide +kernel
theorem dX6_openSides_11 : decode cX6_openSides 11 = .ok (.invokestatic 265, 3) := by decide +kernel
theorem dX6_openSides_14 : decode cX6_openSides 14 = .ok (.istore 4, 2) := by decide +kernel
theorem dX6_openSides_16 : decode cX6_openSides 16 = .ok (.iload 4, 2) := by decide +kernel
theorem dX6_openSides_18 : decode cX6_openSides 18 = .ok (.ifCond .lt 12, 3) := by decide +kernel
theorem dX6_openSides_21 : decode cX6_openSides 21 = .ok (.aload_n 0, 1) := by decide +kernel
theorem dX6_openSides_22 : decode cX6_openSides 22 = .ok (.iload 4, 2) := by decide +kernel
theorem dX6_openSides_24 : decode cX6_openSides 24 = .ok (.iaload, 1) := by decide +kernel
theorem dX6_openSides_25 : decode cX6_openSides 25 = .ok (.bipush 50, 2) := by decide +kernel
theorem dX6_openSides_27 : decode cX6_openSides 27 = .ok (.if_icmp .ge 6, 3) := by decide +kernel
theorem dX6_openSides_30 : decode cX6_openSides 30 = .ok (.iinc 2 1, 3) := by decide +kernel
theorem dX6_openSides_33 : decode cX6_openSides 33 = .ok (.iinc 3 1, 3) := by decide +kernel
theorem dX6_openSides_36 : decode cX6_openSides 36 = .ok (.goto (-32), 3) := by decide +kernel
theorem dX6_openSides_39 : decode cX6_openSides 39 = .ok (.iload_n 2, 1) := by decide +kernel
theorem dX6_openSides_40 : decode cX6_openSides 40 = .ok (.ireturn, 1) := by decide +kernel
theorem dX6_atLeast_0 : decode cX6_atLeast 0 = .ok (.iconst 0, 1) := by decide +kernel
theorem dX6_atLeast_1 : decode cX6_atLeast 1 = .ok (.istore_n 2, 1) := by decide +kernel
theorem dX6_atLeast_2 : decode cX6_atLeast 2 = .ok (.iconst 0, 1) := by decide +kernel
theorem dX6_atLeast_3 : decode cX6_atLeast 3 = .ok (.istore_n 3, 1) := by decide +kernel
theorem dX6_atLeast_4 : decode cX6_atLeast 4 = .ok (.iload_n 3, 1) := by decide +kernel
theorem dX6_atLeast_5 : decode cX6_atLeast 5 = .ok (.sipush 160, 3) := by decide +kernel
theorem dX6_atLeast_8 : decode cX6_atLeast 8 = .ok (.if_icmp .ge 19, 3) := by decide +kernel
theorem dX6_atLeast_11 : decode cX6_atLeast 11 = .ok (.aload_n 0, 1) := by decide +kernel
theorem dX6_atLeast_12 : decode cX6_atLeast 12 = .ok (.iload_n 3, 1) := by decide +kernel
theorem dX6_atLeast_13 : decode cX6_atLeast 13 = .ok (.iaload, 1) := by decide +kernel
theorem dX6_atLeast_14 : decode cX6_atLeast 14 = .ok (.iload_n 1, 1) := by decide +kernel
theorem dX6_atLeast_15 : decode cX6_atLeast 15 = .ok (.if_icmp .lt 6, 3) := by decide +kernel
theorem dX6_atLeast_18 : decode cX6_atLeast 18 = .ok (.iinc 2 1, 3) := by decide +kernel
theorem dX6_atLeast_21 : decode cX6_atLeast 21 = .ok (.iinc 3 1, 3) := by decide +kernel
theorem dX6_atLeast_24 : decode cX6_atLeast 24 = .ok (.goto (-20), 3) := by decide +kernel
theorem dX6_atLeast_27 : decode cX6_atLeast 27 = .ok (.iload_n 2, 1) := by decide +kernel
theorem dX6_atLeast_28 : decode cX6_atLeast 28 = .ok (.ireturn, 1) := by decide +kernel
theorem dX6_sum_0 : decode cX6_sum 0 = .ok (.iconst 0, 1) := by decide +kernel
theorem dX6_sum_1 : decode cX6_sum 1 = .ok (.istore_n 1, 1) := by decide +kernel
theorem dX6_sum_2 : decode cX6_sum 2 = .ok (.iconst 0, 1) := by decide +kernel
theorem dX6_sum_3 : decode cX6_sum 3 = .ok (.istore_n 2, 1) := by decide +kernel
theorem dX6_sum_4 : decode cX6_sum 4 = .ok (.iload_n 2, 1) := by decide +kernel
theorem dX6_sum_5 : decode cX6_sum 5 = .ok (.sipush 160, 3) := by decide +kernel
theorem dX6_sum_8 : decode cX6_sum 8 = .ok (.if_icmp .ge 15, 3) := by decide +kernel
theorem dX6_sum_11 : decode cX6_sum 11 = .ok (.iload_n 1, 1) := by decide +kernel
theorem dX6_sum_12 : decode cX6_sum 12 = .ok (.aload_n 0, 1) := by decide +kernel
theorem dX6_sum_13 : decode cX6_sum 13 = .ok (.iload_n 2, 1) := by decide +kernel
theorem dX6_sum_14 : decode cX6_sum 14 = .ok (.iaload, 1) := by decide +kernel
theorem dX6_sum_15 : decode cX6_sum 15 = .ok (.iadd, 1) := by decide +kernel
theorem dX6_sum_16 : decode cX6_sum 16 = .ok (.istore_n 1, 1) := by decide +kernel
theorem dX6_sum_17 : decode cX6_sum 17 = .ok (.iinc 2 1, 3) := by decide +kernel
theorem dX6_sum_20 : decode cX6_sum 20 = .ok (.goto (-16), 3) := by decide +kernel
theorem dX6_sum_23 : decode cX6_sum 23 = .ok (.iload_n 1, 1) := by decide +kernel
theorem dX6_sum_24 : decode cX6_sum 24 = .ok (.ireturn, 1) := by decide +kernel
theorem dX6_differences_0 : decode cX6_differences 0 = .ok (.iconst 0, 1) := by decide +kernel
theorem dX6_differences_1 : decode cX6_differences 1 = .ok (.istore_n 2, 1) := by decide +kernel
theorem dX6_differences_2 : decode cX6_differences 2 = .ok (.iconst 0, 1) := by decide +kernel
theorem dX6_differences_3 : decode cX6_differences 3 = .ok (.istore_n 3, 1) := by decide +kernel
theorem dX6_differences_4 : decode cX6_differences 4 = .ok (.iload_n 3, 1) := by decide +kernel
theorem dX6_differences_5 : decode cX6_differences 5 = .ok (.sipush 160, 3) := by decide +kernel
theorem dX6_differences_8 : decode cX6_differences 8 = .ok (.if_icmp .ge 21, 3) := by decide +kernel
theorem dX6_differences_11 : decode cX6_differences 11 = .ok (.aload_n 0, 1) := by decide +kernel
theorem dX6_differences_12 : decode cX6_differences 12 = .ok (.iload_n 3, 1) := by decide +kernel
theorem dX6_differences_13 : decode cX6_differences 13 = .ok (.iaload, 1) := by decide +kernel
theorem dX6_differences_14 : decode cX6_differences 14 = .ok (.aload_n 1, 1) := by decide +kernel
theorem dX6_differences_15 : decode cX6_differences 15 = .ok (.iload_n 3, 1) := by decide +kernel
theorem dX6_differences_16 : decode cX6_differences 16 = .ok (.iaload, 1) := by decide +kernel
theorem dX6_differences_17 : decode cX6_differences 17 = .ok (.if_icmp .eq 6, 3) := by decide +kernel
theorem dX6_differences_20 : decode cX6_differences 20 = .ok (.iinc 2 1, 3) := by decide +kernel
theorem dX6_differences_23 : decode cX6_differences 23 = .ok (.iinc 3 1, 3) := by decide +kernel
theorem dX6_differences_26 : decode cX6_differences 26 = .ok (.goto (-22), 3) := by decide +kernel
theorem dX6_differences_29 : decode cX6_differences 29 = .ok (.iload_n 2, 1) := by decide +kernel
theorem dX6_differences_30 : decode cX6_differences 30 = .ok (.ireturn, 1) := by decide +kernel
theorem dX6_differentShades_0 : decode cX6_differentShades 0 = .ok (.lconst 0, 1) := by decide +kernel
theorem dX6_differentShades_1 : decode cX6_differentShades 1 = .ok (.lstore_n 1, 1) := by decide +kernel
theorem dX6_differentShades_2 : decode cX6_differentShades 2 = .ok (.lconst 0, 1) := by decide +kernel
theorem dX6_differentShades_3 : decode cX6_differentShades 3 = .ok (.lstore_n 3, 1) := by decide +kernel
theorem dX6_differentShades_4 : decode cX6_differentShades 4 = .ok (.iconst 0, 1) := by decide +kernel
theorem dX6_differentShades_5 : decode cX6_differentShades 5 = .ok (.istore 5, 2) := by decide +kernel
theorem dX6_differentShades_7 : decode cX6_differentShades 7 = .ok (.iload 5, 2) := by decide +kernel
theorem dX6_differentShades_9 : decode cX6_differentShades 9 = .ok (.sipush 160, 3) := by decide +kernel
theorem dX6_differentShades_12 : decode cX6_differentShades 12 = .ok (.if_icmp .ge 42, 3) := by decide +kernel
theorem dX6_differentShades_15 : decode cX6_differentShades 15 = .ok (.aload_n 0, 1) := by decide +kernel
theorem dX6_differentShades_16 : decode cX6_differentShades 16 = .ok (.iload 5, 2) := by decide +kernel
theorem dX6_differentShades_18 : decode cX6_differentShades 18 = .ok (.iaload, 1) := by decide +kernel
theorem dX6_differentShades_19 : decode cX6_differentShades 19 = .ok (.istore 6, 2) := by decide +kernel
theorem dX6_differentShades_21 : decode cX6_differentShades 21 = .ok (.iload 6, 2) := by decide +kernel
theorem dX6_differentShades_23 : decode cX6_differentShades 23 = .ok (.bipush 50, 2) := by decide +kernel
theorem dX6_differentShades_25 : decode cX6_differentShades 25 = .ok (.if_icmp .ge 13, 3) := by decide +kernel
theorem dX6_differentShades_28 : decode cX6_differentShades 28 = .ok (.lload_n 1, 1) := by decide +kernel
theorem dX6_differentShades_29 : decode cX6_differentShades 29 = .ok (.lconst 1, 1) := by decide +kernel
theorem dX6_differentShades_30 : decode cX6_differentShades 30 = .ok (.iload 6, 2) := by decide +kernel
theorem dX6_differentShades_32 : decode cX6_differentShades 32 = .ok (.lshl, 1) := by decide +kernel
theorem dX6_differentShades_33 : decode cX6_differentShades 33 = .ok (.lor, 1) := by decide +kernel
theorem dX6_differentShades_34 : decode cX6_differentShades 34 = .ok (.lstore_n 1, 1) := by decide +kernel
theorem dX6_differentShades_35 : decode cX6_differentShades 35 = .ok (.goto 13, 3) := by decide +kernel
theorem dX6_differentShades_38 : decode cX6_differentShades 38 = .ok (.lload_n 3, 1) := by decide +kernel
theorem dX6_differentShades_39 : decode cX6_differentShades 39 = .ok (.lconst 1, 1) := by decide +kernel
theorem dX6_differentShades_40 : decode cX6_differentShades 40 = .ok (.iload 6, 2) := by decide +kernel
theorem dX6_differentShades_42 : decode cX6_differentShades 42 = .ok (.bipush 50, 2) := by decide +kernel
theorem dX6_differentShades_44 : decode cX6_differentShades 44 = .ok (.isub, 1) := by decide +kernel
theorem dX6_differentShades_45 : decode cX6_differentShades 45 = .ok (.lshl, 1) := by decide +kernel
theorem dX6_differentShades_46 : decode cX6_differentShades 46 = .ok (.lor, 1) := by decide +kernel
theorem dX6_differentShades_47 : decode cX6_differentShades 47 = .ok (.lstore_n 3, 1) := by decide +kernel
theorem dX6_differentShades_48 : decode cX6_differentShades 48 = .ok (.iinc 5 1, 3) := by decide +kernel
theorem dX6_differentShades_51 : decode cX6_differentShades 51 = .ok (.goto (-44), 3) := by decide +kernel
theorem dX6_differentShades_54 : decode cX6_differentShades 54 = .ok (.lload_n 1, 1) := by decide +kernel
theorem dX6_differentShades_55 : decode cX6_differentShades 55 = .ok (.invokestatic 268, 3) := by decide +kernel
theorem dX6_differentShades_58 : decode cX6_differentShades 58 = .ok (.lload_n 3, 1) := by decide +kernel
theorem dX6_differentShades_59 : decode cX6_differentShades 59 = .ok (.invokestatic 268, 3) := by decide +kernel
theorem dX6_differentShades_62 : decode cX6_differentShades 62 = .ok (.iadd, 1) := by decide +kernel
theorem dX6_differentShades_63 : decode cX6_differentShades 63 = .ok (.ireturn, 1) := by decide +kernel
theorem dX6_isCell_0 : decode cX6_isCell 0 = .ok (.iload_n 0, 1) := by decide +kernel
theorem dX6_isCell_1 : decode cX6_isCell 1 = .ok (.ifCond .lt 23, 3) := by decide +kernel
theorem dX6_isCell_4 : decode cX6_isCell 4 = .ok (.iload_n 0, 1) := by decide +kernel
theorem dX6_isCell_5 : decode cX6_isCell 5 = .ok (.bipush 16, 2) := by decide +kernel
theorem dX6_isCell_7 : decode cX6_isCell 7 = .ok (.if_icmp .ge 17, 3) := by decide +kernel
theorem dX6_isCell_10 : decode cX6_isCell 10 = .ok (.iload_n 1, 1) := by decide +kernel
theorem dX6_isCell_11 : decode cX6_isCell 11 = .ok (.ifCond .lt 13, 3) := by decide +kernel
theorem dX6_isCell_14 : decode cX6_isCell 14 = .ok (.iload_n 1, 1) := by decide +kernel
theorem dX6_isCell_15 : decode cX6_isCell 15 = .ok (.bipush 10, 2) := by decide +kernel
theorem dX6_isCell_17 : decode cX6_isCell 17 = .ok (.if_icmp .ge 7, 3) := by decide +kernel
theorem dX6_isCell_20 : decode cX6_isCell 20 = .ok (.iconst 1, 1) := by decide +kernel
theorem dX6_isCell_21 : decode cX6_isCell 21 = .ok (.goto 4, 3) := by decide +kernel
theorem dX6_isCell_24 : decode cX6_isCell 24 = .ok (.iconst 0, 1) := by decide +kernel
theorem dX6_isCell_25 : decode cX6_isCell 25 = .ok (.ireturn, 1) := by decide +kernel
theorem dX6_cellAt_0 : decode cX6_cellAt 0 = .ok (.iload_n 1, 1) := by decide +kernel
theorem dX6_cellAt_1 : decode cX6_cellAt 1 = .ok (.bipush 16, 2) := by decide +kernel
theorem dX6_cellAt_3 : decode cX6_cellAt 3 = .ok (.imul, 1) := by decide +kernel
theorem dX6_cellAt_4 : decode cX6_cellAt 4 = .ok (.iload_n 0, 1) := by decide +kernel
theorem dX6_cellAt_5 : decode cX6_cellAt 5 = .ok (.iadd, 1) := by decide +kernel
theorem dX6_cellAt_6 : decode cX6_cellAt 6 = .ok (.ireturn, 1) := by decide +kernel
theorem dX6_neighbor_0 : decode cX6_neighbor 0 = .ok (.iload_n 0, 1) := by decide +kernel
theorem dX6_neighbor_1 : decode cX6_neighbor 1 = .ok (.bipush 16, 2) := by decide +kernel
theorem dX6_neighbor_3 : decode cX6_neighbor 3 = .ok (.irem, 1) := by decide +kernel
theorem dX6_neighbor_4 : decode cX6_neighbor 4 = .ok (.iload_n 1, 1) := by decide +kernel
theorem dX6_neighbor_5 : decode cX6_neighbor 5 = .ok (.ifCond .ne 7, 3) := by decide +kernel
theorem dX6_neighbor_8 : decode cX6_neighbor 8 = .ok (.iconst (-1), 1) := by decide +kernel
theorem dX6_neighbor_9 : decode cX6_neighbor 9 = .ok (.goto 13, 3) := by decide +kernel
theorem dX6_neighbor_12 : decode cX6_neighbor 12 = .ok (.iload_n 1, 1) := by decide +kernel
theorem dX6_neighbor_13 : decode cX6_neighbor 13 = .ok (.iconst 1, 1) := by decide +kernel
theorem dX6_neighbor_14 : decode cX6_neighbor 14 = .ok (.if_icmp .ne 7, 3) := by decide +kernel
theorem dX6_neighbor_17 : decode cX6_neighbor 17 = .ok (.iconst 1, 1) := by decide +kernel
theorem dX6_neighbor_18 : decode cX6_neighbor 18 = .ok (.goto 4, 3) := by decide +kernel
theorem dX6_neighbor_21 : decode cX6_neighbor 21 = .ok (.iconst 0, 1) := by decide +kernel
theorem dX6_neighbor_22 : decode cX6_neighbor 22 = .ok (.iadd, 1) := by decide +kernel
theorem dX6_neighbor_23 : decode cX6_neighbor 23 = .ok (.istore_n 2, 1) := by decide +kernel
theorem dX6_neighbor_24 : decode cX6_neighbor 24 = .ok (.iload_n 0, 1) := by decide +kernel
theorem dX6_neighbor_25 : decode cX6_neighbor 25 = .ok (.bipush 16, 2) := by decide +kernel
theorem dX6_neighbor_27 : decode cX6_neighbor 27 = .ok (.idiv, 1) := by decide +kernel
theorem dX6_neighbor_28 : decode cX6_neighbor 28 = .ok (.iload_n 1, 1) := by decide +kernel
theorem dX6_neighbor_29 : decode cX6_neighbor 29 = .ok (.iconst 2, 1) := by decide +kernel
theorem dX6_neighbor_30 : decode cX6_neighbor 30 = .ok (.if_icmp .ne 7, 3) := by decide +kernel
theorem dX6_neighbor_33 : decode cX6_neighbor 33 = .ok (.iconst (-1), 1) := by decide +kernel
theorem dX6_neighbor_34 : decode cX6_neighbor 34 = .ok (.goto 13, 3) := by decide +kernel
theorem dX6_neighbor_37 : decode cX6_neighbor 37 = .ok (.iload_n 1, 1) := by decide +kernel
theorem dX6_neighbor_38 : decode cX6_neighbor 38 = .ok (.iconst 3, 1) := by decide +kernel
theorem dX6_neighbor_39 : decode cX6_neighbor 39 = .ok (.if_icmp .ne 7, 3) := by decide +kernel
theorem dX6_neighbor_42 : decode cX6_neighbor 42 = .ok (.iconst 1, 1) := by decide +kernel
theorem dX6_neighbor_43 : decode cX6_neighbor 43 = .ok (.goto 4, 3) := by decide +kernel
theorem dX6_neighbor_46 : decode cX6_neighbor 46 = .ok (.iconst 0, 1) := by decide +kernel
theorem dX6_neighbor_47 : decode cX6_neighbor 47 = .ok (.iadd, 1) := by decide +kernel
theorem dX6_neighbor_48 : decode cX6_neighbor 48 = .ok (.istore_n 3, 1) := by decide +kernel
theorem dX6_neighbor_49 : decode cX6_neighbor 49 = .ok (.iload_n 2, 1) := by decide +kernel
theorem dX6_neighbor_50 : decode cX6_neighbor 50 = .ok (.iload_n 3, 1) := by decide +kernel
theorem dX6_neighbor_51 : decode cX6_neighbor 51 = .ok (.invokestatic 274, 3) := by decide +kernel
theorem dX6_neighbor_54 : decode cX6_neighbor 54 = .ok (.ifCond .eq 11, 3) := by decide +kernel
theorem dX6_neighbor_57 : decode cX6_neighbor 57 = .ok (.iload_n 2, 1) := by decide +kernel
theorem dX6_neighbor_58 : decode cX6_neighbor 58 = .ok (.iload_n 3, 1) := by decide +kernel
theorem dX6_neighbor_59 : decode cX6_neighbor 59 = .ok (.invokestatic 77, 3) := by decide +kernel
theorem dX6_neighbor_62 : decode cX6_neighbor 62 = .ok (.goto 4, 3) := by decide +kernel
theorem dX6_neighbor_65 : decode cX6_neighbor 65 = .ok (.iconst (-1), 1) := by decide +kernel
theorem dX6_neighbor_66 : decode cX6_neighbor 66 = .ok (.ireturn, 1) := by decide +kernel
theorem dX6_needCell_0 : decode cX6_needCell 0 = .ok (.iload_n 0, 1) := by decide +kernel
theorem dX6_needCell_1 : decode cX6_needCell 1 = .ok (.iload_n 1, 1) := by decide +kernel
theorem dX6_needCell_2 : decode cX6_needCell 2 = .ok (.invokestatic 274, 3) := by decide +kernel
theorem dX6_needCell_5 : decode cX6_needCell 5 = .ok (.ifCond .ne 14, 3) := by decide +kernel
theorem dX6_needCell_8 : decode cX6_needCell 8 = .ok (.new 278, 3) := by decide +kernel
theorem dX6_needCell_11 : decode cX6_needCell 11 = .ok (.dup, 1) := by decide +kernel
theorem dX6_needCell_12 : decode cX6_needCell 12 = .ok (.ldc_w 280, 3) := by decide +kernel
theorem dX6_needCell_15 : decode cX6_needCell 15 = .ok (.invokespecial 282, 3) := by decide +kernel
theorem dX6_needCell_18 : decode cX6_needCell 18 = .ok (.athrow, 1) := by decide +kernel
theorem dX6_needCell_19 : decode cX6_needCell 19 = .ok (.return_, 1) := by decide +kernel
theorem dX6_needPick_0 : decode cX6_needPick 0 = .ok (.iload_n 1, 1) := by decide +kernel
theorem dX6_needPick_1 : decode cX6_needPick 1 = .ok (.ifCond .lt 20, 3) := by decide +kernel
theorem dX6_needPick_4 : decode cX6_needPick 4 = .ok (.iload_n 1, 1) := by decide +kernel
theorem dX6_needPick_5 : decode cX6_needPick 5 = .ok (.aload_n 0, 1) := by decide +kernel
theorem dX6_needPick_6 : decode cX6_needPick 6 = .ok (.getfield 24, 3) := by decide +kernel
theorem dX6_needPick_9 : decode cX6_needPick 9 = .ok (.getfield 93, 3) := by decide +kernel
theorem dX6_needPick_12 : decode cX6_needPick 12 = .ok (.if_icmp .ge 9, 3) := by decide +kernel
theorem dX6_needPick_15 : decode cX6_needPick 15 = .ok (.iload_n 1, 1) := by decide +kernel
theorem dX6_needPick_16 : decode cX6_needPick 16 = .ok (.bipush 12, 2) := by decide +kernel
theorem dX6_needPick_18 : decode cX6_needPick 18 = .ok (.if_icmp .lt 14, 3) := by decide +kernel
theorem dX6_needPick_21 : decode cX6_needPick 21 = .ok (.new 278, 3) := by decide +kernel
theorem dX6_needPick_24 : decode cX6_needPick 24 = .ok (.dup, 1) := by decide +kernel
theorem dX6_needPick_25 : decode cX6_needPick 25 = .ok (.ldc_w 283, 3) := by decide +kernel
theorem dX6_needPick_28 : decode cX6_needPick 28 = .ok (.invokespecial 282, 3) := by decide +kernel
theorem dX6_needPick_31 : decode cX6_needPick 31 = .ok (.athrow, 1) := by decide +kernel
theorem dX6_needPick_32 : decode cX6_needPick 32 = .ok (.return_, 1) := by decide +kernel
theorem dX6_needRange_0 : decode cX6_needRange 0 = .ok (.iload_n 0, 1) := by decide +kernel
theorem dX6_needRange_1 : decode cX6_needRange 1 = .ok (.iload_n 1, 1) := by decide +kernel
theorem dX6_needRange_2 : decode cX6_needRange 2 = .ok (.if_icmp .lt 8, 3) := by decide +kernel
theorem dX6_needRange_5 : decode cX6_needRange 5 = .ok (.iload_n 0, 1) := by decide +kernel
theorem dX6_needRange_6 : decode cX6_needRange 6 = .ok (.iload_n 2, 1) := by decide +kernel
theorem dX6_needRange_7 : decode cX6_needRange 7 = .ok (.if_icmp .le 14, 3) := by decide +kernel
theorem dX6_needRange_10 : decode cX6_needRange 10 = .ok (.new 163, 3) := by decide +kernel
theorem dX6_needRange_13 : decode cX6_needRange 13 = .ok (.dup, 1) := by decide +kernel
theorem dX6_needRange_14 : decode cX6_needRange 14 = .ok (.ldc_w 285, 3) := by decide +kernel
theorem dX6_needRange_17 : decode cX6_needRange 17 = .ok (.invokespecial 167, 3) := by decide +kernel
theorem dX6_needRange_20 : decode cX6_needRange 20 = .ok (.athrow, 1) := by decide +kernel
theorem dX6_needRange_21 : decode cX6_needRange 21 = .ok (.return_, 1) := by decide +kernel
theorem dX6_needSearch_0 : decode cX6_needSearch 0 = .ok (.iload_n 0, 1) := by decide +kernel
theorem dX6_needSearch_1 : decode cX6_needSearch 1 = .ok (.iconst 0, 1) := by decide +kernel
theorem dX6_needSearch_2 : decode cX6_needSearch 2 = .ok (.bipush 99, 2) := by decide +kernel
theorem dX6_needSearch_4 : decode cX6_needSearch 4 = .ok (.invokestatic 60, 3) := by decide +kernel
theorem dX6_needSearch_7 : decode cX6_needSearch 7 = .ok (.iload_n 1, 1) := by decide +kernel
theorem dX6_needSearch_8 : decode cX6_needSearch 8 = .ok (.iconst 0, 1) := by decide +kernel
theorem dX6_needSearch_9 : decode cX6_needSearch 9 = .ok (.iconst 1, 1) := by decide +kernel
theorem dX6_needSearch_10 : decode cX6_needSearch 10 = .ok (.invokestatic 60, 3) := by decide +kernel
theorem dX6_needSearch_13 : decode cX6_needSearch 13 = .ok (.iload_n 2, 1) := by decide +kernel
theorem dX6_needSearch_14 : decode cX6_needSearch 14 = .ok (.iconst 0, 1) := by decide +kernel
theorem dX6_needSearch_15 : decode cX6_needSearch 15 = .ok (.iconst 5, 1) := by decide +kernel
theorem dX6_needSearch_16 : decode cX6_needSearch 16 = .ok (.invokestatic 60, 3) := by decide +kernel
theorem dX6_needSearch_19 : decode cX6_needSearch 19 = .ok (.return_, 1) := by decide +kernel
theorem dJ13_bitCount_95d88_0 : decode cJ13_bitCount_95d88 0 = .ok (.lload_n 0, 1) := by decide +kernel
theorem dJ13_bitCount_95d88_1 : decode cJ13_bitCount_95d88 1 = .ok (.lload_n 0, 1) := by decide +kernel
theorem dJ13_bitCount_95d88_2 : decode cJ13_bitCount_95d88 2 = .ok (.iconst 1, 1) := by decide +kernel
theorem dJ13_bitCount_95d88_3 : decode cJ13_bitCount_95d88 3 = .ok (.lushr, 1) := by decide +kernel
theorem dJ13_bitCount_95d88_4 : decode cJ13_bitCount_95d88 4 = .ok (.ldc2_w 314, 3) := by decide +kernel
theorem dJ13_bitCount_95d88_7 : decode cJ13_bitCount_95d88 7 = .ok (.land, 1) := by decide +kernel
theorem dJ13_bitCount_95d88_8 : decode cJ13_bitCount_95d88 8 = .ok (.lsub, 1) := by decide +kernel
theorem dJ13_bitCount_95d88_9 : decode cJ13_bitCount_95d88 9 = .ok (.lstore_n 0, 1) := by decide +kernel
theorem dJ13_bitCount_95d88_10 : decode cJ13_bitCount_95d88 10 = .ok (.lload_n 0, 1) := by decide +kernel
theorem dJ13_bitCount_95d88_11 : decode cJ13_bitCount_95d88 11 = .ok (.ldc2_w 316, 3) := by decide +kernel
theorem dJ13_bitCount_95d88_14 : decode cJ13_bitCount_95d88 14 = .ok (.land, 1) := by decide +kernel
theorem dJ13_bitCount_95d88_15 : decode cJ13_bitCount_95d88 15 = .ok (.lload_n 0, 1) := by decide +kernel
theorem dJ13_bitCount_95d88_16 : decode cJ13_bitCount_95d88 16 = .ok (.iconst 2, 1) := by decide +kernel
theorem dJ13_bitCount_95d88_17 : decode cJ13_bitCount_95d88 17 = .ok (.lushr, 1) := by decide +kernel
theorem dJ13_bitCount_95d88_18 : decode cJ13_bitCount_95d88 18 = .ok (.ldc2_w 316, 3) := by decide +kernel
theorem dJ13_bitCount_95d88_21 : decode cJ13_bitCount_95d88 21 = .ok (.land, 1) := by decide +kernel
theorem dJ13_bitCount_95d88_22 : decode cJ13_bitCount_95d88 22 = .ok (.ladd, 1) := by decide +kernel
theorem dJ13_bitCount_95d88_23 : decode cJ13_bitCount_95d88 23 = .ok (.lstore_n 0, 1) := by decide +kernel
theorem dJ13_bitCount_95d88_24 : decode cJ13_bitCount_95d88 24 = .ok (.lload_n 0, 1) := by decide +kernel
theorem dJ13_bitCount_95d88_25 : decode cJ13_bitCount_95d88 25 = .ok (.lload_n 0, 1) := by decide +kernel
theorem dJ13_bitCount_95d88_26 : decode cJ13_bitCount_95d88 26 = .ok (.iconst 4, 1) := by decide +kernel
theorem dJ13_bitCount_95d88_27 : decode cJ13_bitCount_95d88 27 = .ok (.lushr, 1) := by decide +kernel
theorem dJ13_bitCount_95d88_28 : decode cJ13_bitCount_95d88 28 = .ok (.ladd, 1) := by decide +kernel
theorem dJ13_bitCount_95d88_29 : decode cJ13_bitCount_95d88 29 = .ok (.ldc2_w 318, 3) := by decide +kernel
theorem dJ13_bitCount_95d88_32 : decode cJ13_bitCount_95d88 32 = .ok (.land, 1) := by decide +kernel
theorem dJ13_bitCount_95d88_33 : decode cJ13_bitCount_95d88 33 = .ok (.lstore_n 0, 1) := by decide +kernel
theorem dJ13_bitCount_95d88_34 : decode cJ13_bitCount_95d88 34 = .ok (.lload_n 0, 1) := by decide +kernel
theorem dJ13_bitCount_95d88_35 : decode cJ13_bitCount_95d88 35 = .ok (.lload_n 0, 1) := by decide +kernel
theorem dJ13_bitCount_95d88_36 : decode cJ13_bitCount_95d88 36 = .ok (.bipush 8, 2) := by decide +kernel
theorem dJ13_bitCount_95d88_38 : decode cJ13_bitCount_95d88 38 = .ok (.lushr, 1) := by decide +kernel
theorem dJ13_bitCount_95d88_39 : decode cJ13_bitCount_95d88 39 = .ok (.ladd, 1) := by decide +kernel
theorem dJ13_bitCount_95d88_40 : decode cJ13_bitCount_95d88 40 = .ok (.lstore_n 0, 1) := by decide +kernel
theorem dJ13_bitCount_95d88_41 : decode cJ13_bitCount_95d88 41 = .ok (.lload_n 0, 1) := by decide +kernel
theorem dJ13_bitCount_95d88_42 : decode cJ13_bitCount_95d88 42 = .ok (.lload_n 0, 1) := by decide +kernel
theorem dJ13_bitCount_95d88_43 : decode cJ13_bitCount_95d88 43 = .ok (.bipush 16, 2) := by decide +kernel
theorem dJ13_bitCount_95d88_45 : decode cJ13_bitCount_95d88 45 = .ok (.lushr, 1) := by decide +kernel
theorem dJ13_bitCount_95d88_46 : decode cJ13_bitCount_95d88 46 = .ok (.ladd, 1) := by decide +kernel
theorem dJ13_bitCount_95d88_47 : decode cJ13_bitCount_95d88 47 = .ok (.lstore_n 0, 1) := by decide +kernel
theorem dJ13_bitCount_95d88_48 : decode cJ13_bitCount_95d88 48 = .ok (.lload_n 0, 1) := by decide +kernel
theorem dJ13_bitCount_95d88_49 : decode cJ13_bitCount_95d88 49 = .ok (.lload_n 0, 1) := by decide +kernel
theorem dJ13_bitCount_95d88_50 : decode cJ13_bitCount_95d88 50 = .ok (.bipush 32, 2) := by decide +kernel
theorem dJ13_bitCount_95d88_52 : decode cJ13_bitCount_95d88 52 = .ok (.lushr, 1) := by decide +kernel
theorem dJ13_bitCount_95d88_53 : decode cJ13_bitCount_95d88 53 = .ok (.ladd, 1) := by decide +kernel
theorem dJ13_bitCount_95d88_54 : decode cJ13_bitCount_95d88 54 = .ok (.lstore_n 0, 1) := by decide +kernel
theorem dJ13_bitCount_95d88_55 : decode cJ13_bitCount_95d88 55 = .ok (.lload_n 0, 1) := by decide +kernel
theorem dJ13_bitCount_95d88_56 : decode cJ13_bitCount_95d88 56 = .ok (.l2i, 1) := by decide +kernel
theorem dJ13_bitCount_95d88_57 : decode cJ13_bitCount_95d88 57 = .ok (.bipush 127, 2) := by decide +kernel
theorem dJ13_bitCount_95d88_59 : decode cJ13_bitCount_95d88 59 = .ok (.iand, 1) := by decide +kernel
theorem dJ13_bitCount_95d88_60 : decode cJ13_bitCount_95d88 60 = .ok (.ireturn, 1) := by decide +kernel
theorem dJ9_abs_0f7a4_0 : decode cJ9_abs_0f7a4 0 = .ok (.iload_n 0, 1) := by decide +kernel
theorem dJ9_abs_0f7a4_1 : decode cJ9_abs_0f7a4 1 = .ok (.ifCond .ge 8, 3) := by decide +kernel
theorem dJ9_abs_0f7a4_4 : decode cJ9_abs_0f7a4 4 = .ok (.iload_n 0, 1) := by decide +kernel
theorem dJ9_abs_0f7a4_5 : decode cJ9_abs_0f7a4 5 = .ok (.ineg, 1) := by decide +kernel
theorem dJ9_abs_0f7a4_6 : decode cJ9_abs_0f7a4 6 = .ok (.goto 4, 3) := by decide +kernel
theorem dJ9_abs_0f7a4_9 : decode cJ9_abs_0f7a4 9 = .ok (.iload_n 0, 1) := by decide +kernel
theorem dJ9_abs_0f7a4_10 : decode cJ9_abs_0f7a4 10 = .ok (.ireturn, 1) := by decide +kernel
theorem dJ9_max_7cf53_0 : decode cJ9_max_7cf53 0 = .ok (.iload_n 0, 1) := by decide +kernel
theorem dJ9_max_7cf53_1 : decode cJ9_max_7cf53 1 = .ok (.iload_n 1, 1) := by decide +kernel
theorem dJ9_max_7cf53_2 : decode cJ9_max_7cf53 2 = .ok (.if_icmp .lt 7, 3) := by decide +kernel
theorem dJ9_max_7cf53_5 : decode cJ9_max_7cf53 5 = .ok (.iload_n 0, 1) := by decide +kernel
theorem dJ9_max_7cf53_6 : decode cJ9_max_7cf53 6 = .ok (.goto 4, 3) := by decide +kernel
theorem dJ9_max_7cf53_9 : decode cJ9_max_7cf53 9 = .ok (.iload_n 1, 1) := by decide +kernel
theorem dJ9_max_7cf53_10 : decode cJ9_max_7cf53 10 = .ok (.ireturn, 1) := by decide +kernel
theorem dJ9_min_7cf53_0 : decode cJ9_min_7cf53 0 = .ok (.iload_n 0, 1) := by decide +kernel
theorem dJ9_min_7cf53_1 : decode cJ9_min_7cf53 1 = .ok (.iload_n 1, 1) := by decide +kernel
theorem dJ9_min_7cf53_2 : decode cJ9_min_7cf53 2 = .ok (.if_icmp .gt 7, 3) := by decide +kernel
theorem dJ9_min_7cf53_5 : decode cJ9_min_7cf53 5 = .ok (.iload_n 0, 1) := by decide +kernel
theorem dJ9_min_7cf53_6 : decode cJ9_min_7cf53 6 = .ok (.goto 4, 3) := by decide +kernel
theorem dJ9_min_7cf53_9 : decode cJ9_min_7cf53 9 = .ok (.iload_n 1, 1) := by decide +kernel
theorem dJ9_min_7cf53_10 : decode cJ9_min_7cf53 10 = .ok (.ireturn, 1) := by decide +kernel
theorem dL_cell_0 : decode cL_cell 0 = .ok (.iload_n 1, 1) := by decide +kernel
theorem dL_cell_1 : decode cL_cell 1 = .ok (.aload_n 0, 1) := by decide +kernel
theorem dL_cell_2 : decode cL_cell 2 = .ok (.arraylength, 1) := by decide +kernel
theorem dL_cell_3 : decode cL_cell 3 = .ok (.if_icmp .ge 9, 3) := by decide +kernel
theorem dL_cell_6 : decode cL_cell 6 = .ok (.aload_n 0, 1) := by decide +kernel
theorem dL_cell_7 : decode cL_cell 7 = .ok (.iload_n 1, 1) := by decide +kernel
theorem dL_cell_8 : decode cL_cell 8 = .ok (.iaload, 1) := by decide +kernel
theorem dL_cell_9 : decode cL_cell 9 = .ok (.goto 9, 3) := by decide +kernel
theorem dL_cell_12 : decode cL_cell 12 = .ok (.ldc 7, 2) := by decide +kernel
theorem dL_cell_14 : decode cL_cell 14 = .ok (.iload_n 1, 1) := by decide +kernel
theorem dL_cell_15 : decode cL_cell 15 = .ok (.iconst 1, 1) := by decide +kernel
theorem dL_cell_16 : decode cL_cell 16 = .ok (.iadd, 1) := by decide +kernel
theorem dL_cell_17 : decode cL_cell 17 = .ok (.imul, 1) := by decide +kernel
theorem dL_cell_18 : decode cL_cell 18 = .ok (.ireturn, 1) := by decide +kernel
theorem dL_at_0 : decode cL_at 0 = .ok (.iload_n 0, 1) := by decide +kernel
theorem dL_at_1 : decode cL_at 1 = .ok (.iconst 1, 1) := by decide +kernel
theorem dL_at_2 : decode cL_at 2 = .ok (.iushr, 1) := by decide +kernel
theorem dL_at_3 : decode cL_at 3 = .ok (.iload_n 1, 1) := by decide +kernel
theorem dL_at_4 : decode cL_at 4 = .ok (.irem, 1) := by decide +kernel
theorem dL_at_5 : decode cL_at 5 = .ok (.ireturn, 1) := by decide +kernel
theorem dL_of_0 : decode cL_of 0 = .ok (.aload_n 0, 1) := by decide +kernel
theorem dL_of_1 : decode cL_of 1 = .ok (.iload_n 1, 1) := by decide +kernel
theorem dL_of_2 : decode cL_of 2 = .ok (.iconst 2, 1) := by decide +kernel
theorem dL_of_3 : decode cL_of 3 = .ok (.iload_n 3, 1) := by decide +kernel
theorem dL_of_4 : decode cL_of 4 = .ok (.imul, 1) := by decide +kernel
theorem dL_of_5 : decode cL_of 5 = .ok (.iadd, 1) := by decide +kernel
theorem dL_of_6 : decode cL_of 6 = .ok (.iload_n 2, 1) := by decide +kernel
theorem dL_of_7 : decode cL_of 7 = .ok (.bipush 8, 2) := by decide +kernel
theorem dL_of_9 : decode cL_of 9 = .ok (.idiv, 1) := by decide +kernel
theorem dL_of_10 : decode cL_of 10 = .ok (.iadd, 1) := by decide +kernel
theorem dL_of_11 : decode cL_of 11 = .ok (.laload, 1) := by decide +kernel
theorem dL_of_12 : decode cL_of 12 = .ok (.bipush 8, 2) := by decide +kernel
theorem dL_of_14 : decode cL_of 14 = .ok (.iload_n 2, 1) := by decide +kernel
theorem dL_of_15 : decode cL_of 15 = .ok (.bipush 8, 2) := by decide +kernel
theorem dL_of_17 : decode cL_of 17 = .ok (.irem, 1) := by decide +kernel
theorem dL_of_18 : decode cL_of 18 = .ok (.imul, 1) := by decide +kernel
theorem dL_of_19 : decode cL_of 19 = .ok (.lshr, 1) := by decide +kernel
theorem dL_of_20 : decode cL_of 20 = .ok (.ldc2_w 8, 3) := by decide +kernel
theorem dL_of_23 : decode cL_of 23 = .ok (.land, 1) := by decide +kernel
theorem dL_of_24 : decode cL_of 24 = .ok (.l2i, 1) := by decide +kernel
theorem dL_of_25 : decode cL_of 25 = .ok (.ireturn, 1) := by decide +kernel
theorem dL_put_0 : decode cL_put 0 = .ok (.iload_n 1, 1) := by decide +kernel
theorem dL_put_1 : decode cL_put 1 = .ok (.iconst 2, 1) := by decide +kernel
theorem dL_put_2 : decode cL_put 2 = .ok (.iload_n 3, 1) := by decide +kernel
theorem dL_put_3 : decode cL_put 3 = .ok (.imul, 1) := by decide +kernel
theorem dL_put_4 : decode cL_put 4 = .ok (.iadd, 1) := by decide +kernel
theorem dL_put_5 : decode cL_put 5 = .ok (.iload_n 2, 1) := by decide +kernel
theorem dL_put_6 : decode cL_put 6 = .ok (.bipush 8, 2) := by decide +kernel
theorem dL_put_8 : decode cL_put 8 = .ok (.idiv, 1) := by decide +kernel
theorem dL_put_9 : decode cL_put 9 = .ok (.iadd, 1) := by decide +kernel
theorem dL_put_10 : decode cL_put 10 = .ok (.istore 5, 2) := by decide +kernel
theorem dL_put_12 : decode cL_put 12 = .ok (.aload_n 0, 1) := by decide +kernel
theorem dL_put_13 : decode cL_put 13 = .ok (.iload 5, 2) := by decide +kernel
theorem dL_put_15 : decode cL_put 15 = .ok (.aload_n 0, 1) := by decide +kernel
theorem dL_put_16 : decode cL_put 16 = .ok (.iload 5, 2) := by decide +kernel
theorem dL_put_18 : decode cL_put 18 = .ok (.laload, 1) := by decide +kernel
theorem dL_put_19 : decode cL_put 19 = .ok (.ldc2_w 8, 3) := by decide +kernel
theorem dL_put_22 : decode cL_put 22 = .ok (.bipush 8, 2) := by decide +kernel
theorem dL_put_24 : decode cL_put 24 = .ok (.iload_n 2, 1) := by decide +kernel
theorem dL_put_25 : decode cL_put 25 = .ok (.bipush 8, 2) := by decide +kernel
theorem dL_put_27 : decode cL_put 27 = .ok (.irem, 1) := by decide +kernel
theorem dL_put_28 : decode cL_put 28 = .ok (.imul, 1) := by decide +kernel
theorem dL_put_29 : decode cL_put 29 = .ok (.lshl, 1) := by decide +kernel
theorem dL_put_30 : decode cL_put 30 = .ok (.ldc2_w 10, 3) := by decide +kernel
theorem dL_put_33 : decode cL_put 33 = .ok (.lxor, 1) := by decide +kernel
theorem dL_put_34 : decode cL_put 34 = .ok (.land, 1) := by decide +kernel
theorem dL_put_35 : decode cL_put 35 = .ok (.iload 4, 2) := by decide +kernel
theorem dL_put_37 : decode cL_put 37 = .ok (.i2l, 1) := by decide +kernel
theorem dL_put_38 : decode cL_put 38 = .ok (.bipush 8, 2) := by decide +kernel
theorem dL_put_40 : decode cL_put 40 = .ok (.iload_n 2, 1) := by decide +kernel
theorem dL_put_41 : decode cL_put 41 = .ok (.bipush 8, 2) := by decide +kernel
theorem dL_put_43 : decode cL_put 43 = .ok (.irem, 1) := by decide +kernel
theorem dL_put_44 : decode cL_put 44 = .ok (.imul, 1) := by decide +kernel
theorem dL_put_45 : decode cL_put 45 = .ok (.lshl, 1) := by decide +kernel
theorem dL_put_46 : decode cL_put 46 = .ok (.lor, 1) := by decide +kernel
theorem dL_put_47 : decode cL_put 47 = .ok (.lastore, 1) := by decide +kernel
theorem dL_put_48 : decode cL_put 48 = .ok (.return_, 1) := by decide +kernel
theorem dL_abs_0 : decode cL_abs 0 = .ok (.iload_n 0, 1) := by decide +kernel
theorem dL_abs_1 : decode cL_abs 1 = .ok (.ifCond .ge 8, 3) := by decide +kernel
theorem dL_abs_4 : decode cL_abs 4 = .ok (.iload_n 0, 1) := by decide +kernel
theorem dL_abs_5 : decode cL_abs 5 = .ok (.ineg, 1) := by decide +kernel
theorem dL_abs_6 : decode cL_abs 6 = .ok (.goto 4, 3) := by decide +kernel
theorem dL_abs_9 : decode cL_abs 9 = .ok (.iload_n 0, 1) := by decide +kernel
theorem dL_abs_10 : decode cL_abs 10 = .ok (.ireturn, 1) := by decide +kernel
theorem dL_is_0 : decode cL_is 0 = .ok (.iload_n 1, 1) := by decide +kernel
theorem dL_is_1 : decode cL_is 1 = .ok (.ifCond .lt 34, 3) := by decide +kernel
theorem dL_is_4 : decode cL_is 4 = .ok (.iload_n 2, 1) := by decide +kernel
theorem dL_is_5 : decode cL_is 5 = .ok (.ifCond .lt 30, 3) := by decide +kernel
theorem dL_is_8 : decode cL_is 8 = .ok (.iload_n 1, 1) := by decide +kernel
theorem dL_is_9 : decode cL_is 9 = .ok (.bipush 16, 2) := by decide +kernel
theorem dL_is_11 : decode cL_is 11 = .ok (.if_icmp .ge 24, 3) := by decide +kernel
theorem dL_is_14 : decode cL_is 14 = .ok (.iload_n 2, 1) := by decide +kernel
theorem dL_is_15 : decode cL_is 15 = .ok (.bipush 10, 2) := by decide +kernel
theorem dL_is_17 : decode cL_is 17 = .ok (.if_icmp .ge 18, 3) := by decide +kernel
theorem dL_is_20 : decode cL_is 20 = .ok (.aload_n 0, 1) := by decide +kernel
theorem dL_is_21 : decode cL_is 21 = .ok (.iload_n 2, 1) := by decide +kernel
theorem dL_is_22 : decode cL_is 22 = .ok (.iaload, 1) := by decide +kernel
theorem dL_is_23 : decode cL_is 23 = .ok (.iload_n 1, 1) := by decide +kernel
theorem dL_is_24 : decode cL_is 24 = .ok (.ishr, 1) := by decide +kernel
theorem dL_is_25 : decode cL_is 25 = .ok (.iconst 1, 1) := by decide +kernel
theorem dL_is_26 : decode cL_is 26 = .ok (.iand, 1) := by decide +kernel
theorem dL_is_27 : decode cL_is 27 = .ok (.iconst 1, 1) := by decide +kernel
theorem dL_is_28 : decode cL_is 28 = .ok (.if_icmp .ne 7, 3) := by decide +kernel
theorem dL_is_31 : decode cL_is 31 = .ok (.iconst 1, 1) := by decide +kernel
theorem dL_is_32 : decode cL_is 32 = .ok (.goto 4, 3) := by decide +kernel
theorem dL_is_35 : decode cL_is 35 = .ok (.iconst 0, 1) := by decide +kernel
theorem dL_is_36 : decode cL_is 36 = .ok (.ireturn, 1) := by decide +kernel
theorem dL_alike_0 : decode cL_alike 0 = .ok (.aload 4, 2) := by decide +kernel
theorem dL_alike_2 : decode cL_alike 2 = .ok (.iconst 0, 1) := by decide +kernel
theorem dL_alike_3 : decode cL_alike 3 = .ok (.iload_n 0, 1) := by decide +kernel
theorem dL_alike_4 : decode cL_alike 4 = .ok (.iload_n 1, 1) := by decide +kernel
theorem dL_alike_5 : decode cL_alike 5 = .ok (.invokestatic 12, 3) := by decide +kernel
theorem dL_alike_8 : decode cL_alike 8 = .ok (.istore 6, 2) := by decide +kernel
theorem dL_alike_10 : decode cL_alike 10 = .ok (.iconst 0, 1) := by decide +kernel
theorem dL_alike_11 : decode cL_alike 11 = .ok (.istore 7, 2) := by decide +kernel
theorem dL_alike_13 : decode cL_alike 13 = .ok (.iload 7, 2) := by decide +kernel
theorem dL_alike_15 : decode cL_alike 15 = .ok (.bipush 10, 2) := by decide +kernel
theorem dL_alike_17 : decode cL_alike 17 = .ok (.if_icmp .ge 15, 3) := by decide +kernel
theorem dL_alike_20 : decode cL_alike 20 = .ok (.aload 5, 2) := by decide +kernel
theorem dL_alike_22 : decode cL_alike 22 = .ok (.iload 7, 2) := by decide +kernel
theorem dL_alike_24 : decode cL_alike 24 = .ok (.iconst 0, 1) := by decide +kernel
theorem dL_alike_25 : decode cL_alike 25 = .ok (.iastore, 1) := by decide +kernel
theorem dL_alike_26 : decode cL_alike 26 = .ok (.iinc 7 1, 3) := by decide +kernel
theorem dL_alike_29 : decode cL_alike 29 = .ok (.goto (-16), 3) := by decide +kernel
theorem dL_alike_32 : decode cL_alike 32 = .ok (.iload_n 3, 1) := by decide +kernel
theorem dL_alike_33 : decode cL_alike 33 = .ok (.ifCond .ne 65, 3) := by decide +kernel
theorem dL_alike_36 : decode cL_alike 36 = .ok (.iconst 0, 1) := by decide +kernel
theorem dL_alike_37 : decode cL_alike 37 = .ok (.istore 7, 2) := by decide +kernel
theorem dL_alike_39 : decode cL_alike 39 = .ok (.iload 7, 2) := by decide +kernel
theorem dL_alike_41 : decode cL_alike 41 = .ok (.sipush 160, 3) := by decide +kernel
theorem dL_alike_44 : decode cL_alike 44 = .ok (.if_icmp .ge 53, 3) := by decide +kernel
theorem dL_alike_47 : decode cL_alike 47 = .ok (.aload 4, 2) := by decide +kernel
theorem dL_alike_49 : decode cL_alike 49 = .ok (.iconst 0, 1) := by decide +kernel
theorem dL_alike_50 : decode cL_alike 50 = .ok (.iload 7, 2) := by decide +kernel
theorem dL_alike_52 : decode cL_alike 52 = .ok (.bipush 16, 2) := by decide +kernel
theorem dL_alike_54 : decode cL_alike 54 = .ok (.irem, 1) := by decide +kernel
theorem dL_alike_55 : decode cL_alike 55 = .ok (.iload 7, 2) := by decide +kernel
theorem dL_alike_57 : decode cL_alike 57 = .ok (.bipush 16, 2) := by decide +kernel
theorem dL_alike_59 : decode cL_alike 59 = .ok (.idiv, 1) := by decide +kernel
theorem dL_alike_60 : decode cL_alike 60 = .ok (.invokestatic 12, 3) := by decide +kernel
theorem dL_alike_63 : decode cL_alike 63 = .ok (.iload 6, 2) := by decide +kernel
theorem dL_alike_65 : decode cL_alike 65 = .ok (.isub, 1) := by decide +kernel
theorem dL_alike_66 : decode cL_alike 66 = .ok (.invokestatic 18, 3) := by decide +kernel
theorem dL_alike_69 : decode cL_alike 69 = .ok (.iload_n 2, 1) := by decide +kernel
theorem dL_alike_70 : decode cL_alike 70 = .ok (.if_icmp .gt 21, 3) := by decide +kernel
theorem dL_alike_73 : decode cL_alike 73 = .ok (.aload 5, 2) := by decide +kernel
theorem dL_alike_75 : decode cL_alike 75 = .ok (.iload 7, 2) := by decide +kernel
theorem dL_alike_77 : decode cL_alike 77 = .ok (.bipush 16, 2) := by decide +kernel
theorem dL_alike_79 : decode cL_alike 79 = .ok (.idiv, 1) := by decide +kernel
theorem dL_alike_80 : decode cL_alike 80 = .ok (.dup2, 1) := by decide +kernel
theorem dL_alike_81 : decode cL_alike 81 = .ok (.iaload, 1) := by decide +kernel
theorem dL_alike_82 : decode cL_alike 82 = .ok (.iconst 1, 1) := by decide +kernel
theorem dL_alike_83 : decode cL_alike 83 = .ok (.iload 7, 2) := by decide +kernel
theorem dL_alike_85 : decode cL_alike 85 = .ok (.bipush 16, 2) := by decide +kernel
theorem dL_alike_87 : decode cL_alike 87 = .ok (.irem, 1) := by decide +kernel
theorem dL_alike_88 : decode cL_alike 88 = .ok (.ishl, 1) := by decide +kernel
theorem dL_alike_89 : decode cL_alike 89 = .ok (.ior, 1) := by decide +kernel
theorem dL_alike_90 : decode cL_alike 90 = .ok (.iastore, 1) := by decide +kernel
theorem dL_alike_91 : decode cL_alike 91 = .ok (.iinc 7 1, 3) := by decide +kernel
theorem dL_alike_94 : decode cL_alike 94 = .ok (.goto (-55), 3) := by decide +kernel
theorem dL_alike_97 : decode cL_alike 97 = .ok (.return_, 1) := by decide +kernel
theorem dL_alike_98 : decode cL_alike 98 = .ok (.aload 5, 2) := by decide +kernel
theorem dL_alike_100 : decode cL_alike 100 = .ok (.iload_n 1, 1) := by decide +kernel
theorem dL_alike_101 : decode cL_alike 101 = .ok (.iconst 1, 1) := by decide +kernel
theorem dL_alike_102 : decode cL_alike 102 = .ok (.iload_n 0, 1) := by decide +kernel
theorem dL_alike_103 : decode cL_alike 103 = .ok (.ishl, 1) := by decide +kernel
theorem dL_alike_104 : decode cL_alike 104 = .ok (.iastore, 1) := by decide +kernel
theorem dL_alike_105 : decode cL_alike 105 = .ok (.iconst 1, 1) := by decide +kernel
theorem dL_alike_106 : decode cL_alike 106 = .ok (.istore 7, 2) := by decide +kernel
theorem dL_alike_108 : decode cL_alike 108 = .ok (.iload 7, 2) := by decide +kernel
theorem dL_alike_110 : decode cL_alike 110 = .ok (.ifCond .eq 241, 3) := by decide +kernel
theorem dL_alike_113 : decode cL_alike 113 = .ok (.iconst 0, 1) := by decide +kernel
theorem dL_alike_114 : decode cL_alike 114 = .ok (.istore 7, 2) := by decide +kernel
theorem dL_alike_116 : decode cL_alike 116 = .ok (.iconst 0, 1) := by decide +kernel
theorem dL_alike_117 : decode cL_alike 117 = .ok (.istore 8, 2) := by decide +kernel
theorem dL_alike_119 : decode cL_alike 119 = .ok (.iload 8, 2) := by decide +kernel
theorem dL_alike_121 : decode cL_alike 121 = .ok (.sipush 160, 3) := by decide +kernel
theorem dL_alike_124 : decode cL_alike 124 = .ok (.if_icmp .ge 224, 3) := by decide +kernel
theorem dL_alike_127 : decode cL_alike 127 = .ok (.iload 8, 2) := by decide +kernel
theorem dL_alike_129 : decode cL_alike 129 = .ok (.bipush 16, 2) := by decide +kernel
theorem dL_alike_131 : decode cL_alike 131 = .ok (.irem, 1) := by decide +kernel
theorem dL_alike_132 : decode cL_alike 132 = .ok (.istore 9, 2) := by decide +kernel
theorem dL_alike_134 : decode cL_alike 134 = .ok (.iload 8, 2) := by decide +kernel
theorem dL_alike_136 : decode cL_alike 136 = .ok (.bipush 16, 2) := by decide +kernel
theorem dL_alike_138 : decode cL_alike 138 = .ok (.idiv, 1) := by decide +kernel
theorem dL_alike_139 : decode cL_alike 139 = .ok (.istore 10, 2) := by decide +kernel
theorem dL_alike_141 : decode cL_alike 141 = .ok (.aload 5, 2) := by decide +kernel
theorem dL_alike_143 : decode cL_alike 143 = .ok (.iload 9, 2) := by decide +kernel
theorem dL_alike_145 : decode cL_alike 145 = .ok (.iload 10, 2) := by decide +kernel
theorem dL_alike_147 : decode cL_alike 147 = .ok (.invokestatic 22, 3) := by decide +kernel
theorem dL_alike_150 : decode cL_alike 150 = .ok (.ifCond .eq 6, 3) := by decide +kernel
theorem dL_alike_153 : decode cL_alike 153 = .ok (.goto 189, 3) := by decide +kernel
theorem dL_alike_156 : decode cL_alike 156 = .ok (.aload 4, 2) := by decide +kernel
theorem dL_alike_158 : decode cL_alike 158 = .ok (.iconst 0, 1) := by decide +kernel
theorem dL_alike_159 : decode cL_alike 159 = .ok (.iload 9, 2) := by decide +kernel
theorem dL_alike_161 : decode cL_alike 161 = .ok (.iload 10, 2) := by decide +kernel
theorem dL_alike_163 : decode cL_alike 163 = .ok (.invokestatic 12, 3) := by decide +kernel
theorem dL_alike_166 : decode cL_alike 166 = .ok (.istore 11, 2) := by decide +kernel
theorem dL_alike_168 : decode cL_alike 168 = .ok (.aload 5, 2) := by decide +kernel
theorem dL_alike_170 : decode cL_alike 170 = .ok (.iload 9, 2) := by decide +kernel
theorem dL_alike_172 : decode cL_alike 172 = .ok (.iconst 1, 1) := by decide +kernel
theorem dL_alike_173 : decode cL_alike 173 = .ok (.isub, 1) := by decide +kernel
theorem dL_alike_174 : decode cL_alike 174 = .ok (.iload 10, 2) := by decide +kernel
theorem dL_alike_176 : decode cL_alike 176 = .ok (.invokestatic 22, 3) := by decide +kernel
theorem dL_alike_179 : decode cL_alike 179 = .ok (.ifCond .eq 25, 3) := by decide +kernel
theorem dL_alike_182 : decode cL_alike 182 = .ok (.aload 4, 2) := by decide +kernel
theorem dL_alike_184 : decode cL_alike 184 = .ok (.iconst 0, 1) := by decide +kernel
theorem dL_alike_185 : decode cL_alike 185 = .ok (.iload 9, 2) := by decide +kernel
theorem dL_alike_187 : decode cL_alike 187 = .ok (.iconst 1, 1) := by decide +kernel
theorem dL_alike_188 : decode cL_alike 188 = .ok (.isub, 1) := by decide +kernel
theorem dL_alike_189 : decode cL_alike 189 = .ok (.iload 10, 2) := by decide +kernel
theorem dL_alike_191 : decode cL_alike 191 = .ok (.invokestatic 12, 3) := by decide +kernel
theorem dL_alike_194 : decode cL_alike 194 = .ok (.iload 11, 2) := by decide +kernel
theorem dL_alike_196 : decode cL_alike 196 = .ok (.isub, 1) := by decide +kernel
theorem dL_alike_197 : decode cL_alike 197 = .ok (.invokestatic 18, 3) := by decide +kernel
theorem dL_alike_200 : decode cL_alike 200 = .ok (.iload_n 2, 1) := by decide +kernel
theorem dL_alike_201 : decode cL_alike 201 = .ok (.if_icmp .le 111, 3) := by decide +kernel
theorem dL_alike_204 : decode cL_alike 204 = .ok (.aload 5, 2) := by decide +kernel
theorem dL_alike_206 : decode cL_alike 206 = .ok (.iload 9, 2) := by decide +kernel
theorem dL_alike_208 : decode cL_alike 208 = .ok (.iconst 1, 1) := by decide +kernel
theorem dL_alike_209 : decode cL_alike 209 = .ok (.iadd, 1) := by decide +kernel
theorem dL_alike_210 : decode cL_alike 210 = .ok (.iload 10, 2) := by decide +kernel
theorem dL_alike_212 : decode cL_alike 212 = .ok (.invokestatic 22, 3) := by decide +kernel
theorem dL_alike_215 : decode cL_alike 215 = .ok (.ifCond .eq 25, 3) := by decide +kernel
theorem dL_alike_218 : decode cL_alike 218 = .ok (.aload 4, 2) := by decide +kernel
theorem dL_alike_220 : decode cL_alike 220 = .ok (.iconst 0, 1) := by decide +kernel
theorem dL_alike_221 : decode cL_alike 221 = .ok (.iload 9, 2) := by decide +kernel
theorem dL_alike_223 : decode cL_alike 223 = .ok (.iconst 1, 1) := by decide +kernel
theorem dL_alike_224 : decode cL_alike 224 = .ok (.iadd, 1) := by decide +kernel
theorem dL_alike_225 : decode cL_alike 225 = .ok (.iload 10, 2) := by decide +kernel
theorem dL_alike_227 : decode cL_alike 227 = .ok (.invokestatic 12, 3) := by decide +kernel
theorem dL_alike_230 : decode cL_alike 230 = .ok (.iload 11, 2) := by decide +kernel
theorem dL_alike_232 : decode cL_alike 232 = .ok (.isub, 1) := by decide +kernel
theorem dL_alike_233 : decode cL_alike 233 = .ok (.invokestatic 18, 3) := by decide +kernel
theorem dL_alike_236 : decode cL_alike 236 = .ok (.iload_n 2, 1) := by decide +kernel
theorem dL_alike_237 : decode cL_alike 237 = .ok (.if_icmp .le 75, 3) := by decide +kernel
theorem dL_alike_240 : decode cL_alike 240 = .ok (.aload 5, 2) := by decide +kernel
theorem dL_alike_242 : decode cL_alike 242 = .ok (.iload 9, 2) := by decide +kernel
theorem dL_alike_244 : decode cL_alike 244 = .ok (.iload 10, 2) := by decide +kernel
theorem dL_alike_246 : decode cL_alike 246 = .ok (.iconst 1, 1) := by decide +kernel
theorem dL_alike_247 : decode cL_alike 247 = .ok (.isub, 1) := by decide +kernel
theorem dL_alike_248 : decode cL_alike 248 = .ok (.invokestatic 22, 3) := by decide +kernel
theorem dL_alike_251 : decode cL_alike 251 = .ok (.ifCond .eq 25, 3) := by decide +kernel
theorem dL_alike_254 : decode cL_alike 254 = .ok (.aload 4, 2) := by decide +kernel
theorem dL_alike_256 : decode cL_alike 256 = .ok (.iconst 0, 1) := by decide +kernel
theorem dL_alike_257 : decode cL_alike 257 = .ok (.iload 9, 2) := by decide +kernel
theorem dL_alike_259 : decode cL_alike 259 = .ok (.iload 10, 2) := by decide +kernel
theorem dL_alike_261 : decode cL_alike 261 = .ok (.iconst 1, 1) := by decide +kernel
theorem dL_alike_262 : decode cL_alike 262 = .ok (.isub, 1) := by decide +kernel
theorem dL_alike_263 : decode cL_alike 263 = .ok (.invokestatic 12, 3) := by decide +kernel
theorem dL_alike_266 : decode cL_alike 266 = .ok (.iload 11, 2) := by decide +kernel
theorem dL_alike_268 : decode cL_alike 268 = .ok (.isub, 1) := by decide +kernel
theorem dL_alike_269 : decode cL_alike 269 = .ok (.invokestatic 18, 3) := by decide +kernel
theorem dL_alike_272 : decode cL_alike 272 = .ok (.iload_n 2, 1) := by decide +kernel
theorem dL_alike_273 : decode cL_alike 273 = .ok (.if_icmp .le 39, 3) := by decide +kernel
theorem dL_alike_276 : decode cL_alike 276 = .ok (.aload 5, 2) := by decide +kernel
theorem dL_alike_278 : decode cL_alike 278 = .ok (.iload 9, 2) := by decide +kernel
theorem dL_alike_280 : decode cL_alike 280 = .ok (.iload 10, 2) := by decide +kernel
theorem dL_alike_282 : decode cL_alike 282 = .ok (.iconst 1, 1) := by decide +kernel
theorem dL_alike_283 : decode cL_alike 283 = .ok (.iadd, 1) := by decide +kernel
theorem dL_alike_284 : decode cL_alike 284 = .ok (.invokestatic 22, 3) := by decide +kernel
theorem dL_alike_287 : decode cL_alike 287 = .ok (.ifCond .eq 29, 3) := by decide +kernel
theorem dL_alike_290 : decode cL_alike 290 = .ok (.aload 4, 2) := by decide +kernel
theorem dL_alike_292 : decode cL_alike 292 = .ok (.iconst 0, 1) := by decide +kernel
theorem dL_alike_293 : decode cL_alike 293 = .ok (.iload 9, 2) := by decide +kernel
theorem dL_alike_295 : decode cL_alike 295 = .ok (.iload 10, 2) := by decide +kernel
theorem dL_alike_297 : decode cL_alike 297 = .ok (.iconst 1, 1) := by decide +kernel
theorem dL_alike_298 : decode cL_alike 298 = .ok (.iadd, 1) := by decide +kernel
theorem dL_alike_299 : decode cL_alike 299 = .ok (.invokestatic 12, 3) := by decide +kernel
theorem dL_alike_302 : decode cL_alike 302 = .ok (.iload 11, 2) := by decide +kernel
theorem dL_alike_304 : decode cL_alike 304 = .ok (.isub, 1) := by decide +kernel
theorem dL_alike_305 : decode cL_alike 305 = .ok (.invokestatic 18, 3) := by decide +kernel
theorem dL_alike_308 : decode cL_alike 308 = .ok (.iload_n 2, 1) := by decide +kernel
theorem dL_alike_309 : decode cL_alike 309 = .ok (.if_icmp .gt 7, 3) := by decide +kernel
theorem dL_alike_312 : decode cL_alike 312 = .ok (.iconst 1, 1) := by decide +kernel
theorem dL_alike_313 : decode cL_alike 313 = .ok (.goto 4, 3) := by decide +kernel
theorem dL_alike_316 : decode cL_alike 316 = .ok (.iconst 0, 1) := by decide +kernel
theorem dL_alike_317 : decode cL_alike 317 = .ok (.istore 12, 2) := by decide +kernel
theorem dL_alike_319 : decode cL_alike 319 = .ok (.iload 12, 2) := by decide +kernel
theorem dL_alike_321 : decode cL_alike 321 = .ok (.ifCond .ne 6, 3) := by decide +kernel
theorem dL_alike_324 : decode cL_alike 324 = .ok (.goto 18, 3) := by decide +kernel
theorem dL_alike_327 : decode cL_alike 327 = .ok (.aload 5, 2) := by decide +kernel
theorem dL_alike_329 : decode cL_alike 329 = .ok (.iload 10, 2) := by decide +kernel
theorem dL_alike_331 : decode cL_alike 331 = .ok (.dup2, 1) := by decide +kernel
theorem dL_alike_332 : decode cL_alike 332 = .ok (.iaload, 1) := by decide +kernel
theorem dL_alike_333 : decode cL_alike 333 = .ok (.iconst 1, 1) := by decide +kernel
theorem dL_alike_334 : decode cL_alike 334 = .ok (.iload 9, 2) := by decide +kernel
theorem dL_alike_336 : decode cL_alike 336 = .ok (.ishl, 1) := by decide +kernel
theorem dL_alike_337 : decode cL_alike 337 = .ok (.ior, 1) := by decide +kernel
theorem dL_alike_338 : decode cL_alike 338 = .ok (.iastore, 1) := by decide +kernel
theorem dL_alike_339 : decode cL_alike 339 = .ok (.iconst 1, 1) := by decide +kernel
theorem dL_alike_340 : decode cL_alike 340 = .ok (.istore 7, 2) := by decide +kernel
theorem dL_alike_342 : decode cL_alike 342 = .ok (.iinc 8 1, 3) := by decide +kernel
theorem dL_alike_345 : decode cL_alike 345 = .ok (.goto (-226), 3) := by decide +kernel
theorem dL_alike_348 : decode cL_alike 348 = .ok (.goto (-240), 3) := by decide +kernel
theorem dL_alike_351 : decode cL_alike 351 = .ok (.return_, 1) := by decide +kernel
theorem dL_squares_0 : decode cL_squares 0 = .ok (.iconst 0, 1) := by decide +kernel
theorem dL_squares_1 : decode cL_squares 1 = .ok (.istore_n 3, 1) := by decide +kernel
theorem dL_squares_2 : decode cL_squares 2 = .ok (.iload_n 3, 1) := by decide +kernel
theorem dL_squares_3 : decode cL_squares 3 = .ok (.bipush 10, 2) := by decide +kernel
theorem dL_squares_5 : decode cL_squares 5 = .ok (.if_icmp .ge 88, 3) := by decide +kernel
theorem dL_squares_8 : decode cL_squares 8 = .ok (.iload_n 3, 1) := by decide +kernel
theorem dL_squares_9 : decode cL_squares 9 = .ok (.iload_n 0, 1) := by decide +kernel
theorem dL_squares_10 : decode cL_squares 10 = .ok (.iadd, 1) := by decide +kernel
theorem dL_squares_11 : decode cL_squares 11 = .ok (.bipush 10, 2) := by decide +kernel
theorem dL_squares_13 : decode cL_squares 13 = .ok (.if_icmp .ge 14, 3) := by decide +kernel
theorem dL_squares_16 : decode cL_squares 16 = .ok (.iconst 1, 1) := by decide +kernel
theorem dL_squares_17 : decode cL_squares 17 = .ok (.bipush 16, 2) := by decide +kernel
theorem dL_squares_19 : decode cL_squares 19 = .ok (.iload_n 0, 1) := by decide +kernel
theorem dL_squares_20 : decode cL_squares 20 = .ok (.isub, 1) := by decide +kernel
theorem dL_squares_21 : decode cL_squares 21 = .ok (.ishl, 1) := by decide +kernel
theorem dL_squares_22 : decode cL_squares 22 = .ok (.iconst 1, 1) := by decide +kernel
theorem dL_squares_23 : decode cL_squares 23 = .ok (.isub, 1) := by decide +kernel
theorem dL_squares_24 : decode cL_squares 24 = .ok (.goto 4, 3) := by decide +kernel
theorem dL_squares_27 : decode cL_squares 27 = .ok (.iconst 0, 1) := by decide +kernel
theorem dL_squares_28 : decode cL_squares 28 = .ok (.istore 4, 2) := by decide +kernel
theorem dL_squares_30 : decode cL_squares 30 = .ok (.iconst 0, 1) := by decide +kernel
theorem dL_squares_31 : decode cL_squares 31 = .ok (.istore 5, 2) := by decide +kernel
theorem dL_squares_33 : decode cL_squares 33 = .ok (.iload 5, 2) := by decide +kernel
theorem dL_squares_35 : decode cL_squares 35 = .ok (.iload_n 0, 1) := by decide +kernel
theorem dL_squares_36 : decode cL_squares 36 = .ok (.if_icmp .gt 46, 3) := by decide +kernel
theorem dL_squares_39 : decode cL_squares 39 = .ok (.iload_n 3, 1) := by decide +kernel
theorem dL_squares_40 : decode cL_squares 40 = .ok (.iload_n 0, 1) := by decide +kernel
theorem dL_squares_41 : decode cL_squares 41 = .ok (.iadd, 1) := by decide +kernel
theorem dL_squares_42 : decode cL_squares 42 = .ok (.bipush 10, 2) := by decide +kernel
theorem dL_squares_44 : decode cL_squares 44 = .ok (.if_icmp .ge 38, 3) := by decide +kernel
theorem dL_squares_47 : decode cL_squares 47 = .ok (.iconst 0, 1) := by decide +kernel
theorem dL_squares_48 : decode cL_squares 48 = .ok (.istore 6, 2) := by decide +kernel
theorem dL_squares_50 : decode cL_squares 50 = .ok (.iload 6, 2) := by decide +kernel
theorem dL_squares_52 : decode cL_squares 52 = .ok (.iload_n 0, 1) := by decide +kernel
theorem dL_squares_53 : decode cL_squares 53 = .ok (.if_icmp .gt 23, 3) := by decide +kernel
theorem dL_squares_56 : decode cL_squares 56 = .ok (.iload 4, 2) := by decide +kernel
theorem dL_squares_58 : decode cL_squares 58 = .ok (.aload_n 1, 1) := by decide +kernel
theorem dL_squares_59 : decode cL_squares 59 = .ok (.iload_n 3, 1) := by decide +kernel
theorem dL_squares_60 : decode cL_squares 60 = .ok (.iload 5, 2) := by decide +kernel
theorem dL_squares_62 : decode cL_squares 62 = .ok (.iadd, 1) := by decide +kernel
theorem dL_squares_63 : decode cL_squares 63 = .ok (.iaload, 1) := by decide +kernel
theorem dL_squares_64 : decode cL_squares 64 = .ok (.iload 6, 2) := by decide +kernel
theorem dL_squares_66 : decode cL_squares 66 = .ok (.ishr, 1) := by decide +kernel
theorem dL_squares_67 : decode cL_squares 67 = .ok (.iand, 1) := by decide +kernel
theorem dL_squares_68 : decode cL_squares 68 = .ok (.istore 4, 2) := by decide +kernel
theorem dL_squares_70 : decode cL_squares 70 = .ok (.iinc 6 1, 3) := by decide +kernel
theorem dL_squares_73 : decode cL_squares 73 = .ok (.goto (-23), 3) := by decide +kernel
theorem dL_squares_76 : decode cL_squares 76 = .ok (.iinc 5 1, 3) := by decide +kernel
theorem dL_squares_79 : decode cL_squares 79 = .ok (.goto (-46), 3) := by decide +kernel
theorem dL_squares_82 : decode cL_squares 82 = .ok (.aload_n 2, 1) := by decide +kernel
theorem dL_squares_83 : decode cL_squares 83 = .ok (.iload_n 3, 1) := by decide +kernel
theorem dL_squares_84 : decode cL_squares 84 = .ok (.iload 4, 2) := by decide +kernel
theorem dL_squares_86 : decode cL_squares 86 = .ok (.iastore, 1) := by decide +kernel
theorem dL_squares_87 : decode cL_squares 87 = .ok (.iinc 3 1, 3) := by decide +kernel
theorem dL_squares_90 : decode cL_squares 90 = .ok (.goto (-88), 3) := by decide +kernel
theorem dL_squares_93 : decode cL_squares 93 = .ok (.return_, 1) := by decide +kernel
theorem dL_area_0 : decode cL_area 0 = .ok (.bipush 10, 2) := by decide +kernel
theorem dL_area_2 : decode cL_area 2 = .ok (.newarray .int, 2) := by decide +kernel
theorem dL_area_4 : decode cL_area 4 = .ok (.astore 7, 2) := by decide +kernel
theorem dL_area_6 : decode cL_area 6 = .ok (.bipush 10, 2) := by decide +kernel
theorem dL_area_8 : decode cL_area 8 = .ok (.newarray .int, 2) := by decide +kernel
theorem dL_area_10 : decode cL_area 10 = .ok (.astore 8, 2) := by decide +kernel
theorem dL_area_12 : decode cL_area 12 = .ok (.bipush 10, 2) := by decide +kernel
theorem dL_area_14 : decode cL_area 14 = .ok (.newarray .int, 2) := by decide +kernel
theorem dL_area_16 : decode cL_area 16 = .ok (.astore 9, 2) := by decide +kernel
theorem dL_area_18 : decode cL_area 18 = .ok (.iload_n 0, 1) := by decide +kernel
theorem dL_area_19 : decode cL_area 19 = .ok (.iload_n 1, 1) := by decide +kernel
theorem dL_area_20 : decode cL_area 20 = .ok (.iload_n 2, 1) := by decide +kernel
theorem dL_area_21 : decode cL_area 21 = .ok (.iload_n 3, 1) := by decide +kernel
theorem dL_area_22 : decode cL_area 22 = .ok (.aload 5, 2) := by decide +kernel
theorem dL_area_24 : decode cL_area 24 = .ok (.aload 7, 2) := by decide +kernel
theorem dL_area_26 : decode cL_area 26 = .ok (.invokestatic 26, 3) := by decide +kernel
theorem dL_area_29 : decode cL_area 29 = .ok (.iload 4, 2) := by decide +kernel
theorem dL_area_31 : decode cL_area 31 = .ok (.iconst 1, 1) := by decide +kernel
theorem dL_area_32 : decode cL_area 32 = .ok (.iadd, 1) := by decide +kernel
theorem dL_area_33 : decode cL_area 33 = .ok (.istore 10, 2) := by decide +kernel
theorem dL_area_35 : decode cL_area 35 = .ok (.iconst 0, 1) := by decide +kernel
theorem dL_area_36 : decode cL_area 36 = .ok (.istore 11, 2) := by decide +kernel
theorem dL_area_38 : decode cL_area 38 = .ok (.iload 11, 2) := by decide +kernel
theorem dL_area_40 : decode cL_area 40 = .ok (.ifCond .ne 118, 3) := by decide +kernel
theorem dL_area_43 : decode cL_area 43 = .ok (.iinc 10 (-1), 3) := by decide +kernel
theorem dL_area_46 : decode cL_area 46 = .ok (.iload 10, 2) := by decide +kernel
theorem dL_area_48 : decode cL_area 48 = .ok (.aload 7, 2) := by decide +kernel
theorem dL_area_50 : decode cL_area 50 = .ok (.aload 8, 2) := by decide +kernel
theorem dL_area_52 : decode cL_area 52 = .ok (.invokestatic 30, 3) := by decide +kernel
theorem dL_area_55 : decode cL_area 55 = .ok (.iconst 0, 1) := by decide +kernel
theorem dL_area_56 : decode cL_area 56 = .ok (.istore 12, 2) := by decide +kernel
theorem dL_area_58 : decode cL_area 58 = .ok (.iload 12, 2) := by decide +kernel
theorem dL_area_60 : decode cL_area 60 = .ok (.bipush 10, 2) := by decide +kernel
theorem dL_area_62 : decode cL_area 62 = .ok (.if_icmp .ge 93, 3) := by decide +kernel
theorem dL_area_65 : decode cL_area 65 = .ok (.aload 9, 2) := by decide +kernel
theorem dL_area_67 : decode cL_area 67 = .ok (.iload 12, 2) := by decide +kernel
theorem dL_area_69 : decode cL_area 69 = .ok (.iconst 0, 1) := by decide +kernel
theorem dL_area_70 : decode cL_area 70 = .ok (.iastore, 1) := by decide +kernel
theorem dL_area_71 : decode cL_area 71 = .ok (.iconst 0, 1) := by decide +kernel
theorem dL_area_72 : decode cL_area 72 = .ok (.istore 13, 2) := by decide +kernel
theorem dL_area_74 : decode cL_area 74 = .ok (.iload 13, 2) := by decide +kernel
theorem dL_area_76 : decode cL_area 76 = .ok (.iload 10, 2) := by decide +kernel
theorem dL_area_78 : decode cL_area 78 = .ok (.if_icmp .gt 51, 3) := by decide +kernel
theorem dL_area_81 : decode cL_area 81 = .ok (.iload 12, 2) := by decide +kernel
theorem dL_area_83 : decode cL_area 83 = .ok (.iload_n 1, 1) := by decide +kernel
theorem dL_area_84 : decode cL_area 84 = .ok (.if_icmp .gt 45, 3) := by decide +kernel
theorem dL_area_87 : decode cL_area 87 = .ok (.iload 12, 2) := by decide +kernel
theorem dL_area_89 : decode cL_area 89 = .ok (.iload_n 1, 1) := by decide +kernel
theorem dL_area_90 : decode cL_area 90 = .ok (.iload 10, 2) := by decide +kernel
theorem dL_area_92 : decode cL_area 92 = .ok (.isub, 1) := by decide +kernel
theorem dL_area_93 : decode cL_area 93 = .ok (.if_icmp .lt 36, 3) := by decide +kernel
theorem dL_area_96 : decode cL_area 96 = .ok (.iload_n 0, 1) := by decide +kernel
theorem dL_area_97 : decode cL_area 97 = .ok (.iload 13, 2) := by decide +kernel
theorem dL_area_99 : decode cL_area 99 = .ok (.isub, 1) := by decide +kernel
theorem dL_area_100 : decode cL_area 100 = .ok (.ifCond .lt 23, 3) := by decide +kernel
theorem dL_area_103 : decode cL_area 103 = .ok (.aload 9, 2) := by decide +kernel
theorem dL_area_105 : decode cL_area 105 = .ok (.iload 12, 2) := by decide +kernel
theorem dL_area_107 : decode cL_area 107 = .ok (.dup2, 1) := by decide +kernel
theorem dL_area_108 : decode cL_area 108 = .ok (.iaload, 1) := by decide +kernel
theorem dL_area_109 : decode cL_area 109 = .ok (.aload 8, 2) := by decide +kernel
theorem dL_area_111 : decode cL_area 111 = .ok (.iload 12, 2) := by decide +kernel
theorem dL_area_113 : decode cL_area 113 = .ok (.iaload, 1) := by decide +kernel
theorem dL_area_114 : decode cL_area 114 = .ok (.iconst 1, 1) := by decide +kernel
theorem dL_area_115 : decode cL_area 115 = .ok (.iload_n 0, 1) := by decide +kernel
theorem dL_area_116 : decode cL_area 116 = .ok (.iload 13, 2) := by decide +kernel
theorem dL_area_118 : decode cL_area 118 = .ok (.isub, 1) := by decide +kernel
theorem dL_area_119 : decode cL_area 119 = .ok (.ishl, 1) := by decide +kernel
theorem dL_area_120 : decode cL_area 120 = .ok (.iand, 1) := by decide +kernel
theorem dL_area_121 : decode cL_area 121 = .ok (.ior, 1) := by decide +kernel
theorem dL_area_122 : decode cL_area 122 = .ok (.iastore, 1) := by decide +kernel
theorem dL_area_123 : decode cL_area 123 = .ok (.iinc 13 1, 3) := by decide +kernel
theorem dL_area_126 : decode cL_area 126 = .ok (.goto (-52), 3) := by decide +kernel
theorem dL_area_129 : decode cL_area 129 = .ok (.iload 11, 2) := by decide +kernel
theorem dL_area_131 : decode cL_area 131 = .ok (.ifCond .ne 11, 3) := by decide +kernel
theorem dL_area_134 : decode cL_area 134 = .ok (.aload 9, 2) := by decide +kernel
theorem dL_area_136 : decode cL_area 136 = .ok (.iload 12, 2) := by decide +kernel
theorem dL_area_138 : decode cL_area 138 = .ok (.iaload, 1) := by decide +kernel
theorem dL_area_139 : decode cL_area 139 = .ok (.ifCond .eq 7, 3) := by decide +kernel
theorem dL_area_142 : decode cL_area 142 = .ok (.iconst 1, 1) := by decide +kernel
theorem dL_area_143 : decode cL_area 143 = .ok (.goto 4, 3) := by decide +kernel
theorem dL_area_146 : decode cL_area 146 = .ok (.iconst 0, 1) := by decide +kernel
theorem dL_area_147 : decode cL_area 147 = .ok (.istore 11, 2) := by decide +kernel
theorem dL_area_149 : decode cL_area 149 = .ok (.iinc 12 1, 3) := by decide +kernel
theorem dL_area_152 : decode cL_area 152 = .ok (.goto (-94), 3) := by decide +kernel
theorem dL_area_155 : decode cL_area 155 = .ok (.goto (-117), 3) := by decide +kernel
theorem dL_area_158 : decode cL_area 158 = .ok (.iconst 1, 1) := by decide +kernel
theorem dL_area_159 : decode cL_area 159 = .ok (.istore 12, 2) := by decide +kernel
theorem dL_area_161 : decode cL_area 161 = .ok (.iload 12, 2) := by decide +kernel
theorem dL_area_163 : decode cL_area 163 = .ok (.ifCond .eq 226, 3) := by decide +kernel
theorem dL_area_166 : decode cL_area 166 = .ok (.iconst 0, 1) := by decide +kernel
theorem dL_area_167 : decode cL_area 167 = .ok (.istore 12, 2) := by decide +kernel
theorem dL_area_169 : decode cL_area 169 = .ok (.iconst 0, 1) := by decide +kernel
theorem dL_area_170 : decode cL_area 170 = .ok (.istore 13, 2) := by decide +kernel
theorem dL_area_172 : decode cL_area 172 = .ok (.iload 13, 2) := by decide +kernel
theorem dL_area_174 : decode cL_area 174 = .ok (.bipush 10, 2) := by decide +kernel
theorem dL_area_176 : decode cL_area 176 = .ok (.if_icmp .ge 210, 3) := by decide +kernel
theorem dL_area_179 : decode cL_area 179 = .ok (.iload 10, 2) := by decide +kernel
theorem dL_area_181 : decode cL_area 181 = .ok (.ifCond .ne 21, 3) := by decide +kernel
theorem dL_area_184 : decode cL_area 184 = .ok (.aload 9, 2) := by decide +kernel
theorem dL_area_186 : decode cL_area 186 = .ok (.iload 13, 2) := by decide +kernel
theorem dL_area_188 : decode cL_area 188 = .ok (.iaload, 1) := by decide +kernel
theorem dL_area_189 : decode cL_area 189 = .ok (.iconst 1, 1) := by decide +kernel
theorem dL_area_190 : decode cL_area 190 = .ok (.ishl, 1) := by decide +kernel
theorem dL_area_191 : decode cL_area 191 = .ok (.aload 9, 2) := by decide +kernel
theorem dL_area_193 : decode cL_area 193 = .ok (.iload 13, 2) := by decide +kernel
theorem dL_area_195 : decode cL_area 195 = .ok (.iaload, 1) := by decide +kernel
theorem dL_area_196 : decode cL_area 196 = .ok (.iconst 1, 1) := by decide +kernel
theorem dL_area_197 : decode cL_area 197 = .ok (.ishr, 1) := by decide +kernel
theorem dL_area_198 : decode cL_area 198 = .ok (.ior, 1) := by decide +kernel
theorem dL_area_199 : decode cL_area 199 = .ok (.goto 4, 3) := by decide +kernel
theorem dL_area_202 : decode cL_area 202 = .ok (.iconst 0, 1) := by decide +kernel
theorem dL_area_203 : decode cL_area 203 = .ok (.istore 14, 2) := by decide +kernel
theorem dL_area_205 : decode cL_area 205 = .ok (.iload 10, 2) := by decide +kernel
theorem dL_area_207 : decode cL_area 207 = .ok (.ifCond .ne 43, 3) := by decide +kernel
theorem dL_area_210 : decode cL_area 210 = .ok (.iload 14, 2) := by decide +kernel
theorem dL_area_212 : decode cL_area 212 = .ok (.iload 13, 2) := by decide +kernel
theorem dL_area_214 : decode cL_area 214 = .ok (.ifCond .le 13, 3) := by decide +kernel
theorem dL_area_217 : decode cL_area 217 = .ok (.aload 9, 2) := by decide +kernel
theorem dL_area_219 : decode cL_area 219 = .ok (.iload 13, 2) := by decide +kernel
theorem dL_area_221 : decode cL_area 221 = .ok (.iconst 1, 1) := by decide +kernel
theorem dL_area_222 : decode cL_area 222 = .ok (.isub, 1) := by decide +kernel
theorem dL_area_223 : decode cL_area 223 = .ok (.iaload, 1) := by decide +kernel
theorem dL_area_224 : decode cL_area 224 = .ok (.goto 4, 3) := by decide +kernel
theorem dL_area_227 : decode cL_area 227 = .ok (.iconst 0, 1) := by decide +kernel
theorem dL_area_228 : decode cL_area 228 = .ok (.iload 13, 2) := by decide +kernel
theorem dL_area_230 : decode cL_area 230 = .ok (.bipush 9, 2) := by decide +kernel
theorem dL_area_232 : decode cL_area 232 = .ok (.if_icmp .ge 13, 3) := by decide +kernel
theorem dL_area_235 : decode cL_area 235 = .ok (.aload 9, 2) := by decide +kernel
theorem dL_area_237 : decode cL_area 237 = .ok (.iload 13, 2) := by decide +kernel
theorem dL_area_239 : decode cL_area 239 = .ok (.iconst 1, 1) := by decide +kernel
theorem dL_area_240 : decode cL_area 240 = .ok (.iadd, 1) := by decide +kernel
theorem dL_area_241 : decode cL_area 241 = .ok (.iaload, 1) := by decide +kernel
theorem dL_area_242 : decode cL_area 242 = .ok (.goto 4, 3) := by decide +kernel
theorem dL_area_245 : decode cL_area 245 = .ok (.iconst 0, 1) := by decide +kernel
theorem dL_area_246 : decode cL_area 246 = .ok (.ior, 1) := by decide +kernel
theorem dL_area_247 : decode cL_area 247 = .ok (.ior, 1) := by decide +kernel
theorem dL_area_248 : decode cL_area 248 = .ok (.istore 14, 2) := by decide +kernel
theorem dL_area_250 : decode cL_area 250 = .ok (.iload 13, 2) := by decide +kernel
theorem dL_area_252 : decode cL_area 252 = .ok (.iload 10, 2) := by decide +kernel
theorem dL_area_254 : decode cL_area 254 = .ok (.isub, 1) := by decide +kernel
theorem dL_area_255 : decode cL_area 255 = .ok (.ifCond .ge 7, 3) := by decide +kernel
theorem dL_area_258 : decode cL_area 258 = .ok (.iconst 0, 1) := by decide +kernel
theorem dL_area_259 : decode cL_area 259 = .ok (.goto 8, 3) := by decide +kernel
theorem dL_area_262 : decode cL_area 262 = .ok (.iload 13, 2) := by decide +kernel
theorem dL_area_264 : decode cL_area 264 = .ok (.iload 10, 2) := by decide +kernel
theorem dL_area_266 : decode cL_area 266 = .ok (.isub, 1) := by decide +kernel
theorem dL_area_267 : decode cL_area 267 = .ok (.istore 15, 2) := by decide +kernel
theorem dL_area_269 : decode cL_area 269 = .ok (.iload 15, 2) := by decide +kernel
theorem dL_area_271 : decode cL_area 271 = .ok (.iload 13, 2) := by decide +kernel
theorem dL_area_273 : decode cL_area 273 = .ok (.iload 10, 2) := by decide +kernel
theorem dL_area_275 : decode cL_area 275 = .ok (.iadd, 1) := by decide +kernel
theorem dL_area_276 : decode cL_area 276 = .ok (.if_icmp .gt 59, 3) := by decide +kernel
theorem dL_area_279 : decode cL_area 279 = .ok (.iload 15, 2) := by decide +kernel
theorem dL_area_281 : decode cL_area 281 = .ok (.bipush 10, 2) := by decide +kernel
theorem dL_area_283 : decode cL_area 283 = .ok (.if_icmp .ge 52, 3) := by decide +kernel
theorem dL_area_286 : decode cL_area 286 = .ok (.iload 10, 2) := by decide +kernel
theorem dL_area_288 : decode cL_area 288 = .ok (.ifCond .le 47, 3) := by decide +kernel
theorem dL_area_291 : decode cL_area 291 = .ok (.iconst 0, 1) := by decide +kernel
theorem dL_area_292 : decode cL_area 292 = .ok (.istore 16, 2) := by decide +kernel
theorem dL_area_294 : decode cL_area 294 = .ok (.iload 16, 2) := by decide +kernel
theorem dL_area_296 : decode cL_area 296 = .ok (.iload 10, 2) := by decide +kernel
theorem dL_area_298 : decode cL_area 298 = .ok (.if_icmp .gt 31, 3) := by decide +kernel
theorem dL_area_301 : decode cL_area 301 = .ok (.iload 14, 2) := by decide +kernel
theorem dL_area_303 : decode cL_area 303 = .ok (.aload 9, 2) := by decide +kernel
theorem dL_area_305 : decode cL_area 305 = .ok (.iload 15, 2) := by decide +kernel
theorem dL_area_307 : decode cL_area 307 = .ok (.iaload, 1) := by decide +kernel
theorem dL_area_308 : decode cL_area 308 = .ok (.iload 16, 2) := by decide +kernel
theorem dL_area_310 : decode cL_area 310 = .ok (.ishl, 1) := by decide +kernel
theorem dL_area_311 : decode cL_area 311 = .ok (.aload 9, 2) := by decide +kernel
theorem dL_area_313 : decode cL_area 313 = .ok (.iload 15, 2) := by decide +kernel
theorem dL_area_315 : decode cL_area 315 = .ok (.iaload, 1) := by decide +kernel
theorem dL_area_316 : decode cL_area 316 = .ok (.iload 16, 2) := by decide +kernel
theorem dL_area_318 : decode cL_area 318 = .ok (.ishr, 1) := by decide +kernel
theorem dL_area_319 : decode cL_area 319 = .ok (.ior, 1) := by decide +kernel
theorem dL_area_320 : decode cL_area 320 = .ok (.ior, 1) := by decide +kernel
theorem dL_area_321 : decode cL_area 321 = .ok (.istore 14, 2) := by decide +kernel
theorem dL_area_323 : decode cL_area 323 = .ok (.iinc 16 1, 3) := by decide +kernel
theorem dL_area_326 : decode cL_area 326 = .ok (.goto (-32), 3) := by decide +kernel
theorem dL_area_329 : decode cL_area 329 = .ok (.iinc 15 1, 3) := by decide +kernel
theorem dL_area_332 : decode cL_area 332 = .ok (.goto (-63), 3) := by decide +kernel
theorem dL_area_335 : decode cL_area 335 = .ok (.aload 9, 2) := by decide +kernel
theorem dL_area_337 : decode cL_area 337 = .ok (.iload 13, 2) := by decide +kernel
theorem dL_area_339 : decode cL_area 339 = .ok (.iaload, 1) := by decide +kernel
theorem dL_area_340 : decode cL_area 340 = .ok (.aload 8, 2) := by decide +kernel
theorem dL_area_342 : decode cL_area 342 = .ok (.iload 13, 2) := by decide +kernel
theorem dL_area_344 : decode cL_area 344 = .ok (.iaload, 1) := by decide +kernel
theorem dL_area_345 : decode cL_area 345 = .ok (.iload 14, 2) := by decide +kernel
theorem dL_area_347 : decode cL_area 347 = .ok (.iand, 1) := by decide +kernel
theorem dL_area_348 : decode cL_area 348 = .ok (.ior, 1) := by decide +kernel
theorem dL_area_349 : decode cL_area 349 = .ok (.istore 15, 2) := by decide +kernel
theorem dL_area_351 : decode cL_area 351 = .ok (.iload 12, 2) := by decide +kernel
theorem dL_area_353 : decode cL_area 353 = .ok (.ifCond .ne 13, 3) := by decide +kernel
theorem dL_area_356 : decode cL_area 356 = .ok (.iload 15, 2) := by decide +kernel
theorem dL_area_358 : decode cL_area 358 = .ok (.aload 9, 2) := by decide +kernel
theorem dL_area_360 : decode cL_area 360 = .ok (.iload 13, 2) := by decide +kernel
theorem dL_area_362 : decode cL_area 362 = .ok (.iaload, 1) := by decide +kernel
theorem dL_area_363 : decode cL_area 363 = .ok (.if_icmp .eq 7, 3) := by decide +kernel
theorem dL_area_366 : decode cL_area 366 = .ok (.iconst 1, 1) := by decide +kernel
theorem dL_area_367 : decode cL_area 367 = .ok (.goto 4, 3) := by decide +kernel
theorem dL_area_370 : decode cL_area 370 = .ok (.iconst 0, 1) := by decide +kernel
theorem dL_area_371 : decode cL_area 371 = .ok (.istore 12, 2) := by decide +kernel
theorem dL_area_373 : decode cL_area 373 = .ok (.aload 9, 2) := by decide +kernel
theorem dL_area_375 : decode cL_area 375 = .ok (.iload 13, 2) := by decide +kernel
theorem dL_area_377 : decode cL_area 377 = .ok (.iload 15, 2) := by decide +kernel
theorem dL_area_379 : decode cL_area 379 = .ok (.iastore, 1) := by decide +kernel
theorem dL_area_380 : decode cL_area 380 = .ok (.iinc 13 1, 3) := by decide +kernel
theorem dL_area_383 : decode cL_area 383 = .ok (.goto (-211), 3) := by decide +kernel
theorem dL_area_386 : decode cL_area 386 = .ok (.goto (-225), 3) := by decide +kernel
theorem dL_area_389 : decode cL_area 389 = .ok (.iconst 0, 1) := by decide +kernel
theorem dL_area_390 : decode cL_area 390 = .ok (.istore 13, 2) := by decide +kernel
theorem dL_area_392 : decode cL_area 392 = .ok (.iload 13, 2) := by decide +kernel
theorem dL_area_394 : decode cL_area 394 = .ok (.bipush 10, 2) := by decide +kernel
theorem dL_area_396 : decode cL_area 396 = .ok (.if_icmp .ge 15, 3) := by decide +kernel
theorem dL_area_399 : decode cL_area 399 = .ok (.aload 6, 2) := by decide +kernel
theorem dL_area_401 : decode cL_area 401 = .ok (.iload 13, 2) := by decide +kernel
theorem dL_area_403 : decode cL_area 403 = .ok (.iconst 0, 1) := by decide +kernel
theorem dL_area_404 : decode cL_area 404 = .ok (.iastore, 1) := by decide +kernel
theorem dL_area_405 : decode cL_area 405 = .ok (.iinc 13 1, 3) := by decide +kernel
theorem dL_area_408 : decode cL_area 408 = .ok (.goto (-16), 3) := by decide +kernel
theorem dL_area_411 : decode cL_area 411 = .ok (.iconst 0, 1) := by decide +kernel
theorem dL_area_412 : decode cL_area 412 = .ok (.istore 13, 2) := by decide +kernel
theorem dL_area_414 : decode cL_area 414 = .ok (.iload 13, 2) := by decide +kernel
theorem dL_area_416 : decode cL_area 416 = .ok (.bipush 10, 2) := by decide +kernel
theorem dL_area_418 : decode cL_area 418 = .ok (.if_icmp .ge 70, 3) := by decide +kernel
theorem dL_area_421 : decode cL_area 421 = .ok (.iconst 0, 1) := by decide +kernel
theorem dL_area_422 : decode cL_area 422 = .ok (.istore 14, 2) := by decide +kernel
theorem dL_area_424 : decode cL_area 424 = .ok (.iload 14, 2) := by decide +kernel
theorem dL_area_426 : decode cL_area 426 = .ok (.iload 10, 2) := by decide +kernel
theorem dL_area_428 : decode cL_area 428 = .ok (.if_icmp .gt 54, 3) := by decide +kernel
theorem dL_area_431 : decode cL_area 431 = .ok (.iload 13, 2) := by decide +kernel
theorem dL_area_433 : decode cL_area 433 = .ok (.iload 14, 2) := by decide +kernel
theorem dL_area_435 : decode cL_area 435 = .ok (.iadd, 1) := by decide +kernel
theorem dL_area_436 : decode cL_area 436 = .ok (.bipush 10, 2) := by decide +kernel
theorem dL_area_438 : decode cL_area 438 = .ok (.if_icmp .ge 44, 3) := by decide +kernel
theorem dL_area_441 : decode cL_area 441 = .ok (.iconst 0, 1) := by decide +kernel
theorem dL_area_442 : decode cL_area 442 = .ok (.istore 15, 2) := by decide +kernel
theorem dL_area_444 : decode cL_area 444 = .ok (.iload 15, 2) := by decide +kernel
theorem dL_area_446 : decode cL_area 446 = .ok (.iload 10, 2) := by decide +kernel
theorem dL_area_448 : decode cL_area 448 = .ok (.if_icmp .gt 28, 3) := by decide +kernel
theorem dL_area_451 : decode cL_area 451 = .ok (.aload 6, 2) := by decide +kernel
theorem dL_area_453 : decode cL_area 453 = .ok (.iload 13, 2) := by decide +kernel
theorem dL_area_455 : decode cL_area 455 = .ok (.iload 14, 2) := by decide +kernel
theorem dL_area_457 : decode cL_area 457 = .ok (.iadd, 1) := by decide +kernel
theorem dL_area_458 : decode cL_area 458 = .ok (.dup2, 1) := by decide +kernel
theorem dL_area_459 : decode cL_area 459 = .ok (.iaload, 1) := by decide +kernel
theorem dL_area_460 : decode cL_area 460 = .ok (.aload 9, 2) := by decide +kernel
theorem dL_area_462 : decode cL_area 462 = .ok (.iload 13, 2) := by decide +kernel
theorem dL_area_464 : decode cL_area 464 = .ok (.iaload, 1) := by decide +kernel
theorem dL_area_465 : decode cL_area 465 = .ok (.iload 15, 2) := by decide +kernel
theorem dL_area_467 : decode cL_area 467 = .ok (.ishl, 1) := by decide +kernel
theorem dL_area_468 : decode cL_area 468 = .ok (.ior, 1) := by decide +kernel
theorem dL_area_469 : decode cL_area 469 = .ok (.iastore, 1) := by decide +kernel
theorem dL_area_470 : decode cL_area 470 = .ok (.iinc 15 1, 3) := by decide +kernel
theorem dL_area_473 : decode cL_area 473 = .ok (.goto (-29), 3) := by decide +kernel
theorem dL_area_476 : decode cL_area 476 = .ok (.iinc 14 1, 3) := by decide +kernel
theorem dL_area_479 : decode cL_area 479 = .ok (.goto (-55), 3) := by decide +kernel
theorem dL_area_482 : decode cL_area 482 = .ok (.iinc 13 1, 3) := by decide +kernel
theorem dL_area_485 : decode cL_area 485 = .ok (.goto (-71), 3) := by decide +kernel
theorem dL_area_488 : decode cL_area 488 = .ok (.iload 10, 2) := by decide +kernel
theorem dL_area_490 : decode cL_area 490 = .ok (.ireturn, 1) := by decide +kernel
theorem dL_size_0 : decode cL_size 0 = .ok (.iconst 0, 1) := by decide +kernel
theorem dL_size_1 : decode cL_size 1 = .ok (.istore_n 1, 1) := by decide +kernel
theorem dL_size_2 : decode cL_size 2 = .ok (.iconst 0, 1) := by decide +kernel
theorem dL_size_3 : decode cL_size 3 = .ok (.istore_n 2, 1) := by decide +kernel
theorem dL_size_4 : decode cL_size 4 = .ok (.iload_n 2, 1) := by decide +kernel
theorem dL_size_5 : decode cL_size 5 = .ok (.sipush 160, 3) := by decide +kernel
theorem dL_size_8 : decode cL_size 8 = .ok (.if_icmp .ge 25, 3) := by decide +kernel
theorem dL_size_11 : decode cL_size 11 = .ok (.iload_n 1, 1) := by decide +kernel
theorem dL_size_12 : decode cL_size 12 = .ok (.aload_n 0, 1) := by decide +kernel
theorem dL_size_13 : decode cL_size 13 = .ok (.iload_n 2, 1) := by decide +kernel
theorem dL_size_14 : decode cL_size 14 = .ok (.bipush 16, 2) := by decide +kernel
theorem dL_size_16 : decode cL_size 16 = .ok (.idiv, 1) := by decide +kernel
theorem dL_size_17 : decode cL_size 17 = .ok (.iaload, 1) := by decide +kernel
theorem dL_size_18 : decode cL_size 18 = .ok (.iload_n 2, 1) := by decide +kernel
theorem dL_size_19 : decode cL_size 19 = .ok (.bipush 16, 2) := by decide +kernel
theorem dL_size_21 : decode cL_size 21 = .ok (.irem, 1) := by decide +kernel
theorem dL_size_22 : decode cL_size 22 = .ok (.ishr, 1) := by decide +kernel
theorem dL_size_23 : decode cL_size 23 = .ok (.iconst 1, 1) := by decide +kernel
theorem dL_size_24 : decode cL_size 24 = .ok (.iand, 1) := by decide +kernel
theorem dL_size_25 : decode cL_size 25 = .ok (.iadd, 1) := by decide +kernel
theorem dL_size_26 : decode cL_size 26 = .ok (.istore_n 1, 1) := by decide +kernel
theorem dL_size_27 : decode cL_size 27 = .ok (.iinc 2 1, 3) := by decide +kernel
theorem dL_size_30 : decode cL_size 30 = .ok (.goto (-26), 3) := by decide +kernel
theorem dL_size_33 : decode cL_size 33 = .ok (.iload_n 1, 1) := by decide +kernel
theorem dL_size_34 : decode cL_size 34 = .ok (.ireturn, 1) := by decide +kernel
theorem dL_soften_0 : decode cL_soften 0 = .ok (.bipush 10, 2) := by decide +kernel
theorem dL_soften_2 : decode cL_soften 2 = .ok (.newarray .int, 2) := by decide +kernel
theorem dL_soften_4 : decode cL_soften 4 = .ok (.astore 4, 2) := by decide +kernel
theorem dL_soften_6 : decode cL_soften 6 = .ok (.bipush 10, 2) := by decide +kernel
theorem dL_soften_8 : decode cL_soften 8 = .ok (.newarray .int, 2) := by decide +kernel
theorem dL_soften_10 : decode cL_soften 10 = .ok (.astore 5, 2) := by decide +kernel
theorem dL_soften_12 : decode cL_soften 12 = .ok (.iconst 0, 1) := by decide +kernel
theorem dL_soften_13 : decode cL_soften 13 = .ok (.istore 6, 2) := by decide +kernel
theorem dL_soften_15 : decode cL_soften 15 = .ok (.iload 6, 2) := by decide +kernel
theorem dL_soften_17 : decode cL_soften 17 = .ok (.bipush 10, 2) := by decide +kernel
theorem dL_soften_19 : decode cL_soften 19 = .ok (.if_icmp .ge 18, 3) := by decide +kernel
theorem dL_soften_22 : decode cL_soften 22 = .ok (.aload 4, 2) := by decide +kernel
theorem dL_soften_24 : decode cL_soften 24 = .ok (.iload 6, 2) := by decide +kernel
theorem dL_soften_26 : decode cL_soften 26 = .ok (.aload_n 2, 1) := by decide +kernel
theorem dL_soften_27 : decode cL_soften 27 = .ok (.iload 6, 2) := by decide +kernel
theorem dL_soften_29 : decode cL_soften 29 = .ok (.iaload, 1) := by decide +kernel
theorem dL_soften_30 : decode cL_soften 30 = .ok (.iastore, 1) := by decide +kernel
theorem dL_soften_31 : decode cL_soften 31 = .ok (.iinc 6 1, 3) := by decide +kernel
theorem dL_soften_34 : decode cL_soften 34 = .ok (.goto (-19), 3) := by decide +kernel
theorem dL_soften_37 : decode cL_soften 37 = .ok (.iconst 0, 1) := by decide +kernel
theorem dL_soften_38 : decode cL_soften 38 = .ok (.istore 6, 2) := by decide +kernel
theorem dL_soften_40 : decode cL_soften 40 = .ok (.iload 6, 2) := by decide +kernel
theorem dL_soften_42 : decode cL_soften 42 = .ok (.sipush 160, 3) := by decide +kernel
theorem dL_soften_45 : decode cL_soften 45 = .ok (.if_icmp .ge 48, 3) := by decide +kernel
theorem dL_soften_48 : decode cL_soften 48 = .ok (.aload_n 3, 1) := by decide +kernel
theorem dL_soften_49 : decode cL_soften 49 = .ok (.iload_n 1, 1) := by decide +kernel
theorem dL_soften_50 : decode cL_soften 50 = .ok (.iload 6, 2) := by decide +kernel
theorem dL_soften_52 : decode cL_soften 52 = .ok (.bipush 16, 2) := by decide +kernel
theorem dL_soften_54 : decode cL_soften 54 = .ok (.irem, 1) := by decide +kernel
theorem dL_soften_55 : decode cL_soften 55 = .ok (.iload 6, 2) := by decide +kernel
theorem dL_soften_57 : decode cL_soften 57 = .ok (.bipush 16, 2) := by decide +kernel
theorem dL_soften_59 : decode cL_soften 59 = .ok (.idiv, 1) := by decide +kernel
theorem dL_soften_60 : decode cL_soften 60 = .ok (.aload 4, 2) := by decide +kernel
theorem dL_soften_62 : decode cL_soften 62 = .ok (.iload 6, 2) := by decide +kernel
theorem dL_soften_64 : decode cL_soften 64 = .ok (.bipush 16, 2) := by decide +kernel
theorem dL_soften_66 : decode cL_soften 66 = .ok (.irem, 1) := by decide +kernel
theorem dL_soften_67 : decode cL_soften 67 = .ok (.iload 6, 2) := by decide +kernel
theorem dL_soften_69 : decode cL_soften 69 = .ok (.bipush 16, 2) := by decide +kernel
theorem dL_soften_71 : decode cL_soften 71 = .ok (.idiv, 1) := by decide +kernel
theorem dL_soften_72 : decode cL_soften 72 = .ok (.invokestatic 22, 3) := by decide +kernel
theorem dL_soften_75 : decode cL_soften 75 = .ok (.ifCond .eq 8, 3) := by decide +kernel
theorem dL_soften_78 : decode cL_soften 78 = .ok (.bipush 100, 2) := by decide +kernel
theorem dL_soften_80 : decode cL_soften 80 = .ok (.goto 4, 3) := by decide +kernel
theorem dL_soften_83 : decode cL_soften 83 = .ok (.iconst 0, 1) := by decide +kernel
theorem dL_soften_84 : decode cL_soften 84 = .ok (.invokestatic 34, 3) := by decide +kernel
theorem dL_soften_87 : decode cL_soften 87 = .ok (.iinc 6 1, 3) := by decide +kernel
theorem dL_soften_90 : decode cL_soften 90 = .ok (.goto (-50), 3) := by decide +kernel
theorem dL_soften_93 : decode cL_soften 93 = .ok (.iconst 1, 1) := by decide +kernel
theorem dL_soften_94 : decode cL_soften 94 = .ok (.istore 6, 2) := by decide +kernel
theorem dL_soften_96 : decode cL_soften 96 = .ok (.iload 6, 2) := by decide +kernel
theorem dL_soften_98 : decode cL_soften 98 = .ok (.iload_n 0, 1) := by decide +kernel
theorem dL_soften_99 : decode cL_soften 99 = .ok (.if_icmp .gt 195, 3) := by decide +kernel
theorem dL_soften_102 : decode cL_soften 102 = .ok (.iconst 0, 1) := by decide +kernel
theorem dL_soften_103 : decode cL_soften 103 = .ok (.istore 7, 2) := by decide +kernel
theorem dL_soften_105 : decode cL_soften 105 = .ok (.iload 7, 2) := by decide +kernel
theorem dL_soften_107 : decode cL_soften 107 = .ok (.bipush 10, 2) := by decide +kernel
theorem dL_soften_109 : decode cL_soften 109 = .ok (.if_icmp .ge 72, 3) := by decide +kernel
theorem dL_soften_112 : decode cL_soften 112 = .ok (.aload 4, 2) := by decide +kernel
theorem dL_soften_114 : decode cL_soften 114 = .ok (.iload 7, 2) := by decide +kernel
theorem dL_soften_116 : decode cL_soften 116 = .ok (.iaload, 1) := by decide +kernel
theorem dL_soften_117 : decode cL_soften 117 = .ok (.iload 7, 2) := by decide +kernel
theorem dL_soften_119 : decode cL_soften 119 = .ok (.ifCond .le 13, 3) := by decide +kernel
theorem dL_soften_122 : decode cL_soften 122 = .ok (.aload 4, 2) := by decide +kernel
theorem dL_soften_124 : decode cL_soften 124 = .ok (.iload 7, 2) := by decide +kernel
theorem dL_soften_126 : decode cL_soften 126 = .ok (.iconst 1, 1) := by decide +kernel
theorem dL_soften_127 : decode cL_soften 127 = .ok (.isub, 1) := by decide +kernel
theorem dL_soften_128 : decode cL_soften 128 = .ok (.iaload, 1) := by decide +kernel
theorem dL_soften_129 : decode cL_soften 129 = .ok (.goto 4, 3) := by decide +kernel
theorem dL_soften_132 : decode cL_soften 132 = .ok (.iconst 0, 1) := by decide +kernel
theorem dL_soften_133 : decode cL_soften 133 = .ok (.ior, 1) := by decide +kernel
theorem dL_soften_134 : decode cL_soften 134 = .ok (.iload 7, 2) := by decide +kernel
theorem dL_soften_136 : decode cL_soften 136 = .ok (.bipush 9, 2) := by decide +kernel
theorem dL_soften_138 : decode cL_soften 138 = .ok (.if_icmp .ge 13, 3) := by decide +kernel
theorem dL_soften_141 : decode cL_soften 141 = .ok (.aload 4, 2) := by decide +kernel
theorem dL_soften_143 : decode cL_soften 143 = .ok (.iload 7, 2) := by decide +kernel
theorem dL_soften_145 : decode cL_soften 145 = .ok (.iconst 1, 1) := by decide +kernel
theorem dL_soften_146 : decode cL_soften 146 = .ok (.iadd, 1) := by decide +kernel
theorem dL_soften_147 : decode cL_soften 147 = .ok (.iaload, 1) := by decide +kernel
theorem dL_soften_148 : decode cL_soften 148 = .ok (.goto 4, 3) := by decide +kernel
theorem dL_soften_151 : decode cL_soften 151 = .ok (.iconst 0, 1) := by decide +kernel
theorem dL_soften_152 : decode cL_soften 152 = .ok (.ior, 1) := by decide +kernel
theorem dL_soften_153 : decode cL_soften 153 = .ok (.istore 8, 2) := by decide +kernel
theorem dL_soften_155 : decode cL_soften 155 = .ok (.aload 5, 2) := by decide +kernel
theorem dL_soften_157 : decode cL_soften 157 = .ok (.iload 7, 2) := by decide +kernel
theorem dL_soften_159 : decode cL_soften 159 = .ok (.iload 8, 2) := by decide +kernel
theorem dL_soften_161 : decode cL_soften 161 = .ok (.iload 8, 2) := by decide +kernel
theorem dL_soften_163 : decode cL_soften 163 = .ok (.iconst 1, 1) := by decide +kernel
theorem dL_soften_164 : decode cL_soften 164 = .ok (.ishl, 1) := by decide +kernel
theorem dL_soften_165 : decode cL_soften 165 = .ok (.ior, 1) := by decide +kernel
theorem dL_soften_166 : decode cL_soften 166 = .ok (.iload 8, 2) := by decide +kernel
theorem dL_soften_168 : decode cL_soften 168 = .ok (.iconst 1, 1) := by decide +kernel
theorem dL_soften_169 : decode cL_soften 169 = .ok (.ishr, 1) := by decide +kernel
theorem dL_soften_170 : decode cL_soften 170 = .ok (.ior, 1) := by decide +kernel
theorem dL_soften_171 : decode cL_soften 171 = .ok (.ldc 38, 2) := by decide +kernel
theorem dL_soften_173 : decode cL_soften 173 = .ok (.iand, 1) := by decide +kernel
theorem dL_soften_174 : decode cL_soften 174 = .ok (.iastore, 1) := by decide +kernel
theorem dL_soften_175 : decode cL_soften 175 = .ok (.iinc 7 1, 3) := by decide +kernel
theorem dL_soften_178 : decode cL_soften 178 = .ok (.goto (-73), 3) := by decide +kernel
theorem dL_soften_181 : decode cL_soften 181 = .ok (.iconst 0, 1) := by decide +kernel
theorem dL_soften_182 : decode cL_soften 182 = .ok (.istore 7, 2) := by decide +kernel
theorem dL_soften_184 : decode cL_soften 184 = .ok (.iload 7, 2) := by decide +kernel
theorem dL_soften_186 : decode cL_soften 186 = .ok (.sipush 160, 3) := by decide +kernel
theorem dL_soften_189 : decode cL_soften 189 = .ok (.if_icmp .ge 73, 3) := by decide +kernel
theorem dL_soften_192 : decode cL_soften 192 = .ok (.aload 5, 2) := by decide +kernel
theorem dL_soften_194 : decode cL_soften 194 = .ok (.iload 7, 2) := by decide +kernel
theorem dL_soften_196 : decode cL_soften 196 = .ok (.bipush 16, 2) := by decide +kernel
theorem dL_soften_198 : decode cL_soften 198 = .ok (.irem, 1) := by decide +kernel
theorem dL_soften_199 : decode cL_soften 199 = .ok (.iload 7, 2) := by decide +kernel
theorem dL_soften_201 : decode cL_soften 201 = .ok (.bipush 16, 2) := by decide +kernel
theorem dL_soften_203 : decode cL_soften 203 = .ok (.idiv, 1) := by decide +kernel
theorem dL_soften_204 : decode cL_soften 204 = .ok (.invokestatic 22, 3) := by decide +kernel
theorem dL_soften_207 : decode cL_soften 207 = .ok (.ifCond .eq 49, 3) := by decide +kernel
theorem dL_soften_210 : decode cL_soften 210 = .ok (.aload 4, 2) := by decide +kernel
theorem dL_soften_212 : decode cL_soften 212 = .ok (.iload 7, 2) := by decide +kernel
theorem dL_soften_214 : decode cL_soften 214 = .ok (.bipush 16, 2) := by decide +kernel
theorem dL_soften_216 : decode cL_soften 216 = .ok (.irem, 1) := by decide +kernel
theorem dL_soften_217 : decode cL_soften 217 = .ok (.iload 7, 2) := by decide +kernel
theorem dL_soften_219 : decode cL_soften 219 = .ok (.bipush 16, 2) := by decide +kernel
theorem dL_soften_221 : decode cL_soften 221 = .ok (.idiv, 1) := by decide +kernel
theorem dL_soften_222 : decode cL_soften 222 = .ok (.invokestatic 22, 3) := by decide +kernel
theorem dL_soften_225 : decode cL_soften 225 = .ok (.ifCond .ne 31, 3) := by decide +kernel
theorem dL_soften_228 : decode cL_soften 228 = .ok (.aload_n 3, 1) := by decide +kernel
theorem dL_soften_229 : decode cL_soften 229 = .ok (.iload_n 1, 1) := by decide +kernel
theorem dL_soften_230 : decode cL_soften 230 = .ok (.iload 7, 2) := by decide +kernel
theorem dL_soften_232 : decode cL_soften 232 = .ok (.bipush 16, 2) := by decide +kernel
theorem dL_soften_234 : decode cL_soften 234 = .ok (.irem, 1) := by decide +kernel
theorem dL_soften_235 : decode cL_soften 235 = .ok (.iload 7, 2) := by decide +kernel
theorem dL_soften_237 : decode cL_soften 237 = .ok (.bipush 16, 2) := by decide +kernel
theorem dL_soften_239 : decode cL_soften 239 = .ok (.idiv, 1) := by decide +kernel
theorem dL_soften_240 : decode cL_soften 240 = .ok (.bipush 100, 2) := by decide +kernel
theorem dL_soften_242 : decode cL_soften 242 = .ok (.iload_n 0, 1) := by decide +kernel
theorem dL_soften_243 : decode cL_soften 243 = .ok (.iconst 1, 1) := by decide +kernel
theorem dL_soften_244 : decode cL_soften 244 = .ok (.iadd, 1) := by decide +kernel
theorem dL_soften_245 : decode cL_soften 245 = .ok (.iload 6, 2) := by decide +kernel
theorem dL_soften_247 : decode cL_soften 247 = .ok (.isub, 1) := by decide +kernel
theorem dL_soften_248 : decode cL_soften 248 = .ok (.imul, 1) := by decide +kernel
theorem dL_soften_249 : decode cL_soften 249 = .ok (.iload_n 0, 1) := by decide +kernel
theorem dL_soften_250 : decode cL_soften 250 = .ok (.iconst 1, 1) := by decide +kernel
theorem dL_soften_251 : decode cL_soften 251 = .ok (.iadd, 1) := by decide +kernel
theorem dL_soften_252 : decode cL_soften 252 = .ok (.idiv, 1) := by decide +kernel
theorem dL_soften_253 : decode cL_soften 253 = .ok (.invokestatic 34, 3) := by decide +kernel
theorem dL_soften_256 : decode cL_soften 256 = .ok (.iinc 7 1, 3) := by decide +kernel
theorem dL_soften_259 : decode cL_soften 259 = .ok (.goto (-75), 3) := by decide +kernel
theorem dL_soften_262 : decode cL_soften 262 = .ok (.iconst 0, 1) := by decide +kernel
theorem dL_soften_263 : decode cL_soften 263 = .ok (.istore 7, 2) := by decide +kernel
theorem dL_soften_265 : decode cL_soften 265 = .ok (.iload 7, 2) := by decide +kernel
theorem dL_soften_267 : decode cL_soften 267 = .ok (.bipush 10, 2) := by decide +kernel
theorem dL_soften_269 : decode cL_soften 269 = .ok (.if_icmp .ge 19, 3) := by decide +kernel
theorem dL_soften_272 : decode cL_soften 272 = .ok (.aload 4, 2) := by decide +kernel
theorem dL_soften_274 : decode cL_soften 274 = .ok (.iload 7, 2) := by decide +kernel
theorem dL_soften_276 : decode cL_soften 276 = .ok (.aload 5, 2) := by decide +kernel
theorem dL_soften_278 : decode cL_soften 278 = .ok (.iload 7, 2) := by decide +kernel
theorem dL_soften_280 : decode cL_soften 280 = .ok (.iaload, 1) := by decide +kernel
theorem dL_soften_281 : decode cL_soften 281 = .ok (.iastore, 1) := by decide +kernel
theorem dL_soften_282 : decode cL_soften 282 = .ok (.iinc 7 1, 3) := by decide +kernel
theorem dL_soften_285 : decode cL_soften 285 = .ok (.goto (-20), 3) := by decide +kernel
theorem dL_soften_288 : decode cL_soften 288 = .ok (.iinc 6 1, 3) := by decide +kernel
theorem dL_soften_291 : decode cL_soften 291 = .ok (.goto (-195), 3) := by decide +kernel
theorem dL_soften_294 : decode cL_soften 294 = .ok (.return_, 1) := by decide +kernel
theorem dL_mask_0 : decode cL_mask 0 = .ok (.iconst 0, 1) := by decide +kernel
theorem dL_mask_1 : decode cL_mask 1 = .ok (.istore 5, 2) := by decide +kernel
theorem dL_mask_3 : decode cL_mask 3 = .ok (.iconst 0, 1) := by decide +kernel
theorem dL_mask_4 : decode cL_mask 4 = .ok (.istore 6, 2) := by decide +kernel
theorem dL_mask_6 : decode cL_mask 6 = .ok (.iload 6, 2) := by decide +kernel
theorem dL_mask_8 : decode cL_mask 8 = .ok (.aload 4, 2) := by decide +kernel
theorem dL_mask_10 : decode cL_mask 10 = .ok (.iconst 0, 1) := by decide +kernel
theorem dL_mask_11 : decode cL_mask 11 = .ok (.iaload, 1) := by decide +kernel
theorem dL_mask_12 : decode cL_mask 12 = .ok (.if_icmp .ge 116, 3) := by decide +kernel
theorem dL_mask_15 : decode cL_mask 15 = .ok (.aload_n 3, 1) := by decide +kernel
theorem dL_mask_16 : decode cL_mask 16 = .ok (.bipush 9, 2) := by decide +kernel
theorem dL_mask_18 : decode cL_mask 18 = .ok (.iload 6, 2) := by decide +kernel
theorem dL_mask_20 : decode cL_mask 20 = .ok (.imul, 1) := by decide +kernel
theorem dL_mask_21 : decode cL_mask 21 = .ok (.bipush 7, 2) := by decide +kernel
theorem dL_mask_23 : decode cL_mask 23 = .ok (.iadd, 1) := by decide +kernel
theorem dL_mask_24 : decode cL_mask 24 = .ok (.iaload, 1) := by decide +kernel
theorem dL_mask_25 : decode cL_mask 25 = .ok (.ifCond .ne 6, 3) := by decide +kernel
theorem dL_mask_28 : decode cL_mask 28 = .ok (.goto 94, 3) := by decide +kernel
theorem dL_mask_31 : decode cL_mask 31 = .ok (.aload_n 2, 1) := by decide +kernel
theorem dL_mask_32 : decode cL_mask 32 = .ok (.bipush 20, 2) := by decide +kernel
theorem dL_mask_34 : decode cL_mask 34 = .ok (.iload 6, 2) := by decide +kernel
theorem dL_mask_36 : decode cL_mask 36 = .ok (.imul, 1) := by decide +kernel
theorem dL_mask_37 : decode cL_mask 37 = .ok (.iload_n 0, 1) := by decide +kernel
theorem dL_mask_38 : decode cL_mask 38 = .ok (.iload_n 1, 1) := by decide +kernel
theorem dL_mask_39 : decode cL_mask 39 = .ok (.invokestatic 12, 3) := by decide +kernel
theorem dL_mask_42 : decode cL_mask 42 = .ok (.istore 7, 2) := by decide +kernel
theorem dL_mask_44 : decode cL_mask 44 = .ok (.aload_n 3, 1) := by decide +kernel
theorem dL_mask_45 : decode cL_mask 45 = .ok (.bipush 9, 2) := by decide +kernel
theorem dL_mask_47 : decode cL_mask 47 = .ok (.iload 6, 2) := by decide +kernel
theorem dL_mask_49 : decode cL_mask 49 = .ok (.imul, 1) := by decide +kernel
theorem dL_mask_50 : decode cL_mask 50 = .ok (.iconst 5, 1) := by decide +kernel
theorem dL_mask_51 : decode cL_mask 51 = .ok (.iadd, 1) := by decide +kernel
theorem dL_mask_52 : decode cL_mask 52 = .ok (.iaload, 1) := by decide +kernel
theorem dL_mask_53 : decode cL_mask 53 = .ok (.istore 8, 2) := by decide +kernel
theorem dL_mask_55 : decode cL_mask 55 = .ok (.iload 8, 2) := by decide +kernel
theorem dL_mask_57 : decode cL_mask 57 = .ok (.iconst 2, 1) := by decide +kernel
theorem dL_mask_58 : decode cL_mask 58 = .ok (.if_icmp .ne 11, 3) := by decide +kernel
theorem dL_mask_61 : decode cL_mask 61 = .ok (.bipush 100, 2) := by decide +kernel
theorem dL_mask_63 : decode cL_mask 63 = .ok (.iload 7, 2) := by decide +kernel
theorem dL_mask_65 : decode cL_mask 65 = .ok (.isub, 1) := by decide +kernel
theorem dL_mask_66 : decode cL_mask 66 = .ok (.goto 5, 3) := by decide +kernel
theorem dL_mask_69 : decode cL_mask 69 = .ok (.iload 7, 2) := by decide +kernel
theorem dL_mask_71 : decode cL_mask 71 = .ok (.istore 9, 2) := by decide +kernel
theorem dL_mask_73 : decode cL_mask 73 = .ok (.iload 8, 2) := by decide +kernel
theorem dL_mask_75 : decode cL_mask 75 = .ok (.ifCond .ne 8, 3) := by decide +kernel
theorem dL_mask_78 : decode cL_mask 78 = .ok (.iload 7, 2) := by decide +kernel
theorem dL_mask_80 : decode cL_mask 80 = .ok (.goto 40, 3) := by decide +kernel
theorem dL_mask_83 : decode cL_mask 83 = .ok (.iload 8, 2) := by decide +kernel
theorem dL_mask_85 : decode cL_mask 85 = .ok (.iconst 1, 1) := by decide +kernel
theorem dL_mask_86 : decode cL_mask 86 = .ok (.if_icmp .ne 20, 3) := by decide +kernel
theorem dL_mask_89 : decode cL_mask 89 = .ok (.iload 5, 2) := by decide +kernel
theorem dL_mask_91 : decode cL_mask 91 = .ok (.iload 9, 2) := by decide +kernel
theorem dL_mask_93 : decode cL_mask 93 = .ok (.if_icmp .le 8, 3) := by decide +kernel
theorem dL_mask_96 : decode cL_mask 96 = .ok (.iload 5, 2) := by decide +kernel
theorem dL_mask_98 : decode cL_mask 98 = .ok (.goto 22, 3) := by decide +kernel
theorem dL_mask_101 : decode cL_mask 101 = .ok (.iload 9, 2) := by decide +kernel
theorem dL_mask_103 : decode cL_mask 103 = .ok (.goto 17, 3) := by decide +kernel
theorem dL_mask_106 : decode cL_mask 106 = .ok (.iload 5, 2) := by decide +kernel
theorem dL_mask_108 : decode cL_mask 108 = .ok (.iload 9, 2) := by decide +kernel
theorem dL_mask_110 : decode cL_mask 110 = .ok (.if_icmp .ge 8, 3) := by decide +kernel
theorem dL_mask_113 : decode cL_mask 113 = .ok (.iload 5, 2) := by decide +kernel
theorem dL_mask_115 : decode cL_mask 115 = .ok (.goto 5, 3) := by decide +kernel
theorem dL_mask_118 : decode cL_mask 118 = .ok (.iload 9, 2) := by decide +kernel
theorem dL_mask_120 : decode cL_mask 120 = .ok (.istore 5, 2) := by decide +kernel
theorem dL_mask_122 : decode cL_mask 122 = .ok (.iinc 6 1, 3) := by decide +kernel
theorem dL_mask_125 : decode cL_mask 125 = .ok (.goto (-119), 3) := by decide +kernel
theorem dL_mask_128 : decode cL_mask 128 = .ok (.iload 5, 2) := by decide +kernel
theorem dL_mask_130 : decode cL_mask 130 = .ok (.ireturn, 1) := by decide +kernel
theorem dL_told_0 : decode cL_told 0 = .ok (.iconst 0, 1) := by decide +kernel
theorem dL_told_1 : decode cL_told 1 = .ok (.istore 6, 2) := by decide +kernel
theorem dL_told_3 : decode cL_told 3 = .ok (.iconst 0, 1) := by decide +kernel
theorem dL_told_4 : decode cL_told 4 = .ok (.istore 7, 2) := by decide +kernel
theorem dL_told_6 : decode cL_told 6 = .ok (.iconst 0, 1) := by decide +kernel
theorem dL_told_7 : decode cL_told 7 = .ok (.istore 8, 2) := by decide +kernel
theorem dL_told_9 : decode cL_told 9 = .ok (.iconst 0, 1) := by decide +kernel
theorem dL_told_10 : decode cL_told 10 = .ok (.istore 9, 2) := by decide +kernel
theorem dL_told_12 : decode cL_told 12 = .ok (.iconst 0, 1) := by decide +kernel
theorem dL_told_13 : decode cL_told 13 = .ok (.istore 10, 2) := by decide +kernel
theorem dL_told_15 : decode cL_told 15 = .ok (.iconst 0, 1) := by decide +kernel
theorem dL_told_16 : decode cL_told 16 = .ok (.istore 11, 2) := by decide +kernel
theorem dL_told_18 : decode cL_told 18 = .ok (.iconst 0, 1) := by decide +kernel
theorem dL_told_19 : decode cL_told 19 = .ok (.istore 12, 2) := by decide +kernel
theorem dL_told_21 : decode cL_told 21 = .ok (.iload 12, 2) := by decide +kernel
theorem dL_told_23 : decode cL_told 23 = .ok (.sipush 160, 3) := by decide +kernel
theorem dL_told_26 : decode cL_told 26 = .ok (.if_icmp .ge 365, 3) := by decide +kernel
theorem dL_told_29 : decode cL_told 29 = .ok (.iload 12, 2) := by decide +kernel
theorem dL_told_31 : decode cL_told 31 = .ok (.bipush 16, 2) := by decide +kernel
theorem dL_told_33 : decode cL_told 33 = .ok (.irem, 1) := by decide +kernel
theorem dL_told_34 : decode cL_told 34 = .ok (.istore 13, 2) := by decide +kernel
theorem dL_told_36 : decode cL_told 36 = .ok (.iload 12, 2) := by decide +kernel
theorem dL_told_38 : decode cL_told 38 = .ok (.bipush 16, 2) := by decide +kernel
theorem dL_told_40 : decode cL_told 40 = .ok (.idiv, 1) := by decide +kernel
theorem dL_told_41 : decode cL_told 41 = .ok (.istore 14, 2) := by decide +kernel
theorem dL_told_43 : decode cL_told 43 = .ok (.iload 13, 2) := by decide +kernel
theorem dL_told_45 : decode cL_told 45 = .ok (.iload 14, 2) := by decide +kernel
theorem dL_told_47 : decode cL_told 47 = .ok (.aload_n 3, 1) := by decide +kernel
theorem dL_told_48 : decode cL_told 48 = .ok (.aload 4, 2) := by decide +kernel
theorem dL_told_50 : decode cL_told 50 = .ok (.aload 5, 2) := by decide +kernel
theorem dL_told_52 : decode cL_told 52 = .ok (.invokestatic 39, 3) := by decide +kernel
theorem dL_told_55 : decode cL_told 55 = .ok (.istore 15, 2) := by decide +kernel
theorem dL_told_57 : decode cL_told 57 = .ok (.iload 13, 2) := by decide +kernel
theorem dL_told_59 : decode cL_told 59 = .ok (.bipush 15, 2) := by decide +kernel
theorem dL_told_61 : decode cL_told 61 = .ok (.if_icmp .ge 20, 3) := by decide +kernel
theorem dL_told_64 : decode cL_told 64 = .ok (.iload 13, 2) := by decide +kernel
theorem dL_told_66 : decode cL_told 66 = .ok (.iconst 1, 1) := by decide +kernel
theorem dL_told_67 : decode cL_told 67 = .ok (.iadd, 1) := by decide +kernel
theorem dL_told_68 : decode cL_told 68 = .ok (.iload 14, 2) := by decide +kernel
theorem dL_told_70 : decode cL_told 70 = .ok (.aload_n 3, 1) := by decide +kernel
theorem dL_told_71 : decode cL_told 71 = .ok (.aload 4, 2) := by decide +kernel
theorem dL_told_73 : decode cL_told 73 = .ok (.aload 5, 2) := by decide +kernel
theorem dL_told_75 : decode cL_told 75 = .ok (.invokestatic 39, 3) := by decide +kernel
theorem dL_told_78 : decode cL_told 78 = .ok (.goto 4, 3) := by decide +kernel
theorem dL_told_81 : decode cL_told 81 = .ok (.iconst 0, 1) := by decide +kernel
theorem dL_told_82 : decode cL_told 82 = .ok (.istore 16, 2) := by decide +kernel
theorem dL_told_84 : decode cL_told 84 = .ok (.iload 14, 2) := by decide +kernel
theorem dL_told_86 : decode cL_told 86 = .ok (.bipush 9, 2) := by decide +kernel
theorem dL_told_88 : decode cL_told 88 = .ok (.if_icmp .ge 20, 3) := by decide +kernel
theorem dL_told_91 : decode cL_told 91 = .ok (.iload 13, 2) := by decide +kernel
theorem dL_told_93 : decode cL_told 93 = .ok (.iload 14, 2) := by decide +kernel
theorem dL_told_95 : decode cL_told 95 = .ok (.iconst 1, 1) := by decide +kernel
theorem dL_told_96 : decode cL_told 96 = .ok (.iadd, 1) := by decide +kernel
theorem dL_told_97 : decode cL_told 97 = .ok (.aload_n 3, 1) := by decide +kernel
theorem dL_told_98 : decode cL_told 98 = .ok (.aload 4, 2) := by decide +kernel
theorem dL_told_100 : decode cL_told 100 = .ok (.aload 5, 2) := by decide +kernel
theorem dL_told_102 : decode cL_told 102 = .ok (.invokestatic 39, 3) := by decide +kernel
theorem dL_told_105 : decode cL_told 105 = .ok (.goto 4, 3) := by decide +kernel
theorem dL_told_108 : decode cL_told 108 = .ok (.iconst 0, 1) := by decide +kernel
theorem dL_told_109 : decode cL_told 109 = .ok (.istore 17, 2) := by decide +kernel
theorem dL_told_111 : decode cL_told 111 = .ok (.iload 6, 2) := by decide +kernel
theorem dL_told_113 : decode cL_told 113 = .ok (.iload 15, 2) := by decide +kernel
theorem dL_told_115 : decode cL_told 115 = .ok (.bipush 100, 2) := by decide +kernel
theorem dL_told_117 : decode cL_told 117 = .ok (.if_icmp .ne 7, 3) := by decide +kernel
theorem dL_told_120 : decode cL_told 120 = .ok (.iconst 1, 1) := by decide +kernel
theorem dL_told_121 : decode cL_told 121 = .ok (.goto 4, 3) := by decide +kernel
theorem dL_told_124 : decode cL_told 124 = .ok (.iconst 0, 1) := by decide +kernel
theorem dL_told_125 : decode cL_told 125 = .ok (.iadd, 1) := by decide +kernel
theorem dL_told_126 : decode cL_told 126 = .ok (.istore 6, 2) := by decide +kernel
theorem dL_told_128 : decode cL_told 128 = .ok (.iload 7, 2) := by decide +kernel
theorem dL_told_130 : decode cL_told 130 = .ok (.iload 15, 2) := by decide +kernel
theorem dL_told_132 : decode cL_told 132 = .ok (.ifCond .le 7, 3) := by decide +kernel
theorem dL_told_135 : decode cL_told 135 = .ok (.iconst 1, 1) := by decide +kernel
theorem dL_told_136 : decode cL_told 136 = .ok (.goto 4, 3) := by decide +kernel
theorem dL_told_139 : decode cL_told 139 = .ok (.iconst 0, 1) := by decide +kernel
theorem dL_told_140 : decode cL_told 140 = .ok (.iadd, 1) := by decide +kernel
theorem dL_told_141 : decode cL_told 141 = .ok (.istore 7, 2) := by decide +kernel
theorem dL_told_143 : decode cL_told 143 = .ok (.iload 8, 2) := by decide +kernel
theorem dL_told_145 : decode cL_told 145 = .ok (.iload 15, 2) := by decide +kernel
theorem dL_told_147 : decode cL_told 147 = .ok (.iadd, 1) := by decide +kernel
theorem dL_told_148 : decode cL_told 148 = .ok (.istore 8, 2) := by decide +kernel
theorem dL_told_150 : decode cL_told 150 = .ok (.iload 9, 2) := by decide +kernel
theorem dL_told_152 : decode cL_told 152 = .ok (.aload_n 2, 1) := by decide +kernel
theorem dL_told_153 : decode cL_told 153 = .ok (.iconst 0, 1) := by decide +kernel
theorem dL_told_154 : decode cL_told 154 = .ok (.iload 13, 2) := by decide +kernel
theorem dL_told_156 : decode cL_told 156 = .ok (.iload 14, 2) := by decide +kernel
theorem dL_told_158 : decode cL_told 158 = .ok (.invokestatic 12, 3) := by decide +kernel
theorem dL_told_161 : decode cL_told 161 = .ok (.iadd, 1) := by decide +kernel
theorem dL_told_162 : decode cL_told 162 = .ok (.istore 9, 2) := by decide +kernel
theorem dL_told_164 : decode cL_told 164 = .ok (.iload 10, 2) := by decide +kernel
theorem dL_told_166 : decode cL_told 166 = .ok (.iload 15, 2) := by decide +kernel
theorem dL_told_168 : decode cL_told 168 = .ok (.bipush 50, 2) := by decide +kernel
theorem dL_told_170 : decode cL_told 170 = .ok (.if_icmp .lt 7, 3) := by decide +kernel
theorem dL_told_173 : decode cL_told 173 = .ok (.iconst 1, 1) := by decide +kernel
theorem dL_told_174 : decode cL_told 174 = .ok (.goto 4, 3) := by decide +kernel
theorem dL_told_177 : decode cL_told 177 = .ok (.iconst 0, 1) := by decide +kernel
theorem dL_told_178 : decode cL_told 178 = .ok (.iload 16, 2) := by decide +kernel
theorem dL_told_180 : decode cL_told 180 = .ok (.bipush 50, 2) := by decide +kernel
theorem dL_told_182 : decode cL_told 182 = .ok (.if_icmp .lt 7, 3) := by decide +kernel
theorem dL_told_185 : decode cL_told 185 = .ok (.iconst 1, 1) := by decide +kernel
theorem dL_told_186 : decode cL_told 186 = .ok (.goto 4, 3) := by decide +kernel
theorem dL_told_189 : decode cL_told 189 = .ok (.iconst 0, 1) := by decide +kernel
theorem dL_told_190 : decode cL_told 190 = .ok (.if_icmp .eq 7, 3) := by decide +kernel
theorem dL_told_193 : decode cL_told 193 = .ok (.iconst 1, 1) := by decide +kernel
theorem dL_told_194 : decode cL_told 194 = .ok (.goto 4, 3) := by decide +kernel
theorem dL_told_197 : decode cL_told 197 = .ok (.iconst 0, 1) := by decide +kernel
theorem dL_told_198 : decode cL_told 198 = .ok (.iadd, 1) := by decide +kernel
theorem dL_told_199 : decode cL_told 199 = .ok (.istore 10, 2) := by decide +kernel
theorem dL_told_201 : decode cL_told 201 = .ok (.iload 10, 2) := by decide +kernel
theorem dL_told_203 : decode cL_told 203 = .ok (.iload 15, 2) := by decide +kernel
theorem dL_told_205 : decode cL_told 205 = .ok (.bipush 50, 2) := by decide +kernel
theorem dL_told_207 : decode cL_told 207 = .ok (.if_icmp .lt 7, 3) := by decide +kernel
theorem dL_told_210 : decode cL_told 210 = .ok (.iconst 1, 1) := by decide +kernel
theorem dL_told_211 : decode cL_told 211 = .ok (.goto 4, 3) := by decide +kernel
theorem dL_told_214 : decode cL_told 214 = .ok (.iconst 0, 1) := by decide +kernel
theorem dL_told_215 : decode cL_told 215 = .ok (.iload 17, 2) := by decide +kernel
theorem dL_told_217 : decode cL_told 217 = .ok (.bipush 50, 2) := by decide +kernel
theorem dL_told_219 : decode cL_told 219 = .ok (.if_icmp .lt 7, 3) := by decide +kernel
theorem dL_told_222 : decode cL_told 222 = .ok (.iconst 1, 1) := by decide +kernel
theorem dL_told_223 : decode cL_told 223 = .ok (.goto 4, 3) := by decide +kernel
theorem dL_told_226 : decode cL_told 226 = .ok (.iconst 0, 1) := by decide +kernel
theorem dL_told_227 : decode cL_told 227 = .ok (.if_icmp .eq 7, 3) := by decide +kernel
theorem dL_told_230 : decode cL_told 230 = .ok (.iconst 1, 1) := by decide +kernel
theorem dL_told_231 : decode cL_told 231 = .ok (.goto 4, 3) := by decide +kernel
theorem dL_told_234 : decode cL_told 234 = .ok (.iconst 0, 1) := by decide +kernel
theorem dL_told_235 : decode cL_told 235 = .ok (.iadd, 1) := by decide +kernel
theorem dL_told_236 : decode cL_told 236 = .ok (.istore 10, 2) := by decide +kernel
theorem dL_told_238 : decode cL_told 238 = .ok (.iload 10, 2) := by decide +kernel
theorem dL_told_240 : decode cL_told 240 = .ok (.iload 15, 2) := by decide +kernel
theorem dL_told_242 : decode cL_told 242 = .ok (.bipush 50, 2) := by decide +kernel
theorem dL_told_244 : decode cL_told 244 = .ok (.if_icmp .lt 27, 3) := by decide +kernel
theorem dL_told_247 : decode cL_told 247 = .ok (.iload 13, 2) := by decide +kernel
theorem dL_told_249 : decode cL_told 249 = .ok (.ifCond .ne 7, 3) := by decide +kernel
theorem dL_told_252 : decode cL_told 252 = .ok (.iconst 1, 1) := by decide +kernel
theorem dL_told_253 : decode cL_told 253 = .ok (.goto 4, 3) := by decide +kernel
theorem dL_told_256 : decode cL_told 256 = .ok (.iconst 0, 1) := by decide +kernel
theorem dL_told_257 : decode cL_told 257 = .ok (.iload 14, 2) := by decide +kernel
theorem dL_told_259 : decode cL_told 259 = .ok (.ifCond .ne 7, 3) := by decide +kernel
theorem dL_told_262 : decode cL_told 262 = .ok (.iconst 1, 1) := by decide +kernel
theorem dL_told_263 : decode cL_told 263 = .ok (.goto 4, 3) := by decide +kernel
theorem dL_told_266 : decode cL_told 266 = .ok (.iconst 0, 1) := by decide +kernel
theorem dL_told_267 : decode cL_told 267 = .ok (.iadd, 1) := by decide +kernel
theorem dL_told_268 : decode cL_told 268 = .ok (.goto 4, 3) := by decide +kernel
theorem dL_told_271 : decode cL_told 271 = .ok (.iconst 0, 1) := by decide +kernel
theorem dL_told_272 : decode cL_told 272 = .ok (.iadd, 1) := by decide +kernel
theorem dL_told_273 : decode cL_told 273 = .ok (.istore 10, 2) := by decide +kernel
theorem dL_told_275 : decode cL_told 275 = .ok (.iload 12, 2) := by decide +kernel
theorem dL_told_277 : decode cL_told 277 = .ok (.iload_n 1, 1) := by decide +kernel
theorem dL_told_278 : decode cL_told 278 = .ok (.iadd, 1) := by decide +kernel
theorem dL_told_279 : decode cL_told 279 = .ok (.iconst 3, 1) := by decide +kernel
theorem dL_told_280 : decode cL_told 280 = .ok (.irem, 1) := by decide +kernel
theorem dL_told_281 : decode cL_told 281 = .ok (.ifCond .le 6, 3) := by decide +kernel
theorem dL_told_284 : decode cL_told 284 = .ok (.goto 101, 3) := by decide +kernel
theorem dL_told_287 : decode cL_told 287 = .ok (.iconst 0, 1) := by decide +kernel
theorem dL_told_288 : decode cL_told 288 = .ok (.istore 18, 2) := by decide +kernel
theorem dL_told_290 : decode cL_told 290 = .ok (.iconst 0, 1) := by decide +kernel
theorem dL_told_291 : decode cL_told 291 = .ok (.istore 19, 2) := by decide +kernel
theorem dL_told_293 : decode cL_told 293 = .ok (.iload 19, 2) := by decide +kernel
theorem dL_told_295 : decode cL_told 295 = .ok (.aload 5, 2) := by decide +kernel
theorem dL_told_297 : decode cL_told 297 = .ok (.iconst 0, 1) := by decide +kernel
theorem dL_told_298 : decode cL_told 298 = .ok (.iaload, 1) := by decide +kernel
theorem dL_told_299 : decode cL_told 299 = .ok (.if_icmp .ge 35, 3) := by decide +kernel
theorem dL_told_302 : decode cL_told 302 = .ok (.iload 18, 2) := by decide +kernel
theorem dL_told_304 : decode cL_told 304 = .ok (.aload_n 3, 1) := by decide +kernel
theorem dL_told_305 : decode cL_told 305 = .ok (.bipush 20, 2) := by decide +kernel
theorem dL_told_307 : decode cL_told 307 = .ok (.iload 19, 2) := by decide +kernel
theorem dL_told_309 : decode cL_told 309 = .ok (.imul, 1) := by decide +kernel
theorem dL_told_310 : decode cL_told 310 = .ok (.iload 13, 2) := by decide +kernel
theorem dL_told_312 : decode cL_told 312 = .ok (.iload 14, 2) := by decide +kernel
theorem dL_told_314 : decode cL_told 314 = .ok (.invokestatic 12, 3) := by decide +kernel
theorem dL_told_317 : decode cL_told 317 = .ok (.ifCond .le 7, 3) := by decide +kernel
theorem dL_told_320 : decode cL_told 320 = .ok (.iconst 1, 1) := by decide +kernel
theorem dL_told_321 : decode cL_told 321 = .ok (.goto 4, 3) := by decide +kernel
theorem dL_told_324 : decode cL_told 324 = .ok (.iconst 0, 1) := by decide +kernel
theorem dL_told_325 : decode cL_told 325 = .ok (.iadd, 1) := by decide +kernel
theorem dL_told_326 : decode cL_told 326 = .ok (.istore 18, 2) := by decide +kernel
theorem dL_told_328 : decode cL_told 328 = .ok (.iinc 19 1, 3) := by decide +kernel
theorem dL_told_331 : decode cL_told 331 = .ok (.goto (-38), 3) := by decide +kernel
theorem dL_told_334 : decode cL_told 334 = .ok (.aload_n 0, 1) := by decide +kernel
theorem dL_told_335 : decode cL_told 335 = .ok (.iload 13, 2) := by decide +kernel
theorem dL_told_337 : decode cL_told 337 = .ok (.iload 14, 2) := by decide +kernel
theorem dL_told_339 : decode cL_told 339 = .ok (.iconst 0, 1) := by decide +kernel
theorem dL_told_340 : decode cL_told 340 = .ok (.invokevirtual 43, 3) := by decide +kernel
theorem dL_told_343 : decode cL_told 343 = .ok (.aload_n 2, 1) := by decide +kernel
theorem dL_told_344 : decode cL_told 344 = .ok (.iconst 0, 1) := by decide +kernel
theorem dL_told_345 : decode cL_told 345 = .ok (.iload 13, 2) := by decide +kernel
theorem dL_told_347 : decode cL_told 347 = .ok (.iload 14, 2) := by decide +kernel
theorem dL_told_349 : decode cL_told 349 = .ok (.invokestatic 12, 3) := by decide +kernel
theorem dL_told_352 : decode cL_told 352 = .ok (.if_icmp .ne 31, 3) := by decide +kernel
theorem dL_told_355 : decode cL_told 355 = .ok (.aload_n 0, 1) := by decide +kernel
theorem dL_told_356 : decode cL_told 356 = .ok (.iload 13, 2) := by decide +kernel
theorem dL_told_358 : decode cL_told 358 = .ok (.iload 14, 2) := by decide +kernel
theorem dL_told_360 : decode cL_told 360 = .ok (.iconst 1, 1) := by decide +kernel
theorem dL_told_361 : decode cL_told 361 = .ok (.invokevirtual 43, 3) := by decide +kernel
theorem dL_told_364 : decode cL_told 364 = .ok (.iload 15, 2) := by decide +kernel
theorem dL_told_366 : decode cL_told 366 = .ok (.if_icmp .ne 17, 3) := by decide +kernel
theorem dL_told_369 : decode cL_told 369 = .ok (.aload_n 0, 1) := by decide +kernel
theorem dL_told_370 : decode cL_told 370 = .ok (.iload 13, 2) := by decide +kernel
theorem dL_told_372 : decode cL_told 372 = .ok (.iload 14, 2) := by decide +kernel
theorem dL_told_374 : decode cL_told 374 = .ok (.iconst 2, 1) := by decide +kernel
theorem dL_told_375 : decode cL_told 375 = .ok (.invokevirtual 43, 3) := by decide +kernel
theorem dL_told_378 : decode cL_told 378 = .ok (.iload 18, 2) := by decide +kernel
theorem dL_told_380 : decode cL_told 380 = .ok (.if_icmp .eq 5, 3) := by decide +kernel
theorem dL_told_383 : decode cL_told 383 = .ok (.iconst 0, 1) := by decide +kernel
theorem dL_told_384 : decode cL_told 384 = .ok (.ireturn, 1) := by decide +kernel
theorem dL_told_385 : decode cL_told 385 = .ok (.iinc 12 1, 3) := by decide +kernel
theorem dL_told_388 : decode cL_told 388 = .ok (.goto (-367), 3) := by decide +kernel
theorem dL_told_391 : decode cL_told 391 = .ok (.iconst 0, 1) := by decide +kernel
theorem dL_told_392 : decode cL_told 392 = .ok (.istore 12, 2) := by decide +kernel
theorem dL_told_394 : decode cL_told 394 = .ok (.iload 12, 2) := by decide +kernel
theorem dL_told_396 : decode cL_told 396 = .ok (.aload 5, 2) := by decide +kernel
theorem dL_told_398 : decode cL_told 398 = .ok (.iconst 0, 1) := by decide +kernel
theorem dL_told_399 : decode cL_told 399 = .ok (.iaload, 1) := by decide +kernel
theorem dL_told_400 : decode cL_told 400 = .ok (.if_icmp .ge 242, 3) := by decide +kernel
theorem dL_told_403 : decode cL_told 403 = .ok (.iconst 0, 1) := by decide +kernel
theorem dL_told_404 : decode cL_told 404 = .ok (.istore 13, 2) := by decide +kernel
theorem dL_told_406 : decode cL_told 406 = .ok (.iconst 0, 1) := by decide +kernel
theorem dL_told_407 : decode cL_told 407 = .ok (.istore 14, 2) := by decide +kernel
theorem dL_told_409 : decode cL_told 409 = .ok (.iconst 0, 1) := by decide +kernel
theorem dL_told_410 : decode cL_told 410 = .ok (.istore 15, 2) := by decide +kernel
theorem dL_told_412 : decode cL_told 412 = .ok (.iload 11, 2) := by decide +kernel
theorem dL_told_414 : decode cL_told 414 = .ok (.aload 4, 2) := by decide +kernel
theorem dL_told_416 : decode cL_told 416 = .ok (.bipush 9, 2) := by decide +kernel
theorem dL_told_418 : decode cL_told 418 = .ok (.iload 12, 2) := by decide +kernel
theorem dL_told_420 : decode cL_told 420 = .ok (.imul, 1) := by decide +kernel
theorem dL_told_421 : decode cL_told 421 = .ok (.bipush 7, 2) := by decide +kernel
theorem dL_told_423 : decode cL_told 423 = .ok (.iadd, 1) := by decide +kernel
theorem dL_told_424 : decode cL_told 424 = .ok (.iaload, 1) := by decide +kernel
theorem dL_told_425 : decode cL_told 425 = .ok (.iadd, 1) := by decide +kernel
theorem dL_told_426 : decode cL_told 426 = .ok (.istore 11, 2) := by decide +kernel
theorem dL_told_428 : decode cL_told 428 = .ok (.iconst 0, 1) := by decide +kernel
theorem dL_told_429 : decode cL_told 429 = .ok (.istore 16, 2) := by decide +kernel
theorem dL_told_431 : decode cL_told 431 = .ok (.iload 16, 2) := by decide +kernel
theorem dL_told_433 : decode cL_told 433 = .ok (.sipush 160, 3) := by decide +kernel
theorem dL_told_436 : decode cL_told 436 = .ok (.if_icmp .ge 69, 3) := by decide +kernel
theorem dL_told_439 : decode cL_told 439 = .ok (.aload_n 3, 1) := by decide +kernel
theorem dL_told_440 : decode cL_told 440 = .ok (.bipush 20, 2) := by decide +kernel
theorem dL_told_442 : decode cL_told 442 = .ok (.iload 12, 2) := by decide +kernel
theorem dL_told_444 : decode cL_told 444 = .ok (.imul, 1) := by decide +kernel
theorem dL_told_445 : decode cL_told 445 = .ok (.iload 16, 2) := by decide +kernel
theorem dL_told_447 : decode cL_told 447 = .ok (.bipush 16, 2) := by decide +kernel
theorem dL_told_449 : decode cL_told 449 = .ok (.irem, 1) := by decide +kernel
theorem dL_told_450 : decode cL_told 450 = .ok (.iload 16, 2) := by decide +kernel
theorem dL_told_452 : decode cL_told 452 = .ok (.bipush 16, 2) := by decide +kernel
theorem dL_told_454 : decode cL_told 454 = .ok (.idiv, 1) := by decide +kernel
theorem dL_told_455 : decode cL_told 455 = .ok (.invokestatic 12, 3) := by decide +kernel
theorem dL_told_458 : decode cL_told 458 = .ok (.istore 17, 2) := by decide +kernel
theorem dL_told_460 : decode cL_told 460 = .ok (.iload 13, 2) := by decide +kernel
theorem dL_told_462 : decode cL_told 462 = .ok (.iload 17, 2) := by decide +kernel
theorem dL_told_464 : decode cL_told 464 = .ok (.iadd, 1) := by decide +kernel
theorem dL_told_465 : decode cL_told 465 = .ok (.istore 13, 2) := by decide +kernel
theorem dL_told_467 : decode cL_told 467 = .ok (.iload 14, 2) := by decide +kernel
theorem dL_told_469 : decode cL_told 469 = .ok (.iload 17, 2) := by decide +kernel
theorem dL_told_471 : decode cL_told 471 = .ok (.ifCond .le 7, 3) := by decide +kernel
theorem dL_told_474 : decode cL_told 474 = .ok (.iconst 1, 1) := by decide +kernel
theorem dL_told_475 : decode cL_told 475 = .ok (.goto 4, 3) := by decide +kernel
theorem dL_told_478 : decode cL_told 478 = .ok (.iconst 0, 1) := by decide +kernel
theorem dL_told_479 : decode cL_told 479 = .ok (.iadd, 1) := by decide +kernel
theorem dL_told_480 : decode cL_told 480 = .ok (.istore 14, 2) := by decide +kernel
theorem dL_told_482 : decode cL_told 482 = .ok (.iload 15, 2) := by decide +kernel
theorem dL_told_484 : decode cL_told 484 = .ok (.iload 17, 2) := by decide +kernel
theorem dL_told_486 : decode cL_told 486 = .ok (.bipush 100, 2) := by decide +kernel
theorem dL_told_488 : decode cL_told 488 = .ok (.if_icmp .ne 7, 3) := by decide +kernel
theorem dL_told_491 : decode cL_told 491 = .ok (.iconst 1, 1) := by decide +kernel
theorem dL_told_492 : decode cL_told 492 = .ok (.goto 4, 3) := by decide +kernel
theorem dL_told_495 : decode cL_told 495 = .ok (.iconst 0, 1) := by decide +kernel
theorem dL_told_496 : decode cL_told 496 = .ok (.iadd, 1) := by decide +kernel
theorem dL_told_497 : decode cL_told 497 = .ok (.istore 15, 2) := by decide +kernel
theorem dL_told_499 : decode cL_told 499 = .ok (.iinc 16 1, 3) := by decide +kernel
theorem dL_told_502 : decode cL_told 502 = .ok (.goto (-71), 3) := by decide +kernel
theorem dL_told_505 : decode cL_told 505 = .ok (.iconst 0, 1) := by decide +kernel
theorem dL_told_506 : decode cL_told 506 = .ok (.istore 16, 2) := by decide +kernel
theorem dL_told_508 : decode cL_told 508 = .ok (.iload 16, 2) := by decide +kernel
theorem dL_told_510 : decode cL_told 510 = .ok (.bipush 9, 2) := by decide +kernel
theorem dL_told_512 : decode cL_told 512 = .ok (.if_icmp .ge 33, 3) := by decide +kernel
theorem dL_told_515 : decode cL_told 515 = .ok (.aload_n 0, 1) := by decide +kernel
theorem dL_told_516 : decode cL_told 516 = .ok (.iload 12, 2) := by decide +kernel
theorem dL_told_518 : decode cL_told 518 = .ok (.iload 16, 2) := by decide +kernel
theorem dL_told_520 : decode cL_told 520 = .ok (.invokevirtual 49, 3) := by decide +kernel
theorem dL_told_523 : decode cL_told 523 = .ok (.aload 4, 2) := by decide +kernel
theorem dL_told_525 : decode cL_told 525 = .ok (.bipush 9, 2) := by decide +kernel
theorem dL_told_527 : decode cL_told 527 = .ok (.iload 12, 2) := by decide +kernel
theorem dL_told_529 : decode cL_told 529 = .ok (.imul, 1) := by decide +kernel
theorem dL_told_530 : decode cL_told 530 = .ok (.iload 16, 2) := by decide +kernel
theorem dL_told_532 : decode cL_told 532 = .ok (.iadd, 1) := by decide +kernel
theorem dL_told_533 : decode cL_told 533 = .ok (.iaload, 1) := by decide +kernel
theorem dL_told_534 : decode cL_told 534 = .ok (.if_icmp .eq 5, 3) := by decide +kernel
theorem dL_told_537 : decode cL_told 537 = .ok (.iconst 0, 1) := by decide +kernel
theorem dL_told_538 : decode cL_told 538 = .ok (.ireturn, 1) := by decide +kernel
theorem dL_told_539 : decode cL_told 539 = .ok (.iinc 16 1, 3) := by decide +kernel
theorem dL_told_542 : decode cL_told 542 = .ok (.goto (-34), 3) := by decide +kernel
theorem dL_told_545 : decode cL_told 545 = .ok (.iload_n 1, 1) := by decide +kernel
theorem dL_told_546 : decode cL_told 546 = .ok (.iload 12, 2) := by decide +kernel
theorem dL_told_548 : decode cL_told 548 = .ok (.ishr, 1) := by decide +kernel
theorem dL_told_549 : decode cL_told 549 = .ok (.sipush 160, 3) := by decide +kernel
theorem dL_told_552 : decode cL_told 552 = .ok (.invokestatic 53, 3) := by decide +kernel
theorem dL_told_555 : decode cL_told 555 = .ok (.istore 16, 2) := by decide +kernel
theorem dL_told_557 : decode cL_told 557 = .ok (.aload_n 0, 1) := by decide +kernel
theorem dL_told_558 : decode cL_told 558 = .ok (.iload 12, 2) := by decide +kernel
theorem dL_told_560 : decode cL_told 560 = .ok (.bipush 9, 2) := by decide +kernel
theorem dL_told_562 : decode cL_told 562 = .ok (.invokevirtual 49, 3) := by decide +kernel
theorem dL_told_565 : decode cL_told 565 = .ok (.iload 15, 2) := by decide +kernel
theorem dL_told_567 : decode cL_told 567 = .ok (.if_icmp .ne 67, 3) := by decide +kernel
theorem dL_told_570 : decode cL_told 570 = .ok (.aload_n 0, 1) := by decide +kernel
theorem dL_told_571 : decode cL_told 571 = .ok (.iload 12, 2) := by decide +kernel
theorem dL_told_573 : decode cL_told 573 = .ok (.bipush 10, 2) := by decide +kernel
theorem dL_told_575 : decode cL_told 575 = .ok (.invokevirtual 49, 3) := by decide +kernel
theorem dL_told_578 : decode cL_told 578 = .ok (.iload 14, 2) := by decide +kernel
theorem dL_told_580 : decode cL_told 580 = .ok (.if_icmp .ne 54, 3) := by decide +kernel
theorem dL_told_583 : decode cL_told 583 = .ok (.aload_n 0, 1) := by decide +kernel
theorem dL_told_584 : decode cL_told 584 = .ok (.iload 12, 2) := by decide +kernel
theorem dL_told_586 : decode cL_told 586 = .ok (.bipush 11, 2) := by decide +kernel
theorem dL_told_588 : decode cL_told 588 = .ok (.invokevirtual 49, 3) := by decide +kernel
theorem dL_told_591 : decode cL_told 591 = .ok (.iload 13, 2) := by decide +kernel
theorem dL_told_593 : decode cL_told 593 = .ok (.if_icmp .ne 41, 3) := by decide +kernel
theorem dL_told_596 : decode cL_told 596 = .ok (.aload_n 0, 1) := by decide +kernel
theorem dL_told_597 : decode cL_told 597 = .ok (.iload 12, 2) := by decide +kernel
theorem dL_told_599 : decode cL_told 599 = .ok (.iload 16, 2) := by decide +kernel
theorem dL_told_601 : decode cL_told 601 = .ok (.bipush 16, 2) := by decide +kernel
theorem dL_told_603 : decode cL_told 603 = .ok (.irem, 1) := by decide +kernel
theorem dL_told_604 : decode cL_told 604 = .ok (.iload 16, 2) := by decide +kernel
theorem dL_told_606 : decode cL_told 606 = .ok (.bipush 16, 2) := by decide +kernel
theorem dL_told_608 : decode cL_told 608 = .ok (.idiv, 1) := by decide +kernel
theorem dL_told_609 : decode cL_told 609 = .ok (.invokevirtual 56, 3) := by decide +kernel
theorem dL_told_612 : decode cL_told 612 = .ok (.aload_n 3, 1) := by decide +kernel
theorem dL_told_613 : decode cL_told 613 = .ok (.bipush 20, 2) := by decide +kernel
theorem dL_told_615 : decode cL_told 615 = .ok (.iload 12, 2) := by decide +kernel
theorem dL_told_617 : decode cL_told 617 = .ok (.imul, 1) := by decide +kernel
theorem dL_told_618 : decode cL_told 618 = .ok (.iload 16, 2) := by decide +kernel
theorem dL_told_620 : decode cL_told 620 = .ok (.bipush 16, 2) := by decide +kernel
theorem dL_told_622 : decode cL_told 622 = .ok (.irem, 1) := by decide +kernel
theorem dL_told_623 : decode cL_told 623 = .ok (.iload 16, 2) := by decide +kernel
theorem dL_told_625 : decode cL_told 625 = .ok (.bipush 16, 2) := by decide +kernel
theorem dL_told_627 : decode cL_told 627 = .ok (.idiv, 1) := by decide +kernel
theorem dL_told_628 : decode cL_told 628 = .ok (.invokestatic 12, 3) := by decide +kernel
theorem dL_told_631 : decode cL_told 631 = .ok (.if_icmp .eq 5, 3) := by decide +kernel
theorem dL_told_634 : decode cL_told 634 = .ok (.iconst 0, 1) := by decide +kernel
theorem dL_told_635 : decode cL_told 635 = .ok (.ireturn, 1) := by decide +kernel
theorem dL_told_636 : decode cL_told 636 = .ok (.iinc 12 1, 3) := by decide +kernel
theorem dL_told_639 : decode cL_told 639 = .ok (.goto (-245), 3) := by decide +kernel
theorem dL_told_642 : decode cL_told 642 = .ok (.aload_n 0, 1) := by decide +kernel
theorem dL_told_643 : decode cL_told 643 = .ok (.iconst 0, 1) := by decide +kernel
theorem dL_told_644 : decode cL_told 644 = .ok (.invokevirtual 59, 3) := by decide +kernel
theorem dL_told_647 : decode cL_told 647 = .ok (.aload 5, 2) := by decide +kernel
theorem dL_told_649 : decode cL_told 649 = .ok (.iconst 0, 1) := by decide +kernel
theorem dL_told_650 : decode cL_told 650 = .ok (.iaload, 1) := by decide +kernel
theorem dL_told_651 : decode cL_told 651 = .ok (.if_icmp .ne 83, 3) := by decide +kernel
theorem dL_told_654 : decode cL_told 654 = .ok (.aload_n 0, 1) := by decide +kernel
theorem dL_told_655 : decode cL_told 655 = .ok (.iconst 1, 1) := by decide +kernel
theorem dL_told_656 : decode cL_told 656 = .ok (.invokevirtual 59, 3) := by decide +kernel
theorem dL_told_659 : decode cL_told 659 = .ok (.iload 11, 2) := by decide +kernel
theorem dL_told_661 : decode cL_told 661 = .ok (.if_icmp .ne 73, 3) := by decide +kernel
theorem dL_told_664 : decode cL_told 664 = .ok (.aload_n 0, 1) := by decide +kernel
theorem dL_told_665 : decode cL_told 665 = .ok (.iconst 2, 1) := by decide +kernel
theorem dL_told_666 : decode cL_told 666 = .ok (.invokevirtual 59, 3) := by decide +kernel
theorem dL_told_669 : decode cL_told 669 = .ok (.iload 6, 2) := by decide +kernel
theorem dL_told_671 : decode cL_told 671 = .ok (.if_icmp .ne 63, 3) := by decide +kernel
theorem dL_told_674 : decode cL_told 674 = .ok (.aload_n 0, 1) := by decide +kernel
theorem dL_told_675 : decode cL_told 675 = .ok (.iconst 3, 1) := by decide +kernel
theorem dL_told_676 : decode cL_told 676 = .ok (.invokevirtual 59, 3) := by decide +kernel
theorem dL_told_679 : decode cL_told 679 = .ok (.iload 7, 2) := by decide +kernel
theorem dL_told_681 : decode cL_told 681 = .ok (.if_icmp .ne 53, 3) := by decide +kernel
theorem dL_told_684 : decode cL_told 684 = .ok (.aload_n 0, 1) := by decide +kernel
theorem dL_told_685 : decode cL_told 685 = .ok (.iconst 4, 1) := by decide +kernel
theorem dL_told_686 : decode cL_told 686 = .ok (.invokevirtual 59, 3) := by decide +kernel
theorem dL_told_689 : decode cL_told 689 = .ok (.iload 8, 2) := by decide +kernel
theorem dL_told_691 : decode cL_told 691 = .ok (.if_icmp .ne 43, 3) := by decide +kernel
theorem dL_told_694 : decode cL_told 694 = .ok (.aload_n 0, 1) := by decide +kernel
theorem dL_told_695 : decode cL_told 695 = .ok (.iconst 5, 1) := by decide +kernel
theorem dL_told_696 : decode cL_told 696 = .ok (.invokevirtual 59, 3) := by decide +kernel
theorem dL_told_699 : decode cL_told 699 = .ok (.iload 10, 2) := by decide +kernel
theorem dL_told_701 : decode cL_told 701 = .ok (.if_icmp .ne 33, 3) := by decide +kernel
theorem dL_told_704 : decode cL_told 704 = .ok (.aload_n 0, 1) := by decide +kernel
theorem dL_told_705 : decode cL_told 705 = .ok (.bipush 6, 2) := by decide +kernel
theorem dL_told_707 : decode cL_told 707 = .ok (.invokevirtual 59, 3) := by decide +kernel
theorem dL_told_710 : decode cL_told 710 = .ok (.iload 9, 2) := by decide +kernel
theorem dL_told_712 : decode cL_told 712 = .ok (.if_icmp .ne 22, 3) := by decide +kernel
theorem dL_told_715 : decode cL_told 715 = .ok (.aload_n 0, 1) := by decide +kernel
theorem dL_told_716 : decode cL_told 716 = .ok (.invokevirtual 62, 3) := by decide +kernel
theorem dL_told_719 : decode cL_told 719 = .ok (.iload 8, 2) := by decide +kernel
theorem dL_told_721 : decode cL_told 721 = .ok (.i2d, 1) := by decide +kernel
theorem dL_told_722 : decode cL_told 722 = .ok (.ldc2_w 66, 3) := by decide +kernel
theorem dL_told_725 : decode cL_told 725 = .ok (.ddiv, 1) := by decide +kernel
theorem dL_told_726 : decode cL_told 726 = .ok (.dcmp .l, 1) := by decide +kernel
theorem dL_told_727 : decode cL_told 727 = .ok (.ifCond .ne 7, 3) := by decide +kernel
theorem dL_told_730 : decode cL_told 730 = .ok (.iconst 1, 1) := by decide +kernel
theorem dL_told_731 : decode cL_told 731 = .ok (.goto 4, 3) := by decide +kernel
theorem dL_told_734 : decode cL_told 734 = .ok (.iconst 0, 1) := by decide +kernel
theorem dL_told_735 : decode cL_told 735 = .ok (.ireturn, 1) := by decide +kernel
theorem dL_move_0 : decode cL_move 0 = .ok (.iconst 0, 1) := by decide +kernel
theorem dL_move_1 : decode cL_move 1 = .ok (.istore 4, 2) := by decide +kernel
theorem dL_move_3 : decode cL_move 3 = .ok (.iload 4, 2) := by decide +kernel
theorem dL_move_5 : decode cL_move 5 = .ok (.bipush 20, 2) := by decide +kernel
theorem dL_move_7 : decode cL_move 7 = .ok (.if_icmp .ge 49, 3) := by decide +kernel
theorem dL_move_10 : decode cL_move 10 = .ok (.aload_n 2, 1) := by decide +kernel
theorem dL_move_11 : decode cL_move 11 = .ok (.bipush 20, 2) := by decide +kernel
theorem dL_move_13 : decode cL_move 13 = .ok (.iload_n 0, 1) := by decide +kernel
theorem dL_move_14 : decode cL_move 14 = .ok (.imul, 1) := by decide +kernel
theorem dL_move_15 : decode cL_move 15 = .ok (.iload 4, 2) := by decide +kernel
theorem dL_move_17 : decode cL_move 17 = .ok (.iadd, 1) := by decide +kernel
theorem dL_move_18 : decode cL_move 18 = .ok (.laload, 1) := by decide +kernel
theorem dL_move_19 : decode cL_move 19 = .ok (.lstore 5, 2) := by decide +kernel
theorem dL_move_21 : decode cL_move 21 = .ok (.aload_n 2, 1) := by decide +kernel
theorem dL_move_22 : decode cL_move 22 = .ok (.bipush 20, 2) := by decide +kernel
theorem dL_move_24 : decode cL_move 24 = .ok (.iload_n 0, 1) := by decide +kernel
theorem dL_move_25 : decode cL_move 25 = .ok (.imul, 1) := by decide +kernel
theorem dL_move_26 : decode cL_move 26 = .ok (.iload 4, 2) := by decide +kernel
theorem dL_move_28 : decode cL_move 28 = .ok (.iadd, 1) := by decide +kernel
theorem dL_move_29 : decode cL_move 29 = .ok (.aload_n 2, 1) := by decide +kernel
theorem dL_move_30 : decode cL_move 30 = .ok (.bipush 20, 2) := by decide +kernel
theorem dL_move_32 : decode cL_move 32 = .ok (.iload_n 1, 1) := by decide +kernel
theorem dL_move_33 : decode cL_move 33 = .ok (.imul, 1) := by decide +kernel
theorem dL_move_34 : decode cL_move 34 = .ok (.iload 4, 2) := by decide +kernel
theorem dL_move_36 : decode cL_move 36 = .ok (.iadd, 1) := by decide +kernel
theorem dL_move_37 : decode cL_move 37 = .ok (.laload, 1) := by decide +kernel
theorem dL_move_38 : decode cL_move 38 = .ok (.lastore, 1) := by decide +kernel
theorem dL_move_39 : decode cL_move 39 = .ok (.aload_n 2, 1) := by decide +kernel
theorem dL_move_40 : decode cL_move 40 = .ok (.bipush 20, 2) := by decide +kernel
theorem dL_move_42 : decode cL_move 42 = .ok (.iload_n 1, 1) := by decide +kernel
theorem dL_move_43 : decode cL_move 43 = .ok (.imul, 1) := by decide +kernel
theorem dL_move_44 : decode cL_move 44 = .ok (.iload 4, 2) := by decide +kernel
theorem dL_move_46 : decode cL_move 46 = .ok (.iadd, 1) := by decide +kernel
theorem dL_move_47 : decode cL_move 47 = .ok (.lload 5, 2) := by decide +kernel
theorem dL_move_49 : decode cL_move 49 = .ok (.lastore, 1) := by decide +kernel
theorem dL_move_50 : decode cL_move 50 = .ok (.iinc 4 1, 3) := by decide +kernel
theorem dL_move_53 : decode cL_move 53 = .ok (.goto (-50), 3) := by decide +kernel
theorem dL_move_56 : decode cL_move 56 = .ok (.iconst 0, 1) := by decide +kernel
theorem dL_move_57 : decode cL_move 57 = .ok (.istore 4, 2) := by decide +kernel
theorem dL_move_59 : decode cL_move 59 = .ok (.iload 4, 2) := by decide +kernel
theorem dL_move_61 : decode cL_move 61 = .ok (.bipush 9, 2) := by decide +kernel
theorem dL_move_63 : decode cL_move 63 = .ok (.if_icmp .ge 49, 3) := by decide +kernel
theorem dL_move_66 : decode cL_move 66 = .ok (.aload_n 3, 1) := by decide +kernel
theorem dL_move_67 : decode cL_move 67 = .ok (.bipush 9, 2) := by decide +kernel
theorem dL_move_69 : decode cL_move 69 = .ok (.iload_n 0, 1) := by decide +kernel
theorem dL_move_70 : decode cL_move 70 = .ok (.imul, 1) := by decide +kernel
theorem dL_move_71 : decode cL_move 71 = .ok (.iload 4, 2) := by decide +kernel
theorem dL_move_73 : decode cL_move 73 = .ok (.iadd, 1) := by decide +kernel
theorem dL_move_74 : decode cL_move 74 = .ok (.iaload, 1) := by decide +kernel
theorem dL_move_75 : decode cL_move 75 = .ok (.istore 5, 2) := by decide +kernel
theorem dL_move_77 : decode cL_move 77 = .ok (.aload_n 3, 1) := by decide +kernel
theorem dL_move_78 : decode cL_move 78 = .ok (.bipush 9, 2) := by decide +kernel
theorem dL_move_80 : decode cL_move 80 = .ok (.iload_n 0, 1) := by decide +kernel
theorem dL_move_81 : decode cL_move 81 = .ok (.imul, 1) := by decide +kernel
theorem dL_move_82 : decode cL_move 82 = .ok (.iload 4, 2) := by decide +kernel
theorem dL_move_84 : decode cL_move 84 = .ok (.iadd, 1) := by decide +kernel
theorem dL_move_85 : decode cL_move 85 = .ok (.aload_n 3, 1) := by decide +kernel
theorem dL_move_86 : decode cL_move 86 = .ok (.bipush 9, 2) := by decide +kernel
theorem dL_move_88 : decode cL_move 88 = .ok (.iload_n 1, 1) := by decide +kernel
theorem dL_move_89 : decode cL_move 89 = .ok (.imul, 1) := by decide +kernel
theorem dL_move_90 : decode cL_move 90 = .ok (.iload 4, 2) := by decide +kernel
theorem dL_move_92 : decode cL_move 92 = .ok (.iadd, 1) := by decide +kernel
theorem dL_move_93 : decode cL_move 93 = .ok (.iaload, 1) := by decide +kernel
theorem dL_move_94 : decode cL_move 94 = .ok (.iastore, 1) := by decide +kernel
theorem dL_move_95 : decode cL_move 95 = .ok (.aload_n 3, 1) := by decide +kernel
theorem dL_move_96 : decode cL_move 96 = .ok (.bipush 9, 2) := by decide +kernel
theorem dL_move_98 : decode cL_move 98 = .ok (.iload_n 1, 1) := by decide +kernel
theorem dL_move_99 : decode cL_move 99 = .ok (.imul, 1) := by decide +kernel
theorem dL_move_100 : decode cL_move 100 = .ok (.iload 4, 2) := by decide +kernel
theorem dL_move_102 : decode cL_move 102 = .ok (.iadd, 1) := by decide +kernel
theorem dL_move_103 : decode cL_move 103 = .ok (.iload 5, 2) := by decide +kernel
theorem dL_move_105 : decode cL_move 105 = .ok (.iastore, 1) := by decide +kernel
theorem dL_move_106 : decode cL_move 106 = .ok (.iinc 4 1, 3) := by decide +kernel
theorem dL_move_109 : decode cL_move 109 = .ok (.goto (-50), 3) := by decide +kernel
theorem dL_move_112 : decode cL_move 112 = .ok (.return_, 1) := by decide +kernel
theorem dL_act_0 : decode cL_act 0 = .ok (.iload_n 2, 1) := by decide +kernel
theorem dL_act_1 : decode cL_act 1 = .ok (.bipush 16, 2) := by decide +kernel
theorem dL_act_3 : decode cL_act 3 = .ok (.invokestatic 53, 3) := by decide +kernel
theorem dL_act_6 : decode cL_act 6 = .ok (.istore 8, 2) := by decide +kernel
theorem dL_act_8 : decode cL_act 8 = .ok (.iload_n 3, 1) := by decide +kernel
theorem dL_act_9 : decode cL_act 9 = .ok (.bipush 10, 2) := by decide +kernel
theorem dL_act_11 : decode cL_act 11 = .ok (.invokestatic 53, 3) := by decide +kernel
theorem dL_act_14 : decode cL_act 14 = .ok (.istore 9, 2) := by decide +kernel
theorem dL_act_16 : decode cL_act 16 = .ok (.iload_n 1, 1) := by decide +kernel
theorem dL_act_17 : decode cL_act 17 = .ok (.iconst 4, 1) := by decide +kernel
theorem dL_act_18 : decode cL_act 18 = .ok (.if_icmp .lt 17, 3) := by decide +kernel
theorem dL_act_21 : decode cL_act 21 = .ok (.iload_n 1, 1) := by decide +kernel
theorem dL_act_22 : decode cL_act 22 = .ok (.bipush 9, 2) := by decide +kernel
theorem dL_act_24 : decode cL_act 24 = .ok (.if_icmp .ge 245, 3) := by decide +kernel
theorem dL_act_27 : decode cL_act 27 = .ok (.aload 7, 2) := by decide +kernel
theorem dL_act_29 : decode cL_act 29 = .ok (.iconst 0, 1) := by decide +kernel
theorem dL_act_30 : decode cL_act 30 = .ok (.iaload, 1) := by decide +kernel
theorem dL_act_31 : decode cL_act 31 = .ok (.iconst 3, 1) := by decide +kernel
theorem dL_act_32 : decode cL_act 32 = .ok (.if_icmp .ne 237, 3) := by decide +kernel
theorem dL_act_35 : decode cL_act 35 = .ok (.iload_n 2, 1) := by decide +kernel
theorem dL_act_36 : decode cL_act 36 = .ok (.iconst 4, 1) := by decide +kernel
theorem dL_act_37 : decode cL_act 37 = .ok (.ishr, 1) := by decide +kernel
theorem dL_act_38 : decode cL_act 38 = .ok (.bipush 16, 2) := by decide +kernel
theorem dL_act_40 : decode cL_act 40 = .ok (.invokestatic 53, 3) := by decide +kernel
theorem dL_act_43 : decode cL_act 43 = .ok (.istore 10, 2) := by decide +kernel
theorem dL_act_45 : decode cL_act 45 = .ok (.iload_n 3, 1) := by decide +kernel
theorem dL_act_46 : decode cL_act 46 = .ok (.iconst 4, 1) := by decide +kernel
theorem dL_act_47 : decode cL_act 47 = .ok (.ishr, 1) := by decide +kernel
theorem dL_act_48 : decode cL_act 48 = .ok (.bipush 10, 2) := by decide +kernel
theorem dL_act_50 : decode cL_act 50 = .ok (.invokestatic 53, 3) := by decide +kernel
theorem dL_act_53 : decode cL_act 53 = .ok (.istore 11, 2) := by decide +kernel
theorem dL_act_55 : decode cL_act 55 = .ok (.iload_n 2, 1) := by decide +kernel
theorem dL_act_56 : decode cL_act 56 = .ok (.bipush 8, 2) := by decide +kernel
theorem dL_act_58 : decode cL_act 58 = .ok (.ishr, 1) := by decide +kernel
theorem dL_act_59 : decode cL_act 59 = .ok (.iconst 3, 1) := by decide +kernel
theorem dL_act_60 : decode cL_act 60 = .ok (.invokestatic 53, 3) := by decide +kernel
theorem dL_act_63 : decode cL_act 63 = .ok (.ifCond .ne 15, 3) := by decide +kernel
theorem dL_act_66 : decode cL_act 66 = .ok (.iload_n 3, 1) := by decide +kernel
theorem dL_act_67 : decode cL_act 67 = .ok (.bipush 8, 2) := by decide +kernel
theorem dL_act_69 : decode cL_act 69 = .ok (.ishr, 1) := by decide +kernel
theorem dL_act_70 : decode cL_act 70 = .ok (.bipush 100, 2) := by decide +kernel
theorem dL_act_72 : decode cL_act 72 = .ok (.invokestatic 53, 3) := by decide +kernel
theorem dL_act_75 : decode cL_act 75 = .ok (.goto 17, 3) := by decide +kernel
theorem dL_act_78 : decode cL_act 78 = .ok (.bipush 40, 2) := by decide +kernel
theorem dL_act_80 : decode cL_act 80 = .ok (.bipush 10, 2) := by decide +kernel
theorem dL_act_82 : decode cL_act 82 = .ok (.iload_n 3, 1) := by decide +kernel
theorem dL_act_83 : decode cL_act 83 = .ok (.bipush 8, 2) := by decide +kernel
theorem dL_act_85 : decode cL_act 85 = .ok (.ishr, 1) := by decide +kernel
theorem dL_act_86 : decode cL_act 86 = .ok (.iconst 4, 1) := by decide +kernel
theorem dL_act_87 : decode cL_act 87 = .ok (.invokestatic 53, 3) := by decide +kernel
theorem dL_act_90 : decode cL_act 90 = .ok (.imul, 1) := by decide +kernel
theorem dL_act_91 : decode cL_act 91 = .ok (.iadd, 1) := by decide +kernel
theorem dL_act_92 : decode cL_act 92 = .ok (.istore 12, 2) := by decide +kernel
theorem dL_act_94 : decode cL_act 94 = .ok (.iconst 0, 1) := by decide +kernel
theorem dL_act_95 : decode cL_act 95 = .ok (.istore 13, 2) := by decide +kernel
theorem dL_act_97 : decode cL_act 97 = .ok (.iconst 0, 1) := by decide +kernel
theorem dL_act_98 : decode cL_act 98 = .ok (.istore 14, 2) := by decide +kernel
theorem dL_act_100 : decode cL_act 100 = .ok (.iload 14, 2) := by decide +kernel
theorem dL_act_102 : decode cL_act 102 = .ok (.sipush 160, 3) := by decide +kernel
theorem dL_act_105 : decode cL_act 105 = .ok (.if_icmp .ge 139, 3) := by decide +kernel
theorem dL_act_108 : decode cL_act 108 = .ok (.iload 14, 2) := by decide +kernel
theorem dL_act_110 : decode cL_act 110 = .ok (.bipush 16, 2) := by decide +kernel
theorem dL_act_112 : decode cL_act 112 = .ok (.irem, 1) := by decide +kernel
theorem dL_act_113 : decode cL_act 113 = .ok (.istore 15, 2) := by decide +kernel
theorem dL_act_115 : decode cL_act 115 = .ok (.iload 14, 2) := by decide +kernel
theorem dL_act_117 : decode cL_act 117 = .ok (.bipush 16, 2) := by decide +kernel
theorem dL_act_119 : decode cL_act 119 = .ok (.idiv, 1) := by decide +kernel
theorem dL_act_120 : decode cL_act 120 = .ok (.istore 16, 2) := by decide +kernel
theorem dL_act_122 : decode cL_act 122 = .ok (.iload 15, 2) := by decide +kernel
theorem dL_act_124 : decode cL_act 124 = .ok (.iload 8, 2) := by decide +kernel
theorem dL_act_126 : decode cL_act 126 = .ok (.iload 10, 2) := by decide +kernel
theorem dL_act_128 : decode cL_act 128 = .ok (.if_icmp .ge 8, 3) := by decide +kernel
theorem dL_act_131 : decode cL_act 131 = .ok (.iload 8, 2) := by decide +kernel
theorem dL_act_133 : decode cL_act 133 = .ok (.goto 5, 3) := by decide +kernel
theorem dL_act_136 : decode cL_act 136 = .ok (.iload 10, 2) := by decide +kernel
theorem dL_act_138 : decode cL_act 138 = .ok (.if_icmp .lt 100, 3) := by decide +kernel
theorem dL_act_141 : decode cL_act 141 = .ok (.iload 15, 2) := by decide +kernel
theorem dL_act_143 : decode cL_act 143 = .ok (.iload 8, 2) := by decide +kernel
theorem dL_act_145 : decode cL_act 145 = .ok (.iload 10, 2) := by decide +kernel
theorem dL_act_147 : decode cL_act 147 = .ok (.if_icmp .ge 8, 3) := by decide +kernel
theorem dL_act_150 : decode cL_act 150 = .ok (.iload 10, 2) := by decide +kernel
theorem dL_act_152 : decode cL_act 152 = .ok (.goto 5, 3) := by decide +kernel
theorem dL_act_155 : decode cL_act 155 = .ok (.iload 8, 2) := by decide +kernel
theorem dL_act_157 : decode cL_act 157 = .ok (.if_icmp .gt 81, 3) := by decide +kernel
theorem dL_act_160 : decode cL_act 160 = .ok (.iload 16, 2) := by decide +kernel
theorem dL_act_162 : decode cL_act 162 = .ok (.iload 9, 2) := by decide +kernel
theorem dL_act_164 : decode cL_act 164 = .ok (.iload 11, 2) := by decide +kernel
theorem dL_act_166 : decode cL_act 166 = .ok (.if_icmp .ge 8, 3) := by decide +kernel
theorem dL_act_169 : decode cL_act 169 = .ok (.iload 9, 2) := by decide +kernel
theorem dL_act_171 : decode cL_act 171 = .ok (.goto 5, 3) := by decide +kernel
theorem dL_act_174 : decode cL_act 174 = .ok (.iload 11, 2) := by decide +kernel
theorem dL_act_176 : decode cL_act 176 = .ok (.if_icmp .lt 62, 3) := by decide +kernel
theorem dL_act_179 : decode cL_act 179 = .ok (.iload 16, 2) := by decide +kernel
theorem dL_act_181 : decode cL_act 181 = .ok (.iload 9, 2) := by decide +kernel
theorem dL_act_183 : decode cL_act 183 = .ok (.iload 11, 2) := by decide +kernel
theorem dL_act_185 : decode cL_act 185 = .ok (.if_icmp .ge 8, 3) := by decide +kernel
theorem dL_act_188 : decode cL_act 188 = .ok (.iload 11, 2) := by decide +kernel
theorem dL_act_190 : decode cL_act 190 = .ok (.goto 5, 3) := by decide +kernel
theorem dL_act_193 : decode cL_act 193 = .ok (.iload 9, 2) := by decide +kernel
theorem dL_act_195 : decode cL_act 195 = .ok (.if_icmp .le 6, 3) := by decide +kernel
theorem dL_act_198 : decode cL_act 198 = .ok (.goto 40, 3) := by decide +kernel
theorem dL_act_201 : decode cL_act 201 = .ok (.iload 13, 2) := by decide +kernel
theorem dL_act_203 : decode cL_act 203 = .ok (.aload 4, 2) := by decide +kernel
theorem dL_act_205 : decode cL_act 205 = .ok (.iconst 0, 1) := by decide +kernel
theorem dL_act_206 : decode cL_act 206 = .ok (.iload 15, 2) := by decide +kernel
theorem dL_act_208 : decode cL_act 208 = .ok (.iload 16, 2) := by decide +kernel
theorem dL_act_210 : decode cL_act 210 = .ok (.invokestatic 12, 3) := by decide +kernel
theorem dL_act_213 : decode cL_act 213 = .ok (.iload 12, 2) := by decide +kernel
theorem dL_act_215 : decode cL_act 215 = .ok (.if_icmp .eq 7, 3) := by decide +kernel
theorem dL_act_218 : decode cL_act 218 = .ok (.iconst 1, 1) := by decide +kernel
theorem dL_act_219 : decode cL_act 219 = .ok (.goto 4, 3) := by decide +kernel
theorem dL_act_222 : decode cL_act 222 = .ok (.iconst 0, 1) := by decide +kernel
theorem dL_act_223 : decode cL_act 223 = .ok (.iadd, 1) := by decide +kernel
theorem dL_act_224 : decode cL_act 224 = .ok (.istore 13, 2) := by decide +kernel
theorem dL_act_226 : decode cL_act 226 = .ok (.aload 4, 2) := by decide +kernel
theorem dL_act_228 : decode cL_act 228 = .ok (.iconst 0, 1) := by decide +kernel
theorem dL_act_229 : decode cL_act 229 = .ok (.iload 15, 2) := by decide +kernel
theorem dL_act_231 : decode cL_act 231 = .ok (.iload 16, 2) := by decide +kernel
theorem dL_act_233 : decode cL_act 233 = .ok (.iload 12, 2) := by decide +kernel
theorem dL_act_235 : decode cL_act 235 = .ok (.invokestatic 34, 3) := by decide +kernel
theorem dL_act_238 : decode cL_act 238 = .ok (.iinc 14 1, 3) := by decide +kernel
theorem dL_act_241 : decode cL_act 241 = .ok (.goto (-141), 3) := by decide +kernel
theorem dL_act_244 : decode cL_act 244 = .ok (.aload_n 0, 1) := by decide +kernel
theorem dL_act_245 : decode cL_act 245 = .ok (.iload 8, 2) := by decide +kernel
theorem dL_act_247 : decode cL_act 247 = .ok (.iload 9, 2) := by decide +kernel
theorem dL_act_249 : decode cL_act 249 = .ok (.iload 10, 2) := by decide +kernel
theorem dL_act_251 : decode cL_act 251 = .ok (.iload 11, 2) := by decide +kernel
theorem dL_act_253 : decode cL_act 253 = .ok (.iload 12, 2) := by decide +kernel
theorem dL_act_255 : decode cL_act 255 = .ok (.invokevirtual 68, 3) := by decide +kernel
theorem dL_act_258 : decode cL_act 258 = .ok (.iload 13, 2) := by decide +kernel
theorem dL_act_260 : decode cL_act 260 = .ok (.if_icmp .ne 7, 3) := by decide +kernel
theorem dL_act_263 : decode cL_act 263 = .ok (.iconst 1, 1) := by decide +kernel
theorem dL_act_264 : decode cL_act 264 = .ok (.goto 4, 3) := by decide +kernel
theorem dL_act_267 : decode cL_act 267 = .ok (.iconst 0, 1) := by decide +kernel
theorem dL_act_268 : decode cL_act 268 = .ok (.ireturn, 1) := by decide +kernel
theorem dL_act_269 : decode cL_act 269 = .ok (.iload_n 1, 1) := by decide +kernel
theorem dL_act_270 : decode cL_act 270 = .ok (.bipush 9, 2) := by decide +kernel
theorem dL_act_272 : decode cL_act 272 = .ok (.if_icmp .ge 286, 3) := by decide +kernel
theorem dL_act_275 : decode cL_act 275 = .ok (.bipush 10, 2) := by decide +kernel
theorem dL_act_277 : decode cL_act 277 = .ok (.newarray .int, 2) := by decide +kernel
theorem dL_act_279 : decode cL_act 279 = .ok (.astore 10, 2) := by decide +kernel
theorem dL_act_281 : decode cL_act 281 = .ok (.iload_n 2, 1) := by decide +kernel
theorem dL_act_282 : decode cL_act 282 = .ok (.bipush 8, 2) := by decide +kernel
theorem dL_act_284 : decode cL_act 284 = .ok (.ishr, 1) := by decide +kernel
theorem dL_act_285 : decode cL_act 285 = .ok (.iconst 3, 1) := by decide +kernel
theorem dL_act_286 : decode cL_act 286 = .ok (.invokestatic 53, 3) := by decide +kernel
theorem dL_act_289 : decode cL_act 289 = .ok (.ifCond .ne 15, 3) := by decide +kernel
theorem dL_act_292 : decode cL_act 292 = .ok (.iload_n 3, 1) := by decide +kernel
theorem dL_act_293 : decode cL_act 293 = .ok (.bipush 8, 2) := by decide +kernel
theorem dL_act_295 : decode cL_act 295 = .ok (.ishr, 1) := by decide +kernel
theorem dL_act_296 : decode cL_act 296 = .ok (.bipush 100, 2) := by decide +kernel
theorem dL_act_298 : decode cL_act 298 = .ok (.invokestatic 53, 3) := by decide +kernel
theorem dL_act_301 : decode cL_act 301 = .ok (.goto 12, 3) := by decide +kernel
theorem dL_act_304 : decode cL_act 304 = .ok (.iload_n 3, 1) := by decide +kernel
theorem dL_act_305 : decode cL_act 305 = .ok (.bipush 8, 2) := by decide +kernel
theorem dL_act_307 : decode cL_act 307 = .ok (.ishr, 1) := by decide +kernel
theorem dL_act_308 : decode cL_act 308 = .ok (.bipush 25, 2) := by decide +kernel
theorem dL_act_310 : decode cL_act 310 = .ok (.invokestatic 53, 3) := by decide +kernel
theorem dL_act_313 : decode cL_act 313 = .ok (.istore 11, 2) := by decide +kernel
theorem dL_act_315 : decode cL_act 315 = .ok (.iload_n 2, 1) := by decide +kernel
theorem dL_act_316 : decode cL_act 316 = .ok (.bipush 10, 2) := by decide +kernel
theorem dL_act_318 : decode cL_act 318 = .ok (.ishr, 1) := by decide +kernel
theorem dL_act_319 : decode cL_act 319 = .ok (.iconst 2, 1) := by decide +kernel
theorem dL_act_320 : decode cL_act 320 = .ok (.invokestatic 53, 3) := by decide +kernel
theorem dL_act_323 : decode cL_act 323 = .ok (.istore 12, 2) := by decide +kernel
theorem dL_act_325 : decode cL_act 325 = .ok (.iload_n 2, 1) := by decide +kernel
theorem dL_act_326 : decode cL_act 326 = .ok (.bipush 12, 2) := by decide +kernel
theorem dL_act_328 : decode cL_act 328 = .ok (.ishr, 1) := by decide +kernel
theorem dL_act_329 : decode cL_act 329 = .ok (.bipush 6, 2) := by decide +kernel
theorem dL_act_331 : decode cL_act 331 = .ok (.invokestatic 53, 3) := by decide +kernel
theorem dL_act_334 : decode cL_act 334 = .ok (.istore 13, 2) := by decide +kernel
theorem dL_act_336 : decode cL_act 336 = .ok (.aload 7, 2) := by decide +kernel
theorem dL_act_338 : decode cL_act 338 = .ok (.iconst 0, 1) := by decide +kernel
theorem dL_act_339 : decode cL_act 339 = .ok (.iaload, 1) := by decide +kernel
theorem dL_act_340 : decode cL_act 340 = .ok (.ifCond .ne 7, 3) := by decide +kernel
theorem dL_act_343 : decode cL_act 343 = .ok (.iconst 0, 1) := by decide +kernel
theorem dL_act_344 : decode cL_act 344 = .ok (.goto 11, 3) := by decide +kernel
theorem dL_act_347 : decode cL_act 347 = .ok (.iload_n 3, 1) := by decide +kernel
theorem dL_act_348 : decode cL_act 348 = .ok (.bipush 14, 2) := by decide +kernel
theorem dL_act_350 : decode cL_act 350 = .ok (.ishr, 1) := by decide +kernel
theorem dL_act_351 : decode cL_act 351 = .ok (.iconst 4, 1) := by decide +kernel
theorem dL_act_352 : decode cL_act 352 = .ok (.invokestatic 53, 3) := by decide +kernel
theorem dL_act_355 : decode cL_act 355 = .ok (.istore 14, 2) := by decide +kernel
theorem dL_act_357 : decode cL_act 357 = .ok (.iload_n 2, 1) := by decide +kernel
theorem dL_act_358 : decode cL_act 358 = .ok (.bipush 15, 2) := by decide +kernel
theorem dL_act_360 : decode cL_act 360 = .ok (.ishr, 1) := by decide +kernel
theorem dL_act_361 : decode cL_act 361 = .ok (.iconst 5, 1) := by decide +kernel
theorem dL_act_362 : decode cL_act 362 = .ok (.invokestatic 53, 3) := by decide +kernel
theorem dL_act_365 : decode cL_act 365 = .ok (.istore 15, 2) := by decide +kernel
theorem dL_act_367 : decode cL_act 367 = .ok (.iload 8, 2) := by decide +kernel
theorem dL_act_369 : decode cL_act 369 = .ok (.iload 9, 2) := by decide +kernel
theorem dL_act_371 : decode cL_act 371 = .ok (.iload 11, 2) := by decide +kernel
theorem dL_act_373 : decode cL_act 373 = .ok (.iload 12, 2) := by decide +kernel
theorem dL_act_375 : decode cL_act 375 = .ok (.iload 13, 2) := by decide +kernel
theorem dL_act_377 : decode cL_act 377 = .ok (.aload 4, 2) := by decide +kernel
theorem dL_act_379 : decode cL_act 379 = .ok (.aload 10, 2) := by decide +kernel
theorem dL_act_381 : decode cL_act 381 = .ok (.invokestatic 72, 3) := by decide +kernel
theorem dL_act_384 : decode cL_act 384 = .ok (.istore 16, 2) := by decide +kernel
theorem dL_act_386 : decode cL_act 386 = .ok (.bipush 9, 2) := by decide +kernel
theorem dL_act_388 : decode cL_act 388 = .ok (.aload 7, 2) := by decide +kernel
theorem dL_act_390 : decode cL_act 390 = .ok (.iconst 0, 1) := by decide +kernel
theorem dL_act_391 : decode cL_act 391 = .ok (.iaload, 1) := by decide +kernel
theorem dL_act_392 : decode cL_act 392 = .ok (.imul, 1) := by decide +kernel
theorem dL_act_393 : decode cL_act 393 = .ok (.istore 17, 2) := by decide +kernel
theorem dL_act_395 : decode cL_act 395 = .ok (.aload 6, 2) := by decide +kernel
theorem dL_act_397 : decode cL_act 397 = .ok (.iload 17, 2) := by decide +kernel
theorem dL_act_399 : decode cL_act 399 = .ok (.iload 8, 2) := by decide +kernel
theorem dL_act_401 : decode cL_act 401 = .ok (.iastore, 1) := by decide +kernel
theorem dL_act_402 : decode cL_act 402 = .ok (.aload 6, 2) := by decide +kernel
theorem dL_act_404 : decode cL_act 404 = .ok (.iload 17, 2) := by decide +kernel
theorem dL_act_406 : decode cL_act 406 = .ok (.iconst 1, 1) := by decide +kernel
theorem dL_act_407 : decode cL_act 407 = .ok (.iadd, 1) := by decide +kernel
theorem dL_act_408 : decode cL_act 408 = .ok (.iload 9, 2) := by decide +kernel
theorem dL_act_410 : decode cL_act 410 = .ok (.iastore, 1) := by decide +kernel
theorem dL_act_411 : decode cL_act 411 = .ok (.aload 6, 2) := by decide +kernel
theorem dL_act_413 : decode cL_act 413 = .ok (.iload 17, 2) := by decide +kernel
theorem dL_act_415 : decode cL_act 415 = .ok (.iconst 2, 1) := by decide +kernel
theorem dL_act_416 : decode cL_act 416 = .ok (.iadd, 1) := by decide +kernel
theorem dL_act_417 : decode cL_act 417 = .ok (.iload 11, 2) := by decide +kernel
theorem dL_act_419 : decode cL_act 419 = .ok (.iastore, 1) := by decide +kernel
theorem dL_act_420 : decode cL_act 420 = .ok (.aload 6, 2) := by decide +kernel
theorem dL_act_422 : decode cL_act 422 = .ok (.iload 17, 2) := by decide +kernel
theorem dL_act_424 : decode cL_act 424 = .ok (.iconst 3, 1) := by decide +kernel
theorem dL_act_425 : decode cL_act 425 = .ok (.iadd, 1) := by decide +kernel
theorem dL_act_426 : decode cL_act 426 = .ok (.iload 12, 2) := by decide +kernel
theorem dL_act_428 : decode cL_act 428 = .ok (.iastore, 1) := by decide +kernel
theorem dL_act_429 : decode cL_act 429 = .ok (.aload 6, 2) := by decide +kernel
theorem dL_act_431 : decode cL_act 431 = .ok (.iload 17, 2) := by decide +kernel
theorem dL_act_433 : decode cL_act 433 = .ok (.iconst 4, 1) := by decide +kernel
theorem dL_act_434 : decode cL_act 434 = .ok (.iadd, 1) := by decide +kernel
theorem dL_act_435 : decode cL_act 435 = .ok (.iload 13, 2) := by decide +kernel
theorem dL_act_437 : decode cL_act 437 = .ok (.iastore, 1) := by decide +kernel
theorem dL_act_438 : decode cL_act 438 = .ok (.aload 6, 2) := by decide +kernel
theorem dL_act_440 : decode cL_act 440 = .ok (.iload 17, 2) := by decide +kernel
theorem dL_act_442 : decode cL_act 442 = .ok (.iconst 5, 1) := by decide +kernel
theorem dL_act_443 : decode cL_act 443 = .ok (.iadd, 1) := by decide +kernel
theorem dL_act_444 : decode cL_act 444 = .ok (.iload 14, 2) := by decide +kernel
theorem dL_act_446 : decode cL_act 446 = .ok (.iastore, 1) := by decide +kernel
theorem dL_act_447 : decode cL_act 447 = .ok (.aload 6, 2) := by decide +kernel
theorem dL_act_449 : decode cL_act 449 = .ok (.iload 17, 2) := by decide +kernel
theorem dL_act_451 : decode cL_act 451 = .ok (.bipush 6, 2) := by decide +kernel
theorem dL_act_453 : decode cL_act 453 = .ok (.iadd, 1) := by decide +kernel
theorem dL_act_454 : decode cL_act 454 = .ok (.iload 15, 2) := by decide +kernel
theorem dL_act_456 : decode cL_act 456 = .ok (.iastore, 1) := by decide +kernel
theorem dL_act_457 : decode cL_act 457 = .ok (.aload 6, 2) := by decide +kernel
theorem dL_act_459 : decode cL_act 459 = .ok (.iload 17, 2) := by decide +kernel
theorem dL_act_461 : decode cL_act 461 = .ok (.bipush 7, 2) := by decide +kernel
theorem dL_act_463 : decode cL_act 463 = .ok (.iadd, 1) := by decide +kernel
theorem dL_act_464 : decode cL_act 464 = .ok (.iconst 1, 1) := by decide +kernel
theorem dL_act_465 : decode cL_act 465 = .ok (.iastore, 1) := by decide +kernel
theorem dL_act_466 : decode cL_act 466 = .ok (.aload 6, 2) := by decide +kernel
theorem dL_act_468 : decode cL_act 468 = .ok (.iload 17, 2) := by decide +kernel
theorem dL_act_470 : decode cL_act 470 = .ok (.bipush 8, 2) := by decide +kernel
theorem dL_act_472 : decode cL_act 472 = .ok (.iadd, 1) := by decide +kernel
theorem dL_act_473 : decode cL_act 473 = .ok (.iload 16, 2) := by decide +kernel
theorem dL_act_475 : decode cL_act 475 = .ok (.iastore, 1) := by decide +kernel
theorem dL_act_476 : decode cL_act 476 = .ok (.iload 15, 2) := by decide +kernel
theorem dL_act_478 : decode cL_act 478 = .ok (.bipush 20, 2) := by decide +kernel
theorem dL_act_480 : decode cL_act 480 = .ok (.aload 7, 2) := by decide +kernel
theorem dL_act_482 : decode cL_act 482 = .ok (.iconst 0, 1) := by decide +kernel
theorem dL_act_483 : decode cL_act 483 = .ok (.iaload, 1) := by decide +kernel
theorem dL_act_484 : decode cL_act 484 = .ok (.imul, 1) := by decide +kernel
theorem dL_act_485 : decode cL_act 485 = .ok (.aload 10, 2) := by decide +kernel
theorem dL_act_487 : decode cL_act 487 = .ok (.aload 5, 2) := by decide +kernel
theorem dL_act_489 : decode cL_act 489 = .ok (.invokestatic 76, 3) := by decide +kernel
theorem dL_act_492 : decode cL_act 492 = .ok (.aload 7, 2) := by decide +kernel
theorem dL_act_494 : decode cL_act 494 = .ok (.iconst 0, 1) := by decide +kernel
theorem dL_act_495 : decode cL_act 495 = .ok (.dup2, 1) := by decide +kernel
theorem dL_act_496 : decode cL_act 496 = .ok (.iaload, 1) := by decide +kernel
theorem dL_act_497 : decode cL_act 497 = .ok (.iconst 1, 1) := by decide +kernel
theorem dL_act_498 : decode cL_act 498 = .ok (.iadd, 1) := by decide +kernel
theorem dL_act_499 : decode cL_act 499 = .ok (.iastore, 1) := by decide +kernel
theorem dL_act_500 : decode cL_act 500 = .ok (.aload_n 0, 1) := by decide +kernel
theorem dL_act_501 : decode cL_act 501 = .ok (.iload 8, 2) := by decide +kernel
theorem dL_act_503 : decode cL_act 503 = .ok (.iload 9, 2) := by decide +kernel
theorem dL_act_505 : decode cL_act 505 = .ok (.iload 11, 2) := by decide +kernel
theorem dL_act_507 : decode cL_act 507 = .ok (.iload 12, 2) := by decide +kernel
theorem dL_act_509 : decode cL_act 509 = .ok (.iload 13, 2) := by decide +kernel
theorem dL_act_511 : decode cL_act 511 = .ok (.invokevirtual 80, 3) := by decide +kernel
theorem dL_act_514 : decode cL_act 514 = .ok (.aload 10, 2) := by decide +kernel
theorem dL_act_516 : decode cL_act 516 = .ok (.invokestatic 83, 3) := by decide +kernel
theorem dL_act_519 : decode cL_act 519 = .ok (.if_icmp .ne 37, 3) := by decide +kernel
theorem dL_act_522 : decode cL_act 522 = .ok (.aload_n 0, 1) := by decide +kernel
theorem dL_act_523 : decode cL_act 523 = .ok (.iload 8, 2) := by decide +kernel
theorem dL_act_525 : decode cL_act 525 = .ok (.iload 9, 2) := by decide +kernel
theorem dL_act_527 : decode cL_act 527 = .ok (.iload 11, 2) := by decide +kernel
theorem dL_act_529 : decode cL_act 529 = .ok (.iload 12, 2) := by decide +kernel
theorem dL_act_531 : decode cL_act 531 = .ok (.iload 13, 2) := by decide +kernel
theorem dL_act_533 : decode cL_act 533 = .ok (.iload 14, 2) := by decide +kernel
theorem dL_act_535 : decode cL_act 535 = .ok (.bipush 10, 2) := by decide +kernel
theorem dL_act_537 : decode cL_act 537 = .ok (.iload 15, 2) := by decide +kernel
theorem dL_act_539 : decode cL_act 539 = .ok (.imul, 1) := by decide +kernel
theorem dL_act_540 : decode cL_act 540 = .ok (.iadd, 1) := by decide +kernel
theorem dL_act_541 : decode cL_act 541 = .ok (.invokevirtual 87, 3) := by decide +kernel
theorem dL_act_544 : decode cL_act 544 = .ok (.aload 10, 2) := by decide +kernel
theorem dL_act_546 : decode cL_act 546 = .ok (.invokestatic 83, 3) := by decide +kernel
theorem dL_act_549 : decode cL_act 549 = .ok (.if_icmp .ne 7, 3) := by decide +kernel
theorem dL_act_552 : decode cL_act 552 = .ok (.iconst 1, 1) := by decide +kernel
theorem dL_act_553 : decode cL_act 553 = .ok (.goto 4, 3) := by decide +kernel
theorem dL_act_556 : decode cL_act 556 = .ok (.iconst 0, 1) := by decide +kernel
theorem dL_act_557 : decode cL_act 557 = .ok (.ireturn, 1) := by decide +kernel
theorem dL_act_558 : decode cL_act 558 = .ok (.iload_n 1, 1) := by decide +kernel
theorem dL_act_559 : decode cL_act 559 = .ok (.bipush 9, 2) := by decide +kernel
theorem dL_act_561 : decode cL_act 561 = .ok (.if_icmp .ne 134, 3) := by decide +kernel
theorem dL_act_564 : decode cL_act 564 = .ok (.iload_n 3, 1) := by decide +kernel
theorem dL_act_565 : decode cL_act 565 = .ok (.bipush 100, 2) := by decide +kernel
theorem dL_act_567 : decode cL_act 567 = .ok (.invokestatic 53, 3) := by decide +kernel
theorem dL_act_570 : decode cL_act 570 = .ok (.istore 10, 2) := by decide +kernel
theorem dL_act_572 : decode cL_act 572 = .ok (.iconst 0, 1) := by decide +kernel
theorem dL_act_573 : decode cL_act 573 = .ok (.istore 11, 2) := by decide +kernel
theorem dL_act_575 : decode cL_act 575 = .ok (.iconst 0, 1) := by decide +kernel
theorem dL_act_576 : decode cL_act 576 = .ok (.istore 12, 2) := by decide +kernel
theorem dL_act_578 : decode cL_act 578 = .ok (.iload 12, 2) := by decide +kernel
theorem dL_act_580 : decode cL_act 580 = .ok (.sipush 160, 3) := by decide +kernel
theorem dL_act_583 : decode cL_act 583 = .ok (.if_icmp .ge 95, 3) := by decide +kernel
theorem dL_act_586 : decode cL_act 586 = .ok (.aload 4, 2) := by decide +kernel
theorem dL_act_588 : decode cL_act 588 = .ok (.iconst 0, 1) := by decide +kernel
theorem dL_act_589 : decode cL_act 589 = .ok (.iload 12, 2) := by decide +kernel
theorem dL_act_591 : decode cL_act 591 = .ok (.bipush 16, 2) := by decide +kernel
theorem dL_act_593 : decode cL_act 593 = .ok (.irem, 1) := by decide +kernel
theorem dL_act_594 : decode cL_act 594 = .ok (.iload 12, 2) := by decide +kernel
theorem dL_act_596 : decode cL_act 596 = .ok (.bipush 16, 2) := by decide +kernel
theorem dL_act_598 : decode cL_act 598 = .ok (.idiv, 1) := by decide +kernel
theorem dL_act_599 : decode cL_act 599 = .ok (.invokestatic 12, 3) := by decide +kernel
theorem dL_act_602 : decode cL_act 602 = .ok (.istore 13, 2) := by decide +kernel
theorem dL_act_604 : decode cL_act 604 = .ok (.iload 13, 2) := by decide +kernel
theorem dL_act_606 : decode cL_act 606 = .ok (.iload 10, 2) := by decide +kernel
theorem dL_act_608 : decode cL_act 608 = .ok (.iload 13, 2) := by decide +kernel
theorem dL_act_610 : decode cL_act 610 = .ok (.isub, 1) := by decide +kernel
theorem dL_act_611 : decode cL_act 611 = .ok (.iload 12, 2) := by decide +kernel
theorem dL_act_613 : decode cL_act 613 = .ok (.bipush 16, 2) := by decide +kernel
theorem dL_act_615 : decode cL_act 615 = .ok (.irem, 1) := by decide +kernel
theorem dL_act_616 : decode cL_act 616 = .ok (.iload 12, 2) := by decide +kernel
theorem dL_act_618 : decode cL_act 618 = .ok (.bipush 16, 2) := by decide +kernel
theorem dL_act_620 : decode cL_act 620 = .ok (.idiv, 1) := by decide +kernel
theorem dL_act_621 : decode cL_act 621 = .ok (.aload 5, 2) := by decide +kernel
theorem dL_act_623 : decode cL_act 623 = .ok (.aload 6, 2) := by decide +kernel
theorem dL_act_625 : decode cL_act 625 = .ok (.aload 7, 2) := by decide +kernel
theorem dL_act_627 : decode cL_act 627 = .ok (.invokestatic 39, 3) := by decide +kernel
theorem dL_act_630 : decode cL_act 630 = .ok (.imul, 1) := by decide +kernel
theorem dL_act_631 : decode cL_act 631 = .ok (.bipush 100, 2) := by decide +kernel
theorem dL_act_633 : decode cL_act 633 = .ok (.idiv, 1) := by decide +kernel
theorem dL_act_634 : decode cL_act 634 = .ok (.iadd, 1) := by decide +kernel
theorem dL_act_635 : decode cL_act 635 = .ok (.istore 14, 2) := by decide +kernel
theorem dL_act_637 : decode cL_act 637 = .ok (.iload 11, 2) := by decide +kernel
theorem dL_act_639 : decode cL_act 639 = .ok (.iload 14, 2) := by decide +kernel
theorem dL_act_641 : decode cL_act 641 = .ok (.iload 13, 2) := by decide +kernel
theorem dL_act_643 : decode cL_act 643 = .ok (.if_icmp .eq 7, 3) := by decide +kernel
theorem dL_act_646 : decode cL_act 646 = .ok (.iconst 1, 1) := by decide +kernel
theorem dL_act_647 : decode cL_act 647 = .ok (.goto 4, 3) := by decide +kernel
theorem dL_act_650 : decode cL_act 650 = .ok (.iconst 0, 1) := by decide +kernel
theorem dL_act_651 : decode cL_act 651 = .ok (.iadd, 1) := by decide +kernel
theorem dL_act_652 : decode cL_act 652 = .ok (.istore 11, 2) := by decide +kernel
theorem dL_act_654 : decode cL_act 654 = .ok (.aload 4, 2) := by decide +kernel
theorem dL_act_656 : decode cL_act 656 = .ok (.iconst 0, 1) := by decide +kernel
theorem dL_act_657 : decode cL_act 657 = .ok (.iload 12, 2) := by decide +kernel
theorem dL_act_659 : decode cL_act 659 = .ok (.bipush 16, 2) := by decide +kernel
theorem dL_act_661 : decode cL_act 661 = .ok (.irem, 1) := by decide +kernel
theorem dL_act_662 : decode cL_act 662 = .ok (.iload 12, 2) := by decide +kernel
theorem dL_act_664 : decode cL_act 664 = .ok (.bipush 16, 2) := by decide +kernel
theorem dL_act_666 : decode cL_act 666 = .ok (.idiv, 1) := by decide +kernel
theorem dL_act_667 : decode cL_act 667 = .ok (.iload 14, 2) := by decide +kernel
theorem dL_act_669 : decode cL_act 669 = .ok (.invokestatic 34, 3) := by decide +kernel
theorem dL_act_672 : decode cL_act 672 = .ok (.iinc 12 1, 3) := by decide +kernel
theorem dL_act_675 : decode cL_act 675 = .ok (.goto (-97), 3) := by decide +kernel
theorem dL_act_678 : decode cL_act 678 = .ok (.aload_n 0, 1) := by decide +kernel
theorem dL_act_679 : decode cL_act 679 = .ok (.iload 10, 2) := by decide +kernel
theorem dL_act_681 : decode cL_act 681 = .ok (.invokevirtual 91, 3) := by decide +kernel
theorem dL_act_684 : decode cL_act 684 = .ok (.iload 11, 2) := by decide +kernel
theorem dL_act_686 : decode cL_act 686 = .ok (.if_icmp .ne 7, 3) := by decide +kernel
theorem dL_act_689 : decode cL_act 689 = .ok (.iconst 1, 1) := by decide +kernel
theorem dL_act_690 : decode cL_act 690 = .ok (.goto 4, 3) := by decide +kernel
theorem dL_act_693 : decode cL_act 693 = .ok (.iconst 0, 1) := by decide +kernel
theorem dL_act_694 : decode cL_act 694 = .ok (.ireturn, 1) := by decide +kernel
theorem dL_act_695 : decode cL_act 695 = .ok (.iload_n 1, 1) := by decide +kernel
theorem dL_act_696 : decode cL_act 696 = .ok (.bipush 10, 2) := by decide +kernel
theorem dL_act_698 : decode cL_act 698 = .ok (.if_icmp .ne 92, 3) := by decide +kernel
theorem dL_act_701 : decode cL_act 701 = .ok (.iconst 0, 1) := by decide +kernel
theorem dL_act_702 : decode cL_act 702 = .ok (.istore 10, 2) := by decide +kernel
theorem dL_act_704 : decode cL_act 704 = .ok (.iconst 0, 1) := by decide +kernel
theorem dL_act_705 : decode cL_act 705 = .ok (.istore 11, 2) := by decide +kernel
theorem dL_act_707 : decode cL_act 707 = .ok (.iload 11, 2) := by decide +kernel
theorem dL_act_709 : decode cL_act 709 = .ok (.aload 7, 2) := by decide +kernel
theorem dL_act_711 : decode cL_act 711 = .ok (.iconst 0, 1) := by decide +kernel
theorem dL_act_712 : decode cL_act 712 = .ok (.iaload, 1) := by decide +kernel
theorem dL_act_713 : decode cL_act 713 = .ok (.if_icmp .ge 47, 3) := by decide +kernel
theorem dL_act_716 : decode cL_act 716 = .ok (.aload 6, 2) := by decide +kernel
theorem dL_act_718 : decode cL_act 718 = .ok (.bipush 9, 2) := by decide +kernel
theorem dL_act_720 : decode cL_act 720 = .ok (.iload 11, 2) := by decide +kernel
theorem dL_act_722 : decode cL_act 722 = .ok (.imul, 1) := by decide +kernel
theorem dL_act_723 : decode cL_act 723 = .ok (.bipush 7, 2) := by decide +kernel
theorem dL_act_725 : decode cL_act 725 = .ok (.iadd, 1) := by decide +kernel
theorem dL_act_726 : decode cL_act 726 = .ok (.iaload, 1) := by decide +kernel
theorem dL_act_727 : decode cL_act 727 = .ok (.ifCond .ne 6, 3) := by decide +kernel
theorem dL_act_730 : decode cL_act 730 = .ok (.goto 24, 3) := by decide +kernel
theorem dL_act_733 : decode cL_act 733 = .ok (.iload 10, 2) := by decide +kernel
theorem dL_act_735 : decode cL_act 735 = .ok (.iload 11, 2) := by decide +kernel
theorem dL_act_737 : decode cL_act 737 = .ok (.if_icmp .ge 14, 3) := by decide +kernel
theorem dL_act_740 : decode cL_act 740 = .ok (.iload 11, 2) := by decide +kernel
theorem dL_act_742 : decode cL_act 742 = .ok (.iload 10, 2) := by decide +kernel
theorem dL_act_744 : decode cL_act 744 = .ok (.aload 5, 2) := by decide +kernel
theorem dL_act_746 : decode cL_act 746 = .ok (.aload 6, 2) := by decide +kernel
theorem dL_act_748 : decode cL_act 748 = .ok (.invokestatic 94, 3) := by decide +kernel
theorem dL_act_751 : decode cL_act 751 = .ok (.iinc 10 1, 3) := by decide +kernel
theorem dL_act_754 : decode cL_act 754 = .ok (.iinc 11 1, 3) := by decide +kernel
theorem dL_act_757 : decode cL_act 757 = .ok (.goto (-50), 3) := by decide +kernel
theorem dL_act_760 : decode cL_act 760 = .ok (.aload 7, 2) := by decide +kernel
theorem dL_act_762 : decode cL_act 762 = .ok (.iconst 0, 1) := by decide +kernel
theorem dL_act_763 : decode cL_act 763 = .ok (.iaload, 1) := by decide +kernel
theorem dL_act_764 : decode cL_act 764 = .ok (.iload 10, 2) := by decide +kernel
theorem dL_act_766 : decode cL_act 766 = .ok (.isub, 1) := by decide +kernel
theorem dL_act_767 : decode cL_act 767 = .ok (.istore 11, 2) := by decide +kernel
theorem dL_act_769 : decode cL_act 769 = .ok (.aload 7, 2) := by decide +kernel
theorem dL_act_771 : decode cL_act 771 = .ok (.iconst 0, 1) := by decide +kernel
theorem dL_act_772 : decode cL_act 772 = .ok (.iload 10, 2) := by decide +kernel
theorem dL_act_774 : decode cL_act 774 = .ok (.iastore, 1) := by decide +kernel
theorem dL_act_775 : decode cL_act 775 = .ok (.aload_n 0, 1) := by decide +kernel
theorem dL_act_776 : decode cL_act 776 = .ok (.invokevirtual 98, 3) := by decide +kernel
theorem dL_act_779 : decode cL_act 779 = .ok (.iload 11, 2) := by decide +kernel
theorem dL_act_781 : decode cL_act 781 = .ok (.if_icmp .ne 7, 3) := by decide +kernel
theorem dL_act_784 : decode cL_act 784 = .ok (.iconst 1, 1) := by decide +kernel
theorem dL_act_785 : decode cL_act 785 = .ok (.goto 4, 3) := by decide +kernel
theorem dL_act_788 : decode cL_act 788 = .ok (.iconst 0, 1) := by decide +kernel
theorem dL_act_789 : decode cL_act 789 = .ok (.ireturn, 1) := by decide +kernel
theorem dL_act_790 : decode cL_act 790 = .ok (.aload 7, 2) := by decide +kernel
theorem dL_act_792 : decode cL_act 792 = .ok (.iconst 0, 1) := by decide +kernel
theorem dL_act_793 : decode cL_act 793 = .ok (.iaload, 1) := by decide +kernel
theorem dL_act_794 : decode cL_act 794 = .ok (.ifCond .ne 16, 3) := by decide +kernel
theorem dL_act_797 : decode cL_act 797 = .ok (.aload_n 0, 1) := by decide +kernel
theorem dL_act_798 : decode cL_act 798 = .ok (.invokevirtual 98, 3) := by decide +kernel
theorem dL_act_801 : decode cL_act 801 = .ok (.ifCond .ne 7, 3) := by decide +kernel
theorem dL_act_804 : decode cL_act 804 = .ok (.iconst 1, 1) := by decide +kernel
theorem dL_act_805 : decode cL_act 805 = .ok (.goto 4, 3) := by decide +kernel
theorem dL_act_808 : decode cL_act 808 = .ok (.iconst 0, 1) := by decide +kernel
theorem dL_act_809 : decode cL_act 809 = .ok (.ireturn, 1) := by decide +kernel
theorem dL_act_810 : decode cL_act 810 = .ok (.iload_n 2, 1) := by decide +kernel
theorem dL_act_811 : decode cL_act 811 = .ok (.aload 7, 2) := by decide +kernel
theorem dL_act_813 : decode cL_act 813 = .ok (.iconst 0, 1) := by decide +kernel
theorem dL_act_814 : decode cL_act 814 = .ok (.iaload, 1) := by decide +kernel
theorem dL_act_815 : decode cL_act 815 = .ok (.invokestatic 53, 3) := by decide +kernel
theorem dL_act_818 : decode cL_act 818 = .ok (.istore 10, 2) := by decide +kernel
theorem dL_act_820 : decode cL_act 820 = .ok (.iload_n 1, 1) := by decide +kernel
theorem dL_act_821 : decode cL_act 821 = .ok (.bipush 11, 2) := by decide +kernel
theorem dL_act_823 : decode cL_act 823 = .ok (.if_icmp .ne 53, 3) := by decide +kernel
theorem dL_act_826 : decode cL_act 826 = .ok (.aload 6, 2) := by decide +kernel
theorem dL_act_828 : decode cL_act 828 = .ok (.bipush 9, 2) := by decide +kernel
theorem dL_act_830 : decode cL_act 830 = .ok (.iload 10, 2) := by decide +kernel
theorem dL_act_832 : decode cL_act 832 = .ok (.imul, 1) := by decide +kernel
theorem dL_act_833 : decode cL_act 833 = .ok (.bipush 7, 2) := by decide +kernel
theorem dL_act_835 : decode cL_act 835 = .ok (.iadd, 1) := by decide +kernel
theorem dL_act_836 : decode cL_act 836 = .ok (.iconst 1, 1) := by decide +kernel
theorem dL_act_837 : decode cL_act 837 = .ok (.aload 6, 2) := by decide +kernel
theorem dL_act_839 : decode cL_act 839 = .ok (.bipush 9, 2) := by decide +kernel
theorem dL_act_841 : decode cL_act 841 = .ok (.iload 10, 2) := by decide +kernel
theorem dL_act_843 : decode cL_act 843 = .ok (.imul, 1) := by decide +kernel
theorem dL_act_844 : decode cL_act 844 = .ok (.bipush 7, 2) := by decide +kernel
theorem dL_act_846 : decode cL_act 846 = .ok (.iadd, 1) := by decide +kernel
theorem dL_act_847 : decode cL_act 847 = .ok (.iaload, 1) := by decide +kernel
theorem dL_act_848 : decode cL_act 848 = .ok (.isub, 1) := by decide +kernel
theorem dL_act_849 : decode cL_act 849 = .ok (.iastore, 1) := by decide +kernel
theorem dL_act_850 : decode cL_act 850 = .ok (.aload_n 0, 1) := by decide +kernel
theorem dL_act_851 : decode cL_act 851 = .ok (.iload 10, 2) := by decide +kernel
theorem dL_act_853 : decode cL_act 853 = .ok (.invokevirtual 102, 3) := by decide +kernel
theorem dL_act_856 : decode cL_act 856 = .ok (.aload 6, 2) := by decide +kernel
theorem dL_act_858 : decode cL_act 858 = .ok (.bipush 9, 2) := by decide +kernel
theorem dL_act_860 : decode cL_act 860 = .ok (.iload 10, 2) := by decide +kernel
theorem dL_act_862 : decode cL_act 862 = .ok (.imul, 1) := by decide +kernel
theorem dL_act_863 : decode cL_act 863 = .ok (.bipush 7, 2) := by decide +kernel
theorem dL_act_865 : decode cL_act 865 = .ok (.iadd, 1) := by decide +kernel
theorem dL_act_866 : decode cL_act 866 = .ok (.iaload, 1) := by decide +kernel
theorem dL_act_867 : decode cL_act 867 = .ok (.if_icmp .ne 7, 3) := by decide +kernel
theorem dL_act_870 : decode cL_act 870 = .ok (.iconst 1, 1) := by decide +kernel
theorem dL_act_871 : decode cL_act 871 = .ok (.goto 4, 3) := by decide +kernel
theorem dL_act_874 : decode cL_act 874 = .ok (.iconst 0, 1) := by decide +kernel
theorem dL_act_875 : decode cL_act 875 = .ok (.ireturn, 1) := by decide +kernel
theorem dL_act_876 : decode cL_act 876 = .ok (.iload_n 1, 1) := by decide +kernel
theorem dL_act_877 : decode cL_act 877 = .ok (.bipush 12, 2) := by decide +kernel
theorem dL_act_879 : decode cL_act 879 = .ok (.if_icmp .ne 57, 3) := by decide +kernel
theorem dL_act_882 : decode cL_act 882 = .ok (.aload 6, 2) := by decide +kernel
theorem dL_act_884 : decode cL_act 884 = .ok (.bipush 9, 2) := by decide +kernel
theorem dL_act_886 : decode cL_act 886 = .ok (.iload 10, 2) := by decide +kernel
theorem dL_act_888 : decode cL_act 888 = .ok (.imul, 1) := by decide +kernel
theorem dL_act_889 : decode cL_act 889 = .ok (.iconst 5, 1) := by decide +kernel
theorem dL_act_890 : decode cL_act 890 = .ok (.iadd, 1) := by decide +kernel
theorem dL_act_891 : decode cL_act 891 = .ok (.iaload, 1) := by decide +kernel
theorem dL_act_892 : decode cL_act 892 = .ok (.istore 11, 2) := by decide +kernel
theorem dL_act_894 : decode cL_act 894 = .ok (.aload 6, 2) := by decide +kernel
theorem dL_act_896 : decode cL_act 896 = .ok (.bipush 9, 2) := by decide +kernel
theorem dL_act_898 : decode cL_act 898 = .ok (.iload 10, 2) := by decide +kernel
theorem dL_act_900 : decode cL_act 900 = .ok (.imul, 1) := by decide +kernel
theorem dL_act_901 : decode cL_act 901 = .ok (.iconst 5, 1) := by decide +kernel
theorem dL_act_902 : decode cL_act 902 = .ok (.iadd, 1) := by decide +kernel
theorem dL_act_903 : decode cL_act 903 = .ok (.iload_n 3, 1) := by decide +kernel
theorem dL_act_904 : decode cL_act 904 = .ok (.iconst 4, 1) := by decide +kernel
theorem dL_act_905 : decode cL_act 905 = .ok (.invokestatic 53, 3) := by decide +kernel
theorem dL_act_908 : decode cL_act 908 = .ok (.iastore, 1) := by decide +kernel
theorem dL_act_909 : decode cL_act 909 = .ok (.aload_n 0, 1) := by decide +kernel
theorem dL_act_910 : decode cL_act 910 = .ok (.iload 10, 2) := by decide +kernel
theorem dL_act_912 : decode cL_act 912 = .ok (.aload 6, 2) := by decide +kernel
theorem dL_act_914 : decode cL_act 914 = .ok (.bipush 9, 2) := by decide +kernel
theorem dL_act_916 : decode cL_act 916 = .ok (.iload 10, 2) := by decide +kernel
theorem dL_act_918 : decode cL_act 918 = .ok (.imul, 1) := by decide +kernel
theorem dL_act_919 : decode cL_act 919 = .ok (.iconst 5, 1) := by decide +kernel
theorem dL_act_920 : decode cL_act 920 = .ok (.iadd, 1) := by decide +kernel
theorem dL_act_921 : decode cL_act 921 = .ok (.iaload, 1) := by decide +kernel
theorem dL_act_922 : decode cL_act 922 = .ok (.invokevirtual 105, 3) := by decide +kernel
theorem dL_act_925 : decode cL_act 925 = .ok (.iload 11, 2) := by decide +kernel
theorem dL_act_927 : decode cL_act 927 = .ok (.if_icmp .ne 7, 3) := by decide +kernel
theorem dL_act_930 : decode cL_act 930 = .ok (.iconst 1, 1) := by decide +kernel
theorem dL_act_931 : decode cL_act 931 = .ok (.goto 4, 3) := by decide +kernel
theorem dL_act_934 : decode cL_act 934 = .ok (.iconst 0, 1) := by decide +kernel
theorem dL_act_935 : decode cL_act 935 = .ok (.ireturn, 1) := by decide +kernel
theorem dL_act_936 : decode cL_act 936 = .ok (.iload_n 3, 1) := by decide +kernel
theorem dL_act_937 : decode cL_act 937 = .ok (.aload 7, 2) := by decide +kernel
theorem dL_act_939 : decode cL_act 939 = .ok (.iconst 0, 1) := by decide +kernel
theorem dL_act_940 : decode cL_act 940 = .ok (.iaload, 1) := by decide +kernel
theorem dL_act_941 : decode cL_act 941 = .ok (.invokestatic 53, 3) := by decide +kernel
theorem dL_act_944 : decode cL_act 944 = .ok (.istore 11, 2) := by decide +kernel
theorem dL_act_946 : decode cL_act 946 = .ok (.bipush 20, 2) := by decide +kernel
theorem dL_act_948 : decode cL_act 948 = .ok (.newarray .long, 2) := by decide +kernel
theorem dL_act_950 : decode cL_act 950 = .ok (.astore 12, 2) := by decide +kernel
theorem dL_act_952 : decode cL_act 952 = .ok (.iconst 0, 1) := by decide +kernel
theorem dL_act_953 : decode cL_act 953 = .ok (.istore 13, 2) := by decide +kernel
theorem dL_act_955 : decode cL_act 955 = .ok (.iconst 0, 1) := by decide +kernel
theorem dL_act_956 : decode cL_act 956 = .ok (.istore 14, 2) := by decide +kernel
theorem dL_act_958 : decode cL_act 958 = .ok (.iload 14, 2) := by decide +kernel
theorem dL_act_960 : decode cL_act 960 = .ok (.sipush 160, 3) := by decide +kernel
theorem dL_act_963 : decode cL_act 963 = .ok (.if_icmp .ge 44, 3) := by decide +kernel
theorem dL_act_966 : decode cL_act 966 = .ok (.aload 12, 2) := by decide +kernel
theorem dL_act_968 : decode cL_act 968 = .ok (.iconst 0, 1) := by decide +kernel
theorem dL_act_969 : decode cL_act 969 = .ok (.iload 14, 2) := by decide +kernel
theorem dL_act_971 : decode cL_act 971 = .ok (.bipush 16, 2) := by decide +kernel
theorem dL_act_973 : decode cL_act 973 = .ok (.irem, 1) := by decide +kernel
theorem dL_act_974 : decode cL_act 974 = .ok (.iload 14, 2) := by decide +kernel
theorem dL_act_976 : decode cL_act 976 = .ok (.bipush 16, 2) := by decide +kernel
theorem dL_act_978 : decode cL_act 978 = .ok (.idiv, 1) := by decide +kernel
theorem dL_act_979 : decode cL_act 979 = .ok (.iload 14, 2) := by decide +kernel
theorem dL_act_981 : decode cL_act 981 = .ok (.bipush 16, 2) := by decide +kernel
theorem dL_act_983 : decode cL_act 983 = .ok (.irem, 1) := by decide +kernel
theorem dL_act_984 : decode cL_act 984 = .ok (.iload 14, 2) := by decide +kernel
theorem dL_act_986 : decode cL_act 986 = .ok (.bipush 16, 2) := by decide +kernel
theorem dL_act_988 : decode cL_act 988 = .ok (.idiv, 1) := by decide +kernel
theorem dL_act_989 : decode cL_act 989 = .ok (.aload 5, 2) := by decide +kernel
theorem dL_act_991 : decode cL_act 991 = .ok (.aload 6, 2) := by decide +kernel
theorem dL_act_993 : decode cL_act 993 = .ok (.aload 7, 2) := by decide +kernel
theorem dL_act_995 : decode cL_act 995 = .ok (.invokestatic 39, 3) := by decide +kernel
theorem dL_act_998 : decode cL_act 998 = .ok (.invokestatic 34, 3) := by decide +kernel
theorem dL_act_1001 : decode cL_act 1001 = .ok (.iinc 14 1, 3) := by decide +kernel
theorem dL_act_1004 : decode cL_act 1004 = .ok (.goto (-46), 3) := by decide +kernel
theorem dL_act_1007 : decode cL_act 1007 = .ok (.iload 10, 2) := by decide +kernel
theorem dL_act_1009 : decode cL_act 1009 = .ok (.iload 11, 2) := by decide +kernel
theorem dL_act_1011 : decode cL_act 1011 = .ok (.if_icmp .ge 22, 3) := by decide +kernel
theorem dL_act_1014 : decode cL_act 1014 = .ok (.iload 10, 2) := by decide +kernel
theorem dL_act_1016 : decode cL_act 1016 = .ok (.iload 10, 2) := by decide +kernel
theorem dL_act_1018 : decode cL_act 1018 = .ok (.iconst 1, 1) := by decide +kernel
theorem dL_act_1019 : decode cL_act 1019 = .ok (.iadd, 1) := by decide +kernel
theorem dL_act_1020 : decode cL_act 1020 = .ok (.aload 5, 2) := by decide +kernel
theorem dL_act_1022 : decode cL_act 1022 = .ok (.aload 6, 2) := by decide +kernel
theorem dL_act_1024 : decode cL_act 1024 = .ok (.invokestatic 94, 3) := by decide +kernel
theorem dL_act_1027 : decode cL_act 1027 = .ok (.iinc 10 1, 3) := by decide +kernel
theorem dL_act_1030 : decode cL_act 1030 = .ok (.goto (-23), 3) := by decide +kernel
theorem dL_act_1033 : decode cL_act 1033 = .ok (.iload 10, 2) := by decide +kernel
theorem dL_act_1035 : decode cL_act 1035 = .ok (.iload 11, 2) := by decide +kernel
theorem dL_act_1037 : decode cL_act 1037 = .ok (.if_icmp .le 22, 3) := by decide +kernel
theorem dL_act_1040 : decode cL_act 1040 = .ok (.iload 10, 2) := by decide +kernel
theorem dL_act_1042 : decode cL_act 1042 = .ok (.iload 10, 2) := by decide +kernel
theorem dL_act_1044 : decode cL_act 1044 = .ok (.iconst 1, 1) := by decide +kernel
theorem dL_act_1045 : decode cL_act 1045 = .ok (.isub, 1) := by decide +kernel
theorem dL_act_1046 : decode cL_act 1046 = .ok (.aload 5, 2) := by decide +kernel
theorem dL_act_1048 : decode cL_act 1048 = .ok (.aload 6, 2) := by decide +kernel
theorem dL_act_1050 : decode cL_act 1050 = .ok (.invokestatic 94, 3) := by decide +kernel
theorem dL_act_1053 : decode cL_act 1053 = .ok (.iinc 10 (-1), 3) := by decide +kernel
theorem dL_act_1056 : decode cL_act 1056 = .ok (.goto (-23), 3) := by decide +kernel
theorem dL_act_1059 : decode cL_act 1059 = .ok (.iconst 0, 1) := by decide +kernel
theorem dL_act_1060 : decode cL_act 1060 = .ok (.istore 14, 2) := by decide +kernel
theorem dL_act_1062 : decode cL_act 1062 = .ok (.iload 14, 2) := by decide +kernel
theorem dL_act_1064 : decode cL_act 1064 = .ok (.sipush 160, 3) := by decide +kernel
theorem dL_act_1067 : decode cL_act 1067 = .ok (.if_icmp .ge 57, 3) := by decide +kernel
theorem dL_act_1070 : decode cL_act 1070 = .ok (.iload 13, 2) := by decide +kernel
theorem dL_act_1072 : decode cL_act 1072 = .ok (.aload 12, 2) := by decide +kernel
theorem dL_act_1074 : decode cL_act 1074 = .ok (.iconst 0, 1) := by decide +kernel
theorem dL_act_1075 : decode cL_act 1075 = .ok (.iload 14, 2) := by decide +kernel
theorem dL_act_1077 : decode cL_act 1077 = .ok (.bipush 16, 2) := by decide +kernel
theorem dL_act_1079 : decode cL_act 1079 = .ok (.irem, 1) := by decide +kernel
theorem dL_act_1080 : decode cL_act 1080 = .ok (.iload 14, 2) := by decide +kernel
theorem dL_act_1082 : decode cL_act 1082 = .ok (.bipush 16, 2) := by decide +kernel
theorem dL_act_1084 : decode cL_act 1084 = .ok (.idiv, 1) := by decide +kernel
theorem dL_act_1085 : decode cL_act 1085 = .ok (.invokestatic 12, 3) := by decide +kernel
theorem dL_act_1088 : decode cL_act 1088 = .ok (.iload 14, 2) := by decide +kernel
theorem dL_act_1090 : decode cL_act 1090 = .ok (.bipush 16, 2) := by decide +kernel
theorem dL_act_1092 : decode cL_act 1092 = .ok (.irem, 1) := by decide +kernel
theorem dL_act_1093 : decode cL_act 1093 = .ok (.iload 14, 2) := by decide +kernel
theorem dL_act_1095 : decode cL_act 1095 = .ok (.bipush 16, 2) := by decide +kernel
theorem dL_act_1097 : decode cL_act 1097 = .ok (.idiv, 1) := by decide +kernel
theorem dL_act_1098 : decode cL_act 1098 = .ok (.aload 5, 2) := by decide +kernel
theorem dL_act_1100 : decode cL_act 1100 = .ok (.aload 6, 2) := by decide +kernel
theorem dL_act_1102 : decode cL_act 1102 = .ok (.aload 7, 2) := by decide +kernel
theorem dL_act_1104 : decode cL_act 1104 = .ok (.invokestatic 39, 3) := by decide +kernel
theorem dL_act_1107 : decode cL_act 1107 = .ok (.if_icmp .eq 7, 3) := by decide +kernel
theorem dL_act_1110 : decode cL_act 1110 = .ok (.iconst 1, 1) := by decide +kernel
theorem dL_act_1111 : decode cL_act 1111 = .ok (.goto 4, 3) := by decide +kernel
theorem dL_act_1114 : decode cL_act 1114 = .ok (.iconst 0, 1) := by decide +kernel
theorem dL_act_1115 : decode cL_act 1115 = .ok (.iadd, 1) := by decide +kernel
theorem dL_act_1116 : decode cL_act 1116 = .ok (.istore 13, 2) := by decide +kernel
theorem dL_act_1118 : decode cL_act 1118 = .ok (.iinc 14 1, 3) := by decide +kernel
theorem dL_act_1121 : decode cL_act 1121 = .ok (.goto (-59), 3) := by decide +kernel
theorem dL_act_1124 : decode cL_act 1124 = .ok (.aload_n 0, 1) := by decide +kernel
theorem dL_act_1125 : decode cL_act 1125 = .ok (.iload_n 2, 1) := by decide +kernel
theorem dL_act_1126 : decode cL_act 1126 = .ok (.aload 7, 2) := by decide +kernel
theorem dL_act_1128 : decode cL_act 1128 = .ok (.iconst 0, 1) := by decide +kernel
theorem dL_act_1129 : decode cL_act 1129 = .ok (.iaload, 1) := by decide +kernel
theorem dL_act_1130 : decode cL_act 1130 = .ok (.invokestatic 53, 3) := by decide +kernel
theorem dL_act_1133 : decode cL_act 1133 = .ok (.iload 11, 2) := by decide +kernel
theorem dL_act_1135 : decode cL_act 1135 = .ok (.invokevirtual 108, 3) := by decide +kernel
theorem dL_act_1138 : decode cL_act 1138 = .ok (.iload 13, 2) := by decide +kernel
theorem dL_act_1140 : decode cL_act 1140 = .ok (.if_icmp .ne 7, 3) := by decide +kernel
theorem dL_act_1143 : decode cL_act 1143 = .ok (.iconst 1, 1) := by decide +kernel
theorem dL_act_1144 : decode cL_act 1144 = .ok (.goto 4, 3) := by decide +kernel
theorem dL_act_1147 : decode cL_act 1147 = .ok (.iconst 0, 1) := by decide +kernel
theorem dL_act_1148 : decode cL_act 1148 = .ok (.ireturn, 1) := by decide +kernel
theorem dL_law_0 : decode cL_law 0 = .ok (.new 44, 3) := by decide +kernel
theorem dL_law_3 : decode cL_law 3 = .ok (.dup, 1) := by decide +kernel
theorem dL_law_4 : decode cL_law 4 = .ok (.invokespecial 111, 3) := by decide +kernel
theorem dL_law_7 : decode cL_law 7 = .ok (.astore_n 1, 1) := by decide +kernel
theorem dL_law_8 : decode cL_law 8 = .ok (.bipush 20, 2) := by decide +kernel
theorem dL_law_10 : decode cL_law 10 = .ok (.newarray .long, 2) := by decide +kernel
theorem dL_law_12 : decode cL_law 12 = .ok (.astore_n 2, 1) := by decide +kernel
theorem dL_law_13 : decode cL_law 13 = .ok (.bipush 60, 2) := by decide +kernel
theorem dL_law_15 : decode cL_law 15 = .ok (.newarray .long, 2) := by decide +kernel
theorem dL_law_17 : decode cL_law 17 = .ok (.astore_n 3, 1) := by decide +kernel
theorem dL_law_18 : decode cL_law 18 = .ok (.bipush 60, 2) := by decide +kernel
theorem dL_law_20 : decode cL_law 20 = .ok (.newarray .long, 2) := by decide +kernel
theorem dL_law_22 : decode cL_law 22 = .ok (.astore 4, 2) := by decide +kernel
theorem dL_law_24 : decode cL_law 24 = .ok (.bipush 20, 2) := by decide +kernel
theorem dL_law_26 : decode cL_law 26 = .ok (.newarray .long, 2) := by decide +kernel
theorem dL_law_28 : decode cL_law 28 = .ok (.astore 5, 2) := by decide +kernel
theorem dL_law_30 : decode cL_law 30 = .ok (.bipush 27, 2) := by decide +kernel
theorem dL_law_32 : decode cL_law 32 = .ok (.newarray .int, 2) := by decide +kernel
theorem dL_law_34 : decode cL_law 34 = .ok (.astore 6, 2) := by decide +kernel
theorem dL_law_36 : decode cL_law 36 = .ok (.bipush 27, 2) := by decide +kernel
theorem dL_law_38 : decode cL_law 38 = .ok (.newarray .int, 2) := by decide +kernel
theorem dL_law_40 : decode cL_law 40 = .ok (.astore 7, 2) := by decide +kernel
theorem dL_law_42 : decode cL_law 42 = .ok (.iconst 1, 1) := by decide +kernel
theorem dL_law_43 : decode cL_law 43 = .ok (.newarray .int, 2) := by decide +kernel
theorem dL_law_45 : decode cL_law 45 = .ok (.astore 8, 2) := by decide +kernel
theorem dL_law_47 : decode cL_law 47 = .ok (.iconst 0, 1) := by decide +kernel
theorem dL_law_48 : decode cL_law 48 = .ok (.istore 9, 2) := by decide +kernel
theorem dL_law_50 : decode cL_law 50 = .ok (.iload 9, 2) := by decide +kernel
theorem dL_law_52 : decode cL_law 52 = .ok (.sipush 160, 3) := by decide +kernel
theorem dL_law_55 : decode cL_law 55 = .ok (.if_icmp .ge 26, 3) := by decide +kernel
theorem dL_law_58 : decode cL_law 58 = .ok (.aload_n 2, 1) := by decide +kernel
theorem dL_law_59 : decode cL_law 59 = .ok (.iconst 0, 1) := by decide +kernel
theorem dL_law_60 : decode cL_law 60 = .ok (.iload 9, 2) := by decide +kernel
theorem dL_law_62 : decode cL_law 62 = .ok (.bipush 16, 2) := by decide +kernel
theorem dL_law_64 : decode cL_law 64 = .ok (.irem, 1) := by decide +kernel
theorem dL_law_65 : decode cL_law 65 = .ok (.iload 9, 2) := by decide +kernel
theorem dL_law_67 : decode cL_law 67 = .ok (.bipush 16, 2) := by decide +kernel
theorem dL_law_69 : decode cL_law 69 = .ok (.idiv, 1) := by decide +kernel
theorem dL_law_70 : decode cL_law 70 = .ok (.bipush 50, 2) := by decide +kernel
theorem dL_law_72 : decode cL_law 72 = .ok (.invokestatic 34, 3) := by decide +kernel
theorem dL_law_75 : decode cL_law 75 = .ok (.iinc 9 1, 3) := by decide +kernel
theorem dL_law_78 : decode cL_law 78 = .ok (.goto (-28), 3) := by decide +kernel
theorem dL_law_81 : decode cL_law 81 = .ok (.aload_n 1, 1) := by decide +kernel
theorem dL_law_82 : decode cL_law 82 = .ok (.iconst 0, 1) := by decide +kernel
theorem dL_law_83 : decode cL_law 83 = .ok (.aload_n 2, 1) := by decide +kernel
theorem dL_law_84 : decode cL_law 84 = .ok (.aload_n 3, 1) := by decide +kernel
theorem dL_law_85 : decode cL_law 85 = .ok (.aload 6, 2) := by decide +kernel
theorem dL_law_87 : decode cL_law 87 = .ok (.aload 8, 2) := by decide +kernel
theorem dL_law_89 : decode cL_law 89 = .ok (.invokestatic 112, 3) := by decide +kernel
theorem dL_law_92 : decode cL_law 92 = .ok (.ifCond .eq 13, 3) := by decide +kernel
theorem dL_law_95 : decode cL_law 95 = .ok (.aload_n 1, 1) := by decide +kernel
theorem dL_law_96 : decode cL_law 96 = .ok (.bipush 7, 2) := by decide +kernel
theorem dL_law_98 : decode cL_law 98 = .ok (.invokevirtual 59, 3) := by decide +kernel
theorem dL_law_101 : decode cL_law 101 = .ok (.iconst 1, 1) := by decide +kernel
theorem dL_law_102 : decode cL_law 102 = .ok (.if_icmp .eq 5, 3) := by decide +kernel
theorem dL_law_105 : decode cL_law 105 = .ok (.iconst 0, 1) := by decide +kernel
theorem dL_law_106 : decode cL_law 106 = .ok (.ireturn, 1) := by decide +kernel
theorem dL_law_107 : decode cL_law 107 = .ok (.iconst 0, 1) := by decide +kernel
theorem dL_law_108 : decode cL_law 108 = .ok (.istore 9, 2) := by decide +kernel
theorem dL_law_110 : decode cL_law 110 = .ok (.iload 9, 2) := by decide +kernel
theorem dL_law_112 : decode cL_law 112 = .ok (.bipush 16, 2) := by decide +kernel
theorem dL_law_114 : decode cL_law 114 = .ok (.if_icmp .ge 264, 3) := by decide +kernel
theorem dL_law_117 : decode cL_law 117 = .ok (.aload_n 0, 1) := by decide +kernel
theorem dL_law_118 : decode cL_law 118 = .ok (.iconst 2, 1) := by decide +kernel
theorem dL_law_119 : decode cL_law 119 = .ok (.iload 9, 2) := by decide +kernel
theorem dL_law_121 : decode cL_law 121 = .ok (.imul, 1) := by decide +kernel
theorem dL_law_122 : decode cL_law 122 = .ok (.invokestatic 116, 3) := by decide +kernel
theorem dL_law_125 : decode cL_law 125 = .ok (.ldc 119, 2) := by decide +kernel
theorem dL_law_127 : decode cL_law 127 = .ok (.iand, 1) := by decide +kernel
theorem dL_law_128 : decode cL_law 128 = .ok (.istore 10, 2) := by decide +kernel
theorem dL_law_130 : decode cL_law 130 = .ok (.aload_n 0, 1) := by decide +kernel
theorem dL_law_131 : decode cL_law 131 = .ok (.iconst 2, 1) := by decide +kernel
theorem dL_law_132 : decode cL_law 132 = .ok (.iload 9, 2) := by decide +kernel
theorem dL_law_134 : decode cL_law 134 = .ok (.imul, 1) := by decide +kernel
theorem dL_law_135 : decode cL_law 135 = .ok (.iconst 1, 1) := by decide +kernel
theorem dL_law_136 : decode cL_law 136 = .ok (.iadd, 1) := by decide +kernel
theorem dL_law_137 : decode cL_law 137 = .ok (.invokestatic 116, 3) := by decide +kernel
theorem dL_law_140 : decode cL_law 140 = .ok (.ldc 119, 2) := by decide +kernel
theorem dL_law_142 : decode cL_law 142 = .ok (.iand, 1) := by decide +kernel
theorem dL_law_143 : decode cL_law 143 = .ok (.istore 11, 2) := by decide +kernel
theorem dL_law_145 : decode cL_law 145 = .ok (.aload 8, 2) := by decide +kernel
theorem dL_law_147 : decode cL_law 147 = .ok (.iconst 0, 1) := by decide +kernel
theorem dL_law_148 : decode cL_law 148 = .ok (.iaload, 1) := by decide +kernel
theorem dL_law_149 : decode cL_law 149 = .ok (.istore 12, 2) := by decide +kernel
theorem dL_law_151 : decode cL_law 151 = .ok (.iconst 0, 1) := by decide +kernel
theorem dL_law_152 : decode cL_law 152 = .ok (.istore 13, 2) := by decide +kernel
theorem dL_law_154 : decode cL_law 154 = .ok (.iload 13, 2) := by decide +kernel
theorem dL_law_156 : decode cL_law 156 = .ok (.bipush 60, 2) := by decide +kernel
theorem dL_law_158 : decode cL_law 158 = .ok (.if_icmp .ge 51, 3) := by decide +kernel
theorem dL_law_161 : decode cL_law 161 = .ok (.aload 4, 2) := by decide +kernel
theorem dL_law_163 : decode cL_law 163 = .ok (.iload 13, 2) := by decide +kernel
theorem dL_law_165 : decode cL_law 165 = .ok (.aload_n 3, 1) := by decide +kernel
theorem dL_law_166 : decode cL_law 166 = .ok (.iload 13, 2) := by decide +kernel
theorem dL_law_168 : decode cL_law 168 = .ok (.laload, 1) := by decide +kernel
theorem dL_law_169 : decode cL_law 169 = .ok (.lastore, 1) := by decide +kernel
theorem dL_law_170 : decode cL_law 170 = .ok (.iload 13, 2) := by decide +kernel
theorem dL_law_172 : decode cL_law 172 = .ok (.bipush 20, 2) := by decide +kernel
theorem dL_law_174 : decode cL_law 174 = .ok (.if_icmp .ge 12, 3) := by decide +kernel
theorem dL_law_177 : decode cL_law 177 = .ok (.aload 5, 2) := by decide +kernel
theorem dL_law_179 : decode cL_law 179 = .ok (.iload 13, 2) := by decide +kernel
theorem dL_law_181 : decode cL_law 181 = .ok (.aload_n 2, 1) := by decide +kernel
theorem dL_law_182 : decode cL_law 182 = .ok (.iload 13, 2) := by decide +kernel
theorem dL_law_184 : decode cL_law 184 = .ok (.laload, 1) := by decide +kernel
theorem dL_law_185 : decode cL_law 185 = .ok (.lastore, 1) := by decide +kernel
theorem dL_law_186 : decode cL_law 186 = .ok (.iload 13, 2) := by decide +kernel
theorem dL_law_188 : decode cL_law 188 = .ok (.bipush 27, 2) := by decide +kernel
theorem dL_law_190 : decode cL_law 190 = .ok (.if_icmp .ge 13, 3) := by decide +kernel
theorem dL_law_193 : decode cL_law 193 = .ok (.aload 7, 2) := by decide +kernel
theorem dL_law_195 : decode cL_law 195 = .ok (.iload 13, 2) := by decide +kernel
theorem dL_law_197 : decode cL_law 197 = .ok (.aload 6, 2) := by decide +kernel
theorem dL_law_199 : decode cL_law 199 = .ok (.iload 13, 2) := by decide +kernel
theorem dL_law_201 : decode cL_law 201 = .ok (.iaload, 1) := by decide +kernel
theorem dL_law_202 : decode cL_law 202 = .ok (.iastore, 1) := by decide +kernel
theorem dL_law_203 : decode cL_law 203 = .ok (.iinc 13 1, 3) := by decide +kernel
theorem dL_law_206 : decode cL_law 206 = .ok (.goto (-52), 3) := by decide +kernel
theorem dL_law_209 : decode cL_law 209 = .ok (.aload_n 1, 1) := by decide +kernel
theorem dL_law_210 : decode cL_law 210 = .ok (.iload 9, 2) := by decide +kernel
theorem dL_law_212 : decode cL_law 212 = .ok (.iconst 3, 1) := by decide +kernel
theorem dL_law_213 : decode cL_law 213 = .ok (.if_icmp .ge 7, 3) := by decide +kernel
theorem dL_law_216 : decode cL_law 216 = .ok (.iconst 0, 1) := by decide +kernel
theorem dL_law_217 : decode cL_law 217 = .ok (.goto 13, 3) := by decide +kernel
theorem dL_law_220 : decode cL_law 220 = .ok (.iload 10, 2) := by decide +kernel
theorem dL_law_222 : decode cL_law 222 = .ok (.bipush 13, 2) := by decide +kernel
theorem dL_law_224 : decode cL_law 224 = .ok (.ishr, 1) := by decide +kernel
theorem dL_law_225 : decode cL_law 225 = .ok (.bipush 14, 2) := by decide +kernel
theorem dL_law_227 : decode cL_law 227 = .ok (.invokestatic 53, 3) := by decide +kernel
theorem dL_law_230 : decode cL_law 230 = .ok (.iload 10, 2) := by decide +kernel
theorem dL_law_232 : decode cL_law 232 = .ok (.iload 11, 2) := by decide +kernel
theorem dL_law_234 : decode cL_law 234 = .ok (.aload_n 2, 1) := by decide +kernel
theorem dL_law_235 : decode cL_law 235 = .ok (.aload_n 3, 1) := by decide +kernel
theorem dL_law_236 : decode cL_law 236 = .ok (.aload 6, 2) := by decide +kernel
theorem dL_law_238 : decode cL_law 238 = .ok (.aload 8, 2) := by decide +kernel
theorem dL_law_240 : decode cL_law 240 = .ok (.invokestatic 120, 3) := by decide +kernel
theorem dL_law_243 : decode cL_law 243 = .ok (.ifCond .eq 20, 3) := by decide +kernel
theorem dL_law_246 : decode cL_law 246 = .ok (.aload_n 1, 1) := by decide +kernel
theorem dL_law_247 : decode cL_law 247 = .ok (.iload 11, 2) := by decide +kernel
theorem dL_law_249 : decode cL_law 249 = .ok (.iconst 2, 1) := by decide +kernel
theorem dL_law_250 : decode cL_law 250 = .ok (.ishr, 1) := by decide +kernel
theorem dL_law_251 : decode cL_law 251 = .ok (.aload_n 2, 1) := by decide +kernel
theorem dL_law_252 : decode cL_law 252 = .ok (.aload_n 3, 1) := by decide +kernel
theorem dL_law_253 : decode cL_law 253 = .ok (.aload 6, 2) := by decide +kernel
theorem dL_law_255 : decode cL_law 255 = .ok (.aload 8, 2) := by decide +kernel
theorem dL_law_257 : decode cL_law 257 = .ok (.invokestatic 112, 3) := by decide +kernel
theorem dL_law_260 : decode cL_law 260 = .ok (.ifCond .ne 5, 3) := by decide +kernel
theorem dL_law_263 : decode cL_law 263 = .ok (.iconst 0, 1) := by decide +kernel
theorem dL_law_264 : decode cL_law 264 = .ok (.ireturn, 1) := by decide +kernel
theorem dL_law_265 : decode cL_law 265 = .ok (.iload 11, 2) := by decide +kernel
theorem dL_law_267 : decode cL_law 267 = .ok (.bipush 9, 2) := by decide +kernel
theorem dL_law_269 : decode cL_law 269 = .ok (.ishr, 1) := by decide +kernel
theorem dL_law_270 : decode cL_law 270 = .ok (.iconst 5, 1) := by decide +kernel
theorem dL_law_271 : decode cL_law 271 = .ok (.invokestatic 53, 3) := by decide +kernel
theorem dL_law_274 : decode cL_law 274 = .ok (.ifCond .le 6, 3) := by decide +kernel
theorem dL_law_277 : decode cL_law 277 = .ok (.goto 95, 3) := by decide +kernel
theorem dL_law_280 : decode cL_law 280 = .ok (.aload_n 1, 1) := by decide +kernel
theorem dL_law_281 : decode cL_law 281 = .ok (.invokevirtual 124, 3) := by decide +kernel
theorem dL_law_284 : decode cL_law 284 = .ok (.ifCond .ge 5, 3) := by decide +kernel
theorem dL_law_287 : decode cL_law 287 = .ok (.iconst 0, 1) := by decide +kernel
theorem dL_law_288 : decode cL_law 288 = .ok (.ireturn, 1) := by decide +kernel
theorem dL_law_289 : decode cL_law 289 = .ok (.aload 8, 2) := by decide +kernel
theorem dL_law_291 : decode cL_law 291 = .ok (.iconst 0, 1) := by decide +kernel
theorem dL_law_292 : decode cL_law 292 = .ok (.iload 12, 2) := by decide +kernel
theorem dL_law_294 : decode cL_law 294 = .ok (.iastore, 1) := by decide +kernel
theorem dL_law_295 : decode cL_law 295 = .ok (.iconst 0, 1) := by decide +kernel
theorem dL_law_296 : decode cL_law 296 = .ok (.istore 13, 2) := by decide +kernel
theorem dL_law_298 : decode cL_law 298 = .ok (.iload 13, 2) := by decide +kernel
theorem dL_law_300 : decode cL_law 300 = .ok (.bipush 60, 2) := by decide +kernel
theorem dL_law_302 : decode cL_law 302 = .ok (.if_icmp .ge 51, 3) := by decide +kernel
theorem dL_law_305 : decode cL_law 305 = .ok (.aload_n 3, 1) := by decide +kernel
theorem dL_law_306 : decode cL_law 306 = .ok (.iload 13, 2) := by decide +kernel
theorem dL_law_308 : decode cL_law 308 = .ok (.aload 4, 2) := by decide +kernel
theorem dL_law_310 : decode cL_law 310 = .ok (.iload 13, 2) := by decide +kernel
theorem dL_law_312 : decode cL_law 312 = .ok (.laload, 1) := by decide +kernel
theorem dL_law_313 : decode cL_law 313 = .ok (.lastore, 1) := by decide +kernel
theorem dL_law_314 : decode cL_law 314 = .ok (.iload 13, 2) := by decide +kernel
theorem dL_law_316 : decode cL_law 316 = .ok (.bipush 20, 2) := by decide +kernel
theorem dL_law_318 : decode cL_law 318 = .ok (.if_icmp .ge 12, 3) := by decide +kernel
theorem dL_law_321 : decode cL_law 321 = .ok (.aload_n 2, 1) := by decide +kernel
theorem dL_law_322 : decode cL_law 322 = .ok (.iload 13, 2) := by decide +kernel
theorem dL_law_324 : decode cL_law 324 = .ok (.aload 5, 2) := by decide +kernel
theorem dL_law_326 : decode cL_law 326 = .ok (.iload 13, 2) := by decide +kernel
theorem dL_law_328 : decode cL_law 328 = .ok (.laload, 1) := by decide +kernel
theorem dL_law_329 : decode cL_law 329 = .ok (.lastore, 1) := by decide +kernel
theorem dL_law_330 : decode cL_law 330 = .ok (.iload 13, 2) := by decide +kernel
theorem dL_law_332 : decode cL_law 332 = .ok (.bipush 27, 2) := by decide +kernel
theorem dL_law_334 : decode cL_law 334 = .ok (.if_icmp .ge 13, 3) := by decide +kernel
theorem dL_law_337 : decode cL_law 337 = .ok (.aload 6, 2) := by decide +kernel
theorem dL_law_339 : decode cL_law 339 = .ok (.iload 13, 2) := by decide +kernel
theorem dL_law_341 : decode cL_law 341 = .ok (.aload 7, 2) := by decide +kernel
theorem dL_law_343 : decode cL_law 343 = .ok (.iload 13, 2) := by decide +kernel
theorem dL_law_345 : decode cL_law 345 = .ok (.iaload, 1) := by decide +kernel
theorem dL_law_346 : decode cL_law 346 = .ok (.iastore, 1) := by decide +kernel
theorem dL_law_347 : decode cL_law 347 = .ok (.iinc 13 1, 3) := by decide +kernel
theorem dL_law_350 : decode cL_law 350 = .ok (.goto (-52), 3) := by decide +kernel
theorem dL_law_353 : decode cL_law 353 = .ok (.aload_n 1, 1) := by decide +kernel
theorem dL_law_354 : decode cL_law 354 = .ok (.iload 11, 2) := by decide +kernel
theorem dL_law_356 : decode cL_law 356 = .ok (.iconst 3, 1) := by decide +kernel
theorem dL_law_357 : decode cL_law 357 = .ok (.ishr, 1) := by decide +kernel
theorem dL_law_358 : decode cL_law 358 = .ok (.aload_n 2, 1) := by decide +kernel
theorem dL_law_359 : decode cL_law 359 = .ok (.aload_n 3, 1) := by decide +kernel
theorem dL_law_360 : decode cL_law 360 = .ok (.aload 6, 2) := by decide +kernel
theorem dL_law_362 : decode cL_law 362 = .ok (.aload 8, 2) := by decide +kernel
theorem dL_law_364 : decode cL_law 364 = .ok (.invokestatic 112, 3) := by decide +kernel
theorem dL_law_367 : decode cL_law 367 = .ok (.ifCond .ne 5, 3) := by decide +kernel
theorem dL_law_370 : decode cL_law 370 = .ok (.iconst 0, 1) := by decide +kernel
theorem dL_law_371 : decode cL_law 371 = .ok (.ireturn, 1) := by decide +kernel
theorem dL_law_372 : decode cL_law 372 = .ok (.iinc 9 1, 3) := by decide +kernel
theorem dL_law_375 : decode cL_law 375 = .ok (.goto (-265), 3) := by decide +kernel
theorem dL_law_378 : decode cL_law 378 = .ok (.iconst 1, 1) := by decide +kernel
theorem dL_law_379 : decode cL_law 379 = .ok (.ireturn, 1) := by decide +kernel
