theorem dX0_init_0 : decode cX0_init 0 = .ok (.aload_n 0, 1) := by decide +kernel
theorem dX0_init_1 : decode cX0_init 1 = .ok (.invokespecial 3, 3) := by decide +kernel
theorem dX0_init_4 : decode cX0_init 4 = .ok (.aload_n 0, 1) := by decide +kernel
theorem dX0_init_5 : decode cX0_init 5 = .ok (.iconst 0, 1) := by decide +kernel
theorem dX0_init_6 : decode cX0_init 6 = .ok (.putfield 9, 3) := by decide +kernel
theorem dX0_init_9 : decode cX0_init 9 = .ok (.return_, 1) := by decide +kernel
theorem dX0_forget_0 : decode cX0_forget 0 = .ok (.aload_n 0, 1) := by decide +kernel
theorem dX0_forget_1 : decode cX0_forget 1 = .ok (.iconst 0, 1) := by decide +kernel
theorem dX0_forget_2 : decode cX0_forget 2 = .ok (.putfield 9, 3) := by decide +kernel
theorem dX0_forget_5 : decode cX0_forget 5 = .ok (.return_, 1) := by decide +kernel
theorem dX0_find_0 : decode cX0_find 0 = .ok (.aload_n 0, 1) := by decide +kernel
theorem dX0_find_1 : decode cX0_find 1 = .ok (.getfield 9, 3) := by decide +kernel
theorem dX0_find_4 : decode cX0_find 4 = .ok (.ifCond .eq 4, 3) := by decide +kernel
theorem dX0_find_7 : decode cX0_find 7 = .ok (.return_, 1) := by decide +kernel
theorem dX0_find_8 : decode cX0_find 8 = .ok (.aload_n 2, 1) := by decide +kernel
theorem dX0_find_9 : decode cX0_find 9 = .ok (.aload_n 1, 1) := by decide +kernel
theorem dX0_find_10 : decode cX0_find 10 = .ok (.invokevirtual 15, 3) := by decide +kernel
theorem dX0_find_13 : decode cX0_find 13 = .ok (.aload_n 2, 1) := by decide +kernel
theorem dX0_find_14 : decode cX0_find 14 = .ok (.invokevirtual 21, 3) := by decide +kernel
theorem dX0_find_17 : decode cX0_find 17 = .ok (.aload_n 3, 1) := by decide +kernel
theorem dX0_find_18 : decode cX0_find 18 = .ok (.aload_n 1, 1) := by decide +kernel
theorem dX0_find_19 : decode cX0_find 19 = .ok (.aload_n 2, 1) := by decide +kernel
theorem dX0_find_20 : decode cX0_find 20 = .ok (.invokevirtual 24, 3) := by decide +kernel
theorem dX0_find_23 : decode cX0_find 23 = .ok (.aload_n 0, 1) := by decide +kernel
theorem dX0_find_24 : decode cX0_find 24 = .ok (.aload_n 3, 1) := by decide +kernel
theorem dX0_find_25 : decode cX0_find 25 = .ok (.aload_n 1, 1) := by decide +kernel
theorem dX0_find_26 : decode cX0_find 26 = .ok (.invokevirtual 30, 3) := by decide +kernel
theorem dX0_find_29 : decode cX0_find 29 = .ok (.putfield 34, 3) := by decide +kernel
theorem dX0_find_32 : decode cX0_find 32 = .ok (.iconst 0, 1) := by decide +kernel
theorem dX0_find_33 : decode cX0_find 33 = .ok (.istore 4, 2) := by decide +kernel
theorem dX0_find_35 : decode cX0_find 35 = .ok (.iload 4, 2) := by decide +kernel
theorem dX0_find_37 : decode cX0_find 37 = .ok (.bipush 24, 2) := by decide +kernel
theorem dX0_find_39 : decode cX0_find 39 = .ok (.if_icmp .ge 55, 3) := by decide +kernel
theorem dX0_find_42 : decode cX0_find 42 = .ok (.iconst 0, 1) := by decide +kernel
theorem dX0_find_43 : decode cX0_find 43 = .ok (.istore 5, 2) := by decide +kernel
theorem dX0_find_45 : decode cX0_find 45 = .ok (.iload 5, 2) := by decide +kernel
theorem dX0_find_47 : decode cX0_find 47 = .ok (.bipush 24, 2) := by decide +kernel
theorem dX0_find_49 : decode cX0_find 49 = .ok (.if_icmp .ge 39, 3) := by decide +kernel
theorem dX0_find_52 : decode cX0_find 52 = .ok (.aload_n 2, 1) := by decide +kernel
theorem dX0_find_53 : decode cX0_find 53 = .ok (.iload 4, 2) := by decide +kernel
theorem dX0_find_55 : decode cX0_find 55 = .ok (.iload 5, 2) := by decide +kernel
theorem dX0_find_57 : decode cX0_find 57 = .ok (.invokestatic 38, 3) := by decide +kernel
theorem dX0_find_60 : decode cX0_find 60 = .ok (.invokevirtual 42, 3) := by decide +kernel
theorem dX0_find_63 : decode cX0_find 63 = .ok (.aload_n 3, 1) := by decide +kernel
theorem dX0_find_64 : decode cX0_find 64 = .ok (.aload_n 1, 1) := by decide +kernel
theorem dX0_find_65 : decode cX0_find 65 = .ok (.aload_n 2, 1) := by decide +kernel
theorem dX0_find_66 : decode cX0_find 66 = .ok (.invokevirtual 24, 3) := by decide +kernel
theorem dX0_find_69 : decode cX0_find 69 = .ok (.aload_n 0, 1) := by decide +kernel
theorem dX0_find_70 : decode cX0_find 70 = .ok (.iload 4, 2) := by decide +kernel
theorem dX0_find_72 : decode cX0_find 72 = .ok (.iload 5, 2) := by decide +kernel
theorem dX0_find_74 : decode cX0_find 74 = .ok (.aload_n 3, 1) := by decide +kernel
theorem dX0_find_75 : decode cX0_find 75 = .ok (.aload_n 1, 1) := by decide +kernel
theorem dX0_find_76 : decode cX0_find 76 = .ok (.invokevirtual 30, 3) := by decide +kernel
theorem dX0_find_79 : decode cX0_find 79 = .ok (.invokevirtual 46, 3) := by decide +kernel
theorem dX0_find_82 : decode cX0_find 82 = .ok (.iinc 5 1, 3) := by decide +kernel
theorem dX0_find_85 : decode cX0_find 85 = .ok (.goto (-40), 3) := by decide +kernel
theorem dX0_find_88 : decode cX0_find 88 = .ok (.iinc 4 1, 3) := by decide +kernel
theorem dX0_find_91 : decode cX0_find 91 = .ok (.goto (-56), 3) := by decide +kernel
theorem dX0_find_94 : decode cX0_find 94 = .ok (.aload_n 0, 1) := by decide +kernel
theorem dX0_find_95 : decode cX0_find 95 = .ok (.iconst 1, 1) := by decide +kernel
theorem dX0_find_96 : decode cX0_find 96 = .ok (.putfield 9, 3) := by decide +kernel
theorem dX0_find_99 : decode cX0_find 99 = .ok (.return_, 1) := by decide +kernel
theorem dX0_keepBetter_0 : decode cX0_keepBetter 0 = .ok (.iload_n 1, 1) := by decide +kernel
theorem dX0_keepBetter_1 : decode cX0_keepBetter 1 = .ok (.ifCond .ne 11, 3) := by decide +kernel
theorem dX0_keepBetter_4 : decode cX0_keepBetter 4 = .ok (.iload_n 2, 1) := by decide +kernel
theorem dX0_keepBetter_5 : decode cX0_keepBetter 5 = .ok (.ifCond .ne 7, 3) := by decide +kernel
theorem dX0_keepBetter_8 : decode cX0_keepBetter 8 = .ok (.iconst 1, 1) := by decide +kernel
theorem dX0_keepBetter_9 : decode cX0_keepBetter 9 = .ok (.goto 4, 3) := by decide +kernel
theorem dX0_keepBetter_12 : decode cX0_keepBetter 12 = .ok (.iconst 0, 1) := by decide +kernel
theorem dX0_keepBetter_13 : decode cX0_keepBetter 13 = .ok (.istore 4, 2) := by decide +kernel
theorem dX0_keepBetter_15 : decode cX0_keepBetter 15 = .ok (.iload 4, 2) := by decide +kernel
theorem dX0_keepBetter_17 : decode cX0_keepBetter 17 = .ok (.ifCond .ne 11, 3) := by decide +kernel
theorem dX0_keepBetter_20 : decode cX0_keepBetter 20 = .ok (.iload_n 3, 1) := by decide +kernel
theorem dX0_keepBetter_21 : decode cX0_keepBetter 21 = .ok (.aload_n 0, 1) := by decide +kernel
theorem dX0_keepBetter_22 : decode cX0_keepBetter 22 = .ok (.getfield 50, 3) := by decide +kernel
theorem dX0_keepBetter_25 : decode cX0_keepBetter 25 = .ok (.if_icmp .ge 18, 3) := by decide +kernel
theorem dX0_keepBetter_28 : decode cX0_keepBetter 28 = .ok (.aload_n 0, 1) := by decide +kernel
theorem dX0_keepBetter_29 : decode cX0_keepBetter 29 = .ok (.iload_n 1, 1) := by decide +kernel
theorem dX0_keepBetter_30 : decode cX0_keepBetter 30 = .ok (.putfield 52, 3) := by decide +kernel
theorem dX0_keepBetter_33 : decode cX0_keepBetter 33 = .ok (.aload_n 0, 1) := by decide +kernel
theorem dX0_keepBetter_34 : decode cX0_keepBetter 34 = .ok (.iload_n 2, 1) := by decide +kernel
theorem dX0_keepBetter_35 : decode cX0_keepBetter 35 = .ok (.putfield 55, 3) := by decide +kernel
theorem dX0_keepBetter_38 : decode cX0_keepBetter 38 = .ok (.aload_n 0, 1) := by decide +kernel
theorem dX0_keepBetter_39 : decode cX0_keepBetter 39 = .ok (.iload_n 3, 1) := by decide +kernel
theorem dX0_keepBetter_40 : decode cX0_keepBetter 40 = .ok (.putfield 50, 3) := by decide +kernel
theorem dX0_keepBetter_43 : decode cX0_keepBetter 43 = .ok (.return_, 1) := by decide +kernel
theorem dX0_from_0 : decode cX0_from 0 = .ok (.aload_n 0, 1) := by decide +kernel
theorem dX0_from_1 : decode cX0_from 1 = .ok (.getfield 52, 3) := by decide +kernel
theorem dX0_from_4 : decode cX0_from 4 = .ok (.ireturn, 1) := by decide +kernel
theorem dX0_to_0 : decode cX0_to 0 = .ok (.aload_n 0, 1) := by decide +kernel
theorem dX0_to_1 : decode cX0_to 1 = .ok (.getfield 55, 3) := by decide +kernel
theorem dX0_to_4 : decode cX0_to 4 = .ok (.ireturn, 1) := by decide +kernel
theorem dX0_nightOfAll_0 : decode cX0_nightOfAll 0 = .ok (.aload_n 0, 1) := by decide +kernel
theorem dX0_nightOfAll_1 : decode cX0_nightOfAll 1 = .ok (.getfield 50, 3) := by decide +kernel
theorem dX0_nightOfAll_4 : decode cX0_nightOfAll 4 = .ok (.ireturn, 1) := by decide +kernel
theorem dX0_near_0 : decode cX0_near 0 = .ok (.aload_n 0, 1) := by decide +kernel
theorem dX0_near_1 : decode cX0_near 1 = .ok (.getfield 50, 3) := by decide +kernel
theorem dX0_near_4 : decode cX0_near 4 = .ok (.aload_n 0, 1) := by decide +kernel
theorem dX0_near_5 : decode cX0_near 5 = .ok (.getfield 34, 3) := by decide +kernel
theorem dX0_near_8 : decode cX0_near 8 = .ok (.isub, 1) := by decide +kernel
theorem dX0_near_9 : decode cX0_near 9 = .ok (.ireturn, 1) := by decide +kernel
theorem dX1_init_0 : decode cX1_init 0 = .ok (.aload_n 0, 1) := by decide +kernel
theorem dX1_init_1 : decode cX1_init 1 = .ok (.invokespecial 3, 3) := by decide +kernel
theorem dX1_init_4 : decode cX1_init 4 = .ok (.aload_n 0, 1) := by decide +kernel
theorem dX1_init_5 : decode cX1_init 5 = .ok (.iconst 5, 1) := by decide +kernel
theorem dX1_init_6 : decode cX1_init 6 = .ok (.bipush 97, 2) := by decide +kernel
theorem dX1_init_8 : decode cX1_init 8 = .ok (.multianewarray 9 2, 4) := by decide +kernel
theorem dX1_init_12 : decode cX1_init 12 = .ok (.putfield 11, 3) := by decide +kernel
theorem dX1_init_15 : decode cX1_init 15 = .ok (.aload_n 0, 1) := by decide +kernel
theorem dX1_init_16 : decode cX1_init 16 = .ok (.iconst 5, 1) := by decide +kernel
theorem dX1_init_17 : decode cX1_init 17 = .ok (.bipush 97, 2) := by decide +kernel
theorem dX1_init_19 : decode cX1_init 19 = .ok (.multianewarray 9 2, 4) := by decide +kernel
theorem dX1_init_23 : decode cX1_init 23 = .ok (.putfield 16, 3) := by decide +kernel
theorem dX1_init_26 : decode cX1_init 26 = .ok (.aload_n 0, 1) := by decide +kernel
theorem dX1_init_27 : decode cX1_init 27 = .ok (.iconst 5, 1) := by decide +kernel
theorem dX1_init_28 : decode cX1_init 28 = .ok (.bipush 96, 2) := by decide +kernel
theorem dX1_init_30 : decode cX1_init 30 = .ok (.multianewarray 9 2, 4) := by decide +kernel
theorem dX1_init_34 : decode cX1_init 34 = .ok (.putfield 19, 3) := by decide +kernel
theorem dX1_init_37 : decode cX1_init 37 = .ok (.return_, 1) := by decide +kernel
theorem dX1_run_0 : decode cX1_run 0 = .ok (.iconst 0, 1) := by decide +kernel
theorem dX1_run_1 : decode cX1_run 1 = .ok (.istore_n 3, 1) := by decide +kernel
theorem dX1_run_2 : decode cX1_run 2 = .ok (.iload_n 3, 1) := by decide +kernel
theorem dX1_run_3 : decode cX1_run 3 = .ok (.iconst 5, 1) := by decide +kernel
theorem dX1_run_4 : decode cX1_run 4 = .ok (.if_icmp .ge 35, 3) := by decide +kernel
theorem dX1_run_7 : decode cX1_run 7 = .ok (.aload_n 0, 1) := by decide +kernel
theorem dX1_run_8 : decode cX1_run 8 = .ok (.getfield 11, 3) := by decide +kernel
theorem dX1_run_11 : decode cX1_run 11 = .ok (.iload_n 3, 1) := by decide +kernel
theorem dX1_run_12 : decode cX1_run 12 = .ok (.aaload, 1) := by decide +kernel
theorem dX1_run_13 : decode cX1_run 13 = .ok (.iconst 0, 1) := by decide +kernel
theorem dX1_run_14 : decode cX1_run 14 = .ok (.aload_n 1, 1) := by decide +kernel
theorem dX1_run_15 : decode cX1_run 15 = .ok (.iload_n 3, 1) := by decide +kernel
theorem dX1_run_16 : decode cX1_run 16 = .ok (.invokevirtual 22, 3) := by decide +kernel
theorem dX1_run_19 : decode cX1_run 19 = .ok (.iastore, 1) := by decide +kernel
theorem dX1_run_20 : decode cX1_run 20 = .ok (.aload_n 0, 1) := by decide +kernel
theorem dX1_run_21 : decode cX1_run 21 = .ok (.getfield 16, 3) := by decide +kernel
theorem dX1_run_24 : decode cX1_run 24 = .ok (.iload_n 3, 1) := by decide +kernel
theorem dX1_run_25 : decode cX1_run 25 = .ok (.aaload, 1) := by decide +kernel
theorem dX1_run_26 : decode cX1_run 26 = .ok (.iconst 0, 1) := by decide +kernel
theorem dX1_run_27 : decode cX1_run 27 = .ok (.aload_n 1, 1) := by decide +kernel
theorem dX1_run_28 : decode cX1_run 28 = .ok (.iload_n 3, 1) := by decide +kernel
theorem dX1_run_29 : decode cX1_run 29 = .ok (.invokevirtual 28, 3) := by decide +kernel
theorem dX1_run_32 : decode cX1_run 32 = .ok (.iastore, 1) := by decide +kernel
theorem dX1_run_33 : decode cX1_run 33 = .ok (.iinc 3 1, 3) := by decide +kernel
theorem dX1_run_36 : decode cX1_run 36 = .ok (.goto (-34), 3) := by decide +kernel
theorem dX1_run_39 : decode cX1_run 39 = .ok (.iconst 0, 1) := by decide +kernel
theorem dX1_run_40 : decode cX1_run 40 = .ok (.istore_n 3, 1) := by decide +kernel
theorem dX1_run_41 : decode cX1_run 41 = .ok (.iload_n 3, 1) := by decide +kernel
theorem dX1_run_42 : decode cX1_run 42 = .ok (.bipush 96, 2) := by decide +kernel
theorem dX1_run_44 : decode cX1_run 44 = .ok (.if_icmp .ge 42, 3) := by decide +kernel
theorem dX1_run_47 : decode cX1_run 47 = .ok (.iconst 0, 1) := by decide +kernel
theorem dX1_run_48 : decode cX1_run 48 = .ok (.istore 4, 2) := by decide +kernel
theorem dX1_run_50 : decode cX1_run 50 = .ok (.iload 4, 2) := by decide +kernel
theorem dX1_run_52 : decode cX1_run 52 = .ok (.iconst 5, 1) := by decide +kernel
theorem dX1_run_53 : decode cX1_run 53 = .ok (.if_icmp .ge 27, 3) := by decide +kernel
theorem dX1_run_56 : decode cX1_run 56 = .ok (.aload_n 1, 1) := by decide +kernel
theorem dX1_run_57 : decode cX1_run 57 = .ok (.iload 4, 2) := by decide +kernel
theorem dX1_run_59 : decode cX1_run 59 = .ok (.invokevirtual 31, 3) := by decide +kernel
theorem dX1_run_62 : decode cX1_run 62 = .ok (.ifCond .eq 12, 3) := by decide +kernel
theorem dX1_run_65 : decode cX1_run 65 = .ok (.aload_n 0, 1) := by decide +kernel
theorem dX1_run_66 : decode cX1_run 66 = .ok (.iload 4, 2) := by decide +kernel
theorem dX1_run_68 : decode cX1_run 68 = .ok (.iload_n 3, 1) := by decide +kernel
theorem dX1_run_69 : decode cX1_run 69 = .ok (.aload_n 1, 1) := by decide +kernel
theorem dX1_run_70 : decode cX1_run 70 = .ok (.aload_n 2, 1) := by decide +kernel
theorem dX1_run_71 : decode cX1_run 71 = .ok (.invokevirtual 35, 3) := by decide +kernel
theorem dX1_run_74 : decode cX1_run 74 = .ok (.iinc 4 1, 3) := by decide +kernel
theorem dX1_run_77 : decode cX1_run 77 = .ok (.goto (-27), 3) := by decide +kernel
theorem dX1_run_80 : decode cX1_run 80 = .ok (.iinc 3 1, 3) := by decide +kernel
theorem dX1_run_83 : decode cX1_run 83 = .ok (.goto (-42), 3) := by decide +kernel
theorem dX1_run_86 : decode cX1_run 86 = .ok (.return_, 1) := by decide +kernel
theorem dX1_goOn_0 : decode cX1_goOn 0 = .ok (.aload_n 0, 1) := by decide +kernel
theorem dX1_goOn_1 : decode cX1_goOn 1 = .ok (.getfield 11, 3) := by decide +kernel
theorem dX1_goOn_4 : decode cX1_goOn 4 = .ok (.iload_n 1, 1) := by decide +kernel
theorem dX1_goOn_5 : decode cX1_goOn 5 = .ok (.aaload, 1) := by decide +kernel
theorem dX1_goOn_6 : decode cX1_goOn 6 = .ok (.iload_n 2, 1) := by decide +kernel
theorem dX1_goOn_7 : decode cX1_goOn 7 = .ok (.iaload, 1) := by decide +kernel
theorem dX1_goOn_8 : decode cX1_goOn 8 = .ok (.istore 5, 2) := by decide +kernel
theorem dX1_goOn_10 : decode cX1_goOn 10 = .ok (.aload_n 0, 1) := by decide +kernel
theorem dX1_goOn_11 : decode cX1_goOn 11 = .ok (.getfield 16, 3) := by decide +kernel
theorem dX1_goOn_14 : decode cX1_goOn 14 = .ok (.iload_n 1, 1) := by decide +kernel
theorem dX1_goOn_15 : decode cX1_goOn 15 = .ok (.aaload, 1) := by decide +kernel
theorem dX1_goOn_16 : decode cX1_goOn 16 = .ok (.iload_n 2, 1) := by decide +kernel
theorem dX1_goOn_17 : decode cX1_goOn 17 = .ok (.iaload, 1) := by decide +kernel
theorem dX1_goOn_18 : decode cX1_goOn 18 = .ok (.istore 6, 2) := by decide +kernel
theorem dX1_goOn_20 : decode cX1_goOn 20 = .ok (.aload 4, 2) := by decide +kernel
theorem dX1_goOn_22 : decode cX1_goOn 22 = .ok (.iload_n 2, 1) := by decide +kernel
theorem dX1_goOn_23 : decode cX1_goOn 23 = .ok (.invokevirtual 39, 3) := by decide +kernel
theorem dX1_goOn_26 : decode cX1_goOn 26 = .ok (.istore 7, 2) := by decide +kernel
theorem dX1_goOn_28 : decode cX1_goOn 28 = .ok (.aload_n 3, 1) := by decide +kernel
theorem dX1_goOn_29 : decode cX1_goOn 29 = .ok (.invokevirtual 44, 3) := by decide +kernel
theorem dX1_goOn_32 : decode cX1_goOn 32 = .ok (.iload_n 2, 1) := by decide +kernel
theorem dX1_goOn_33 : decode cX1_goOn 33 = .ok (.bipush 24, 2) := by decide +kernel
theorem dX1_goOn_35 : decode cX1_goOn 35 = .ok (.irem, 1) := by decide +kernel
theorem dX1_goOn_36 : decode cX1_goOn 36 = .ok (.invokestatic 48, 3) := by decide +kernel
theorem dX1_goOn_39 : decode cX1_goOn 39 = .ok (.istore 8, 2) := by decide +kernel
theorem dX1_goOn_41 : decode cX1_goOn 41 = .ok (.iload 8, 2) := by decide +kernel
theorem dX1_goOn_43 : decode cX1_goOn 43 = .ok (.ifCond .eq 19, 3) := by decide +kernel
theorem dX1_goOn_46 : decode cX1_goOn 46 = .ok (.aload 4, 2) := by decide +kernel
theorem dX1_goOn_48 : decode cX1_goOn 48 = .ok (.iload_n 1, 1) := by decide +kernel
theorem dX1_goOn_49 : decode cX1_goOn 49 = .ok (.iload_n 2, 1) := by decide +kernel
theorem dX1_goOn_50 : decode cX1_goOn 50 = .ok (.iload 5, 2) := by decide +kernel
theorem dX1_goOn_52 : decode cX1_goOn 52 = .ok (.invokevirtual 52, 3) := by decide +kernel
theorem dX1_goOn_55 : decode cX1_goOn 55 = .ok (.ifCond .eq 7, 3) := by decide +kernel
theorem dX1_goOn_58 : decode cX1_goOn 58 = .ok (.iconst 1, 1) := by decide +kernel
theorem dX1_goOn_59 : decode cX1_goOn 59 = .ok (.goto 4, 3) := by decide +kernel
theorem dX1_goOn_62 : decode cX1_goOn 62 = .ok (.iconst 0, 1) := by decide +kernel
theorem dX1_goOn_63 : decode cX1_goOn 63 = .ok (.istore 9, 2) := by decide +kernel
theorem dX1_goOn_65 : decode cX1_goOn 65 = .ok (.aload 4, 2) := by decide +kernel
theorem dX1_goOn_67 : decode cX1_goOn 67 = .ok (.iload_n 1, 1) := by decide +kernel
theorem dX1_goOn_68 : decode cX1_goOn 68 = .ok (.iload_n 2, 1) := by decide +kernel
theorem dX1_goOn_69 : decode cX1_goOn 69 = .ok (.bipush 24, 2) := by decide +kernel
theorem dX1_goOn_71 : decode cX1_goOn 71 = .ok (.irem, 1) := by decide +kernel
theorem dX1_goOn_72 : decode cX1_goOn 72 = .ok (.invokevirtual 56, 3) := by decide +kernel
theorem dX1_goOn_75 : decode cX1_goOn 75 = .ok (.iload 6, 2) := by decide +kernel
theorem dX1_goOn_77 : decode cX1_goOn 77 = .ok (.iload 5, 2) := by decide +kernel
theorem dX1_goOn_79 : decode cX1_goOn 79 = .ok (.isub, 1) := by decide +kernel
theorem dX1_goOn_80 : decode cX1_goOn 80 = .ok (.aload 4, 2) := by decide +kernel
theorem dX1_goOn_82 : decode cX1_goOn 82 = .ok (.invokevirtual 60, 3) := by decide +kernel
theorem dX1_goOn_85 : decode cX1_goOn 85 = .ok (.imul, 1) := by decide +kernel
theorem dX1_goOn_86 : decode cX1_goOn 86 = .ok (.bipush 100, 2) := by decide +kernel
theorem dX1_goOn_88 : decode cX1_goOn 88 = .ok (.idiv, 1) := by decide +kernel
theorem dX1_goOn_89 : decode cX1_goOn 89 = .ok (.iadd, 1) := by decide +kernel
theorem dX1_goOn_90 : decode cX1_goOn 90 = .ok (.istore 10, 2) := by decide +kernel
theorem dX1_goOn_92 : decode cX1_goOn 92 = .ok (.iload 10, 2) := by decide +kernel
theorem dX1_goOn_94 : decode cX1_goOn 94 = .ok (.aload_n 0, 1) := by decide +kernel
theorem dX1_goOn_95 : decode cX1_goOn 95 = .ok (.iload_n 1, 1) := by decide +kernel
theorem dX1_goOn_96 : decode cX1_goOn 96 = .ok (.iload_n 2, 1) := by decide +kernel
theorem dX1_goOn_97 : decode cX1_goOn 97 = .ok (.aload_n 3, 1) := by decide +kernel
theorem dX1_goOn_98 : decode cX1_goOn 98 = .ok (.invokevirtual 63, 3) := by decide +kernel
theorem dX1_goOn_101 : decode cX1_goOn 101 = .ok (.iadd, 1) := by decide +kernel
theorem dX1_goOn_102 : decode cX1_goOn 102 = .ok (.istore 10, 2) := by decide +kernel
theorem dX1_goOn_104 : decode cX1_goOn 104 = .ok (.iload 8, 2) := by decide +kernel
theorem dX1_goOn_106 : decode cX1_goOn 106 = .ok (.ifCond .eq 15, 3) := by decide +kernel
theorem dX1_goOn_109 : decode cX1_goOn 109 = .ok (.iload 10, 2) := by decide +kernel
theorem dX1_goOn_111 : decode cX1_goOn 111 = .ok (.iconst 2, 1) := by decide +kernel
theorem dX1_goOn_112 : decode cX1_goOn 112 = .ok (.aload_n 3, 1) := by decide +kernel
theorem dX1_goOn_113 : decode cX1_goOn 113 = .ok (.iload_n 1, 1) := by decide +kernel
theorem dX1_goOn_114 : decode cX1_goOn 114 = .ok (.invokevirtual 67, 3) := by decide +kernel
theorem dX1_goOn_117 : decode cX1_goOn 117 = .ok (.imul, 1) := by decide +kernel
theorem dX1_goOn_118 : decode cX1_goOn 118 = .ok (.iadd, 1) := by decide +kernel
theorem dX1_goOn_119 : decode cX1_goOn 119 = .ok (.istore 10, 2) := by decide +kernel
theorem dX1_goOn_121 : decode cX1_goOn 121 = .ok (.iload 9, 2) := by decide +kernel
theorem dX1_goOn_123 : decode cX1_goOn 123 = .ok (.ifCond .eq 21, 3) := by decide +kernel
theorem dX1_goOn_126 : decode cX1_goOn 126 = .ok (.iload 10, 2) := by decide +kernel
theorem dX1_goOn_128 : decode cX1_goOn 128 = .ok (.iload 7, 2) := by decide +kernel
theorem dX1_goOn_130 : decode cX1_goOn 130 = .ok (.iload 5, 2) := by decide +kernel
theorem dX1_goOn_132 : decode cX1_goOn 132 = .ok (.isub, 1) := by decide +kernel
theorem dX1_goOn_133 : decode cX1_goOn 133 = .ok (.aload_n 3, 1) := by decide +kernel
theorem dX1_goOn_134 : decode cX1_goOn 134 = .ok (.invokevirtual 70, 3) := by decide +kernel
theorem dX1_goOn_137 : decode cX1_goOn 137 = .ok (.imul, 1) := by decide +kernel
theorem dX1_goOn_138 : decode cX1_goOn 138 = .ok (.bipush 100, 2) := by decide +kernel
theorem dX1_goOn_140 : decode cX1_goOn 140 = .ok (.idiv, 1) := by decide +kernel
theorem dX1_goOn_141 : decode cX1_goOn 141 = .ok (.iadd, 1) := by decide +kernel
theorem dX1_goOn_142 : decode cX1_goOn 142 = .ok (.istore 10, 2) := by decide +kernel
theorem dX1_goOn_144 : decode cX1_goOn 144 = .ok (.aload_n 0, 1) := by decide +kernel
theorem dX1_goOn_145 : decode cX1_goOn 145 = .ok (.getfield 11, 3) := by decide +kernel
theorem dX1_goOn_148 : decode cX1_goOn 148 = .ok (.iload_n 1, 1) := by decide +kernel
theorem dX1_goOn_149 : decode cX1_goOn 149 = .ok (.aaload, 1) := by decide +kernel
theorem dX1_goOn_150 : decode cX1_goOn 150 = .ok (.iload_n 2, 1) := by decide +kernel
theorem dX1_goOn_151 : decode cX1_goOn 151 = .ok (.iconst 1, 1) := by decide +kernel
theorem dX1_goOn_152 : decode cX1_goOn 152 = .ok (.iadd, 1) := by decide +kernel
theorem dX1_goOn_153 : decode cX1_goOn 153 = .ok (.iload 5, 2) := by decide +kernel
theorem dX1_goOn_155 : decode cX1_goOn 155 = .ok (.iload 10, 2) := by decide +kernel
theorem dX1_goOn_157 : decode cX1_goOn 157 = .ok (.iadd, 1) := by decide +kernel
theorem dX1_goOn_158 : decode cX1_goOn 158 = .ok (.iastore, 1) := by decide +kernel
theorem dX1_goOn_159 : decode cX1_goOn 159 = .ok (.aload_n 0, 1) := by decide +kernel
theorem dX1_goOn_160 : decode cX1_goOn 160 = .ok (.getfield 16, 3) := by decide +kernel
theorem dX1_goOn_163 : decode cX1_goOn 163 = .ok (.iload_n 1, 1) := by decide +kernel
theorem dX1_goOn_164 : decode cX1_goOn 164 = .ok (.aaload, 1) := by decide +kernel
theorem dX1_goOn_165 : decode cX1_goOn 165 = .ok (.iload_n 2, 1) := by decide +kernel
theorem dX1_goOn_166 : decode cX1_goOn 166 = .ok (.iconst 1, 1) := by decide +kernel
theorem dX1_goOn_167 : decode cX1_goOn 167 = .ok (.iadd, 1) := by decide +kernel
theorem dX1_goOn_168 : decode cX1_goOn 168 = .ok (.iload 6, 2) := by decide +kernel
theorem dX1_goOn_170 : decode cX1_goOn 170 = .ok (.iload 5, 2) := by decide +kernel
theorem dX1_goOn_172 : decode cX1_goOn 172 = .ok (.iload 6, 2) := by decide +kernel
theorem dX1_goOn_174 : decode cX1_goOn 174 = .ok (.isub, 1) := by decide +kernel
theorem dX1_goOn_175 : decode cX1_goOn 175 = .ok (.aload 4, 2) := by decide +kernel
theorem dX1_goOn_177 : decode cX1_goOn 177 = .ok (.invokevirtual 73, 3) := by decide +kernel
theorem dX1_goOn_180 : decode cX1_goOn 180 = .ok (.imul, 1) := by decide +kernel
theorem dX1_goOn_181 : decode cX1_goOn 181 = .ok (.bipush 100, 2) := by decide +kernel
theorem dX1_goOn_183 : decode cX1_goOn 183 = .ok (.idiv, 1) := by decide +kernel
theorem dX1_goOn_184 : decode cX1_goOn 184 = .ok (.iadd, 1) := by decide +kernel
theorem dX1_goOn_185 : decode cX1_goOn 185 = .ok (.iload 7, 2) := by decide +kernel
theorem dX1_goOn_187 : decode cX1_goOn 187 = .ok (.iload 6, 2) := by decide +kernel
theorem dX1_goOn_189 : decode cX1_goOn 189 = .ok (.isub, 1) := by decide +kernel
theorem dX1_goOn_190 : decode cX1_goOn 190 = .ok (.aload 4, 2) := by decide +kernel
theorem dX1_goOn_192 : decode cX1_goOn 192 = .ok (.iload_n 1, 1) := by decide +kernel
theorem dX1_goOn_193 : decode cX1_goOn 193 = .ok (.invokevirtual 76, 3) := by decide +kernel
theorem dX1_goOn_196 : decode cX1_goOn 196 = .ok (.imul, 1) := by decide +kernel
theorem dX1_goOn_197 : decode cX1_goOn 197 = .ok (.bipush 100, 2) := by decide +kernel
theorem dX1_goOn_199 : decode cX1_goOn 199 = .ok (.idiv, 1) := by decide +kernel
theorem dX1_goOn_200 : decode cX1_goOn 200 = .ok (.iadd, 1) := by decide +kernel
theorem dX1_goOn_201 : decode cX1_goOn 201 = .ok (.iastore, 1) := by decide +kernel
theorem dX1_goOn_202 : decode cX1_goOn 202 = .ok (.aload_n 0, 1) := by decide +kernel
theorem dX1_goOn_203 : decode cX1_goOn 203 = .ok (.getfield 19, 3) := by decide +kernel
theorem dX1_goOn_206 : decode cX1_goOn 206 = .ok (.iload_n 1, 1) := by decide +kernel
theorem dX1_goOn_207 : decode cX1_goOn 207 = .ok (.aaload, 1) := by decide +kernel
theorem dX1_goOn_208 : decode cX1_goOn 208 = .ok (.iload_n 2, 1) := by decide +kernel
theorem dX1_goOn_209 : decode cX1_goOn 209 = .ok (.iload 9, 2) := by decide +kernel
theorem dX1_goOn_211 : decode cX1_goOn 211 = .ok (.ifCond .eq 7, 3) := by decide +kernel
theorem dX1_goOn_214 : decode cX1_goOn 214 = .ok (.iconst 1, 1) := by decide +kernel
theorem dX1_goOn_215 : decode cX1_goOn 215 = .ok (.goto 4, 3) := by decide +kernel
theorem dX1_goOn_218 : decode cX1_goOn 218 = .ok (.iconst 0, 1) := by decide +kernel
theorem dX1_goOn_219 : decode cX1_goOn 219 = .ok (.iastore, 1) := by decide +kernel
theorem dX1_goOn_220 : decode cX1_goOn 220 = .ok (.return_, 1) := by decide +kernel
theorem dX1_throughDoors_0 : decode cX1_throughDoors 0 = .ok (.iconst 0, 1) := by decide +kernel
theorem dX1_throughDoors_1 : decode cX1_throughDoors 1 = .ok (.istore 4, 2) := by decide +kernel
theorem dX1_throughDoors_3 : decode cX1_throughDoors 3 = .ok (.iconst 0, 1) := by decide +kernel
theorem dX1_throughDoors_4 : decode cX1_throughDoors 4 = .ok (.istore 5, 2) := by decide +kernel
theorem dX1_throughDoors_6 : decode cX1_throughDoors 6 = .ok (.iload 5, 2) := by decide +kernel
theorem dX1_throughDoors_8 : decode cX1_throughDoors 8 = .ok (.iconst 5, 1) := by decide +kernel
theorem dX1_throughDoors_9 : decode cX1_throughDoors 9 = .ok (.if_icmp .ge 61, 3) := by decide +kernel
theorem dX1_throughDoors_12 : decode cX1_throughDoors 12 = .ok (.aload_n 3, 1) := by decide +kernel
theorem dX1_throughDoors_13 : decode cX1_throughDoors 13 = .ok (.iload_n 1, 1) := by decide +kernel
theorem dX1_throughDoors_14 : decode cX1_throughDoors 14 = .ok (.iload 5, 2) := by decide +kernel
theorem dX1_throughDoors_16 : decode cX1_throughDoors 16 = .ok (.invokevirtual 79, 3) := by decide +kernel
theorem dX1_throughDoors_19 : decode cX1_throughDoors 19 = .ok (.istore 6, 2) := by decide +kernel
theorem dX1_throughDoors_21 : decode cX1_throughDoors 21 = .ok (.iload 6, 2) := by decide +kernel
theorem dX1_throughDoors_23 : decode cX1_throughDoors 23 = .ok (.ifCond .le 41, 3) := by decide +kernel
theorem dX1_throughDoors_26 : decode cX1_throughDoors 26 = .ok (.aload_n 3, 1) := by decide +kernel
theorem dX1_throughDoors_27 : decode cX1_throughDoors 27 = .ok (.iload 5, 2) := by decide +kernel
theorem dX1_throughDoors_29 : decode cX1_throughDoors 29 = .ok (.invokevirtual 31, 3) := by decide +kernel
theorem dX1_throughDoors_32 : decode cX1_throughDoors 32 = .ok (.ifCond .eq 32, 3) := by decide +kernel
theorem dX1_throughDoors_35 : decode cX1_throughDoors 35 = .ok (.iload 4, 2) := by decide +kernel
theorem dX1_throughDoors_37 : decode cX1_throughDoors 37 = .ok (.aload_n 0, 1) := by decide +kernel
theorem dX1_throughDoors_38 : decode cX1_throughDoors 38 = .ok (.getfield 11, 3) := by decide +kernel
theorem dX1_throughDoors_41 : decode cX1_throughDoors 41 = .ok (.iload 5, 2) := by decide +kernel
theorem dX1_throughDoors_43 : decode cX1_throughDoors 43 = .ok (.aaload, 1) := by decide +kernel
theorem dX1_throughDoors_44 : decode cX1_throughDoors 44 = .ok (.iload_n 2, 1) := by decide +kernel
theorem dX1_throughDoors_45 : decode cX1_throughDoors 45 = .ok (.iaload, 1) := by decide +kernel
theorem dX1_throughDoors_46 : decode cX1_throughDoors 46 = .ok (.aload_n 0, 1) := by decide +kernel
theorem dX1_throughDoors_47 : decode cX1_throughDoors 47 = .ok (.getfield 11, 3) := by decide +kernel
theorem dX1_throughDoors_50 : decode cX1_throughDoors 50 = .ok (.iload_n 1, 1) := by decide +kernel
theorem dX1_throughDoors_51 : decode cX1_throughDoors 51 = .ok (.aaload, 1) := by decide +kernel
theorem dX1_throughDoors_52 : decode cX1_throughDoors 52 = .ok (.iload_n 2, 1) := by decide +kernel
theorem dX1_throughDoors_53 : decode cX1_throughDoors 53 = .ok (.iaload, 1) := by decide +kernel
theorem dX1_throughDoors_54 : decode cX1_throughDoors 54 = .ok (.isub, 1) := by decide +kernel
theorem dX1_throughDoors_55 : decode cX1_throughDoors 55 = .ok (.iload 6, 2) := by decide +kernel
theorem dX1_throughDoors_57 : decode cX1_throughDoors 57 = .ok (.imul, 1) := by decide +kernel
theorem dX1_throughDoors_58 : decode cX1_throughDoors 58 = .ok (.bipush 100, 2) := by decide +kernel
theorem dX1_throughDoors_60 : decode cX1_throughDoors 60 = .ok (.idiv, 1) := by decide +kernel
theorem dX1_throughDoors_61 : decode cX1_throughDoors 61 = .ok (.iadd, 1) := by decide +kernel
theorem dX1_throughDoors_62 : decode cX1_throughDoors 62 = .ok (.istore 4, 2) := by decide +kernel
theorem dX1_throughDoors_64 : decode cX1_throughDoors 64 = .ok (.iinc 5 1, 3) := by decide +kernel
theorem dX1_throughDoors_67 : decode cX1_throughDoors 67 = .ok (.goto (-61), 3) := by decide +kernel
theorem dX1_throughDoors_70 : decode cX1_throughDoors 70 = .ok (.iload 4, 2) := by decide +kernel
theorem dX1_throughDoors_72 : decode cX1_throughDoors 72 = .ok (.ireturn, 1) := by decide +kernel
theorem dX1_airBehind_0 : decode cX1_airBehind 0 = .ok (.aload_n 0, 1) := by decide +kernel
theorem dX1_airBehind_1 : decode cX1_airBehind 1 = .ok (.getfield 11, 3) := by decide +kernel
theorem dX1_airBehind_4 : decode cX1_airBehind 4 = .ok (.iload_n 1, 1) := by decide +kernel
theorem dX1_airBehind_5 : decode cX1_airBehind 5 = .ok (.aaload, 1) := by decide +kernel
theorem dX1_airBehind_6 : decode cX1_airBehind 6 = .ok (.iload_n 2, 1) := by decide +kernel
theorem dX1_airBehind_7 : decode cX1_airBehind 7 = .ok (.iconst 1, 1) := by decide +kernel
theorem dX1_airBehind_8 : decode cX1_airBehind 8 = .ok (.iadd, 1) := by decide +kernel
theorem dX1_airBehind_9 : decode cX1_airBehind 9 = .ok (.iaload, 1) := by decide +kernel
theorem dX1_airBehind_10 : decode cX1_airBehind 10 = .ok (.ireturn, 1) := by decide +kernel
theorem dX1_wallBehind_0 : decode cX1_wallBehind 0 = .ok (.aload_n 0, 1) := by decide +kernel
theorem dX1_wallBehind_1 : decode cX1_wallBehind 1 = .ok (.getfield 16, 3) := by decide +kernel
theorem dX1_wallBehind_4 : decode cX1_wallBehind 4 = .ok (.iload_n 1, 1) := by decide +kernel
theorem dX1_wallBehind_5 : decode cX1_wallBehind 5 = .ok (.aaload, 1) := by decide +kernel
theorem dX1_wallBehind_6 : decode cX1_wallBehind 6 = .ok (.iload_n 2, 1) := by decide +kernel
theorem dX1_wallBehind_7 : decode cX1_wallBehind 7 = .ok (.iconst 1, 1) := by decide +kernel
theorem dX1_wallBehind_8 : decode cX1_wallBehind 8 = .ok (.iadd, 1) := by decide +kernel
theorem dX1_wallBehind_9 : decode cX1_wallBehind 9 = .ok (.iaload, 1) := by decide +kernel
theorem dX1_wallBehind_10 : decode cX1_wallBehind 10 = .ok (.ireturn, 1) := by decide +kernel
theorem dX1_openIn_0 : decode cX1_openIn 0 = .ok (.aload_n 0, 1) := by decide +kernel
theorem dX1_openIn_1 : decode cX1_openIn 1 = .ok (.getfield 19, 3) := by decide +kernel
theorem dX1_openIn_4 : decode cX1_openIn 4 = .ok (.iload_n 1, 1) := by decide +kernel
theorem dX1_openIn_5 : decode cX1_openIn 5 = .ok (.aaload, 1) := by decide +kernel
theorem dX1_openIn_6 : decode cX1_openIn 6 = .ok (.iload_n 2, 1) := by decide +kernel
theorem dX1_openIn_7 : decode cX1_openIn 7 = .ok (.iaload, 1) := by decide +kernel
theorem dX1_openIn_8 : decode cX1_openIn 8 = .ok (.ireturn, 1) := by decide +kernel
theorem dX1_nightOf_0 : decode cX1_nightOf 0 = .ok (.iconst 0, 1) := by decide +kernel
theorem dX1_nightOf_1 : decode cX1_nightOf 1 = .ok (.istore_n 2, 1) := by decide +kernel
theorem dX1_nightOf_2 : decode cX1_nightOf 2 = .ok (.iconst 0, 1) := by decide +kernel
theorem dX1_nightOf_3 : decode cX1_nightOf 3 = .ok (.istore_n 3, 1) := by decide +kernel
theorem dX1_nightOf_4 : decode cX1_nightOf 4 = .ok (.iload_n 3, 1) := by decide +kernel
theorem dX1_nightOf_5 : decode cX1_nightOf 5 = .ok (.bipush 96, 2) := by decide +kernel
theorem dX1_nightOf_7 : decode cX1_nightOf 7 = .ok (.if_icmp .ge 41, 3) := by decide +kernel
theorem dX1_nightOf_10 : decode cX1_nightOf 10 = .ok (.iload_n 3, 1) := by decide +kernel
theorem dX1_nightOf_11 : decode cX1_nightOf 11 = .ok (.bipush 24, 2) := by decide +kernel
theorem dX1_nightOf_13 : decode cX1_nightOf 13 = .ok (.irem, 1) := by decide +kernel
theorem dX1_nightOf_14 : decode cX1_nightOf 14 = .ok (.istore 4, 2) := by decide +kernel
theorem dX1_nightOf_16 : decode cX1_nightOf 16 = .ok (.iload 4, 2) := by decide +kernel
theorem dX1_nightOf_18 : decode cX1_nightOf 18 = .ok (.bipush 22, 2) := by decide +kernel
theorem dX1_nightOf_20 : decode cX1_nightOf 20 = .ok (.if_icmp .ge 9, 3) := by decide +kernel
theorem dX1_nightOf_23 : decode cX1_nightOf 23 = .ok (.iload 4, 2) := by decide +kernel
theorem dX1_nightOf_25 : decode cX1_nightOf 25 = .ok (.iconst 5, 1) := by decide +kernel
theorem dX1_nightOf_26 : decode cX1_nightOf 26 = .ok (.if_icmp .gt 16, 3) := by decide +kernel
theorem dX1_nightOf_29 : decode cX1_nightOf 29 = .ok (.iload_n 2, 1) := by decide +kernel
theorem dX1_nightOf_30 : decode cX1_nightOf 30 = .ok (.aload_n 0, 1) := by decide +kernel
theorem dX1_nightOf_31 : decode cX1_nightOf 31 = .ok (.getfield 11, 3) := by decide +kernel
theorem dX1_nightOf_34 : decode cX1_nightOf 34 = .ok (.iload_n 1, 1) := by decide +kernel
theorem dX1_nightOf_35 : decode cX1_nightOf 35 = .ok (.aaload, 1) := by decide +kernel
theorem dX1_nightOf_36 : decode cX1_nightOf 36 = .ok (.iload_n 3, 1) := by decide +kernel
theorem dX1_nightOf_37 : decode cX1_nightOf 37 = .ok (.iconst 1, 1) := by decide +kernel
theorem dX1_nightOf_38 : decode cX1_nightOf 38 = .ok (.iadd, 1) := by decide +kernel
theorem dX1_nightOf_39 : decode cX1_nightOf 39 = .ok (.iaload, 1) := by decide +kernel
theorem dX1_nightOf_40 : decode cX1_nightOf 40 = .ok (.iadd, 1) := by decide +kernel
theorem dX1_nightOf_41 : decode cX1_nightOf 41 = .ok (.istore_n 2, 1) := by decide +kernel
theorem dX1_nightOf_42 : decode cX1_nightOf 42 = .ok (.iinc 3 1, 3) := by decide +kernel
theorem dX1_nightOf_45 : decode cX1_nightOf 45 = .ok (.goto (-41), 3) := by decide +kernel
theorem dX1_nightOf_48 : decode cX1_nightOf 48 = .ok (.iload_n 2, 1) := by decide +kernel
theorem dX1_nightOf_49 : decode cX1_nightOf 49 = .ok (.ireturn, 1) := by decide +kernel
theorem dX1_nightOfAll_0 : decode cX1_nightOfAll 0 = .ok (.iconst 0, 1) := by decide +kernel
theorem dX1_nightOfAll_1 : decode cX1_nightOfAll 1 = .ok (.istore_n 2, 1) := by decide +kernel
theorem dX1_nightOfAll_2 : decode cX1_nightOfAll 2 = .ok (.iconst 0, 1) := by decide +kernel
theorem dX1_nightOfAll_3 : decode cX1_nightOfAll 3 = .ok (.istore_n 3, 1) := by decide +kernel
theorem dX1_nightOfAll_4 : decode cX1_nightOfAll 4 = .ok (.iload_n 3, 1) := by decide +kernel
theorem dX1_nightOfAll_5 : decode cX1_nightOfAll 5 = .ok (.iconst 5, 1) := by decide +kernel
theorem dX1_nightOfAll_6 : decode cX1_nightOfAll 6 = .ok (.if_icmp .ge 25, 3) := by decide +kernel
theorem dX1_nightOfAll_9 : decode cX1_nightOfAll 9 = .ok (.aload_n 1, 1) := by decide +kernel
theorem dX1_nightOfAll_10 : decode cX1_nightOfAll 10 = .ok (.iload_n 3, 1) := by decide +kernel
theorem dX1_nightOfAll_11 : decode cX1_nightOfAll 11 = .ok (.invokevirtual 31, 3) := by decide +kernel
theorem dX1_nightOfAll_14 : decode cX1_nightOfAll 14 = .ok (.ifCond .eq 11, 3) := by decide +kernel
theorem dX1_nightOfAll_17 : decode cX1_nightOfAll 17 = .ok (.iload_n 2, 1) := by decide +kernel
theorem dX1_nightOfAll_18 : decode cX1_nightOfAll 18 = .ok (.aload_n 0, 1) := by decide +kernel
theorem dX1_nightOfAll_19 : decode cX1_nightOfAll 19 = .ok (.iload_n 3, 1) := by decide +kernel
theorem dX1_nightOfAll_20 : decode cX1_nightOfAll 20 = .ok (.invokevirtual 82, 3) := by decide +kernel
theorem dX1_nightOfAll_23 : decode cX1_nightOfAll 23 = .ok (.iadd, 1) := by decide +kernel
theorem dX1_nightOfAll_24 : decode cX1_nightOfAll 24 = .ok (.istore_n 2, 1) := by decide +kernel
theorem dX1_nightOfAll_25 : decode cX1_nightOfAll 25 = .ok (.iinc 3 1, 3) := by decide +kernel
theorem dX1_nightOfAll_28 : decode cX1_nightOfAll 28 = .ok (.goto (-24), 3) := by decide +kernel
theorem dX1_nightOfAll_31 : decode cX1_nightOfAll 31 = .ok (.iload_n 2, 1) := by decide +kernel
theorem dX1_nightOfAll_32 : decode cX1_nightOfAll 32 = .ok (.ireturn, 1) := by decide +kernel
theorem dX1_longestAbove_0 : decode cX1_longestAbove 0 = .ok (.iconst 0, 1) := by decide +kernel
theorem dX1_longestAbove_1 : decode cX1_longestAbove 1 = .ok (.istore_n 3, 1) := by decide +kernel
theorem dX1_longestAbove_2 : decode cX1_longestAbove 2 = .ok (.iconst 0, 1) := by decide +kernel
theorem dX1_longestAbove_3 : decode cX1_longestAbove 3 = .ok (.istore 4, 2) := by decide +kernel
theorem dX1_longestAbove_5 : decode cX1_longestAbove 5 = .ok (.iconst 0, 1) := by decide +kernel
theorem dX1_longestAbove_6 : decode cX1_longestAbove 6 = .ok (.istore 5, 2) := by decide +kernel
theorem dX1_longestAbove_8 : decode cX1_longestAbove 8 = .ok (.iload 5, 2) := by decide +kernel
theorem dX1_longestAbove_10 : decode cX1_longestAbove 10 = .ok (.bipush 96, 2) := by decide +kernel
theorem dX1_longestAbove_12 : decode cX1_longestAbove 12 = .ok (.if_icmp .ge 41, 3) := by decide +kernel
theorem dX1_longestAbove_15 : decode cX1_longestAbove 15 = .ok (.aload_n 0, 1) := by decide +kernel
theorem dX1_longestAbove_16 : decode cX1_longestAbove 16 = .ok (.getfield 11, 3) := by decide +kernel
theorem dX1_longestAbove_19 : decode cX1_longestAbove 19 = .ok (.iload_n 1, 1) := by decide +kernel
theorem dX1_longestAbove_20 : decode cX1_longestAbove 20 = .ok (.aaload, 1) := by decide +kernel
theorem dX1_longestAbove_21 : decode cX1_longestAbove 21 = .ok (.iload 5, 2) := by decide +kernel
theorem dX1_longestAbove_23 : decode cX1_longestAbove 23 = .ok (.iconst 1, 1) := by decide +kernel
theorem dX1_longestAbove_24 : decode cX1_longestAbove 24 = .ok (.iadd, 1) := by decide +kernel
theorem dX1_longestAbove_25 : decode cX1_longestAbove 25 = .ok (.iaload, 1) := by decide +kernel
theorem dX1_longestAbove_26 : decode cX1_longestAbove 26 = .ok (.iload_n 2, 1) := by decide +kernel
theorem dX1_longestAbove_27 : decode cX1_longestAbove 27 = .ok (.if_icmp .le 10, 3) := by decide +kernel
theorem dX1_longestAbove_30 : decode cX1_longestAbove 30 = .ok (.iload 4, 2) := by decide +kernel
theorem dX1_longestAbove_32 : decode cX1_longestAbove 32 = .ok (.iconst 1, 1) := by decide +kernel
theorem dX1_longestAbove_33 : decode cX1_longestAbove 33 = .ok (.iadd, 1) := by decide +kernel
theorem dX1_longestAbove_34 : decode cX1_longestAbove 34 = .ok (.goto 4, 3) := by decide +kernel
theorem dX1_longestAbove_37 : decode cX1_longestAbove 37 = .ok (.iconst 0, 1) := by decide +kernel
theorem dX1_longestAbove_38 : decode cX1_longestAbove 38 = .ok (.istore 4, 2) := by decide +kernel
theorem dX1_longestAbove_40 : decode cX1_longestAbove 40 = .ok (.iload_n 3, 1) := by decide +kernel
theorem dX1_longestAbove_41 : decode cX1_longestAbove 41 = .ok (.iload 4, 2) := by decide +kernel
theorem dX1_longestAbove_43 : decode cX1_longestAbove 43 = .ok (.invokestatic 85, 3) := by decide +kernel
theorem dX1_longestAbove_46 : decode cX1_longestAbove 46 = .ok (.istore_n 3, 1) := by decide +kernel
theorem dX1_longestAbove_47 : decode cX1_longestAbove 47 = .ok (.iinc 5 1, 3) := by decide +kernel
theorem dX1_longestAbove_50 : decode cX1_longestAbove 50 = .ok (.goto (-42), 3) := by decide +kernel
theorem dX1_longestAbove_53 : decode cX1_longestAbove 53 = .ok (.iload_n 3, 1) := by decide +kernel
theorem dX1_longestAbove_54 : decode cX1_longestAbove 54 = .ok (.ireturn, 1) := by decide +kernel
theorem dX2_init_0 : decode cX2_init 0 = .ok (.aload_n 0, 1) := by decide +kernel
theorem dX2_init_1 : decode cX2_init 1 = .ok (.invokespecial 3, 3) := by decide +kernel
theorem dX2_init_4 : decode cX2_init 4 = .ok (.aload_n 0, 1) := by decide +kernel
theorem dX2_init_5 : decode cX2_init 5 = .ok (.bipush 8, 2) := by decide +kernel
theorem dX2_init_7 : decode cX2_init 7 = .ok (.newarray .int, 2) := by decide +kernel
theorem dX2_init_9 : decode cX2_init 9 = .ok (.putfield 11, 3) := by decide +kernel
theorem dX2_init_12 : decode cX2_init 12 = .ok (.aload_n 0, 1) := by decide +kernel
theorem dX2_init_13 : decode cX2_init 13 = .ok (.bipush 8, 2) := by decide +kernel
theorem dX2_init_15 : decode cX2_init 15 = .ok (.newarray .int, 2) := by decide +kernel
theorem dX2_init_17 : decode cX2_init 17 = .ok (.putfield 15, 3) := by decide +kernel
theorem dX2_init_20 : decode cX2_init 20 = .ok (.aload_n 0, 1) := by decide +kernel
theorem dX2_init_21 : decode cX2_init 21 = .ok (.bipush 8, 2) := by decide +kernel
theorem dX2_init_23 : decode cX2_init 23 = .ok (.newarray .int, 2) := by decide +kernel
theorem dX2_init_25 : decode cX2_init 25 = .ok (.putfield 18, 3) := by decide +kernel
theorem dX2_init_28 : decode cX2_init 28 = .ok (.aload_n 0, 1) := by decide +kernel
theorem dX2_init_29 : decode cX2_init 29 = .ok (.iconst 0, 1) := by decide +kernel
theorem dX2_init_30 : decode cX2_init 30 = .ok (.putfield 21, 3) := by decide +kernel
theorem dX2_init_33 : decode cX2_init 33 = .ok (.aload_n 0, 1) := by decide +kernel
theorem dX2_init_34 : decode cX2_init 34 = .ok (.iconst 0, 1) := by decide +kernel
theorem dX2_init_35 : decode cX2_init 35 = .ok (.putfield 25, 3) := by decide +kernel
theorem dX2_init_38 : decode cX2_init 38 = .ok (.return_, 1) := by decide +kernel
theorem dX2_size_0 : decode cX2_size 0 = .ok (.aload_n 0, 1) := by decide +kernel
theorem dX2_size_1 : decode cX2_size 1 = .ok (.getfield 21, 3) := by decide +kernel
theorem dX2_size_4 : decode cX2_size 4 = .ok (.ireturn, 1) := by decide +kernel
theorem dX2_isFull_0 : decode cX2_isFull 0 = .ok (.aload_n 0, 1) := by decide +kernel
theorem dX2_isFull_1 : decode cX2_isFull 1 = .ok (.getfield 21, 3) := by decide +kernel
theorem dX2_isFull_4 : decode cX2_isFull 4 = .ok (.bipush 8, 2) := by decide +kernel
theorem dX2_isFull_6 : decode cX2_isFull 6 = .ok (.if_icmp .lt 7, 3) := by decide +kernel
theorem dX2_isFull_9 : decode cX2_isFull 9 = .ok (.iconst 1, 1) := by decide +kernel
theorem dX2_isFull_10 : decode cX2_isFull 10 = .ok (.goto 4, 3) := by decide +kernel
theorem dX2_isFull_13 : decode cX2_isFull 13 = .ok (.iconst 0, 1) := by decide +kernel
theorem dX2_isFull_14 : decode cX2_isFull 14 = .ok (.ireturn, 1) := by decide +kernel
theorem dX2_add_0 : decode cX2_add 0 = .ok (.aload_n 0, 1) := by decide +kernel
theorem dX2_add_1 : decode cX2_add 1 = .ok (.invokevirtual 28, 3) := by decide +kernel
theorem dX2_add_4 : decode cX2_add 4 = .ok (.ifCond .eq 6, 3) := by decide +kernel
theorem dX2_add_7 : decode cX2_add 7 = .ok (.bipush (-5), 2) := by decide +kernel
theorem dX2_add_9 : decode cX2_add 9 = .ok (.ireturn, 1) := by decide +kernel
theorem dX2_add_10 : decode cX2_add 10 = .ok (.aload_n 0, 1) := by decide +kernel
theorem dX2_add_11 : decode cX2_add 11 = .ok (.getfield 11, 3) := by decide +kernel
theorem dX2_add_14 : decode cX2_add 14 = .ok (.aload_n 0, 1) := by decide +kernel
theorem dX2_add_15 : decode cX2_add 15 = .ok (.getfield 21, 3) := by decide +kernel
theorem dX2_add_18 : decode cX2_add 18 = .ok (.iload_n 1, 1) := by decide +kernel
theorem dX2_add_19 : decode cX2_add 19 = .ok (.iastore, 1) := by decide +kernel
theorem dX2_add_20 : decode cX2_add 20 = .ok (.aload_n 0, 1) := by decide +kernel
theorem dX2_add_21 : decode cX2_add 21 = .ok (.getfield 15, 3) := by decide +kernel
theorem dX2_add_24 : decode cX2_add 24 = .ok (.aload_n 0, 1) := by decide +kernel
theorem dX2_add_25 : decode cX2_add 25 = .ok (.getfield 21, 3) := by decide +kernel
theorem dX2_add_28 : decode cX2_add 28 = .ok (.iload_n 2, 1) := by decide +kernel
theorem dX2_add_29 : decode cX2_add 29 = .ok (.iastore, 1) := by decide +kernel
theorem dX2_add_30 : decode cX2_add 30 = .ok (.aload_n 0, 1) := by decide +kernel
theorem dX2_add_31 : decode cX2_add 31 = .ok (.getfield 18, 3) := by decide +kernel
theorem dX2_add_34 : decode cX2_add 34 = .ok (.aload_n 0, 1) := by decide +kernel
theorem dX2_add_35 : decode cX2_add 35 = .ok (.getfield 21, 3) := by decide +kernel
theorem dX2_add_38 : decode cX2_add 38 = .ok (.iload_n 3, 1) := by decide +kernel
theorem dX2_add_39 : decode cX2_add 39 = .ok (.iastore, 1) := by decide +kernel
theorem dX2_add_40 : decode cX2_add 40 = .ok (.aload_n 0, 1) := by decide +kernel
theorem dX2_add_41 : decode cX2_add 41 = .ok (.dup, 1) := by decide +kernel
theorem dX2_add_42 : decode cX2_add 42 = .ok (.getfield 21, 3) := by decide +kernel
theorem dX2_add_45 : decode cX2_add 45 = .ok (.iconst 1, 1) := by decide +kernel
theorem dX2_add_46 : decode cX2_add 46 = .ok (.iadd, 1) := by decide +kernel
theorem dX2_add_47 : decode cX2_add 47 = .ok (.putfield 21, 3) := by decide +kernel
theorem dX2_add_50 : decode cX2_add 50 = .ok (.aload_n 0, 1) := by decide +kernel
theorem dX2_add_51 : decode cX2_add 51 = .ok (.getfield 21, 3) := by decide +kernel
theorem dX2_add_54 : decode cX2_add 54 = .ok (.ireturn, 1) := by decide +kernel
theorem dX2_learn_0 : decode cX2_learn 0 = .ok (.aload_n 0, 1) := by decide +kernel
theorem dX2_learn_1 : decode cX2_learn 1 = .ok (.iconst 0, 1) := by decide +kernel
theorem dX2_learn_2 : decode cX2_learn 2 = .ok (.putfield 25, 3) := by decide +kernel
theorem dX2_learn_5 : decode cX2_learn 5 = .ok (.aload_n 3, 1) := by decide +kernel
theorem dX2_learn_6 : decode cX2_learn 6 = .ok (.aload_n 2, 1) := by decide +kernel
theorem dX2_learn_7 : decode cX2_learn 7 = .ok (.invokevirtual 32, 3) := by decide +kernel
theorem dX2_learn_10 : decode cX2_learn 10 = .ok (.iconst 0, 1) := by decide +kernel
theorem dX2_learn_11 : decode cX2_learn 11 = .ok (.istore 5, 2) := by decide +kernel
theorem dX2_learn_13 : decode cX2_learn 13 = .ok (.iload 5, 2) := by decide +kernel
theorem dX2_learn_15 : decode cX2_learn 15 = .ok (.bipush 40, 2) := by decide +kernel
theorem dX2_learn_17 : decode cX2_learn 17 = .ok (.if_icmp .gt 59, 3) := by decide +kernel
theorem dX2_learn_20 : decode cX2_learn 20 = .ok (.iconst 0, 1) := by decide +kernel
theorem dX2_learn_21 : decode cX2_learn 21 = .ok (.istore 6, 2) := by decide +kernel
theorem dX2_learn_23 : decode cX2_learn 23 = .ok (.iload 6, 2) := by decide +kernel
theorem dX2_learn_25 : decode cX2_learn 25 = .ok (.bipush 40, 2) := by decide +kernel
theorem dX2_learn_27 : decode cX2_learn 27 = .ok (.if_icmp .gt 43, 3) := by decide +kernel
theorem dX2_learn_30 : decode cX2_learn 30 = .ok (.aload_n 3, 1) := by decide +kernel
theorem dX2_learn_31 : decode cX2_learn 31 = .ok (.iload 5, 2) := by decide +kernel
theorem dX2_learn_33 : decode cX2_learn 33 = .ok (.iload 6, 2) := by decide +kernel
theorem dX2_learn_35 : decode cX2_learn 35 = .ok (.invokevirtual 38, 3) := by decide +kernel
theorem dX2_learn_38 : decode cX2_learn 38 = .ok (.aload 4, 2) := by decide +kernel
theorem dX2_learn_40 : decode cX2_learn 40 = .ok (.aload_n 2, 1) := by decide +kernel
theorem dX2_learn_41 : decode cX2_learn 41 = .ok (.aload_n 3, 1) := by decide +kernel
theorem dX2_learn_42 : decode cX2_learn 42 = .ok (.invokevirtual 42, 3) := by decide +kernel
theorem dX2_learn_45 : decode cX2_learn 45 = .ok (.aload_n 0, 1) := by decide +kernel
theorem dX2_learn_46 : decode cX2_learn 46 = .ok (.iload_n 1, 1) := by decide +kernel
theorem dX2_learn_47 : decode cX2_learn 47 = .ok (.aload_n 2, 1) := by decide +kernel
theorem dX2_learn_48 : decode cX2_learn 48 = .ok (.aload 4, 2) := by decide +kernel
theorem dX2_learn_50 : decode cX2_learn 50 = .ok (.invokevirtual 48, 3) := by decide +kernel
theorem dX2_learn_53 : decode cX2_learn 53 = .ok (.ifCond .eq 11, 3) := by decide +kernel
theorem dX2_learn_56 : decode cX2_learn 56 = .ok (.aload_n 0, 1) := by decide +kernel
theorem dX2_learn_57 : decode cX2_learn 57 = .ok (.iload 5, 2) := by decide +kernel
theorem dX2_learn_59 : decode cX2_learn 59 = .ok (.iload 6, 2) := by decide +kernel
theorem dX2_learn_61 : decode cX2_learn 61 = .ok (.invokevirtual 52, 3) := by decide +kernel
theorem dX2_learn_64 : decode cX2_learn 64 = .ok (.iinc 6 5, 3) := by decide +kernel
theorem dX2_learn_67 : decode cX2_learn 67 = .ok (.goto (-44), 3) := by decide +kernel
theorem dX2_learn_70 : decode cX2_learn 70 = .ok (.iinc 5 5, 3) := by decide +kernel
theorem dX2_learn_73 : decode cX2_learn 73 = .ok (.goto (-60), 3) := by decide +kernel
theorem dX2_learn_76 : decode cX2_learn 76 = .ok (.return_, 1) := by decide +kernel
theorem dX2_allHold_0 : decode cX2_allHold 0 = .ok (.iconst 0, 1) := by decide +kernel
theorem dX2_allHold_1 : decode cX2_allHold 1 = .ok (.istore 4, 2) := by decide +kernel
theorem dX2_allHold_3 : decode cX2_allHold 3 = .ok (.iload 4, 2) := by decide +kernel
theorem dX2_allHold_5 : decode cX2_allHold 5 = .ok (.aload_n 0, 1) := by decide +kernel
theorem dX2_allHold_6 : decode cX2_allHold 6 = .ok (.getfield 21, 3) := by decide +kernel
theorem dX2_allHold_9 : decode cX2_allHold 9 = .ok (.if_icmp .ge 58, 3) := by decide +kernel
theorem dX2_allHold_12 : decode cX2_allHold 12 = .ok (.aload_n 2, 1) := by decide +kernel
theorem dX2_allHold_13 : decode cX2_allHold 13 = .ok (.aload_n 0, 1) := by decide +kernel
theorem dX2_allHold_14 : decode cX2_allHold 14 = .ok (.getfield 11, 3) := by decide +kernel
theorem dX2_allHold_17 : decode cX2_allHold 17 = .ok (.iload 4, 2) := by decide +kernel
theorem dX2_allHold_19 : decode cX2_allHold 19 = .ok (.iaload, 1) := by decide +kernel
theorem dX2_allHold_20 : decode cX2_allHold 20 = .ok (.invokevirtual 55, 3) := by decide +kernel
theorem dX2_allHold_23 : decode cX2_allHold 23 = .ok (.ifCond .eq 36, 3) := by decide +kernel
theorem dX2_allHold_26 : decode cX2_allHold 26 = .ok (.aload_n 3, 1) := by decide +kernel
theorem dX2_allHold_27 : decode cX2_allHold 27 = .ok (.aload_n 0, 1) := by decide +kernel
theorem dX2_allHold_28 : decode cX2_allHold 28 = .ok (.getfield 11, 3) := by decide +kernel
theorem dX2_allHold_31 : decode cX2_allHold 31 = .ok (.iload 4, 2) := by decide +kernel
theorem dX2_allHold_33 : decode cX2_allHold 33 = .ok (.iaload, 1) := by decide +kernel
theorem dX2_allHold_34 : decode cX2_allHold 34 = .ok (.aload_n 0, 1) := by decide +kernel
theorem dX2_allHold_35 : decode cX2_allHold 35 = .ok (.getfield 15, 3) := by decide +kernel
theorem dX2_allHold_38 : decode cX2_allHold 38 = .ok (.iload 4, 2) := by decide +kernel
theorem dX2_allHold_40 : decode cX2_allHold 40 = .ok (.iaload, 1) := by decide +kernel
theorem dX2_allHold_41 : decode cX2_allHold 41 = .ok (.invokevirtual 61, 3) := by decide +kernel
theorem dX2_allHold_44 : decode cX2_allHold 44 = .ok (.aload_n 0, 1) := by decide +kernel
theorem dX2_allHold_45 : decode cX2_allHold 45 = .ok (.getfield 18, 3) := by decide +kernel
theorem dX2_allHold_48 : decode cX2_allHold 48 = .ok (.iload 4, 2) := by decide +kernel
theorem dX2_allHold_50 : decode cX2_allHold 50 = .ok (.iaload, 1) := by decide +kernel
theorem dX2_allHold_51 : decode cX2_allHold 51 = .ok (.isub, 1) := by decide +kernel
theorem dX2_allHold_52 : decode cX2_allHold 52 = .ok (.invokestatic 65, 3) := by decide +kernel
theorem dX2_allHold_55 : decode cX2_allHold 55 = .ok (.iload_n 1, 1) := by decide +kernel
theorem dX2_allHold_56 : decode cX2_allHold 56 = .ok (.if_icmp .le 5, 3) := by decide +kernel
theorem dX2_allHold_59 : decode cX2_allHold 59 = .ok (.iconst 0, 1) := by decide +kernel
theorem dX2_allHold_60 : decode cX2_allHold 60 = .ok (.ireturn, 1) := by decide +kernel
theorem dX2_allHold_61 : decode cX2_allHold 61 = .ok (.iinc 4 1, 3) := by decide +kernel
theorem dX2_allHold_64 : decode cX2_allHold 64 = .ok (.goto (-61), 3) := by decide +kernel
theorem dX2_allHold_67 : decode cX2_allHold 67 = .ok (.iconst 1, 1) := by decide +kernel
theorem dX2_allHold_68 : decode cX2_allHold 68 = .ok (.ireturn, 1) := by decide +kernel
theorem dX2_keep_0 : decode cX2_keep 0 = .ok (.aload_n 0, 1) := by decide +kernel
theorem dX2_keep_1 : decode cX2_keep 1 = .ok (.getfield 25, 3) := by decide +kernel
theorem dX2_keep_4 : decode cX2_keep 4 = .ok (.ifCond .ne 7, 3) := by decide +kernel
theorem dX2_keep_7 : decode cX2_keep 7 = .ok (.iconst 1, 1) := by decide +kernel
theorem dX2_keep_8 : decode cX2_keep 8 = .ok (.goto 4, 3) := by decide +kernel
theorem dX2_keep_11 : decode cX2_keep 11 = .ok (.iconst 0, 1) := by decide +kernel
theorem dX2_keep_12 : decode cX2_keep 12 = .ok (.istore_n 3, 1) := by decide +kernel
theorem dX2_keep_13 : decode cX2_keep 13 = .ok (.aload_n 0, 1) := by decide +kernel
theorem dX2_keep_14 : decode cX2_keep 14 = .ok (.iload_n 3, 1) := by decide +kernel
theorem dX2_keep_15 : decode cX2_keep 15 = .ok (.ifCond .eq 7, 3) := by decide +kernel
theorem dX2_keep_18 : decode cX2_keep 18 = .ok (.iload_n 1, 1) := by decide +kernel
theorem dX2_keep_19 : decode cX2_keep 19 = .ok (.goto 11, 3) := by decide +kernel
theorem dX2_keep_22 : decode cX2_keep 22 = .ok (.aload_n 0, 1) := by decide +kernel
theorem dX2_keep_23 : decode cX2_keep 23 = .ok (.getfield 71, 3) := by decide +kernel
theorem dX2_keep_26 : decode cX2_keep 26 = .ok (.iload_n 1, 1) := by decide +kernel
theorem dX2_keep_27 : decode cX2_keep 27 = .ok (.invokestatic 74, 3) := by decide +kernel
theorem dX2_keep_30 : decode cX2_keep 30 = .ok (.putfield 71, 3) := by decide +kernel
theorem dX2_keep_33 : decode cX2_keep 33 = .ok (.aload_n 0, 1) := by decide +kernel
theorem dX2_keep_34 : decode cX2_keep 34 = .ok (.iload_n 3, 1) := by decide +kernel
theorem dX2_keep_35 : decode cX2_keep 35 = .ok (.ifCond .eq 7, 3) := by decide +kernel
theorem dX2_keep_38 : decode cX2_keep 38 = .ok (.iload_n 1, 1) := by decide +kernel
theorem dX2_keep_39 : decode cX2_keep 39 = .ok (.goto 11, 3) := by decide +kernel
theorem dX2_keep_42 : decode cX2_keep 42 = .ok (.aload_n 0, 1) := by decide +kernel
theorem dX2_keep_43 : decode cX2_keep 43 = .ok (.getfield 77, 3) := by decide +kernel
theorem dX2_keep_46 : decode cX2_keep 46 = .ok (.iload_n 1, 1) := by decide +kernel
theorem dX2_keep_47 : decode cX2_keep 47 = .ok (.invokestatic 80, 3) := by decide +kernel
theorem dX2_keep_50 : decode cX2_keep 50 = .ok (.putfield 77, 3) := by decide +kernel
theorem dX2_keep_53 : decode cX2_keep 53 = .ok (.aload_n 0, 1) := by decide +kernel
theorem dX2_keep_54 : decode cX2_keep 54 = .ok (.iload_n 3, 1) := by decide +kernel
theorem dX2_keep_55 : decode cX2_keep 55 = .ok (.ifCond .eq 7, 3) := by decide +kernel
theorem dX2_keep_58 : decode cX2_keep 58 = .ok (.iload_n 2, 1) := by decide +kernel
theorem dX2_keep_59 : decode cX2_keep 59 = .ok (.goto 11, 3) := by decide +kernel
theorem dX2_keep_62 : decode cX2_keep 62 = .ok (.aload_n 0, 1) := by decide +kernel
theorem dX2_keep_63 : decode cX2_keep 63 = .ok (.getfield 83, 3) := by decide +kernel
theorem dX2_keep_66 : decode cX2_keep 66 = .ok (.iload_n 2, 1) := by decide +kernel
theorem dX2_keep_67 : decode cX2_keep 67 = .ok (.invokestatic 74, 3) := by decide +kernel
theorem dX2_keep_70 : decode cX2_keep 70 = .ok (.putfield 83, 3) := by decide +kernel
theorem dX2_keep_73 : decode cX2_keep 73 = .ok (.aload_n 0, 1) := by decide +kernel
theorem dX2_keep_74 : decode cX2_keep 74 = .ok (.iload_n 3, 1) := by decide +kernel
theorem dX2_keep_75 : decode cX2_keep 75 = .ok (.ifCond .eq 7, 3) := by decide +kernel
theorem dX2_keep_78 : decode cX2_keep 78 = .ok (.iload_n 2, 1) := by decide +kernel
theorem dX2_keep_79 : decode cX2_keep 79 = .ok (.goto 11, 3) := by decide +kernel
theorem dX2_keep_82 : decode cX2_keep 82 = .ok (.aload_n 0, 1) := by decide +kernel
theorem dX2_keep_83 : decode cX2_keep 83 = .ok (.getfield 86, 3) := by decide +kernel
theorem dX2_keep_86 : decode cX2_keep 86 = .ok (.iload_n 2, 1) := by decide +kernel
theorem dX2_keep_87 : decode cX2_keep 87 = .ok (.invokestatic 80, 3) := by decide +kernel
theorem dX2_keep_90 : decode cX2_keep 90 = .ok (.putfield 86, 3) := by decide +kernel
theorem dX2_keep_93 : decode cX2_keep 93 = .ok (.aload_n 0, 1) := by decide +kernel
theorem dX2_keep_94 : decode cX2_keep 94 = .ok (.dup, 1) := by decide +kernel
theorem dX2_keep_95 : decode cX2_keep 95 = .ok (.getfield 25, 3) := by decide +kernel
theorem dX2_keep_98 : decode cX2_keep 98 = .ok (.iconst 1, 1) := by decide +kernel
theorem dX2_keep_99 : decode cX2_keep 99 = .ok (.iadd, 1) := by decide +kernel
theorem dX2_keep_100 : decode cX2_keep 100 = .ok (.putfield 25, 3) := by decide +kernel
theorem dX2_keep_103 : decode cX2_keep 103 = .ok (.return_, 1) := by decide +kernel
theorem dX2_laws_0 : decode cX2_laws 0 = .ok (.aload_n 0, 1) := by decide +kernel
theorem dX2_laws_1 : decode cX2_laws 1 = .ok (.getfield 25, 3) := by decide +kernel
theorem dX2_laws_4 : decode cX2_laws 4 = .ok (.ireturn, 1) := by decide +kernel
theorem dX2_bound_0 : decode cX2_bound 0 = .ok (.iload_n 1, 1) := by decide +kernel
theorem dX2_bound_1 : decode cX2_bound 1 = .ok (.tableswitch 42 1 3 #[27, 32, 37], 27) := by decide +kernel
theorem dX2_bound_28 : decode cX2_bound 28 = .ok (.aload_n 0, 1) := by decide +kernel
theorem dX2_bound_29 : decode cX2_bound 29 = .ok (.getfield 71, 3) := by decide +kernel
theorem dX2_bound_32 : decode cX2_bound 32 = .ok (.ireturn, 1) := by decide +kernel
theorem dX2_bound_33 : decode cX2_bound 33 = .ok (.aload_n 0, 1) := by decide +kernel
theorem dX2_bound_34 : decode cX2_bound 34 = .ok (.getfield 77, 3) := by decide +kernel
theorem dX2_bound_37 : decode cX2_bound 37 = .ok (.ireturn, 1) := by decide +kernel
theorem dX2_bound_38 : decode cX2_bound 38 = .ok (.aload_n 0, 1) := by decide +kernel
theorem dX2_bound_39 : decode cX2_bound 39 = .ok (.getfield 83, 3) := by decide +kernel
theorem dX2_bound_42 : decode cX2_bound 42 = .ok (.ireturn, 1) := by decide +kernel
theorem dX2_bound_43 : decode cX2_bound 43 = .ok (.aload_n 0, 1) := by decide +kernel
theorem dX2_bound_44 : decode cX2_bound 44 = .ok (.getfield 86, 3) := by decide +kernel
theorem dX2_bound_47 : decode cX2_bound 47 = .ok (.ireturn, 1) := by decide +kernel
theorem dX3_init_0 : decode cX3_init 0 = .ok (.aload_n 0, 1) := by decide +kernel
theorem dX3_init_1 : decode cX3_init 1 = .ok (.invokespecial 3, 3) := by decide +kernel
theorem dX3_init_4 : decode cX3_init 4 = .ok (.aload_n 0, 1) := by decide +kernel
theorem dX3_init_5 : decode cX3_init 5 = .ok (.iconst 5, 1) := by decide +kernel
theorem dX3_init_6 : decode cX3_init 6 = .ok (.newarray .boolean, 2) := by decide +kernel
theorem dX3_init_8 : decode cX3_init 8 = .ok (.putfield 9, 3) := by decide +kernel
theorem dX3_init_11 : decode cX3_init 11 = .ok (.aload_n 0, 1) := by decide +kernel
theorem dX3_init_12 : decode cX3_init 12 = .ok (.iconst 5, 1) := by decide +kernel
theorem dX3_init_13 : decode cX3_init 13 = .ok (.newarray .int, 2) := by decide +kernel
theorem dX3_init_15 : decode cX3_init 15 = .ok (.putfield 15, 3) := by decide +kernel
theorem dX3_init_18 : decode cX3_init 18 = .ok (.aload_n 0, 1) := by decide +kernel
theorem dX3_init_19 : decode cX3_init 19 = .ok (.iconst 5, 1) := by decide +kernel
theorem dX3_init_20 : decode cX3_init 20 = .ok (.newarray .int, 2) := by decide +kernel
theorem dX3_init_22 : decode cX3_init 22 = .ok (.putfield 19, 3) := by decide +kernel
theorem dX3_init_25 : decode cX3_init 25 = .ok (.aload_n 0, 1) := by decide +kernel
theorem dX3_init_26 : decode cX3_init 26 = .ok (.iconst 5, 1) := by decide +kernel
theorem dX3_init_27 : decode cX3_init 27 = .ok (.newarray .int, 2) := by decide +kernel
theorem dX3_init_29 : decode cX3_init 29 = .ok (.putfield 22, 3) := by decide +kernel
theorem dX3_init_32 : decode cX3_init 32 = .ok (.aload_n 0, 1) := by decide +kernel
theorem dX3_init_33 : decode cX3_init 33 = .ok (.iconst 5, 1) := by decide +kernel
theorem dX3_init_34 : decode cX3_init 34 = .ok (.newarray .int, 2) := by decide +kernel
theorem dX3_init_36 : decode cX3_init 36 = .ok (.putfield 25, 3) := by decide +kernel
theorem dX3_init_39 : decode cX3_init 39 = .ok (.aload_n 0, 1) := by decide +kernel
theorem dX3_init_40 : decode cX3_init 40 = .ok (.iconst 5, 1) := by decide +kernel
theorem dX3_init_41 : decode cX3_init 41 = .ok (.newarray .int, 2) := by decide +kernel
theorem dX3_init_43 : decode cX3_init 43 = .ok (.putfield 28, 3) := by decide +kernel
theorem dX3_init_46 : decode cX3_init 46 = .ok (.aload_n 0, 1) := by decide +kernel
theorem dX3_init_47 : decode cX3_init 47 = .ok (.iconst 5, 1) := by decide +kernel
theorem dX3_init_48 : decode cX3_init 48 = .ok (.newarray .int, 2) := by decide +kernel
theorem dX3_init_50 : decode cX3_init 50 = .ok (.putfield 31, 3) := by decide +kernel
theorem dX3_init_53 : decode cX3_init 53 = .ok (.aload_n 0, 1) := by decide +kernel
theorem dX3_init_54 : decode cX3_init 54 = .ok (.iconst 5, 1) := by decide +kernel
theorem dX3_init_55 : decode cX3_init 55 = .ok (.newarray .int, 2) := by decide +kernel
theorem dX3_init_57 : decode cX3_init 57 = .ok (.putfield 34, 3) := by decide +kernel
theorem dX3_init_60 : decode cX3_init 60 = .ok (.aload_n 0, 1) := by decide +kernel
theorem dX3_init_61 : decode cX3_init 61 = .ok (.iconst 5, 1) := by decide +kernel
theorem dX3_init_62 : decode cX3_init 62 = .ok (.iconst 5, 1) := by decide +kernel
theorem dX3_init_63 : decode cX3_init 63 = .ok (.multianewarray 37 2, 4) := by decide +kernel
theorem dX3_init_67 : decode cX3_init 67 = .ok (.putfield 39, 3) := by decide +kernel
theorem dX3_init_70 : decode cX3_init 70 = .ok (.aload_n 0, 1) := by decide +kernel
theorem dX3_init_71 : decode cX3_init 71 = .ok (.ldc 42, 2) := by decide +kernel
theorem dX3_init_73 : decode cX3_init 73 = .ok (.putfield 43, 3) := by decide +kernel
theorem dX3_init_76 : decode cX3_init 76 = .ok (.aload_n 0, 1) := by decide +kernel
theorem dX3_init_77 : decode cX3_init 77 = .ok (.sipush 200, 3) := by decide +kernel
theorem dX3_init_80 : decode cX3_init 80 = .ok (.putfield 47, 3) := by decide +kernel
theorem dX3_init_83 : decode cX3_init 83 = .ok (.aload_n 0, 1) := by decide +kernel
theorem dX3_init_84 : decode cX3_init 84 = .ok (.sipush 320, 3) := by decide +kernel
theorem dX3_init_87 : decode cX3_init 87 = .ok (.putfield 50, 3) := by decide +kernel
theorem dX3_init_90 : decode cX3_init 90 = .ok (.aload_n 0, 1) := by decide +kernel
theorem dX3_init_91 : decode cX3_init 91 = .ok (.bipush 10, 2) := by decide +kernel
theorem dX3_init_93 : decode cX3_init 93 = .ok (.putfield 53, 3) := by decide +kernel
theorem dX3_init_96 : decode cX3_init 96 = .ok (.aload_n 0, 1) := by decide +kernel
theorem dX3_init_97 : decode cX3_init 97 = .ok (.bipush 20, 2) := by decide +kernel
theorem dX3_init_99 : decode cX3_init 99 = .ok (.putfield 56, 3) := by decide +kernel
theorem dX3_init_102 : decode cX3_init 102 = .ok (.aload_n 0, 1) := by decide +kernel
theorem dX3_init_103 : decode cX3_init 103 = .ok (.bipush 20, 2) := by decide +kernel
theorem dX3_init_105 : decode cX3_init 105 = .ok (.putfield 59, 3) := by decide +kernel
theorem dX3_init_108 : decode cX3_init 108 = .ok (.aload_n 0, 1) := by decide +kernel
theorem dX3_init_109 : decode cX3_init 109 = .ok (.bipush 10, 2) := by decide +kernel
theorem dX3_init_111 : decode cX3_init 111 = .ok (.putfield 62, 3) := by decide +kernel
theorem dX3_init_114 : decode cX3_init 114 = .ok (.aload_n 0, 1) := by decide +kernel
theorem dX3_init_115 : decode cX3_init 115 = .ok (.iconst 3, 1) := by decide +kernel
theorem dX3_init_116 : decode cX3_init 116 = .ok (.putfield 65, 3) := by decide +kernel
theorem dX3_init_119 : decode cX3_init 119 = .ok (.aload_n 0, 1) := by decide +kernel
theorem dX3_init_120 : decode cX3_init 120 = .ok (.bipush 40, 2) := by decide +kernel
theorem dX3_init_122 : decode cX3_init 122 = .ok (.putfield 68, 3) := by decide +kernel
theorem dX3_init_125 : decode cX3_init 125 = .ok (.return_, 1) := by decide +kernel
theorem dX3_wordOf_0 : decode cX3_wordOf 0 = .ok (.iload_n 0, 1) := by decide +kernel
theorem dX3_wordOf_1 : decode cX3_wordOf 1 = .ok (.tableswitch 78 0 8 #[51, 54, 57, 60, 63, 66, 69, 72, 75], 51) := by decide +kernel
theorem dX3_wordOf_52 : decode cX3_wordOf 52 = .ok (.ldc 71, 2) := by decide +kernel
theorem dX3_wordOf_54 : decode cX3_wordOf 54 = .ok (.areturn, 1) := by decide +kernel
theorem dX3_wordOf_55 : decode cX3_wordOf 55 = .ok (.ldc 73, 2) := by decide +kernel
theorem dX3_wordOf_57 : decode cX3_wordOf 57 = .ok (.areturn, 1) := by decide +kernel
theorem dX3_wordOf_58 : decode cX3_wordOf 58 = .ok (.ldc 75, 2) := by decide +kernel
theorem dX3_wordOf_60 : decode cX3_wordOf 60 = .ok (.areturn, 1) := by decide +kernel
theorem dX3_wordOf_61 : decode cX3_wordOf 61 = .ok (.ldc 77, 2) := by decide +kernel
theorem dX3_wordOf_63 : decode cX3_wordOf 63 = .ok (.areturn, 1) := by decide +kernel
theorem dX3_wordOf_64 : decode cX3_wordOf 64 = .ok (.ldc 78, 2) := by decide +kernel
theorem dX3_wordOf_66 : decode cX3_wordOf 66 = .ok (.areturn, 1) := by decide +kernel
theorem dX3_wordOf_67 : decode cX3_wordOf 67 = .ok (.ldc 80, 2) := by decide +kernel
theorem dX3_wordOf_69 : decode cX3_wordOf 69 = .ok (.areturn, 1) := by decide +kernel
theorem dX3_wordOf_70 : decode cX3_wordOf 70 = .ok (.ldc 81, 2) := by decide +kernel
theorem dX3_wordOf_72 : decode cX3_wordOf 72 = .ok (.areturn, 1) := by decide +kernel
theorem dX3_wordOf_73 : decode cX3_wordOf 73 = .ok (.ldc 83, 2) := by decide +kernel
theorem dX3_wordOf_75 : decode cX3_wordOf 75 = .ok (.areturn, 1) := by decide +kernel
theorem dX3_wordOf_76 : decode cX3_wordOf 76 = .ok (.ldc 85, 2) := by decide +kernel
theorem dX3_wordOf_78 : decode cX3_wordOf 78 = .ok (.areturn, 1) := by decide +kernel
theorem dX3_wordOf_79 : decode cX3_wordOf 79 = .ok (.ldc 87, 2) := by decide +kernel
theorem dX3_wordOf_81 : decode cX3_wordOf 81 = .ok (.areturn, 1) := by decide +kernel
theorem dX3_tell_0 : decode cX3_tell 0 = .ok (.iload_n 1, 1) := by decide +kernel
theorem dX3_tell_1 : decode cX3_tell 1 = .ok (.tableswitch 257 0 9 #[55, 63, 96, 120, 130, 161, 175, 195, 215, 245], 55) := by decide +kernel
theorem dX3_tell_56 : decode cX3_tell 56 = .ok (.aload_n 0, 1) := by decide +kernel
theorem dX3_tell_57 : decode cX3_tell 57 = .ok (.aload_n 2, 1) := by decide +kernel
theorem dX3_tell_58 : decode cX3_tell 58 = .ok (.invokevirtual 89, 3) := by decide +kernel
theorem dX3_tell_61 : decode cX3_tell 61 = .ok (.goto 197, 3) := by decide +kernel
theorem dX3_tell_64 : decode cX3_tell 64 = .ok (.aload_n 0, 1) := by decide +kernel
theorem dX3_tell_65 : decode cX3_tell 65 = .ok (.getfield 39, 3) := by decide +kernel
theorem dX3_tell_68 : decode cX3_tell 68 = .ok (.aload_n 2, 1) := by decide +kernel
theorem dX3_tell_69 : decode cX3_tell 69 = .ok (.iconst 0, 1) := by decide +kernel
theorem dX3_tell_70 : decode cX3_tell 70 = .ok (.iaload, 1) := by decide +kernel
theorem dX3_tell_71 : decode cX3_tell 71 = .ok (.aaload, 1) := by decide +kernel
theorem dX3_tell_72 : decode cX3_tell 72 = .ok (.aload_n 2, 1) := by decide +kernel
theorem dX3_tell_73 : decode cX3_tell 73 = .ok (.iconst 1, 1) := by decide +kernel
theorem dX3_tell_74 : decode cX3_tell 74 = .ok (.iaload, 1) := by decide +kernel
theorem dX3_tell_75 : decode cX3_tell 75 = .ok (.aload_n 2, 1) := by decide +kernel
theorem dX3_tell_76 : decode cX3_tell 76 = .ok (.iconst 2, 1) := by decide +kernel
theorem dX3_tell_77 : decode cX3_tell 77 = .ok (.iaload, 1) := by decide +kernel
theorem dX3_tell_78 : decode cX3_tell 78 = .ok (.iastore, 1) := by decide +kernel
theorem dX3_tell_79 : decode cX3_tell 79 = .ok (.aload_n 0, 1) := by decide +kernel
theorem dX3_tell_80 : decode cX3_tell 80 = .ok (.getfield 39, 3) := by decide +kernel
theorem dX3_tell_83 : decode cX3_tell 83 = .ok (.aload_n 2, 1) := by decide +kernel
theorem dX3_tell_84 : decode cX3_tell 84 = .ok (.iconst 1, 1) := by decide +kernel
theorem dX3_tell_85 : decode cX3_tell 85 = .ok (.iaload, 1) := by decide +kernel
theorem dX3_tell_86 : decode cX3_tell 86 = .ok (.aaload, 1) := by decide +kernel
theorem dX3_tell_87 : decode cX3_tell 87 = .ok (.aload_n 2, 1) := by decide +kernel
theorem dX3_tell_88 : decode cX3_tell 88 = .ok (.iconst 0, 1) := by decide +kernel
theorem dX3_tell_89 : decode cX3_tell 89 = .ok (.iaload, 1) := by decide +kernel
theorem dX3_tell_90 : decode cX3_tell 90 = .ok (.aload_n 2, 1) := by decide +kernel
theorem dX3_tell_91 : decode cX3_tell 91 = .ok (.iconst 2, 1) := by decide +kernel
theorem dX3_tell_92 : decode cX3_tell 92 = .ok (.iaload, 1) := by decide +kernel
theorem dX3_tell_93 : decode cX3_tell 93 = .ok (.iastore, 1) := by decide +kernel
theorem dX3_tell_94 : decode cX3_tell 94 = .ok (.goto 164, 3) := by decide +kernel
theorem dX3_tell_97 : decode cX3_tell 97 = .ok (.aload_n 0, 1) := by decide +kernel
theorem dX3_tell_98 : decode cX3_tell 98 = .ok (.aload_n 2, 1) := by decide +kernel
theorem dX3_tell_99 : decode cX3_tell 99 = .ok (.iconst 0, 1) := by decide +kernel
theorem dX3_tell_100 : decode cX3_tell 100 = .ok (.iaload, 1) := by decide +kernel
theorem dX3_tell_101 : decode cX3_tell 101 = .ok (.putfield 47, 3) := by decide +kernel
theorem dX3_tell_104 : decode cX3_tell 104 = .ok (.aload_n 0, 1) := by decide +kernel
theorem dX3_tell_105 : decode cX3_tell 105 = .ok (.aload_n 2, 1) := by decide +kernel
theorem dX3_tell_106 : decode cX3_tell 106 = .ok (.iconst 1, 1) := by decide +kernel
theorem dX3_tell_107 : decode cX3_tell 107 = .ok (.iaload, 1) := by decide +kernel
theorem dX3_tell_108 : decode cX3_tell 108 = .ok (.putfield 50, 3) := by decide +kernel
theorem dX3_tell_111 : decode cX3_tell 111 = .ok (.aload_n 0, 1) := by decide +kernel
theorem dX3_tell_112 : decode cX3_tell 112 = .ok (.aload_n 2, 1) := by decide +kernel
theorem dX3_tell_113 : decode cX3_tell 113 = .ok (.iconst 2, 1) := by decide +kernel
theorem dX3_tell_114 : decode cX3_tell 114 = .ok (.iaload, 1) := by decide +kernel
theorem dX3_tell_115 : decode cX3_tell 115 = .ok (.putfield 53, 3) := by decide +kernel
theorem dX3_tell_118 : decode cX3_tell 118 = .ok (.goto 140, 3) := by decide +kernel
theorem dX3_tell_121 : decode cX3_tell 121 = .ok (.aload_n 0, 1) := by decide +kernel
theorem dX3_tell_122 : decode cX3_tell 122 = .ok (.aload_n 2, 1) := by decide +kernel
theorem dX3_tell_123 : decode cX3_tell 123 = .ok (.iconst 0, 1) := by decide +kernel
theorem dX3_tell_124 : decode cX3_tell 124 = .ok (.iaload, 1) := by decide +kernel
theorem dX3_tell_125 : decode cX3_tell 125 = .ok (.putfield 56, 3) := by decide +kernel
theorem dX3_tell_128 : decode cX3_tell 128 = .ok (.goto 130, 3) := by decide +kernel
theorem dX3_tell_131 : decode cX3_tell 131 = .ok (.aload_n 0, 1) := by decide +kernel
theorem dX3_tell_132 : decode cX3_tell 132 = .ok (.aload_n 2, 1) := by decide +kernel
theorem dX3_tell_133 : decode cX3_tell 133 = .ok (.iconst 0, 1) := by decide +kernel
theorem dX3_tell_134 : decode cX3_tell 134 = .ok (.iaload, 1) := by decide +kernel
theorem dX3_tell_135 : decode cX3_tell 135 = .ok (.putfield 59, 3) := by decide +kernel
theorem dX3_tell_138 : decode cX3_tell 138 = .ok (.aload_n 0, 1) := by decide +kernel
theorem dX3_tell_139 : decode cX3_tell 139 = .ok (.aload_n 2, 1) := by decide +kernel
theorem dX3_tell_140 : decode cX3_tell 140 = .ok (.iconst 1, 1) := by decide +kernel
theorem dX3_tell_141 : decode cX3_tell 141 = .ok (.iaload, 1) := by decide +kernel
theorem dX3_tell_142 : decode cX3_tell 142 = .ok (.putfield 62, 3) := by decide +kernel
theorem dX3_tell_145 : decode cX3_tell 145 = .ok (.aload_n 0, 1) := by decide +kernel
theorem dX3_tell_146 : decode cX3_tell 146 = .ok (.aload_n 2, 1) := by decide +kernel
theorem dX3_tell_147 : decode cX3_tell 147 = .ok (.iconst 2, 1) := by decide +kernel
theorem dX3_tell_148 : decode cX3_tell 148 = .ok (.iaload, 1) := by decide +kernel
theorem dX3_tell_149 : decode cX3_tell 149 = .ok (.putfield 65, 3) := by decide +kernel
theorem dX3_tell_152 : decode cX3_tell 152 = .ok (.aload_n 0, 1) := by decide +kernel
theorem dX3_tell_153 : decode cX3_tell 153 = .ok (.aload_n 2, 1) := by decide +kernel
theorem dX3_tell_154 : decode cX3_tell 154 = .ok (.iconst 3, 1) := by decide +kernel
theorem dX3_tell_155 : decode cX3_tell 155 = .ok (.iaload, 1) := by decide +kernel
theorem dX3_tell_156 : decode cX3_tell 156 = .ok (.putfield 68, 3) := by decide +kernel
theorem dX3_tell_159 : decode cX3_tell 159 = .ok (.goto 99, 3) := by decide +kernel
theorem dX3_tell_162 : decode cX3_tell 162 = .ok (.aload_n 0, 1) := by decide +kernel
theorem dX3_tell_163 : decode cX3_tell 163 = .ok (.getfield 28, 3) := by decide +kernel
theorem dX3_tell_166 : decode cX3_tell 166 = .ok (.aload_n 2, 1) := by decide +kernel
theorem dX3_tell_167 : decode cX3_tell 167 = .ok (.iconst 0, 1) := by decide +kernel
theorem dX3_tell_168 : decode cX3_tell 168 = .ok (.iaload, 1) := by decide +kernel
theorem dX3_tell_169 : decode cX3_tell 169 = .ok (.aload_n 2, 1) := by decide +kernel
theorem dX3_tell_170 : decode cX3_tell 170 = .ok (.iconst 1, 1) := by decide +kernel
theorem dX3_tell_171 : decode cX3_tell 171 = .ok (.iaload, 1) := by decide +kernel
theorem dX3_tell_172 : decode cX3_tell 172 = .ok (.iastore, 1) := by decide +kernel
theorem dX3_tell_173 : decode cX3_tell 173 = .ok (.goto 85, 3) := by decide +kernel
theorem dX3_tell_176 : decode cX3_tell 176 = .ok (.aload_n 0, 1) := by decide +kernel
theorem dX3_tell_177 : decode cX3_tell 177 = .ok (.getfield 31, 3) := by decide +kernel
theorem dX3_tell_180 : decode cX3_tell 180 = .ok (.aload_n 2, 1) := by decide +kernel
theorem dX3_tell_181 : decode cX3_tell 181 = .ok (.iconst 0, 1) := by decide +kernel
theorem dX3_tell_182 : decode cX3_tell 182 = .ok (.iaload, 1) := by decide +kernel
theorem dX3_tell_183 : decode cX3_tell 183 = .ok (.aload_n 2, 1) := by decide +kernel
theorem dX3_tell_184 : decode cX3_tell 184 = .ok (.iconst 1, 1) := by decide +kernel
theorem dX3_tell_185 : decode cX3_tell 185 = .ok (.iaload, 1) := by decide +kernel
theorem dX3_tell_186 : decode cX3_tell 186 = .ok (.aload_n 2, 1) := by decide +kernel
theorem dX3_tell_187 : decode cX3_tell 187 = .ok (.iconst 2, 1) := by decide +kernel
theorem dX3_tell_188 : decode cX3_tell 188 = .ok (.iaload, 1) := by decide +kernel
theorem dX3_tell_189 : decode cX3_tell 189 = .ok (.invokestatic 93, 3) := by decide +kernel
theorem dX3_tell_192 : decode cX3_tell 192 = .ok (.iastore, 1) := by decide +kernel
theorem dX3_tell_193 : decode cX3_tell 193 = .ok (.goto 65, 3) := by decide +kernel
theorem dX3_tell_196 : decode cX3_tell 196 = .ok (.aload_n 0, 1) := by decide +kernel
theorem dX3_tell_197 : decode cX3_tell 197 = .ok (.getfield 34, 3) := by decide +kernel
theorem dX3_tell_200 : decode cX3_tell 200 = .ok (.aload_n 2, 1) := by decide +kernel
theorem dX3_tell_201 : decode cX3_tell 201 = .ok (.iconst 0, 1) := by decide +kernel
theorem dX3_tell_202 : decode cX3_tell 202 = .ok (.iaload, 1) := by decide +kernel
theorem dX3_tell_203 : decode cX3_tell 203 = .ok (.aload_n 2, 1) := by decide +kernel
theorem dX3_tell_204 : decode cX3_tell 204 = .ok (.iconst 1, 1) := by decide +kernel
theorem dX3_tell_205 : decode cX3_tell 205 = .ok (.iaload, 1) := by decide +kernel
theorem dX3_tell_206 : decode cX3_tell 206 = .ok (.aload_n 2, 1) := by decide +kernel
theorem dX3_tell_207 : decode cX3_tell 207 = .ok (.iconst 2, 1) := by decide +kernel
theorem dX3_tell_208 : decode cX3_tell 208 = .ok (.iaload, 1) := by decide +kernel
theorem dX3_tell_209 : decode cX3_tell 209 = .ok (.invokestatic 93, 3) := by decide +kernel
theorem dX3_tell_212 : decode cX3_tell 212 = .ok (.iastore, 1) := by decide +kernel
theorem dX3_tell_213 : decode cX3_tell 213 = .ok (.goto 45, 3) := by decide +kernel
theorem dX3_tell_216 : decode cX3_tell 216 = .ok (.aload_n 0, 1) := by decide +kernel
theorem dX3_tell_217 : decode cX3_tell 217 = .ok (.aload_n 2, 1) := by decide +kernel
theorem dX3_tell_218 : decode cX3_tell 218 = .ok (.iconst 0, 1) := by decide +kernel
theorem dX3_tell_219 : decode cX3_tell 219 = .ok (.iaload, 1) := by decide +kernel
theorem dX3_tell_220 : decode cX3_tell 220 = .ok (.aload_n 2, 1) := by decide +kernel
theorem dX3_tell_221 : decode cX3_tell 221 = .ok (.iconst 1, 1) := by decide +kernel
theorem dX3_tell_222 : decode cX3_tell 222 = .ok (.iaload, 1) := by decide +kernel
theorem dX3_tell_223 : decode cX3_tell 223 = .ok (.if_icmp .ne 8, 3) := by decide +kernel
theorem dX3_tell_226 : decode cX3_tell 226 = .ok (.ldc 42, 2) := by decide +kernel
theorem dX3_tell_228 : decode cX3_tell 228 = .ok (.goto 12, 3) := by decide +kernel
theorem dX3_tell_231 : decode cX3_tell 231 = .ok (.aload_n 2, 1) := by decide +kernel
theorem dX3_tell_232 : decode cX3_tell 232 = .ok (.iconst 0, 1) := by decide +kernel
theorem dX3_tell_233 : decode cX3_tell 233 = .ok (.iaload, 1) := by decide +kernel
theorem dX3_tell_234 : decode cX3_tell 234 = .ok (.aload_n 2, 1) := by decide +kernel
theorem dX3_tell_235 : decode cX3_tell 235 = .ok (.iconst 1, 1) := by decide +kernel
theorem dX3_tell_236 : decode cX3_tell 236 = .ok (.iaload, 1) := by decide +kernel
theorem dX3_tell_237 : decode cX3_tell 237 = .ok (.invokestatic 93, 3) := by decide +kernel
theorem dX3_tell_240 : decode cX3_tell 240 = .ok (.putfield 43, 3) := by decide +kernel
theorem dX3_tell_243 : decode cX3_tell 243 = .ok (.goto 15, 3) := by decide +kernel
theorem dX3_tell_246 : decode cX3_tell 246 = .ok (.aload_n 0, 1) := by decide +kernel
theorem dX3_tell_247 : decode cX3_tell 247 = .ok (.getfield 9, 3) := by decide +kernel
theorem dX3_tell_250 : decode cX3_tell 250 = .ok (.aload_n 2, 1) := by decide +kernel
theorem dX3_tell_251 : decode cX3_tell 251 = .ok (.iconst 0, 1) := by decide +kernel
theorem dX3_tell_252 : decode cX3_tell 252 = .ok (.iaload, 1) := by decide +kernel
theorem dX3_tell_253 : decode cX3_tell 253 = .ok (.iconst 0, 1) := by decide +kernel
theorem dX3_tell_254 : decode cX3_tell 254 = .ok (.bastore, 1) := by decide +kernel
theorem dX3_tell_255 : decode cX3_tell 255 = .ok (.goto 3, 3) := by decide +kernel
theorem dX3_tell_258 : decode cX3_tell 258 = .ok (.return_, 1) := by decide +kernel
theorem dX3_tellRoom_0 : decode cX3_tellRoom 0 = .ok (.aload_n 1, 1) := by decide +kernel
theorem dX3_tellRoom_1 : decode cX3_tellRoom 1 = .ok (.iconst 0, 1) := by decide +kernel
theorem dX3_tellRoom_2 : decode cX3_tellRoom 2 = .ok (.iaload, 1) := by decide +kernel
theorem dX3_tellRoom_3 : decode cX3_tellRoom 3 = .ok (.istore_n 2, 1) := by decide +kernel
theorem dX3_tellRoom_4 : decode cX3_tellRoom 4 = .ok (.aload_n 0, 1) := by decide +kernel
theorem dX3_tellRoom_5 : decode cX3_tellRoom 5 = .ok (.getfield 9, 3) := by decide +kernel
theorem dX3_tellRoom_8 : decode cX3_tellRoom 8 = .ok (.iload_n 2, 1) := by decide +kernel
theorem dX3_tellRoom_9 : decode cX3_tellRoom 9 = .ok (.iconst 1, 1) := by decide +kernel
theorem dX3_tellRoom_10 : decode cX3_tellRoom 10 = .ok (.bastore, 1) := by decide +kernel
theorem dX3_tellRoom_11 : decode cX3_tellRoom 11 = .ok (.aload_n 0, 1) := by decide +kernel
theorem dX3_tellRoom_12 : decode cX3_tellRoom 12 = .ok (.getfield 15, 3) := by decide +kernel
theorem dX3_tellRoom_15 : decode cX3_tellRoom 15 = .ok (.iload_n 2, 1) := by decide +kernel
theorem dX3_tellRoom_16 : decode cX3_tellRoom 16 = .ok (.aload_n 1, 1) := by decide +kernel
theorem dX3_tellRoom_17 : decode cX3_tellRoom 17 = .ok (.iconst 1, 1) := by decide +kernel
theorem dX3_tellRoom_18 : decode cX3_tellRoom 18 = .ok (.iaload, 1) := by decide +kernel
theorem dX3_tellRoom_19 : decode cX3_tellRoom 19 = .ok (.iastore, 1) := by decide +kernel
theorem dX3_tellRoom_20 : decode cX3_tellRoom 20 = .ok (.aload_n 0, 1) := by decide +kernel
theorem dX3_tellRoom_21 : decode cX3_tellRoom 21 = .ok (.getfield 19, 3) := by decide +kernel
theorem dX3_tellRoom_24 : decode cX3_tellRoom 24 = .ok (.iload_n 2, 1) := by decide +kernel
theorem dX3_tellRoom_25 : decode cX3_tellRoom 25 = .ok (.aload_n 1, 1) := by decide +kernel
theorem dX3_tellRoom_26 : decode cX3_tellRoom 26 = .ok (.iconst 2, 1) := by decide +kernel
theorem dX3_tellRoom_27 : decode cX3_tellRoom 27 = .ok (.iaload, 1) := by decide +kernel
theorem dX3_tellRoom_28 : decode cX3_tellRoom 28 = .ok (.iastore, 1) := by decide +kernel
theorem dX3_tellRoom_29 : decode cX3_tellRoom 29 = .ok (.aload_n 0, 1) := by decide +kernel
theorem dX3_tellRoom_30 : decode cX3_tellRoom 30 = .ok (.getfield 22, 3) := by decide +kernel
theorem dX3_tellRoom_33 : decode cX3_tellRoom 33 = .ok (.iload_n 2, 1) := by decide +kernel
theorem dX3_tellRoom_34 : decode cX3_tellRoom 34 = .ok (.aload_n 1, 1) := by decide +kernel
theorem dX3_tellRoom_35 : decode cX3_tellRoom 35 = .ok (.iconst 3, 1) := by decide +kernel
theorem dX3_tellRoom_36 : decode cX3_tellRoom 36 = .ok (.iaload, 1) := by decide +kernel
theorem dX3_tellRoom_37 : decode cX3_tellRoom 37 = .ok (.iastore, 1) := by decide +kernel
theorem dX3_tellRoom_38 : decode cX3_tellRoom 38 = .ok (.aload_n 0, 1) := by decide +kernel
theorem dX3_tellRoom_39 : decode cX3_tellRoom 39 = .ok (.getfield 25, 3) := by decide +kernel
theorem dX3_tellRoom_42 : decode cX3_tellRoom 42 = .ok (.iload_n 2, 1) := by decide +kernel
theorem dX3_tellRoom_43 : decode cX3_tellRoom 43 = .ok (.aload_n 1, 1) := by decide +kernel
theorem dX3_tellRoom_44 : decode cX3_tellRoom 44 = .ok (.iconst 4, 1) := by decide +kernel
theorem dX3_tellRoom_45 : decode cX3_tellRoom 45 = .ok (.iaload, 1) := by decide +kernel
theorem dX3_tellRoom_46 : decode cX3_tellRoom 46 = .ok (.iastore, 1) := by decide +kernel
theorem dX3_tellRoom_47 : decode cX3_tellRoom 47 = .ok (.return_, 1) := by decide +kernel
theorem dX3_isTold_0 : decode cX3_isTold 0 = .ok (.iload_n 1, 1) := by decide +kernel
theorem dX3_isTold_1 : decode cX3_isTold 1 = .ok (.ifCond .lt 21, 3) := by decide +kernel
theorem dX3_isTold_4 : decode cX3_isTold 4 = .ok (.iload_n 1, 1) := by decide +kernel
theorem dX3_isTold_5 : decode cX3_isTold 5 = .ok (.iconst 5, 1) := by decide +kernel
theorem dX3_isTold_6 : decode cX3_isTold 6 = .ok (.if_icmp .ge 16, 3) := by decide +kernel
theorem dX3_isTold_9 : decode cX3_isTold 9 = .ok (.aload_n 0, 1) := by decide +kernel
theorem dX3_isTold_10 : decode cX3_isTold 10 = .ok (.getfield 9, 3) := by decide +kernel
theorem dX3_isTold_13 : decode cX3_isTold 13 = .ok (.iload_n 1, 1) := by decide +kernel
theorem dX3_isTold_14 : decode cX3_isTold 14 = .ok (.baload, 1) := by decide +kernel
theorem dX3_isTold_15 : decode cX3_isTold 15 = .ok (.ifCond .eq 7, 3) := by decide +kernel
theorem dX3_isTold_18 : decode cX3_isTold 18 = .ok (.iconst 1, 1) := by decide +kernel
theorem dX3_isTold_19 : decode cX3_isTold 19 = .ok (.goto 4, 3) := by decide +kernel
theorem dX3_isTold_22 : decode cX3_isTold 22 = .ok (.iconst 0, 1) := by decide +kernel
theorem dX3_isTold_23 : decode cX3_isTold 23 = .ok (.ireturn, 1) := by decide +kernel
theorem dX3_toldRooms_0 : decode cX3_toldRooms 0 = .ok (.iconst 0, 1) := by decide +kernel
theorem dX3_toldRooms_1 : decode cX3_toldRooms 1 = .ok (.istore_n 1, 1) := by decide +kernel
theorem dX3_toldRooms_2 : decode cX3_toldRooms 2 = .ok (.iconst 0, 1) := by decide +kernel
theorem dX3_toldRooms_3 : decode cX3_toldRooms 3 = .ok (.istore_n 2, 1) := by decide +kernel
theorem dX3_toldRooms_4 : decode cX3_toldRooms 4 = .ok (.iload_n 2, 1) := by decide +kernel
theorem dX3_toldRooms_5 : decode cX3_toldRooms 5 = .ok (.iconst 5, 1) := by decide +kernel
theorem dX3_toldRooms_6 : decode cX3_toldRooms 6 = .ok (.if_icmp .ge 21, 3) := by decide +kernel
theorem dX3_toldRooms_9 : decode cX3_toldRooms 9 = .ok (.aload_n 0, 1) := by decide +kernel
theorem dX3_toldRooms_10 : decode cX3_toldRooms 10 = .ok (.getfield 9, 3) := by decide +kernel
theorem dX3_toldRooms_13 : decode cX3_toldRooms 13 = .ok (.iload_n 2, 1) := by decide +kernel
theorem dX3_toldRooms_14 : decode cX3_toldRooms 14 = .ok (.baload, 1) := by decide +kernel
theorem dX3_toldRooms_15 : decode cX3_toldRooms 15 = .ok (.ifCond .eq 6, 3) := by decide +kernel
theorem dX3_toldRooms_18 : decode cX3_toldRooms 18 = .ok (.iinc 1 1, 3) := by decide +kernel
theorem dX3_toldRooms_21 : decode cX3_toldRooms 21 = .ok (.iinc 2 1, 3) := by decide +kernel
theorem dX3_toldRooms_24 : decode cX3_toldRooms 24 = .ok (.goto (-20), 3) := by decide +kernel
theorem dX3_toldRooms_27 : decode cX3_toldRooms 27 = .ok (.iload_n 1, 1) := by decide +kernel
theorem dX3_toldRooms_28 : decode cX3_toldRooms 28 = .ok (.ireturn, 1) := by decide +kernel
theorem dX3_firstAir_0 : decode cX3_firstAir 0 = .ok (.aload_n 0, 1) := by decide +kernel
theorem dX3_firstAir_1 : decode cX3_firstAir 1 = .ok (.getfield 15, 3) := by decide +kernel
theorem dX3_firstAir_4 : decode cX3_firstAir 4 = .ok (.iload_n 1, 1) := by decide +kernel
theorem dX3_firstAir_5 : decode cX3_firstAir 5 = .ok (.iaload, 1) := by decide +kernel
theorem dX3_firstAir_6 : decode cX3_firstAir 6 = .ok (.ireturn, 1) := by decide +kernel
theorem dX3_firstWall_0 : decode cX3_firstWall 0 = .ok (.aload_n 0, 1) := by decide +kernel
theorem dX3_firstWall_1 : decode cX3_firstWall 1 = .ok (.getfield 19, 3) := by decide +kernel
theorem dX3_firstWall_4 : decode cX3_firstWall 4 = .ok (.iload_n 1, 1) := by decide +kernel
theorem dX3_firstWall_5 : decode cX3_firstWall 5 = .ok (.iaload, 1) := by decide +kernel
theorem dX3_firstWall_6 : decode cX3_firstWall 6 = .ok (.ireturn, 1) := by decide +kernel
theorem dX3_side_0 : decode cX3_side 0 = .ok (.aload_n 0, 1) := by decide +kernel
theorem dX3_side_1 : decode cX3_side 1 = .ok (.getfield 22, 3) := by decide +kernel
theorem dX3_side_4 : decode cX3_side 4 = .ok (.iload_n 1, 1) := by decide +kernel
theorem dX3_side_5 : decode cX3_side 5 = .ok (.iaload, 1) := by decide +kernel
theorem dX3_side_6 : decode cX3_side 6 = .ok (.ireturn, 1) := by decide +kernel
theorem dX3_folk_0 : decode cX3_folk 0 = .ok (.aload_n 0, 1) := by decide +kernel
theorem dX3_folk_1 : decode cX3_folk 1 = .ok (.getfield 25, 3) := by decide +kernel
theorem dX3_folk_4 : decode cX3_folk 4 = .ok (.iload_n 1, 1) := by decide +kernel
theorem dX3_folk_5 : decode cX3_folk 5 = .ok (.iaload, 1) := by decide +kernel
theorem dX3_folk_6 : decode cX3_folk 6 = .ok (.ireturn, 1) := by decide +kernel
theorem dX3_habit_0 : decode cX3_habit 0 = .ok (.aload_n 0, 1) := by decide +kernel
theorem dX3_habit_1 : decode cX3_habit 1 = .ok (.getfield 28, 3) := by decide +kernel
theorem dX3_habit_4 : decode cX3_habit 4 = .ok (.iload_n 1, 1) := by decide +kernel
theorem dX3_habit_5 : decode cX3_habit 5 = .ok (.iaload, 1) := by decide +kernel
theorem dX3_habit_6 : decode cX3_habit 6 = .ok (.ireturn, 1) := by decide +kernel
theorem dX3_openHours_0 : decode cX3_openHours 0 = .ok (.aload_n 0, 1) := by decide +kernel
theorem dX3_openHours_1 : decode cX3_openHours 1 = .ok (.getfield 31, 3) := by decide +kernel
theorem dX3_openHours_4 : decode cX3_openHours 4 = .ok (.iload_n 1, 1) := by decide +kernel
theorem dX3_openHours_5 : decode cX3_openHours 5 = .ok (.iaload, 1) := by decide +kernel
theorem dX3_openHours_6 : decode cX3_openHours 6 = .ok (.ireturn, 1) := by decide +kernel
theorem dX3_shutHours_0 : decode cX3_shutHours 0 = .ok (.aload_n 0, 1) := by decide +kernel
theorem dX3_shutHours_1 : decode cX3_shutHours 1 = .ok (.getfield 34, 3) := by decide +kernel
theorem dX3_shutHours_4 : decode cX3_shutHours 4 = .ok (.iload_n 1, 1) := by decide +kernel
theorem dX3_shutHours_5 : decode cX3_shutHours 5 = .ok (.iaload, 1) := by decide +kernel
theorem dX3_shutHours_6 : decode cX3_shutHours 6 = .ok (.ireturn, 1) := by decide +kernel
theorem dX3_passes_0 : decode cX3_passes 0 = .ok (.aload_n 0, 1) := by decide +kernel
theorem dX3_passes_1 : decode cX3_passes 1 = .ok (.getfield 39, 3) := by decide +kernel
theorem dX3_passes_4 : decode cX3_passes 4 = .ok (.iload_n 1, 1) := by decide +kernel
theorem dX3_passes_5 : decode cX3_passes 5 = .ok (.aaload, 1) := by decide +kernel
theorem dX3_passes_6 : decode cX3_passes 6 = .ok (.iload_n 2, 1) := by decide +kernel
theorem dX3_passes_7 : decode cX3_passes 7 = .ok (.iaload, 1) := by decide +kernel
theorem dX3_passes_8 : decode cX3_passes 8 = .ok (.ireturn, 1) := by decide +kernel
theorem dX3_homeHours_0 : decode cX3_homeHours 0 = .ok (.aload_n 0, 1) := by decide +kernel
theorem dX3_homeHours_1 : decode cX3_homeHours 1 = .ok (.getfield 43, 3) := by decide +kernel
theorem dX3_homeHours_4 : decode cX3_homeHours 4 = .ok (.ireturn, 1) := by decide +kernel
theorem dX3_takes_0 : decode cX3_takes 0 = .ok (.aload_n 0, 1) := by decide +kernel
theorem dX3_takes_1 : decode cX3_takes 1 = .ok (.getfield 59, 3) := by decide +kernel
theorem dX3_takes_4 : decode cX3_takes 4 = .ok (.ireturn, 1) := by decide +kernel
theorem dX3_gives_0 : decode cX3_gives 0 = .ok (.aload_n 0, 1) := by decide +kernel
theorem dX3_gives_1 : decode cX3_gives 1 = .ok (.getfield 62, 3) := by decide +kernel
theorem dX3_gives_4 : decode cX3_gives 4 = .ok (.ireturn, 1) := by decide +kernel
theorem dX3_leaks_0 : decode cX3_leaks 0 = .ok (.aload_n 0, 1) := by decide +kernel
theorem dX3_leaks_1 : decode cX3_leaks 1 = .ok (.getfield 65, 3) := by decide +kernel
theorem dX3_leaks_4 : decode cX3_leaks 4 = .ok (.ireturn, 1) := by decide +kernel
theorem dX3_window_0 : decode cX3_window 0 = .ok (.aload_n 0, 1) := by decide +kernel
theorem dX3_window_1 : decode cX3_window 1 = .ok (.getfield 68, 3) := by decide +kernel
theorem dX3_window_4 : decode cX3_window 4 = .ok (.ireturn, 1) := by decide +kernel
theorem dX3_skyAt_0 : decode cX3_skyAt 0 = .ok (.iload_n 1, 1) := by decide +kernel
theorem dX3_skyAt_1 : decode cX3_skyAt 1 = .ok (.bipush 24, 2) := by decide +kernel
theorem dX3_skyAt_3 : decode cX3_skyAt 3 = .ok (.idiv, 1) := by decide +kernel
theorem dX3_skyAt_4 : decode cX3_skyAt 4 = .ok (.istore_n 2, 1) := by decide +kernel
theorem dX3_skyAt_5 : decode cX3_skyAt 5 = .ok (.iload_n 1, 1) := by decide +kernel
theorem dX3_skyAt_6 : decode cX3_skyAt 6 = .ok (.bipush 24, 2) := by decide +kernel
theorem dX3_skyAt_8 : decode cX3_skyAt 8 = .ok (.irem, 1) := by decide +kernel
theorem dX3_skyAt_9 : decode cX3_skyAt 9 = .ok (.istore_n 3, 1) := by decide +kernel
theorem dX3_skyAt_10 : decode cX3_skyAt 10 = .ok (.iload_n 3, 1) := by decide +kernel
theorem dX3_skyAt_11 : decode cX3_skyAt 11 = .ok (.iconst 5, 1) := by decide +kernel
theorem dX3_skyAt_12 : decode cX3_skyAt 12 = .ok (.if_icmp .ge 9, 3) := by decide +kernel
theorem dX3_skyAt_15 : decode cX3_skyAt 15 = .ok (.iinc 2 (-1), 3) := by decide +kernel
theorem dX3_skyAt_18 : decode cX3_skyAt 18 = .ok (.iinc 3 24, 3) := by decide +kernel
theorem dX3_skyAt_21 : decode cX3_skyAt 21 = .ok (.aload_n 0, 1) := by decide +kernel
theorem dX3_skyAt_22 : decode cX3_skyAt 22 = .ok (.getfield 50, 3) := by decide +kernel
theorem dX3_skyAt_25 : decode cX3_skyAt 25 = .ok (.aload_n 0, 1) := by decide +kernel
theorem dX3_skyAt_26 : decode cX3_skyAt 26 = .ok (.getfield 47, 3) := by decide +kernel
theorem dX3_skyAt_29 : decode cX3_skyAt 29 = .ok (.isub, 1) := by decide +kernel
theorem dX3_skyAt_30 : decode cX3_skyAt 30 = .ok (.istore 4, 2) := by decide +kernel
theorem dX3_skyAt_32 : decode cX3_skyAt 32 = .ok (.iload_n 3, 1) := by decide +kernel
theorem dX3_skyAt_33 : decode cX3_skyAt 33 = .ok (.bipush 15, 2) := by decide +kernel
theorem dX3_skyAt_35 : decode cX3_skyAt 35 = .ok (.if_icmp .gt 25, 3) := by decide +kernel
theorem dX3_skyAt_38 : decode cX3_skyAt 38 = .ok (.aload_n 0, 1) := by decide +kernel
theorem dX3_skyAt_39 : decode cX3_skyAt 39 = .ok (.getfield 47, 3) := by decide +kernel
theorem dX3_skyAt_42 : decode cX3_skyAt 42 = .ok (.iload_n 2, 1) := by decide +kernel
theorem dX3_skyAt_43 : decode cX3_skyAt 43 = .ok (.aload_n 0, 1) := by decide +kernel
theorem dX3_skyAt_44 : decode cX3_skyAt 44 = .ok (.getfield 53, 3) := by decide +kernel
theorem dX3_skyAt_47 : decode cX3_skyAt 47 = .ok (.imul, 1) := by decide +kernel
theorem dX3_skyAt_48 : decode cX3_skyAt 48 = .ok (.iadd, 1) := by decide +kernel
theorem dX3_skyAt_49 : decode cX3_skyAt 49 = .ok (.iload 4, 2) := by decide +kernel
theorem dX3_skyAt_51 : decode cX3_skyAt 51 = .ok (.iload_n 3, 1) := by decide +kernel
theorem dX3_skyAt_52 : decode cX3_skyAt 52 = .ok (.iconst 5, 1) := by decide +kernel
theorem dX3_skyAt_53 : decode cX3_skyAt 53 = .ok (.isub, 1) := by decide +kernel
theorem dX3_skyAt_54 : decode cX3_skyAt 54 = .ok (.imul, 1) := by decide +kernel
theorem dX3_skyAt_55 : decode cX3_skyAt 55 = .ok (.bipush 10, 2) := by decide +kernel
theorem dX3_skyAt_57 : decode cX3_skyAt 57 = .ok (.idiv, 1) := by decide +kernel
theorem dX3_skyAt_58 : decode cX3_skyAt 58 = .ok (.iadd, 1) := by decide +kernel
theorem dX3_skyAt_59 : decode cX3_skyAt 59 = .ok (.ireturn, 1) := by decide +kernel
theorem dX3_skyAt_60 : decode cX3_skyAt 60 = .ok (.aload_n 0, 1) := by decide +kernel
theorem dX3_skyAt_61 : decode cX3_skyAt 61 = .ok (.getfield 50, 3) := by decide +kernel
theorem dX3_skyAt_64 : decode cX3_skyAt 64 = .ok (.iload_n 2, 1) := by decide +kernel
theorem dX3_skyAt_65 : decode cX3_skyAt 65 = .ok (.aload_n 0, 1) := by decide +kernel
theorem dX3_skyAt_66 : decode cX3_skyAt 66 = .ok (.getfield 53, 3) := by decide +kernel
theorem dX3_skyAt_69 : decode cX3_skyAt 69 = .ok (.imul, 1) := by decide +kernel
theorem dX3_skyAt_70 : decode cX3_skyAt 70 = .ok (.iadd, 1) := by decide +kernel
theorem dX3_skyAt_71 : decode cX3_skyAt 71 = .ok (.iload 4, 2) := by decide +kernel
theorem dX3_skyAt_73 : decode cX3_skyAt 73 = .ok (.iload_n 3, 1) := by decide +kernel
theorem dX3_skyAt_74 : decode cX3_skyAt 74 = .ok (.bipush 15, 2) := by decide +kernel
theorem dX3_skyAt_76 : decode cX3_skyAt 76 = .ok (.isub, 1) := by decide +kernel
theorem dX3_skyAt_77 : decode cX3_skyAt 77 = .ok (.imul, 1) := by decide +kernel
theorem dX3_skyAt_78 : decode cX3_skyAt 78 = .ok (.bipush 14, 2) := by decide +kernel
theorem dX3_skyAt_80 : decode cX3_skyAt 80 = .ok (.idiv, 1) := by decide +kernel
theorem dX3_skyAt_81 : decode cX3_skyAt 81 = .ok (.isub, 1) := by decide +kernel
theorem dX3_skyAt_82 : decode cX3_skyAt 82 = .ok (.ireturn, 1) := by decide +kernel
theorem dX3_sunIn_0 : decode cX3_sunIn 0 = .ok (.aload_n 0, 1) := by decide +kernel
theorem dX3_sunIn_1 : decode cX3_sunIn 1 = .ok (.getfield 22, 3) := by decide +kernel
theorem dX3_sunIn_4 : decode cX3_sunIn 4 = .ok (.iload_n 1, 1) := by decide +kernel
theorem dX3_sunIn_5 : decode cX3_sunIn 5 = .ok (.iaload, 1) := by decide +kernel
theorem dX3_sunIn_6 : decode cX3_sunIn 6 = .ok (.iload_n 2, 1) := by decide +kernel
theorem dX3_sunIn_7 : decode cX3_sunIn 7 = .ok (.invokestatic 97, 3) := by decide +kernel
theorem dX3_sunIn_10 : decode cX3_sunIn 10 = .ok (.ifCond .ne 5, 3) := by decide +kernel
theorem dX3_sunIn_13 : decode cX3_sunIn 13 = .ok (.iconst 0, 1) := by decide +kernel
theorem dX3_sunIn_14 : decode cX3_sunIn 14 = .ok (.ireturn, 1) := by decide +kernel
theorem dX3_sunIn_15 : decode cX3_sunIn 15 = .ok (.aload_n 0, 1) := by decide +kernel
theorem dX3_sunIn_16 : decode cX3_sunIn 16 = .ok (.getfield 34, 3) := by decide +kernel
theorem dX3_sunIn_19 : decode cX3_sunIn 19 = .ok (.iload_n 1, 1) := by decide +kernel
theorem dX3_sunIn_20 : decode cX3_sunIn 20 = .ok (.iaload, 1) := by decide +kernel
theorem dX3_sunIn_21 : decode cX3_sunIn 21 = .ok (.iload_n 2, 1) := by decide +kernel
theorem dX3_sunIn_22 : decode cX3_sunIn 22 = .ok (.invokestatic 101, 3) := by decide +kernel
theorem dX3_sunIn_25 : decode cX3_sunIn 25 = .ok (.ifCond .eq 12, 3) := by decide +kernel
theorem dX3_sunIn_28 : decode cX3_sunIn 28 = .ok (.aload_n 0, 1) := by decide +kernel
theorem dX3_sunIn_29 : decode cX3_sunIn 29 = .ok (.getfield 56, 3) := by decide +kernel
theorem dX3_sunIn_32 : decode cX3_sunIn 32 = .ok (.iconst 4, 1) := by decide +kernel
theorem dX3_sunIn_33 : decode cX3_sunIn 33 = .ok (.idiv, 1) := by decide +kernel
theorem dX3_sunIn_34 : decode cX3_sunIn 34 = .ok (.goto 7, 3) := by decide +kernel
theorem dX3_sunIn_37 : decode cX3_sunIn 37 = .ok (.aload_n 0, 1) := by decide +kernel
theorem dX3_sunIn_38 : decode cX3_sunIn 38 = .ok (.getfield 56, 3) := by decide +kernel
theorem dX3_sunIn_41 : decode cX3_sunIn 41 = .ok (.ireturn, 1) := by decide +kernel
theorem dX3_shinesOn_0 : decode cX3_shinesOn 0 = .ok (.iload_n 0, 1) := by decide +kernel
theorem dX3_shinesOn_1 : decode cX3_shinesOn 1 = .ok (.tableswitch 54 1 3 #[27, 36, 45], 27) := by decide +kernel
theorem dX3_shinesOn_28 : decode cX3_shinesOn 28 = .ok (.iload_n 1, 1) := by decide +kernel
theorem dX3_shinesOn_29 : decode cX3_shinesOn 29 = .ok (.bipush 6, 2) := by decide +kernel
theorem dX3_shinesOn_31 : decode cX3_shinesOn 31 = .ok (.bipush 10, 2) := by decide +kernel
theorem dX3_shinesOn_33 : decode cX3_shinesOn 33 = .ok (.invokestatic 104, 3) := by decide +kernel
theorem dX3_shinesOn_36 : decode cX3_shinesOn 36 = .ok (.ireturn, 1) := by decide +kernel
theorem dX3_shinesOn_37 : decode cX3_shinesOn 37 = .ok (.iload_n 1, 1) := by decide +kernel
theorem dX3_shinesOn_38 : decode cX3_shinesOn 38 = .ok (.bipush 10, 2) := by decide +kernel
theorem dX3_shinesOn_40 : decode cX3_shinesOn 40 = .ok (.bipush 15, 2) := by decide +kernel
theorem dX3_shinesOn_42 : decode cX3_shinesOn 42 = .ok (.invokestatic 104, 3) := by decide +kernel
theorem dX3_shinesOn_45 : decode cX3_shinesOn 45 = .ok (.ireturn, 1) := by decide +kernel
theorem dX3_shinesOn_46 : decode cX3_shinesOn 46 = .ok (.iload_n 1, 1) := by decide +kernel
theorem dX3_shinesOn_47 : decode cX3_shinesOn 47 = .ok (.bipush 15, 2) := by decide +kernel
theorem dX3_shinesOn_49 : decode cX3_shinesOn 49 = .ok (.bipush 19, 2) := by decide +kernel
theorem dX3_shinesOn_51 : decode cX3_shinesOn 51 = .ok (.invokestatic 104, 3) := by decide +kernel
theorem dX3_shinesOn_54 : decode cX3_shinesOn 54 = .ok (.ireturn, 1) := by decide +kernel
theorem dX3_shinesOn_55 : decode cX3_shinesOn 55 = .ok (.iconst 0, 1) := by decide +kernel
theorem dX3_shinesOn_56 : decode cX3_shinesOn 56 = .ok (.ireturn, 1) := by decide +kernel
theorem dX4_init_0 : decode cX4_init 0 = .ok (.aload_n 0, 1) := by decide +kernel
theorem dX4_init_1 : decode cX4_init 1 = .ok (.invokespecial 3, 3) := by decide +kernel
theorem dX4_init_4 : decode cX4_init 4 = .ok (.aload_n 0, 1) := by decide +kernel
theorem dX4_init_5 : decode cX4_init 5 = .ok (.iconst 5, 1) := by decide +kernel
theorem dX4_init_6 : decode cX4_init 6 = .ok (.newarray .int, 2) := by decide +kernel
theorem dX4_init_8 : decode cX4_init 8 = .ok (.putfield 9, 3) := by decide +kernel
theorem dX4_init_11 : decode cX4_init 11 = .ok (.aload_n 0, 1) := by decide +kernel
theorem dX4_init_12 : decode cX4_init 12 = .ok (.iconst 5, 1) := by decide +kernel
theorem dX4_init_13 : decode cX4_init 13 = .ok (.newarray .int, 2) := by decide +kernel
theorem dX4_init_15 : decode cX4_init 15 = .ok (.putfield 15, 3) := by decide +kernel
theorem dX4_init_18 : decode cX4_init 18 = .ok (.aload_n 0, 1) := by decide +kernel
theorem dX4_init_19 : decode cX4_init 19 = .ok (.iconst 5, 1) := by decide +kernel
theorem dX4_init_20 : decode cX4_init 20 = .ok (.newarray .int, 2) := by decide +kernel
theorem dX4_init_22 : decode cX4_init 22 = .ok (.putfield 18, 3) := by decide +kernel
theorem dX4_init_25 : decode cX4_init 25 = .ok (.aload_n 0, 1) := by decide +kernel
theorem dX4_init_26 : decode cX4_init 26 = .ok (.iconst 5, 1) := by decide +kernel
theorem dX4_init_27 : decode cX4_init 27 = .ok (.bipush 24, 2) := by decide +kernel
theorem dX4_init_29 : decode cX4_init 29 = .ok (.multianewarray 21 2, 4) := by decide +kernel
theorem dX4_init_33 : decode cX4_init 33 = .ok (.putfield 23, 3) := by decide +kernel
theorem dX4_init_36 : decode cX4_init 36 = .ok (.aload_n 0, 1) := by decide +kernel
theorem dX4_init_37 : decode cX4_init 37 = .ok (.bipush 96, 2) := by decide +kernel
theorem dX4_init_39 : decode cX4_init 39 = .ok (.newarray .int, 2) := by decide +kernel
theorem dX4_init_41 : decode cX4_init 41 = .ok (.putfield 26, 3) := by decide +kernel
theorem dX4_init_44 : decode cX4_init 44 = .ok (.aload_n 0, 1) := by decide +kernel
theorem dX4_init_45 : decode cX4_init 45 = .ok (.iconst 0, 1) := by decide +kernel
theorem dX4_init_46 : decode cX4_init 46 = .ok (.putfield 29, 3) := by decide +kernel
theorem dX4_init_49 : decode cX4_init 49 = .ok (.aload_n 0, 1) := by decide +kernel
theorem dX4_init_50 : decode cX4_init 50 = .ok (.iconst 0, 1) := by decide +kernel
theorem dX4_init_51 : decode cX4_init 51 = .ok (.putfield 33, 3) := by decide +kernel
theorem dX4_init_54 : decode cX4_init 54 = .ok (.return_, 1) := by decide +kernel
theorem dX4_takeFrom_0 : decode cX4_takeFrom 0 = .ok (.iconst 0, 1) := by decide +kernel
theorem dX4_takeFrom_1 : decode cX4_takeFrom 1 = .ok (.istore_n 2, 1) := by decide +kernel
theorem dX4_takeFrom_2 : decode cX4_takeFrom 2 = .ok (.iload_n 2, 1) := by decide +kernel
theorem dX4_takeFrom_3 : decode cX4_takeFrom 3 = .ok (.bipush 96, 2) := by decide +kernel
theorem dX4_takeFrom_5 : decode cX4_takeFrom 5 = .ok (.if_icmp .ge 20, 3) := by decide +kernel
theorem dX4_takeFrom_8 : decode cX4_takeFrom 8 = .ok (.aload_n 0, 1) := by decide +kernel
theorem dX4_takeFrom_9 : decode cX4_takeFrom 9 = .ok (.getfield 26, 3) := by decide +kernel
theorem dX4_takeFrom_12 : decode cX4_takeFrom 12 = .ok (.iload_n 2, 1) := by decide +kernel
theorem dX4_takeFrom_13 : decode cX4_takeFrom 13 = .ok (.aload_n 1, 1) := by decide +kernel
theorem dX4_takeFrom_14 : decode cX4_takeFrom 14 = .ok (.iload_n 2, 1) := by decide +kernel
theorem dX4_takeFrom_15 : decode cX4_takeFrom 15 = .ok (.invokevirtual 36, 3) := by decide +kernel
theorem dX4_takeFrom_18 : decode cX4_takeFrom 18 = .ok (.iastore, 1) := by decide +kernel
theorem dX4_takeFrom_19 : decode cX4_takeFrom 19 = .ok (.iinc 2 1, 3) := by decide +kernel
theorem dX4_takeFrom_22 : decode cX4_takeFrom 22 = .ok (.goto (-20), 3) := by decide +kernel
theorem dX4_takeFrom_25 : decode cX4_takeFrom 25 = .ok (.iconst 0, 1) := by decide +kernel
theorem dX4_takeFrom_26 : decode cX4_takeFrom 26 = .ok (.istore_n 2, 1) := by decide +kernel
theorem dX4_takeFrom_27 : decode cX4_takeFrom 27 = .ok (.iload_n 2, 1) := by decide +kernel
theorem dX4_takeFrom_28 : decode cX4_takeFrom 28 = .ok (.iconst 5, 1) := by decide +kernel
theorem dX4_takeFrom_29 : decode cX4_takeFrom 29 = .ok (.if_icmp .ge 37, 3) := by decide +kernel
theorem dX4_takeFrom_32 : decode cX4_takeFrom 32 = .ok (.aload_n 0, 1) := by decide +kernel
theorem dX4_takeFrom_33 : decode cX4_takeFrom 33 = .ok (.getfield 9, 3) := by decide +kernel
theorem dX4_takeFrom_36 : decode cX4_takeFrom 36 = .ok (.iload_n 2, 1) := by decide +kernel
theorem dX4_takeFrom_37 : decode cX4_takeFrom 37 = .ok (.aload_n 1, 1) := by decide +kernel
theorem dX4_takeFrom_38 : decode cX4_takeFrom 38 = .ok (.iload_n 2, 1) := by decide +kernel
theorem dX4_takeFrom_39 : decode cX4_takeFrom 39 = .ok (.invokevirtual 42, 3) := by decide +kernel
theorem dX4_takeFrom_42 : decode cX4_takeFrom 42 = .ok (.iastore, 1) := by decide +kernel
theorem dX4_takeFrom_43 : decode cX4_takeFrom 43 = .ok (.aload_n 0, 1) := by decide +kernel
theorem dX4_takeFrom_44 : decode cX4_takeFrom 44 = .ok (.getfield 15, 3) := by decide +kernel
theorem dX4_takeFrom_47 : decode cX4_takeFrom 47 = .ok (.iload_n 2, 1) := by decide +kernel
theorem dX4_takeFrom_48 : decode cX4_takeFrom 48 = .ok (.aload_n 1, 1) := by decide +kernel
theorem dX4_takeFrom_49 : decode cX4_takeFrom 49 = .ok (.iload_n 2, 1) := by decide +kernel
theorem dX4_takeFrom_50 : decode cX4_takeFrom 50 = .ok (.invokevirtual 44, 3) := by decide +kernel
theorem dX4_takeFrom_53 : decode cX4_takeFrom 53 = .ok (.iastore, 1) := by decide +kernel
theorem dX4_takeFrom_54 : decode cX4_takeFrom 54 = .ok (.aload_n 0, 1) := by decide +kernel
theorem dX4_takeFrom_55 : decode cX4_takeFrom 55 = .ok (.iload_n 2, 1) := by decide +kernel
theorem dX4_takeFrom_56 : decode cX4_takeFrom 56 = .ok (.aload_n 1, 1) := by decide +kernel
theorem dX4_takeFrom_57 : decode cX4_takeFrom 57 = .ok (.invokevirtual 46, 3) := by decide +kernel
theorem dX4_takeFrom_60 : decode cX4_takeFrom 60 = .ok (.iinc 2 1, 3) := by decide +kernel
theorem dX4_takeFrom_63 : decode cX4_takeFrom 63 = .ok (.goto (-36), 3) := by decide +kernel
theorem dX4_takeFrom_66 : decode cX4_takeFrom 66 = .ok (.aload_n 0, 1) := by decide +kernel
theorem dX4_takeFrom_67 : decode cX4_takeFrom 67 = .ok (.aload_n 1, 1) := by decide +kernel
theorem dX4_takeFrom_68 : decode cX4_takeFrom 68 = .ok (.invokevirtual 50, 3) := by decide +kernel
theorem dX4_takeFrom_71 : decode cX4_takeFrom 71 = .ok (.aload_n 1, 1) := by decide +kernel
theorem dX4_takeFrom_72 : decode cX4_takeFrom 72 = .ok (.invokevirtual 53, 3) := by decide +kernel
theorem dX4_takeFrom_75 : decode cX4_takeFrom 75 = .ok (.invokevirtual 55, 3) := by decide +kernel
theorem dX4_takeFrom_78 : decode cX4_takeFrom 78 = .ok (.return_, 1) := by decide +kernel
theorem dX4_takeWorksOff_0 : decode cX4_takeWorksOff 0 = .ok (.aload_n 0, 1) := by decide +kernel
theorem dX4_takeWorksOff_1 : decode cX4_takeWorksOff 1 = .ok (.getfield 18, 3) := by decide +kernel
theorem dX4_takeWorksOff_4 : decode cX4_takeWorksOff 4 = .ok (.iload_n 1, 1) := by decide +kernel
theorem dX4_takeWorksOff_5 : decode cX4_takeWorksOff 5 = .ok (.aload_n 2, 1) := by decide +kernel
theorem dX4_takeWorksOff_6 : decode cX4_takeWorksOff 6 = .ok (.invokevirtual 59, 3) := by decide +kernel
theorem dX4_takeWorksOff_9 : decode cX4_takeWorksOff 9 = .ok (.iastore, 1) := by decide +kernel
theorem dX4_takeWorksOff_10 : decode cX4_takeWorksOff 10 = .ok (.iconst 0, 1) := by decide +kernel
theorem dX4_takeWorksOff_11 : decode cX4_takeWorksOff 11 = .ok (.istore_n 3, 1) := by decide +kernel
theorem dX4_takeWorksOff_12 : decode cX4_takeWorksOff 12 = .ok (.iload_n 3, 1) := by decide +kernel
theorem dX4_takeWorksOff_13 : decode cX4_takeWorksOff 13 = .ok (.bipush 24, 2) := by decide +kernel
theorem dX4_takeWorksOff_15 : decode cX4_takeWorksOff 15 = .ok (.if_icmp .ge 23, 3) := by decide +kernel
theorem dX4_takeWorksOff_18 : decode cX4_takeWorksOff 18 = .ok (.aload_n 0, 1) := by decide +kernel
theorem dX4_takeWorksOff_19 : decode cX4_takeWorksOff 19 = .ok (.getfield 23, 3) := by decide +kernel
theorem dX4_takeWorksOff_22 : decode cX4_takeWorksOff 22 = .ok (.iload_n 1, 1) := by decide +kernel
theorem dX4_takeWorksOff_23 : decode cX4_takeWorksOff 23 = .ok (.aaload, 1) := by decide +kernel
theorem dX4_takeWorksOff_24 : decode cX4_takeWorksOff 24 = .ok (.iload_n 3, 1) := by decide +kernel
theorem dX4_takeWorksOff_25 : decode cX4_takeWorksOff 25 = .ok (.aload_n 2, 1) := by decide +kernel
theorem dX4_takeWorksOff_26 : decode cX4_takeWorksOff 26 = .ok (.iload_n 1, 1) := by decide +kernel
theorem dX4_takeWorksOff_27 : decode cX4_takeWorksOff 27 = .ok (.iload_n 3, 1) := by decide +kernel
theorem dX4_takeWorksOff_28 : decode cX4_takeWorksOff 28 = .ok (.invokevirtual 61, 3) := by decide +kernel
theorem dX4_takeWorksOff_31 : decode cX4_takeWorksOff 31 = .ok (.iastore, 1) := by decide +kernel
theorem dX4_takeWorksOff_32 : decode cX4_takeWorksOff 32 = .ok (.iinc 3 1, 3) := by decide +kernel
theorem dX4_takeWorksOff_35 : decode cX4_takeWorksOff 35 = .ok (.goto (-23), 3) := by decide +kernel
theorem dX4_takeWorksOff_38 : decode cX4_takeWorksOff 38 = .ok (.return_, 1) := by decide +kernel
theorem dX4_takeAllWorksOff_0 : decode cX4_takeAllWorksOff 0 = .ok (.iconst 0, 1) := by decide +kernel
theorem dX4_takeAllWorksOff_1 : decode cX4_takeAllWorksOff 1 = .ok (.istore_n 2, 1) := by decide +kernel
theorem dX4_takeAllWorksOff_2 : decode cX4_takeAllWorksOff 2 = .ok (.iload_n 2, 1) := by decide +kernel
theorem dX4_takeAllWorksOff_3 : decode cX4_takeAllWorksOff 3 = .ok (.iconst 5, 1) := by decide +kernel
theorem dX4_takeAllWorksOff_4 : decode cX4_takeAllWorksOff 4 = .ok (.if_icmp .ge 15, 3) := by decide +kernel
theorem dX4_takeAllWorksOff_7 : decode cX4_takeAllWorksOff 7 = .ok (.aload_n 0, 1) := by decide +kernel
theorem dX4_takeAllWorksOff_8 : decode cX4_takeAllWorksOff 8 = .ok (.iload_n 2, 1) := by decide +kernel
theorem dX4_takeAllWorksOff_9 : decode cX4_takeAllWorksOff 9 = .ok (.aload_n 1, 1) := by decide +kernel
theorem dX4_takeAllWorksOff_10 : decode cX4_takeAllWorksOff 10 = .ok (.invokevirtual 46, 3) := by decide +kernel
theorem dX4_takeAllWorksOff_13 : decode cX4_takeAllWorksOff 13 = .ok (.iinc 2 1, 3) := by decide +kernel
theorem dX4_takeAllWorksOff_16 : decode cX4_takeAllWorksOff 16 = .ok (.goto (-14), 3) := by decide +kernel
theorem dX4_takeAllWorksOff_19 : decode cX4_takeAllWorksOff 19 = .ok (.return_, 1) := by decide +kernel
theorem dX4_putWork_0 : decode cX4_putWork 0 = .ok (.aload_n 0, 1) := by decide +kernel
theorem dX4_putWork_1 : decode cX4_putWork 1 = .ok (.getfield 18, 3) := by decide +kernel
theorem dX4_putWork_4 : decode cX4_putWork 4 = .ok (.iload_n 1, 1) := by decide +kernel
theorem dX4_putWork_5 : decode cX4_putWork 5 = .ok (.iconst 0, 1) := by decide +kernel
theorem dX4_putWork_6 : decode cX4_putWork 6 = .ok (.aload_n 0, 1) := by decide +kernel
theorem dX4_putWork_7 : decode cX4_putWork 7 = .ok (.getfield 18, 3) := by decide +kernel
theorem dX4_putWork_10 : decode cX4_putWork 10 = .ok (.iload_n 1, 1) := by decide +kernel
theorem dX4_putWork_11 : decode cX4_putWork 11 = .ok (.iaload, 1) := by decide +kernel
theorem dX4_putWork_12 : decode cX4_putWork 12 = .ok (.iload_n 3, 1) := by decide +kernel
theorem dX4_putWork_13 : decode cX4_putWork 13 = .ok (.isub, 1) := by decide +kernel
theorem dX4_putWork_14 : decode cX4_putWork 14 = .ok (.invokestatic 65, 3) := by decide +kernel
theorem dX4_putWork_17 : decode cX4_putWork 17 = .ok (.iastore, 1) := by decide +kernel
theorem dX4_putWork_18 : decode cX4_putWork 18 = .ok (.iconst 0, 1) := by decide +kernel
theorem dX4_putWork_19 : decode cX4_putWork 19 = .ok (.istore 4, 2) := by decide +kernel
theorem dX4_putWork_21 : decode cX4_putWork 21 = .ok (.iload 4, 2) := by decide +kernel
theorem dX4_putWork_23 : decode cX4_putWork 23 = .ok (.bipush 24, 2) := by decide +kernel
theorem dX4_putWork_25 : decode cX4_putWork 25 = .ok (.if_icmp .ge 35, 3) := by decide +kernel
theorem dX4_putWork_28 : decode cX4_putWork 28 = .ok (.aload_n 0, 1) := by decide +kernel
theorem dX4_putWork_29 : decode cX4_putWork 29 = .ok (.getfield 23, 3) := by decide +kernel
theorem dX4_putWork_32 : decode cX4_putWork 32 = .ok (.iload_n 1, 1) := by decide +kernel
theorem dX4_putWork_33 : decode cX4_putWork 33 = .ok (.aaload, 1) := by decide +kernel
theorem dX4_putWork_34 : decode cX4_putWork 34 = .ok (.iload 4, 2) := by decide +kernel
theorem dX4_putWork_36 : decode cX4_putWork 36 = .ok (.aload_n 0, 1) := by decide +kernel
theorem dX4_putWork_37 : decode cX4_putWork 37 = .ok (.getfield 23, 3) := by decide +kernel
theorem dX4_putWork_40 : decode cX4_putWork 40 = .ok (.iload_n 1, 1) := by decide +kernel
theorem dX4_putWork_41 : decode cX4_putWork 41 = .ok (.aaload, 1) := by decide +kernel
theorem dX4_putWork_42 : decode cX4_putWork 42 = .ok (.iload 4, 2) := by decide +kernel
theorem dX4_putWork_44 : decode cX4_putWork 44 = .ok (.iaload, 1) := by decide +kernel
theorem dX4_putWork_45 : decode cX4_putWork 45 = .ok (.bipush 100, 2) := by decide +kernel
theorem dX4_putWork_47 : decode cX4_putWork 47 = .ok (.iload_n 2, 1) := by decide +kernel
theorem dX4_putWork_48 : decode cX4_putWork 48 = .ok (.isub, 1) := by decide +kernel
theorem dX4_putWork_49 : decode cX4_putWork 49 = .ok (.imul, 1) := by decide +kernel
theorem dX4_putWork_50 : decode cX4_putWork 50 = .ok (.bipush 100, 2) := by decide +kernel
theorem dX4_putWork_52 : decode cX4_putWork 52 = .ok (.idiv, 1) := by decide +kernel
theorem dX4_putWork_53 : decode cX4_putWork 53 = .ok (.iastore, 1) := by decide +kernel
theorem dX4_putWork_54 : decode cX4_putWork 54 = .ok (.iinc 4 1, 3) := by decide +kernel
theorem dX4_putWork_57 : decode cX4_putWork 57 = .ok (.goto (-36), 3) := by decide +kernel
theorem dX4_putWork_60 : decode cX4_putWork 60 = .ok (.return_, 1) := by decide +kernel
theorem dX4_putHabit_0 : decode cX4_putHabit 0 = .ok (.aload_n 0, 1) := by decide +kernel
theorem dX4_putHabit_1 : decode cX4_putHabit 1 = .ok (.getfield 9, 3) := by decide +kernel
theorem dX4_putHabit_4 : decode cX4_putHabit 4 = .ok (.iload_n 1, 1) := by decide +kernel
theorem dX4_putHabit_5 : decode cX4_putHabit 5 = .ok (.iload_n 2, 1) := by decide +kernel
theorem dX4_putHabit_6 : decode cX4_putHabit 6 = .ok (.iastore, 1) := by decide +kernel
theorem dX4_putHabit_7 : decode cX4_putHabit 7 = .ok (.return_, 1) := by decide +kernel
theorem dX4_putAllByGlass_0 : decode cX4_putAllByGlass 0 = .ok (.iconst 0, 1) := by decide +kernel
theorem dX4_putAllByGlass_1 : decode cX4_putAllByGlass 1 = .ok (.istore_n 1, 1) := by decide +kernel
theorem dX4_putAllByGlass_2 : decode cX4_putAllByGlass 2 = .ok (.iload_n 1, 1) := by decide +kernel
theorem dX4_putAllByGlass_3 : decode cX4_putAllByGlass 3 = .ok (.iconst 5, 1) := by decide +kernel
theorem dX4_putAllByGlass_4 : decode cX4_putAllByGlass 4 = .ok (.if_icmp .ge 16, 3) := by decide +kernel
theorem dX4_putAllByGlass_7 : decode cX4_putAllByGlass 7 = .ok (.aload_n 0, 1) := by decide +kernel
theorem dX4_putAllByGlass_8 : decode cX4_putAllByGlass 8 = .ok (.getfield 9, 3) := by decide +kernel
theorem dX4_putAllByGlass_11 : decode cX4_putAllByGlass 11 = .ok (.iload_n 1, 1) := by decide +kernel
theorem dX4_putAllByGlass_12 : decode cX4_putAllByGlass 12 = .ok (.iconst 1, 1) := by decide +kernel
theorem dX4_putAllByGlass_13 : decode cX4_putAllByGlass 13 = .ok (.iastore, 1) := by decide +kernel
theorem dX4_putAllByGlass_14 : decode cX4_putAllByGlass 14 = .ok (.iinc 1 1, 3) := by decide +kernel
theorem dX4_putAllByGlass_17 : decode cX4_putAllByGlass 17 = .ok (.goto (-15), 3) := by decide +kernel
theorem dX4_putAllByGlass_20 : decode cX4_putAllByGlass 20 = .ok (.return_, 1) := by decide +kernel
theorem dX4_putAllByClock_0 : decode cX4_putAllByClock 0 = .ok (.iconst 0, 1) := by decide +kernel
theorem dX4_putAllByClock_1 : decode cX4_putAllByClock 1 = .ok (.istore_n 2, 1) := by decide +kernel
theorem dX4_putAllByClock_2 : decode cX4_putAllByClock 2 = .ok (.iload_n 2, 1) := by decide +kernel
theorem dX4_putAllByClock_3 : decode cX4_putAllByClock 3 = .ok (.iconst 5, 1) := by decide +kernel
theorem dX4_putAllByClock_4 : decode cX4_putAllByClock 4 = .ok (.if_icmp .ge 23, 3) := by decide +kernel
theorem dX4_putAllByClock_7 : decode cX4_putAllByClock 7 = .ok (.aload_n 0, 1) := by decide +kernel
theorem dX4_putAllByClock_8 : decode cX4_putAllByClock 8 = .ok (.getfield 9, 3) := by decide +kernel
theorem dX4_putAllByClock_11 : decode cX4_putAllByClock 11 = .ok (.iload_n 2, 1) := by decide +kernel
theorem dX4_putAllByClock_12 : decode cX4_putAllByClock 12 = .ok (.iconst 0, 1) := by decide +kernel
theorem dX4_putAllByClock_13 : decode cX4_putAllByClock 13 = .ok (.iastore, 1) := by decide +kernel
theorem dX4_putAllByClock_14 : decode cX4_putAllByClock 14 = .ok (.aload_n 0, 1) := by decide +kernel
theorem dX4_putAllByClock_15 : decode cX4_putAllByClock 15 = .ok (.getfield 15, 3) := by decide +kernel
theorem dX4_putAllByClock_18 : decode cX4_putAllByClock 18 = .ok (.iload_n 2, 1) := by decide +kernel
theorem dX4_putAllByClock_19 : decode cX4_putAllByClock 19 = .ok (.iload_n 1, 1) := by decide +kernel
theorem dX4_putAllByClock_20 : decode cX4_putAllByClock 20 = .ok (.iastore, 1) := by decide +kernel
theorem dX4_putAllByClock_21 : decode cX4_putAllByClock 21 = .ok (.iinc 2 1, 3) := by decide +kernel
theorem dX4_putAllByClock_24 : decode cX4_putAllByClock 24 = .ok (.goto (-22), 3) := by decide +kernel
theorem dX4_putAllByClock_27 : decode cX4_putAllByClock 27 = .ok (.return_, 1) := by decide +kernel
theorem dX4_putLaw_0 : decode cX4_putLaw 0 = .ok (.aload_n 0, 1) := by decide +kernel
theorem dX4_putLaw_1 : decode cX4_putLaw 1 = .ok (.iload_n 1, 1) := by decide +kernel
theorem dX4_putLaw_2 : decode cX4_putLaw 2 = .ok (.putfield 33, 3) := by decide +kernel
theorem dX4_putLaw_5 : decode cX4_putLaw 5 = .ok (.aload_n 0, 1) := by decide +kernel
theorem dX4_putLaw_6 : decode cX4_putLaw 6 = .ok (.iload_n 2, 1) := by decide +kernel
theorem dX4_putLaw_7 : decode cX4_putLaw 7 = .ok (.putfield 29, 3) := by decide +kernel
theorem dX4_putLaw_10 : decode cX4_putLaw 10 = .ok (.return_, 1) := by decide +kernel
theorem dX4_skyAt_0 : decode cX4_skyAt 0 = .ok (.aload_n 0, 1) := by decide +kernel
theorem dX4_skyAt_1 : decode cX4_skyAt 1 = .ok (.getfield 26, 3) := by decide +kernel
theorem dX4_skyAt_4 : decode cX4_skyAt 4 = .ok (.iload_n 1, 1) := by decide +kernel
theorem dX4_skyAt_5 : decode cX4_skyAt 5 = .ok (.iaload, 1) := by decide +kernel
theorem dX4_skyAt_6 : decode cX4_skyAt 6 = .ok (.ireturn, 1) := by decide +kernel
theorem dX4_sunIn_0 : decode cX4_sunIn 0 = .ok (.aload_n 0, 1) := by decide +kernel
theorem dX4_sunIn_1 : decode cX4_sunIn 1 = .ok (.getfield 23, 3) := by decide +kernel
theorem dX4_sunIn_4 : decode cX4_sunIn 4 = .ok (.iload_n 1, 1) := by decide +kernel
theorem dX4_sunIn_5 : decode cX4_sunIn 5 = .ok (.aaload, 1) := by decide +kernel
theorem dX4_sunIn_6 : decode cX4_sunIn 6 = .ok (.iload_n 2, 1) := by decide +kernel
theorem dX4_sunIn_7 : decode cX4_sunIn 7 = .ok (.iaload, 1) := by decide +kernel
theorem dX4_sunIn_8 : decode cX4_sunIn 8 = .ok (.ireturn, 1) := by decide +kernel
theorem dX4_leaks_0 : decode cX4_leaks 0 = .ok (.aload_n 0, 1) := by decide +kernel
theorem dX4_leaks_1 : decode cX4_leaks 1 = .ok (.getfield 18, 3) := by decide +kernel
theorem dX4_leaks_4 : decode cX4_leaks 4 = .ok (.iload_n 1, 1) := by decide +kernel
theorem dX4_leaks_5 : decode cX4_leaks 5 = .ok (.iaload, 1) := by decide +kernel
theorem dX4_leaks_6 : decode cX4_leaks 6 = .ok (.ireturn, 1) := by decide +kernel
theorem dX4_takes_0 : decode cX4_takes 0 = .ok (.aload_n 0, 1) := by decide +kernel
theorem dX4_takes_1 : decode cX4_takes 1 = .ok (.getfield 29, 3) := by decide +kernel
theorem dX4_takes_4 : decode cX4_takes 4 = .ok (.ireturn, 1) := by decide +kernel
theorem dX4_gives_0 : decode cX4_gives 0 = .ok (.aload_n 0, 1) := by decide +kernel
theorem dX4_gives_1 : decode cX4_gives 1 = .ok (.getfield 33, 3) := by decide +kernel
theorem dX4_gives_4 : decode cX4_gives 4 = .ok (.ireturn, 1) := by decide +kernel
theorem dX4_wouldOpen_0 : decode cX4_wouldOpen 0 = .ok (.aload_n 0, 1) := by decide +kernel
theorem dX4_wouldOpen_1 : decode cX4_wouldOpen 1 = .ok (.getfield 9, 3) := by decide +kernel
theorem dX4_wouldOpen_4 : decode cX4_wouldOpen 4 = .ok (.iload_n 1, 1) := by decide +kernel
theorem dX4_wouldOpen_5 : decode cX4_wouldOpen 5 = .ok (.iaload, 1) := by decide +kernel
theorem dX4_wouldOpen_6 : decode cX4_wouldOpen 6 = .ok (.tableswitch 58 0 2 #[26, 40, 56], 26) := by decide +kernel
theorem dX4_wouldOpen_32 : decode cX4_wouldOpen 32 = .ok (.aload_n 0, 1) := by decide +kernel
theorem dX4_wouldOpen_33 : decode cX4_wouldOpen 33 = .ok (.getfield 15, 3) := by decide +kernel
theorem dX4_wouldOpen_36 : decode cX4_wouldOpen 36 = .ok (.iload_n 1, 1) := by decide +kernel
theorem dX4_wouldOpen_37 : decode cX4_wouldOpen 37 = .ok (.iaload, 1) := by decide +kernel
theorem dX4_wouldOpen_38 : decode cX4_wouldOpen 38 = .ok (.iload_n 2, 1) := by decide +kernel
theorem dX4_wouldOpen_39 : decode cX4_wouldOpen 39 = .ok (.bipush 24, 2) := by decide +kernel
theorem dX4_wouldOpen_41 : decode cX4_wouldOpen 41 = .ok (.irem, 1) := by decide +kernel
theorem dX4_wouldOpen_42 : decode cX4_wouldOpen 42 = .ok (.invokestatic 70, 3) := by decide +kernel
theorem dX4_wouldOpen_45 : decode cX4_wouldOpen 45 = .ok (.ireturn, 1) := by decide +kernel
theorem dX4_wouldOpen_46 : decode cX4_wouldOpen 46 = .ok (.aload_n 0, 1) := by decide +kernel
theorem dX4_wouldOpen_47 : decode cX4_wouldOpen 47 = .ok (.getfield 26, 3) := by decide +kernel
theorem dX4_wouldOpen_50 : decode cX4_wouldOpen 50 = .ok (.iload_n 2, 1) := by decide +kernel
theorem dX4_wouldOpen_51 : decode cX4_wouldOpen 51 = .ok (.iaload, 1) := by decide +kernel
theorem dX4_wouldOpen_52 : decode cX4_wouldOpen 52 = .ok (.iload_n 3, 1) := by decide +kernel
theorem dX4_wouldOpen_53 : decode cX4_wouldOpen 53 = .ok (.if_icmp .ge 7, 3) := by decide +kernel
theorem dX4_wouldOpen_56 : decode cX4_wouldOpen 56 = .ok (.iconst 1, 1) := by decide +kernel
theorem dX4_wouldOpen_57 : decode cX4_wouldOpen 57 = .ok (.goto 4, 3) := by decide +kernel
theorem dX4_wouldOpen_60 : decode cX4_wouldOpen 60 = .ok (.iconst 0, 1) := by decide +kernel
theorem dX4_wouldOpen_61 : decode cX4_wouldOpen 61 = .ok (.ireturn, 1) := by decide +kernel
theorem dX4_wouldOpen_62 : decode cX4_wouldOpen 62 = .ok (.iconst 1, 1) := by decide +kernel
theorem dX4_wouldOpen_63 : decode cX4_wouldOpen 63 = .ok (.ireturn, 1) := by decide +kernel
theorem dX4_wouldOpen_64 : decode cX4_wouldOpen 64 = .ok (.iconst 0, 1) := by decide +kernel
theorem dX4_wouldOpen_65 : decode cX4_wouldOpen 65 = .ok (.ireturn, 1) := by decide +kernel
theorem dX5_init_0 : decode cX5_init 0 = .ok (.aload_n 0, 1) := by decide +kernel
theorem dX5_init_1 : decode cX5_init 1 = .ok (.invokespecial 3, 3) := by decide +kernel
theorem dX5_init_4 : decode cX5_init 4 = .ok (.aload_n 0, 1) := by decide +kernel
theorem dX5_init_5 : decode cX5_init 5 = .ok (.bipush 8, 2) := by decide +kernel
theorem dX5_init_7 : decode cX5_init 7 = .ok (.newarray .int, 2) := by decide +kernel
theorem dX5_init_9 : decode cX5_init 9 = .ok (.putfield 11, 3) := by decide +kernel
theorem dX5_init_12 : decode cX5_init 12 = .ok (.aload_n 0, 1) := by decide +kernel
theorem dX5_init_13 : decode cX5_init 13 = .ok (.bipush 8, 2) := by decide +kernel
theorem dX5_init_15 : decode cX5_init 15 = .ok (.iconst 5, 1) := by decide +kernel
theorem dX5_init_16 : decode cX5_init 16 = .ok (.multianewarray 15 2, 4) := by decide +kernel
theorem dX5_init_20 : decode cX5_init 20 = .ok (.putfield 17, 3) := by decide +kernel
theorem dX5_init_23 : decode cX5_init 23 = .ok (.aload_n 0, 1) := by decide +kernel
theorem dX5_init_24 : decode cX5_init 24 = .ok (.iconst 0, 1) := by decide +kernel
theorem dX5_init_25 : decode cX5_init 25 = .ok (.putfield 20, 3) := by decide +kernel
theorem dX5_init_28 : decode cX5_init 28 = .ok (.aload_n 0, 1) := by decide +kernel
theorem dX5_init_29 : decode cX5_init 29 = .ok (.iconst 0, 1) := by decide +kernel
theorem dX5_init_30 : decode cX5_init 30 = .ok (.putfield 24, 3) := by decide +kernel
theorem dX5_init_33 : decode cX5_init 33 = .ok (.return_, 1) := by decide +kernel
theorem dX5_lines_0 : decode cX5_lines 0 = .ok (.aload_n 0, 1) := by decide +kernel
theorem dX5_lines_1 : decode cX5_lines 1 = .ok (.getfield 20, 3) := by decide +kernel
theorem dX5_lines_4 : decode cX5_lines 4 = .ok (.ireturn, 1) := by decide +kernel
theorem dX5_kindOf_0 : decode cX5_kindOf 0 = .ok (.aload_n 0, 1) := by decide +kernel
theorem dX5_kindOf_1 : decode cX5_kindOf 1 = .ok (.getfield 11, 3) := by decide +kernel
theorem dX5_kindOf_4 : decode cX5_kindOf 4 = .ok (.iload_n 1, 1) := by decide +kernel
theorem dX5_kindOf_5 : decode cX5_kindOf 5 = .ok (.iaload, 1) := by decide +kernel
theorem dX5_kindOf_6 : decode cX5_kindOf 6 = .ok (.ireturn, 1) := by decide +kernel
theorem dX5_numbersOf_0 : decode cX5_numbersOf 0 = .ok (.aload_n 0, 1) := by decide +kernel
theorem dX5_numbersOf_1 : decode cX5_numbersOf 1 = .ok (.getfield 17, 3) := by decide +kernel
theorem dX5_numbersOf_4 : decode cX5_numbersOf 4 = .ok (.iload_n 1, 1) := by decide +kernel
theorem dX5_numbersOf_5 : decode cX5_numbersOf 5 = .ok (.aaload, 1) := by decide +kernel
theorem dX5_numbersOf_6 : decode cX5_numbersOf 6 = .ok (.areturn, 1) := by decide +kernel
theorem dX5_faultOf_0 : decode cX5_faultOf 0 = .ok (.aload_n 0, 1) := by decide +kernel
theorem dX5_faultOf_1 : decode cX5_faultOf 1 = .ok (.iconst 0, 1) := by decide +kernel
theorem dX5_faultOf_2 : decode cX5_faultOf 2 = .ok (.putfield 20, 3) := by decide +kernel
theorem dX5_faultOf_5 : decode cX5_faultOf 5 = .ok (.aload_n 0, 1) := by decide +kernel
theorem dX5_faultOf_6 : decode cX5_faultOf 6 = .ok (.iconst 0, 1) := by decide +kernel
theorem dX5_faultOf_7 : decode cX5_faultOf 7 = .ok (.putfield 24, 3) := by decide +kernel
theorem dX5_faultOf_10 : decode cX5_faultOf 10 = .ok (.iconst 0, 1) := by decide +kernel
theorem dX5_faultOf_11 : decode cX5_faultOf 11 = .ok (.istore_n 2, 1) := by decide +kernel
theorem dX5_faultOf_12 : decode cX5_faultOf 12 = .ok (.iload_n 2, 1) := by decide +kernel
theorem dX5_faultOf_13 : decode cX5_faultOf 13 = .ok (.bipush 8, 2) := by decide +kernel
theorem dX5_faultOf_15 : decode cX5_faultOf 15 = .ok (.if_icmp .ge 95, 3) := by decide +kernel
theorem dX5_faultOf_18 : decode cX5_faultOf 18 = .ok (.aload_n 0, 1) := by decide +kernel
theorem dX5_faultOf_19 : decode cX5_faultOf 19 = .ok (.aload_n 1, 1) := by decide +kernel
theorem dX5_faultOf_20 : decode cX5_faultOf 20 = .ok (.iload_n 2, 1) := by decide +kernel
theorem dX5_faultOf_21 : decode cX5_faultOf 21 = .ok (.invokevirtual 27, 3) := by decide +kernel
theorem dX5_faultOf_24 : decode cX5_faultOf 24 = .ok (.ifCond .eq 12, 3) := by decide +kernel
theorem dX5_faultOf_27 : decode cX5_faultOf 27 = .ok (.aload_n 0, 1) := by decide +kernel
theorem dX5_faultOf_28 : decode cX5_faultOf 28 = .ok (.aload_n 1, 1) := by decide +kernel
theorem dX5_faultOf_29 : decode cX5_faultOf 29 = .ok (.iload_n 2, 1) := by decide +kernel
theorem dX5_faultOf_30 : decode cX5_faultOf 30 = .ok (.invokevirtual 31, 3) := by decide +kernel
theorem dX5_faultOf_33 : decode cX5_faultOf 33 = .ok (.ifCond .ne 8, 3) := by decide +kernel
theorem dX5_faultOf_36 : decode cX5_faultOf 36 = .ok (.aload_n 0, 1) := by decide +kernel
theorem dX5_faultOf_37 : decode cX5_faultOf 37 = .ok (.getfield 24, 3) := by decide +kernel
theorem dX5_faultOf_40 : decode cX5_faultOf 40 = .ok (.ireturn, 1) := by decide +kernel
theorem dX5_faultOf_41 : decode cX5_faultOf 41 = .ok (.aload_n 0, 1) := by decide +kernel
theorem dX5_faultOf_42 : decode cX5_faultOf 42 = .ok (.dup, 1) := by decide +kernel
theorem dX5_faultOf_43 : decode cX5_faultOf 43 = .ok (.getfield 20, 3) := by decide +kernel
theorem dX5_faultOf_46 : decode cX5_faultOf 46 = .ok (.iconst 1, 1) := by decide +kernel
theorem dX5_faultOf_47 : decode cX5_faultOf 47 = .ok (.iadd, 1) := by decide +kernel
theorem dX5_faultOf_48 : decode cX5_faultOf 48 = .ok (.putfield 20, 3) := by decide +kernel
theorem dX5_faultOf_51 : decode cX5_faultOf 51 = .ok (.aload_n 0, 1) := by decide +kernel
theorem dX5_faultOf_52 : decode cX5_faultOf 52 = .ok (.aload_n 1, 1) := by decide +kernel
theorem dX5_faultOf_53 : decode cX5_faultOf 53 = .ok (.aload_n 0, 1) := by decide +kernel
theorem dX5_faultOf_54 : decode cX5_faultOf 54 = .ok (.getfield 24, 3) := by decide +kernel
theorem dX5_faultOf_57 : decode cX5_faultOf 57 = .ok (.invokevirtual 34, 3) := by decide +kernel
theorem dX5_faultOf_60 : decode cX5_faultOf 60 = .ok (.putfield 24, 3) := by decide +kernel
theorem dX5_faultOf_63 : decode cX5_faultOf 63 = .ok (.aload_n 0, 1) := by decide +kernel
theorem dX5_faultOf_64 : decode cX5_faultOf 64 = .ok (.getfield 24, 3) := by decide +kernel
theorem dX5_faultOf_67 : decode cX5_faultOf 67 = .ok (.aload_n 1, 1) := by decide +kernel
theorem dX5_faultOf_68 : decode cX5_faultOf 68 = .ok (.invokevirtual 40, 3) := by decide +kernel
theorem dX5_faultOf_71 : decode cX5_faultOf 71 = .ok (.if_icmp .ne 5, 3) := by decide +kernel
theorem dX5_faultOf_74 : decode cX5_faultOf 74 = .ok (.iconst (-1), 1) := by decide +kernel
theorem dX5_faultOf_75 : decode cX5_faultOf 75 = .ok (.ireturn, 1) := by decide +kernel
theorem dX5_faultOf_76 : decode cX5_faultOf 76 = .ok (.aload_n 1, 1) := by decide +kernel
theorem dX5_faultOf_77 : decode cX5_faultOf 77 = .ok (.aload_n 0, 1) := by decide +kernel
theorem dX5_faultOf_78 : decode cX5_faultOf 78 = .ok (.getfield 24, 3) := by decide +kernel
theorem dX5_faultOf_81 : decode cX5_faultOf 81 = .ok (.invokevirtual 44, 3) := by decide +kernel
theorem dX5_faultOf_84 : decode cX5_faultOf 84 = .ok (.bipush 59, 2) := by decide +kernel
theorem dX5_faultOf_86 : decode cX5_faultOf 86 = .ok (.if_icmp .eq 8, 3) := by decide +kernel
theorem dX5_faultOf_89 : decode cX5_faultOf 89 = .ok (.aload_n 0, 1) := by decide +kernel
theorem dX5_faultOf_90 : decode cX5_faultOf 90 = .ok (.getfield 24, 3) := by decide +kernel
theorem dX5_faultOf_93 : decode cX5_faultOf 93 = .ok (.ireturn, 1) := by decide +kernel
theorem dX5_faultOf_94 : decode cX5_faultOf 94 = .ok (.aload_n 0, 1) := by decide +kernel
theorem dX5_faultOf_95 : decode cX5_faultOf 95 = .ok (.dup, 1) := by decide +kernel
theorem dX5_faultOf_96 : decode cX5_faultOf 96 = .ok (.getfield 24, 3) := by decide +kernel
theorem dX5_faultOf_99 : decode cX5_faultOf 99 = .ok (.iconst 1, 1) := by decide +kernel
theorem dX5_faultOf_100 : decode cX5_faultOf 100 = .ok (.iadd, 1) := by decide +kernel
theorem dX5_faultOf_101 : decode cX5_faultOf 101 = .ok (.putfield 24, 3) := by decide +kernel
theorem dX5_faultOf_104 : decode cX5_faultOf 104 = .ok (.iinc 2 1, 3) := by decide +kernel
theorem dX5_faultOf_107 : decode cX5_faultOf 107 = .ok (.goto (-95), 3) := by decide +kernel
theorem dX5_faultOf_110 : decode cX5_faultOf 110 = .ok (.aload_n 0, 1) := by decide +kernel
theorem dX5_faultOf_111 : decode cX5_faultOf 111 = .ok (.getfield 24, 3) := by decide +kernel
theorem dX5_faultOf_114 : decode cX5_faultOf 114 = .ok (.iconst 1, 1) := by decide +kernel
theorem dX5_faultOf_115 : decode cX5_faultOf 115 = .ok (.isub, 1) := by decide +kernel
theorem dX5_faultOf_116 : decode cX5_faultOf 116 = .ok (.ireturn, 1) := by decide +kernel
theorem dX5_readsWord_0 : decode cX5_readsWord 0 = .ok (.aload_n 0, 1) := by decide +kernel
theorem dX5_readsWord_1 : decode cX5_readsWord 1 = .ok (.aload_n 1, 1) := by decide +kernel
theorem dX5_readsWord_2 : decode cX5_readsWord 2 = .ok (.aload_n 0, 1) := by decide +kernel
theorem dX5_readsWord_3 : decode cX5_readsWord 3 = .ok (.getfield 24, 3) := by decide +kernel
theorem dX5_readsWord_6 : decode cX5_readsWord 6 = .ok (.invokevirtual 34, 3) := by decide +kernel
theorem dX5_readsWord_9 : decode cX5_readsWord 9 = .ok (.putfield 24, 3) := by decide +kernel
theorem dX5_readsWord_12 : decode cX5_readsWord 12 = .ok (.aload_n 1, 1) := by decide +kernel
theorem dX5_readsWord_13 : decode cX5_readsWord 13 = .ok (.aload_n 0, 1) := by decide +kernel
theorem dX5_readsWord_14 : decode cX5_readsWord 14 = .ok (.getfield 24, 3) := by decide +kernel
theorem dX5_readsWord_17 : decode cX5_readsWord 17 = .ok (.invokevirtual 47, 3) := by decide +kernel
theorem dX5_readsWord_20 : decode cX5_readsWord 20 = .ok (.istore_n 3, 1) := by decide +kernel
theorem dX5_readsWord_21 : decode cX5_readsWord 21 = .ok (.iconst 0, 1) := by decide +kernel
theorem dX5_readsWord_22 : decode cX5_readsWord 22 = .ok (.istore 4, 2) := by decide +kernel
theorem dX5_readsWord_24 : decode cX5_readsWord 24 = .ok (.iload 4, 2) := by decide +kernel
theorem dX5_readsWord_26 : decode cX5_readsWord 26 = .ok (.bipush 10, 2) := by decide +kernel
theorem dX5_readsWord_28 : decode cX5_readsWord 28 = .ok (.if_icmp .ge 41, 3) := by decide +kernel
theorem dX5_readsWord_31 : decode cX5_readsWord 31 = .ok (.aload_n 1, 1) := by decide +kernel
theorem dX5_readsWord_32 : decode cX5_readsWord 32 = .ok (.aload_n 0, 1) := by decide +kernel
theorem dX5_readsWord_33 : decode cX5_readsWord 33 = .ok (.getfield 24, 3) := by decide +kernel
theorem dX5_readsWord_36 : decode cX5_readsWord 36 = .ok (.iload_n 3, 1) := by decide +kernel
theorem dX5_readsWord_37 : decode cX5_readsWord 37 = .ok (.iload 4, 2) := by decide +kernel
theorem dX5_readsWord_39 : decode cX5_readsWord 39 = .ok (.invokestatic 52, 3) := by decide +kernel
theorem dX5_readsWord_42 : decode cX5_readsWord 42 = .ok (.invokevirtual 56, 3) := by decide +kernel
theorem dX5_readsWord_45 : decode cX5_readsWord 45 = .ok (.ifCond .eq 18, 3) := by decide +kernel
theorem dX5_readsWord_48 : decode cX5_readsWord 48 = .ok (.aload_n 0, 1) := by decide +kernel
theorem dX5_readsWord_49 : decode cX5_readsWord 49 = .ok (.getfield 11, 3) := by decide +kernel
theorem dX5_readsWord_52 : decode cX5_readsWord 52 = .ok (.iload_n 2, 1) := by decide +kernel
theorem dX5_readsWord_53 : decode cX5_readsWord 53 = .ok (.iload 4, 2) := by decide +kernel
theorem dX5_readsWord_55 : decode cX5_readsWord 55 = .ok (.iastore, 1) := by decide +kernel
theorem dX5_readsWord_56 : decode cX5_readsWord 56 = .ok (.aload_n 0, 1) := by decide +kernel
theorem dX5_readsWord_57 : decode cX5_readsWord 57 = .ok (.iload_n 3, 1) := by decide +kernel
theorem dX5_readsWord_58 : decode cX5_readsWord 58 = .ok (.putfield 24, 3) := by decide +kernel
theorem dX5_readsWord_61 : decode cX5_readsWord 61 = .ok (.iconst 1, 1) := by decide +kernel
theorem dX5_readsWord_62 : decode cX5_readsWord 62 = .ok (.ireturn, 1) := by decide +kernel
theorem dX5_readsWord_63 : decode cX5_readsWord 63 = .ok (.iinc 4 1, 3) := by decide +kernel
theorem dX5_readsWord_66 : decode cX5_readsWord 66 = .ok (.goto (-42), 3) := by decide +kernel
theorem dX5_readsWord_69 : decode cX5_readsWord 69 = .ok (.iconst 0, 1) := by decide +kernel
theorem dX5_readsWord_70 : decode cX5_readsWord 70 = .ok (.ireturn, 1) := by decide +kernel
theorem dX5_readsNumbers_0 : decode cX5_readsNumbers 0 = .ok (.aload_n 0, 1) := by decide +kernel
theorem dX5_readsNumbers_1 : decode cX5_readsNumbers 1 = .ok (.getfield 11, 3) := by decide +kernel
theorem dX5_readsNumbers_4 : decode cX5_readsNumbers 4 = .ok (.iload_n 2, 1) := by decide +kernel
theorem dX5_readsNumbers_5 : decode cX5_readsNumbers 5 = .ok (.iaload, 1) := by decide +kernel
theorem dX5_readsNumbers_6 : decode cX5_readsNumbers 6 = .ok (.iconst 5, 1) := by decide +kernel
theorem dX5_readsNumbers_7 : decode cX5_readsNumbers 7 = .ok (.imul, 1) := by decide +kernel
theorem dX5_readsNumbers_8 : decode cX5_readsNumbers 8 = .ok (.istore_n 3, 1) := by decide +kernel
theorem dX5_readsNumbers_9 : decode cX5_readsNumbers 9 = .ok (.iconst 0, 1) := by decide +kernel
theorem dX5_readsNumbers_10 : decode cX5_readsNumbers 10 = .ok (.istore 4, 2) := by decide +kernel
theorem dX5_readsNumbers_12 : decode cX5_readsNumbers 12 = .ok (.iload 4, 2) := by decide +kernel
theorem dX5_readsNumbers_14 : decode cX5_readsNumbers 14 = .ok (.iconst 5, 1) := by decide +kernel
theorem dX5_readsNumbers_15 : decode cX5_readsNumbers 15 = .ok (.if_icmp .ge 103, 3) := by decide +kernel
theorem dX5_readsNumbers_18 : decode cX5_readsNumbers 18 = .ok (.getstatic 60, 3) := by decide +kernel
theorem dX5_readsNumbers_21 : decode cX5_readsNumbers 21 = .ok (.iload_n 3, 1) := by decide +kernel
theorem dX5_readsNumbers_22 : decode cX5_readsNumbers 22 = .ok (.iload 4, 2) := by decide +kernel
theorem dX5_readsNumbers_24 : decode cX5_readsNumbers 24 = .ok (.iadd, 1) := by decide +kernel
theorem dX5_readsNumbers_25 : decode cX5_readsNumbers 25 = .ok (.iaload, 1) := by decide +kernel
theorem dX5_readsNumbers_26 : decode cX5_readsNumbers 26 = .ok (.iconst (-1), 1) := by decide +kernel
theorem dX5_readsNumbers_27 : decode cX5_readsNumbers 27 = .ok (.if_icmp .eq 91, 3) := by decide +kernel
theorem dX5_readsNumbers_30 : decode cX5_readsNumbers 30 = .ok (.aload_n 0, 1) := by decide +kernel
theorem dX5_readsNumbers_31 : decode cX5_readsNumbers 31 = .ok (.aload_n 1, 1) := by decide +kernel
theorem dX5_readsNumbers_32 : decode cX5_readsNumbers 32 = .ok (.aload_n 0, 1) := by decide +kernel
theorem dX5_readsNumbers_33 : decode cX5_readsNumbers 33 = .ok (.getfield 24, 3) := by decide +kernel
theorem dX5_readsNumbers_36 : decode cX5_readsNumbers 36 = .ok (.invokevirtual 34, 3) := by decide +kernel
theorem dX5_readsNumbers_39 : decode cX5_readsNumbers 39 = .ok (.putfield 24, 3) := by decide +kernel
theorem dX5_readsNumbers_42 : decode cX5_readsNumbers 42 = .ok (.aload_n 1, 1) := by decide +kernel
theorem dX5_readsNumbers_43 : decode cX5_readsNumbers 43 = .ok (.aload_n 0, 1) := by decide +kernel
theorem dX5_readsNumbers_44 : decode cX5_readsNumbers 44 = .ok (.getfield 24, 3) := by decide +kernel
theorem dX5_readsNumbers_47 : decode cX5_readsNumbers 47 = .ok (.invokevirtual 47, 3) := by decide +kernel
theorem dX5_readsNumbers_50 : decode cX5_readsNumbers 50 = .ok (.istore 5, 2) := by decide +kernel
theorem dX5_readsNumbers_52 : decode cX5_readsNumbers 52 = .ok (.aload_n 1, 1) := by decide +kernel
theorem dX5_readsNumbers_53 : decode cX5_readsNumbers 53 = .ok (.aload_n 0, 1) := by decide +kernel
theorem dX5_readsNumbers_54 : decode cX5_readsNumbers 54 = .ok (.getfield 24, 3) := by decide +kernel
theorem dX5_readsNumbers_57 : decode cX5_readsNumbers 57 = .ok (.iload 5, 2) := by decide +kernel
theorem dX5_readsNumbers_59 : decode cX5_readsNumbers 59 = .ok (.invokevirtual 63, 3) := by decide +kernel
theorem dX5_readsNumbers_62 : decode cX5_readsNumbers 62 = .ok (.istore 6, 2) := by decide +kernel
theorem dX5_readsNumbers_64 : decode cX5_readsNumbers 64 = .ok (.iload 6, 2) := by decide +kernel
theorem dX5_readsNumbers_66 : decode cX5_readsNumbers 66 = .ok (.iconst 0, 1) := by decide +kernel
theorem dX5_readsNumbers_67 : decode cX5_readsNumbers 67 = .ok (.getstatic 60, 3) := by decide +kernel
theorem dX5_readsNumbers_70 : decode cX5_readsNumbers 70 = .ok (.iload_n 3, 1) := by decide +kernel
theorem dX5_readsNumbers_71 : decode cX5_readsNumbers 71 = .ok (.iload 4, 2) := by decide +kernel
theorem dX5_readsNumbers_73 : decode cX5_readsNumbers 73 = .ok (.iadd, 1) := by decide +kernel
theorem dX5_readsNumbers_74 : decode cX5_readsNumbers 74 = .ok (.iaload, 1) := by decide +kernel
theorem dX5_readsNumbers_75 : decode cX5_readsNumbers 75 = .ok (.invokestatic 67, 3) := by decide +kernel
theorem dX5_readsNumbers_78 : decode cX5_readsNumbers 78 = .ok (.ifCond .eq 15, 3) := by decide +kernel
theorem dX5_readsNumbers_81 : decode cX5_readsNumbers 81 = .ok (.aload_n 0, 1) := by decide +kernel
theorem dX5_readsNumbers_82 : decode cX5_readsNumbers 82 = .ok (.iload_n 2, 1) := by decide +kernel
theorem dX5_readsNumbers_83 : decode cX5_readsNumbers 83 = .ok (.iload 4, 2) := by decide +kernel
theorem dX5_readsNumbers_85 : decode cX5_readsNumbers 85 = .ok (.iload 6, 2) := by decide +kernel
theorem dX5_readsNumbers_87 : decode cX5_readsNumbers 87 = .ok (.invokevirtual 71, 3) := by decide +kernel
theorem dX5_readsNumbers_90 : decode cX5_readsNumbers 90 = .ok (.ifCond .eq 5, 3) := by decide +kernel
theorem dX5_readsNumbers_93 : decode cX5_readsNumbers 93 = .ok (.iconst 0, 1) := by decide +kernel
theorem dX5_readsNumbers_94 : decode cX5_readsNumbers 94 = .ok (.ireturn, 1) := by decide +kernel
theorem dX5_readsNumbers_95 : decode cX5_readsNumbers 95 = .ok (.aload_n 0, 1) := by decide +kernel
theorem dX5_readsNumbers_96 : decode cX5_readsNumbers 96 = .ok (.getfield 17, 3) := by decide +kernel
theorem dX5_readsNumbers_99 : decode cX5_readsNumbers 99 = .ok (.iload_n 2, 1) := by decide +kernel
theorem dX5_readsNumbers_100 : decode cX5_readsNumbers 100 = .ok (.aaload, 1) := by decide +kernel
theorem dX5_readsNumbers_101 : decode cX5_readsNumbers 101 = .ok (.iload 4, 2) := by decide +kernel
theorem dX5_readsNumbers_103 : decode cX5_readsNumbers 103 = .ok (.iload 6, 2) := by decide +kernel
theorem dX5_readsNumbers_105 : decode cX5_readsNumbers 105 = .ok (.iastore, 1) := by decide +kernel
theorem dX5_readsNumbers_106 : decode cX5_readsNumbers 106 = .ok (.aload_n 0, 1) := by decide +kernel
theorem dX5_readsNumbers_107 : decode cX5_readsNumbers 107 = .ok (.iload 5, 2) := by decide +kernel
theorem dX5_readsNumbers_109 : decode cX5_readsNumbers 109 = .ok (.putfield 24, 3) := by decide +kernel
theorem dX5_readsNumbers_112 : decode cX5_readsNumbers 112 = .ok (.iinc 4 1, 3) := by decide +kernel
theorem dX5_readsNumbers_115 : decode cX5_readsNumbers 115 = .ok (.goto (-103), 3) := by decide +kernel
theorem dX5_readsNumbers_118 : decode cX5_readsNumbers 118 = .ok (.iconst 1, 1) := by decide +kernel
theorem dX5_readsNumbers_119 : decode cX5_readsNumbers 119 = .ok (.ireturn, 1) := by decide +kernel
theorem dX5_isDoorToItself_0 : decode cX5_isDoorToItself 0 = .ok (.aload_n 0, 1) := by decide +kernel
theorem dX5_isDoorToItself_1 : decode cX5_isDoorToItself 1 = .ok (.getfield 11, 3) := by decide +kernel
theorem dX5_isDoorToItself_4 : decode cX5_isDoorToItself 4 = .ok (.iload_n 1, 1) := by decide +kernel
theorem dX5_isDoorToItself_5 : decode cX5_isDoorToItself 5 = .ok (.iaload, 1) := by decide +kernel
theorem dX5_isDoorToItself_6 : decode cX5_isDoorToItself 6 = .ok (.iconst 1, 1) := by decide +kernel
theorem dX5_isDoorToItself_7 : decode cX5_isDoorToItself 7 = .ok (.if_icmp .ne 24, 3) := by decide +kernel
theorem dX5_isDoorToItself_10 : decode cX5_isDoorToItself 10 = .ok (.iload_n 2, 1) := by decide +kernel
theorem dX5_isDoorToItself_11 : decode cX5_isDoorToItself 11 = .ok (.iconst 1, 1) := by decide +kernel
theorem dX5_isDoorToItself_12 : decode cX5_isDoorToItself 12 = .ok (.if_icmp .ne 19, 3) := by decide +kernel
theorem dX5_isDoorToItself_15 : decode cX5_isDoorToItself 15 = .ok (.iload_n 3, 1) := by decide +kernel
theorem dX5_isDoorToItself_16 : decode cX5_isDoorToItself 16 = .ok (.aload_n 0, 1) := by decide +kernel
theorem dX5_isDoorToItself_17 : decode cX5_isDoorToItself 17 = .ok (.getfield 17, 3) := by decide +kernel
theorem dX5_isDoorToItself_20 : decode cX5_isDoorToItself 20 = .ok (.iload_n 1, 1) := by decide +kernel
theorem dX5_isDoorToItself_21 : decode cX5_isDoorToItself 21 = .ok (.aaload, 1) := by decide +kernel
theorem dX5_isDoorToItself_22 : decode cX5_isDoorToItself 22 = .ok (.iconst 0, 1) := by decide +kernel
theorem dX5_isDoorToItself_23 : decode cX5_isDoorToItself 23 = .ok (.iaload, 1) := by decide +kernel
theorem dX5_isDoorToItself_24 : decode cX5_isDoorToItself 24 = .ok (.if_icmp .ne 7, 3) := by decide +kernel
theorem dX5_isDoorToItself_27 : decode cX5_isDoorToItself 27 = .ok (.iconst 1, 1) := by decide +kernel
theorem dX5_isDoorToItself_28 : decode cX5_isDoorToItself 28 = .ok (.goto 4, 3) := by decide +kernel
theorem dX5_isDoorToItself_31 : decode cX5_isDoorToItself 31 = .ok (.iconst 0, 1) := by decide +kernel
theorem dX5_isDoorToItself_32 : decode cX5_isDoorToItself 32 = .ok (.ireturn, 1) := by decide +kernel
theorem dX6_init_0 : decode cX6_init 0 = .ok (.aload_n 0, 1) := by decide +kernel
theorem dX6_init_1 : decode cX6_init 1 = .ok (.invokespecial 5, 3) := by decide +kernel
theorem dX6_init_4 : decode cX6_init 4 = .ok (.aload_n 0, 1) := by decide +kernel
theorem dX6_init_5 : decode cX6_init 5 = .ok (.bipush 8, 2) := by decide +kernel
theorem dX6_init_7 : decode cX6_init 7 = .ok (.newarray .int, 2) := by decide +kernel
theorem dX6_init_9 : decode cX6_init 9 = .ok (.putfield 11, 3) := by decide +kernel
theorem dX6_init_12 : decode cX6_init 12 = .ok (.aload_n 0, 1) := by decide +kernel
theorem dX6_init_13 : decode cX6_init 13 = .ok (.bipush 8, 2) := by decide +kernel
theorem dX6_init_15 : decode cX6_init 15 = .ok (.newarray .int, 2) := by decide +kernel
theorem dX6_init_17 : decode cX6_init 17 = .ok (.putfield 15, 3) := by decide +kernel
theorem dX6_init_20 : decode cX6_init 20 = .ok (.aload_n 0, 1) := by decide +kernel
theorem dX6_init_21 : decode cX6_init 21 = .ok (.sipush 256, 3) := by decide +kernel
theorem dX6_init_24 : decode cX6_init 24 = .ok (.newarray .int, 2) := by decide +kernel
theorem dX6_init_26 : decode cX6_init 26 = .ok (.putfield 18, 3) := by decide +kernel
theorem dX6_init_29 : decode cX6_init 29 = .ok (.return_, 1) := by decide +kernel
theorem dX6_tell_0 : decode cX6_tell 0 = .ok (.aload_n 0, 1) := by decide +kernel
theorem dX6_tell_1 : decode cX6_tell 1 = .ok (.getfield 11, 3) := by decide +kernel
theorem dX6_tell_4 : decode cX6_tell 4 = .ok (.iload_n 1, 1) := by decide +kernel
theorem dX6_tell_5 : decode cX6_tell 5 = .ok (.iload_n 2, 1) := by decide +kernel
theorem dX6_tell_6 : decode cX6_tell 6 = .ok (.iastore, 1) := by decide +kernel
theorem dX6_tell_7 : decode cX6_tell 7 = .ok (.aload_n 0, 1) := by decide +kernel
theorem dX6_tell_8 : decode cX6_tell 8 = .ok (.getfield 15, 3) := by decide +kernel
theorem dX6_tell_11 : decode cX6_tell 11 = .ok (.iload_n 1, 1) := by decide +kernel
theorem dX6_tell_12 : decode cX6_tell 12 = .ok (.iload_n 3, 1) := by decide +kernel
theorem dX6_tell_13 : decode cX6_tell 13 = .ok (.iastore, 1) := by decide +kernel
theorem dX6_tell_14 : decode cX6_tell 14 = .ok (.return_, 1) := by decide +kernel
theorem dX6_toldSet_0 : decode cX6_toldSet 0 = .ok (.iconst 0, 1) := by decide +kernel
theorem dX6_toldSet_1 : decode cX6_toldSet 1 = .ok (.istore_n 1, 1) := by decide +kernel
theorem dX6_toldSet_2 : decode cX6_toldSet 2 = .ok (.iconst 0, 1) := by decide +kernel
theorem dX6_toldSet_3 : decode cX6_toldSet 3 = .ok (.istore_n 2, 1) := by decide +kernel
theorem dX6_toldSet_4 : decode cX6_toldSet 4 = .ok (.iload_n 2, 1) := by decide +kernel
theorem dX6_toldSet_5 : decode cX6_toldSet 5 = .ok (.bipush 8, 2) := by decide +kernel
theorem dX6_toldSet_7 : decode cX6_toldSet 7 = .ok (.if_icmp .ge 24, 3) := by decide +kernel
theorem dX6_toldSet_10 : decode cX6_toldSet 10 = .ok (.aload_n 0, 1) := by decide +kernel
theorem dX6_toldSet_11 : decode cX6_toldSet 11 = .ok (.getfield 11, 3) := by decide +kernel
theorem dX6_toldSet_14 : decode cX6_toldSet 14 = .ok (.iload_n 2, 1) := by decide +kernel
theorem dX6_toldSet_15 : decode cX6_toldSet 15 = .ok (.iaload, 1) := by decide +kernel
theorem dX6_toldSet_16 : decode cX6_toldSet 16 = .ok (.ifCond .le 9, 3) := by decide +kernel
theorem dX6_toldSet_19 : decode cX6_toldSet 19 = .ok (.iload_n 1, 1) := by decide +kernel
theorem dX6_toldSet_20 : decode cX6_toldSet 20 = .ok (.iconst 1, 1) := by decide +kernel
theorem dX6_toldSet_21 : decode cX6_toldSet 21 = .ok (.iload_n 2, 1) := by decide +kernel
theorem dX6_toldSet_22 : decode cX6_toldSet 22 = .ok (.ishl, 1) := by decide +kernel
theorem dX6_toldSet_23 : decode cX6_toldSet 23 = .ok (.ior, 1) := by decide +kernel
theorem dX6_toldSet_24 : decode cX6_toldSet 24 = .ok (.istore_n 1, 1) := by decide +kernel
theorem dX6_toldSet_25 : decode cX6_toldSet 25 = .ok (.iinc 2 1, 3) := by decide +kernel
theorem dX6_toldSet_28 : decode cX6_toldSet 28 = .ok (.goto (-24), 3) := by decide +kernel
theorem dX6_toldSet_31 : decode cX6_toldSet 31 = .ok (.iload_n 1, 1) := by decide +kernel
theorem dX6_toldSet_32 : decode cX6_toldSet 32 = .ok (.ireturn, 1) := by decide +kernel
theorem dX6_toldFlats_0 : decode cX6_toldFlats 0 = .ok (.aload_n 0, 1) := by decide +kernel
theorem dX6_toldFlats_1 : decode cX6_toldFlats 1 = .ok (.invokevirtual 21, 3) := by decide +kernel
theorem dX6_toldFlats_4 : decode cX6_toldFlats 4 = .ok (.invokestatic 25, 3) := by decide +kernel
theorem dX6_toldFlats_7 : decode cX6_toldFlats 7 = .ok (.ireturn, 1) := by decide +kernel
theorem dX6_weigh_0 : decode cX6_weigh 0 = .ok (.aload_n 0, 1) := by decide +kernel
theorem dX6_weigh_1 : decode cX6_weigh 1 = .ok (.invokevirtual 21, 3) := by decide +kernel
theorem dX6_weigh_4 : decode cX6_weigh 4 = .ok (.istore_n 1, 1) := by decide +kernel
theorem dX6_weigh_5 : decode cX6_weigh 5 = .ok (.aload_n 0, 1) := by decide +kernel
theorem dX6_weigh_6 : decode cX6_weigh 6 = .ok (.getfield 18, 3) := by decide +kernel
theorem dX6_weigh_9 : decode cX6_weigh 9 = .ok (.iconst 0, 1) := by decide +kernel
theorem dX6_weigh_10 : decode cX6_weigh 10 = .ok (.iconst 0, 1) := by decide +kernel
theorem dX6_weigh_11 : decode cX6_weigh 11 = .ok (.iastore, 1) := by decide +kernel
theorem dX6_weigh_12 : decode cX6_weigh 12 = .ok (.iconst 1, 1) := by decide +kernel
theorem dX6_weigh_13 : decode cX6_weigh 13 = .ok (.istore_n 2, 1) := by decide +kernel
theorem dX6_weigh_14 : decode cX6_weigh 14 = .ok (.iload_n 2, 1) := by decide +kernel
theorem dX6_weigh_15 : decode cX6_weigh 15 = .ok (.sipush 256, 3) := by decide +kernel
theorem dX6_weigh_18 : decode cX6_weigh 18 = .ok (.if_icmp .ge 35, 3) := by decide +kernel
theorem dX6_weigh_21 : decode cX6_weigh 21 = .ok (.iload_n 2, 1) := by decide +kernel
theorem dX6_weigh_22 : decode cX6_weigh 22 = .ok (.iload_n 1, 1) := by decide +kernel
theorem dX6_weigh_23 : decode cX6_weigh 23 = .ok (.iconst (-1), 1) := by decide +kernel
theorem dX6_weigh_24 : decode cX6_weigh 24 = .ok (.ixor, 1) := by decide +kernel
theorem dX6_weigh_25 : decode cX6_weigh 25 = .ok (.iand, 1) := by decide +kernel
theorem dX6_weigh_26 : decode cX6_weigh 26 = .ok (.ifCond .ne 21, 3) := by decide +kernel
theorem dX6_weigh_29 : decode cX6_weigh 29 = .ok (.aload_n 0, 1) := by decide +kernel
theorem dX6_weigh_30 : decode cX6_weigh 30 = .ok (.getfield 18, 3) := by decide +kernel
theorem dX6_weigh_33 : decode cX6_weigh 33 = .ok (.iload_n 2, 1) := by decide +kernel
theorem dX6_weigh_34 : decode cX6_weigh 34 = .ok (.aload_n 0, 1) := by decide +kernel
theorem dX6_weigh_35 : decode cX6_weigh 35 = .ok (.iload_n 2, 1) := by decide +kernel
theorem dX6_weigh_36 : decode cX6_weigh 36 = .ok (.aload_n 0, 1) := by decide +kernel
theorem dX6_weigh_37 : decode cX6_weigh 37 = .ok (.iload_n 2, 1) := by decide +kernel
theorem dX6_weigh_38 : decode cX6_weigh 38 = .ok (.iload_n 1, 1) := by decide +kernel
theorem dX6_weigh_39 : decode cX6_weigh 39 = .ok (.invokevirtual 31, 3) := by decide +kernel
theorem dX6_weigh_42 : decode cX6_weigh 42 = .ok (.iload_n 1, 1) := by decide +kernel
theorem dX6_weigh_43 : decode cX6_weigh 43 = .ok (.invokevirtual 35, 3) := by decide +kernel
theorem dX6_weigh_46 : decode cX6_weigh 46 = .ok (.iastore, 1) := by decide +kernel
theorem dX6_weigh_47 : decode cX6_weigh 47 = .ok (.iinc 2 1, 3) := by decide +kernel
theorem dX6_weigh_50 : decode cX6_weigh 50 = .ok (.goto (-36), 3) := by decide +kernel
theorem dX6_weigh_53 : decode cX6_weigh 53 = .ok (.return_, 1) := by decide +kernel
theorem dX6_lost_0 : decode cX6_lost 0 = .ok (.aload_n 0, 1) := by decide +kernel
theorem dX6_lost_1 : decode cX6_lost 1 = .ok (.getfield 18, 3) := by decide +kernel
theorem dX6_lost_4 : decode cX6_lost 4 = .ok (.aload_n 0, 1) := by decide +kernel
theorem dX6_lost_5 : decode cX6_lost 5 = .ok (.invokevirtual 21, 3) := by decide +kernel
theorem dX6_lost_8 : decode cX6_lost 8 = .ok (.iaload, 1) := by decide +kernel
theorem dX6_lost_9 : decode cX6_lost 9 = .ok (.ireturn, 1) := by decide +kernel
theorem dX6_flatAt_0 : decode cX6_flatAt 0 = .ok (.aload_n 0, 1) := by decide +kernel
theorem dX6_flatAt_1 : decode cX6_flatAt 1 = .ok (.invokevirtual 21, 3) := by decide +kernel
theorem dX6_flatAt_4 : decode cX6_flatAt 4 = .ok (.istore_n 2, 1) := by decide +kernel
theorem dX6_flatAt_5 : decode cX6_flatAt 5 = .ok (.iload_n 2, 1) := by decide +kernel
theorem dX6_flatAt_6 : decode cX6_flatAt 6 = .ok (.istore_n 3, 1) := by decide +kernel
theorem dX6_flatAt_7 : decode cX6_flatAt 7 = .ok (.iconst 0, 1) := by decide +kernel
theorem dX6_flatAt_8 : decode cX6_flatAt 8 = .ok (.istore 4, 2) := by decide +kernel
theorem dX6_flatAt_10 : decode cX6_flatAt 10 = .ok (.iload 4, 2) := by decide +kernel
theorem dX6_flatAt_12 : decode cX6_flatAt 12 = .ok (.bipush 8, 2) := by decide +kernel
theorem dX6_flatAt_14 : decode cX6_flatAt 14 = .ok (.if_icmp .ge 39, 3) := by decide +kernel
theorem dX6_flatAt_17 : decode cX6_flatAt 17 = .ok (.iload_n 3, 1) := by decide +kernel
theorem dX6_flatAt_18 : decode cX6_flatAt 18 = .ok (.ifCond .eq 35, 3) := by decide +kernel
theorem dX6_flatAt_21 : decode cX6_flatAt 21 = .ok (.aload_n 0, 1) := by decide +kernel
theorem dX6_flatAt_22 : decode cX6_flatAt 22 = .ok (.iload_n 3, 1) := by decide +kernel
theorem dX6_flatAt_23 : decode cX6_flatAt 23 = .ok (.iload_n 2, 1) := by decide +kernel
theorem dX6_flatAt_24 : decode cX6_flatAt 24 = .ok (.invokevirtual 31, 3) := by decide +kernel
theorem dX6_flatAt_27 : decode cX6_flatAt 27 = .ok (.istore 5, 2) := by decide +kernel
theorem dX6_flatAt_29 : decode cX6_flatAt 29 = .ok (.iload 4, 2) := by decide +kernel
theorem dX6_flatAt_31 : decode cX6_flatAt 31 = .ok (.iload_n 1, 1) := by decide +kernel
theorem dX6_flatAt_32 : decode cX6_flatAt 32 = .ok (.if_icmp .ne 6, 3) := by decide +kernel
theorem dX6_flatAt_35 : decode cX6_flatAt 35 = .ok (.iload 5, 2) := by decide +kernel
theorem dX6_flatAt_37 : decode cX6_flatAt 37 = .ok (.ireturn, 1) := by decide +kernel
theorem dX6_flatAt_38 : decode cX6_flatAt 38 = .ok (.iload_n 3, 1) := by decide +kernel
theorem dX6_flatAt_39 : decode cX6_flatAt 39 = .ok (.iconst 1, 1) := by decide +kernel
theorem dX6_flatAt_40 : decode cX6_flatAt 40 = .ok (.iload 5, 2) := by decide +kernel
theorem dX6_flatAt_42 : decode cX6_flatAt 42 = .ok (.ishl, 1) := by decide +kernel
theorem dX6_flatAt_43 : decode cX6_flatAt 43 = .ok (.iconst (-1), 1) := by decide +kernel
theorem dX6_flatAt_44 : decode cX6_flatAt 44 = .ok (.ixor, 1) := by decide +kernel
theorem dX6_flatAt_45 : decode cX6_flatAt 45 = .ok (.iand, 1) := by decide +kernel
theorem dX6_flatAt_46 : decode cX6_flatAt 46 = .ok (.istore_n 3, 1) := by decide +kernel
theorem dX6_flatAt_47 : decode cX6_flatAt 47 = .ok (.iinc 4 1, 3) := by decide +kernel
theorem dX6_flatAt_50 : decode cX6_flatAt 50 = .ok (.goto (-40), 3) := by decide +kernel
theorem dX6_flatAt_53 : decode cX6_flatAt 53 = .ok (.iconst (-1), 1) := by decide +kernel
theorem dX6_flatAt_54 : decode cX6_flatAt 54 = .ok (.ireturn, 1) := by decide +kernel
theorem dX6_firstOf_0 : decode cX6_firstOf 0 = .ok (.iconst (-1), 1) := by decide +kernel
theorem dX6_firstOf_1 : decode cX6_firstOf 1 = .ok (.istore_n 3, 1) := by decide +kernel
theorem dX6_firstOf_2 : decode cX6_firstOf 2 = .ok (.iconst 0, 1) := by decide +kernel
theorem dX6_firstOf_3 : decode cX6_firstOf 3 = .ok (.istore 4, 2) := by decide +kernel
theorem dX6_firstOf_5 : decode cX6_firstOf 5 = .ok (.iload 4, 2) := by decide +kernel
theorem dX6_firstOf_7 : decode cX6_firstOf 7 = .ok (.bipush 8, 2) := by decide +kernel
theorem dX6_firstOf_9 : decode cX6_firstOf 9 = .ok (.if_icmp .ge 44, 3) := by decide +kernel
theorem dX6_firstOf_12 : decode cX6_firstOf 12 = .ok (.iload_n 1, 1) := by decide +kernel
theorem dX6_firstOf_13 : decode cX6_firstOf 13 = .ok (.iload 4, 2) := by decide +kernel
theorem dX6_firstOf_15 : decode cX6_firstOf 15 = .ok (.invokestatic 39, 3) := by decide +kernel
theorem dX6_firstOf_18 : decode cX6_firstOf 18 = .ok (.ifCond .eq 29, 3) := by decide +kernel
theorem dX6_firstOf_21 : decode cX6_firstOf 21 = .ok (.iload_n 3, 1) := by decide +kernel
theorem dX6_firstOf_22 : decode cX6_firstOf 22 = .ok (.iconst (-1), 1) := by decide +kernel
theorem dX6_firstOf_23 : decode cX6_firstOf 23 = .ok (.if_icmp .eq 21, 3) := by decide +kernel
theorem dX6_firstOf_26 : decode cX6_firstOf 26 = .ok (.aload_n 0, 1) := by decide +kernel
theorem dX6_firstOf_27 : decode cX6_firstOf 27 = .ok (.iload_n 1, 1) := by decide +kernel
theorem dX6_firstOf_28 : decode cX6_firstOf 28 = .ok (.iload 4, 2) := by decide +kernel
theorem dX6_firstOf_30 : decode cX6_firstOf 30 = .ok (.iload_n 2, 1) := by decide +kernel
theorem dX6_firstOf_31 : decode cX6_firstOf 31 = .ok (.invokevirtual 35, 3) := by decide +kernel
theorem dX6_firstOf_34 : decode cX6_firstOf 34 = .ok (.aload_n 0, 1) := by decide +kernel
theorem dX6_firstOf_35 : decode cX6_firstOf 35 = .ok (.iload_n 1, 1) := by decide +kernel
theorem dX6_firstOf_36 : decode cX6_firstOf 36 = .ok (.iload_n 3, 1) := by decide +kernel
theorem dX6_firstOf_37 : decode cX6_firstOf 37 = .ok (.iload_n 2, 1) := by decide +kernel
theorem dX6_firstOf_38 : decode cX6_firstOf 38 = .ok (.invokevirtual 35, 3) := by decide +kernel
theorem dX6_firstOf_41 : decode cX6_firstOf 41 = .ok (.if_icmp .ge 6, 3) := by decide +kernel
theorem dX6_firstOf_44 : decode cX6_firstOf 44 = .ok (.iload 4, 2) := by decide +kernel
theorem dX6_firstOf_46 : decode cX6_firstOf 46 = .ok (.istore_n 3, 1) := by decide +kernel
theorem dX6_firstOf_47 : decode cX6_firstOf 47 = .ok (.iinc 4 1, 3) := by decide +kernel
theorem dX6_firstOf_50 : decode cX6_firstOf 50 = .ok (.goto (-45), 3) := by decide +kernel
theorem dX6_firstOf_53 : decode cX6_firstOf 53 = .ok (.iload_n 3, 1) := by decide +kernel
theorem dX6_firstOf_54 : decode cX6_firstOf 54 = .ok (.ireturn, 1) := by decide +kernel
theorem dX6_lostBy_0 : decode cX6_lostBy 0 = .ok (.iload_n 3, 1) := by decide +kernel
theorem dX6_lostBy_1 : decode cX6_lostBy 1 = .ok (.invokestatic 25, 3) := by decide +kernel
theorem dX6_lostBy_4 : decode cX6_lostBy 4 = .ok (.iload_n 1, 1) := by decide +kernel
theorem dX6_lostBy_5 : decode cX6_lostBy 5 = .ok (.invokestatic 25, 3) := by decide +kernel
theorem dX6_lostBy_8 : decode cX6_lostBy 8 = .ok (.isub, 1) := by decide +kernel
theorem dX6_lostBy_9 : decode cX6_lostBy 9 = .ok (.iconst 1, 1) := by decide +kernel
theorem dX6_lostBy_10 : decode cX6_lostBy 10 = .ok (.iadd, 1) := by decide +kernel
theorem dX6_lostBy_11 : decode cX6_lostBy 11 = .ok (.istore 4, 2) := by decide +kernel
theorem dX6_lostBy_13 : decode cX6_lostBy 13 = .ok (.iload 4, 2) := by decide +kernel
theorem dX6_lostBy_15 : decode cX6_lostBy 15 = .ok (.aload_n 0, 1) := by decide +kernel
theorem dX6_lostBy_16 : decode cX6_lostBy 16 = .ok (.getfield 15, 3) := by decide +kernel
theorem dX6_lostBy_19 : decode cX6_lostBy 19 = .ok (.iload_n 2, 1) := by decide +kernel
theorem dX6_lostBy_20 : decode cX6_lostBy 20 = .ok (.iaload, 1) := by decide +kernel
theorem dX6_lostBy_21 : decode cX6_lostBy 21 = .ok (.if_icmp .le 11, 3) := by decide +kernel
theorem dX6_lostBy_24 : decode cX6_lostBy 24 = .ok (.iload 4, 2) := by decide +kernel
theorem dX6_lostBy_26 : decode cX6_lostBy 26 = .ok (.bipush 10, 2) := by decide +kernel
theorem dX6_lostBy_28 : decode cX6_lostBy 28 = .ok (.iadd, 1) := by decide +kernel
theorem dX6_lostBy_29 : decode cX6_lostBy 29 = .ok (.goto 5, 3) := by decide +kernel
theorem dX6_lostBy_32 : decode cX6_lostBy 32 = .ok (.iload 4, 2) := by decide +kernel
theorem dX6_lostBy_34 : decode cX6_lostBy 34 = .ok (.istore 5, 2) := by decide +kernel
theorem dX6_lostBy_36 : decode cX6_lostBy 36 = .ok (.aload_n 0, 1) := by decide +kernel
theorem dX6_lostBy_37 : decode cX6_lostBy 37 = .ok (.getfield 11, 3) := by decide +kernel
theorem dX6_lostBy_40 : decode cX6_lostBy 40 = .ok (.iload_n 2, 1) := by decide +kernel
theorem dX6_lostBy_41 : decode cX6_lostBy 41 = .ok (.iaload, 1) := by decide +kernel
theorem dX6_lostBy_42 : decode cX6_lostBy 42 = .ok (.iload 5, 2) := by decide +kernel
theorem dX6_lostBy_44 : decode cX6_lostBy 44 = .ok (.imul, 1) := by decide +kernel
theorem dX6_lostBy_45 : decode cX6_lostBy 45 = .ok (.aload_n 0, 1) := by decide +kernel
theorem dX6_lostBy_46 : decode cX6_lostBy 46 = .ok (.getfield 18, 3) := by decide +kernel
theorem dX6_lostBy_49 : decode cX6_lostBy 49 = .ok (.iload_n 1, 1) := by decide +kernel
theorem dX6_lostBy_50 : decode cX6_lostBy 50 = .ok (.iconst 1, 1) := by decide +kernel
theorem dX6_lostBy_51 : decode cX6_lostBy 51 = .ok (.iload_n 2, 1) := by decide +kernel
theorem dX6_lostBy_52 : decode cX6_lostBy 52 = .ok (.ishl, 1) := by decide +kernel
theorem dX6_lostBy_53 : decode cX6_lostBy 53 = .ok (.iconst (-1), 1) := by decide +kernel
theorem dX6_lostBy_54 : decode cX6_lostBy 54 = .ok (.ixor, 1) := by decide +kernel
theorem dX6_lostBy_55 : decode cX6_lostBy 55 = .ok (.iand, 1) := by decide +kernel
theorem dX6_lostBy_56 : decode cX6_lostBy 56 = .ok (.iaload, 1) := by decide +kernel
theorem dX6_lostBy_57 : decode cX6_lostBy 57 = .ok (.iadd, 1) := by decide +kernel
theorem dX6_lostBy_58 : decode cX6_lostBy 58 = .ok (.ireturn, 1) := by decide +kernel
theorem dX7_init_0 : decode cX7_init 0 = .ok (.aload_n 0, 1) := by decide +kernel
theorem dX7_init_1 : decode cX7_init 1 = .ok (.invokespecial 3, 3) := by decide +kernel
theorem dX7_init_4 : decode cX7_init 4 = .ok (.aload_n 0, 1) := by decide +kernel
theorem dX7_init_5 : decode cX7_init 5 = .ok (.iconst 0, 1) := by decide +kernel
theorem dX7_init_6 : decode cX7_init 6 = .ok (.putfield 9, 3) := by decide +kernel
theorem dX7_init_9 : decode cX7_init 9 = .ok (.return_, 1) := by decide +kernel
theorem dX7_look_0 : decode cX7_look 0 = .ok (.aload_n 0, 1) := by decide +kernel
theorem dX7_look_1 : decode cX7_look 1 = .ok (.iload_n 1, 1) := by decide +kernel
theorem dX7_look_2 : decode cX7_look 2 = .ok (.putfield 9, 3) := by decide +kernel
theorem dX7_look_5 : decode cX7_look 5 = .ok (.aload_n 0, 1) := by decide +kernel
theorem dX7_look_6 : decode cX7_look 6 = .ok (.iload_n 2, 1) := by decide +kernel
theorem dX7_look_7 : decode cX7_look 7 = .ok (.putfield 15, 3) := by decide +kernel
theorem dX7_look_10 : decode cX7_look 10 = .ok (.aload_n 0, 1) := by decide +kernel
theorem dX7_look_11 : decode cX7_look 11 = .ok (.iload_n 3, 1) := by decide +kernel
theorem dX7_look_12 : decode cX7_look 12 = .ok (.putfield 18, 3) := by decide +kernel
theorem dX7_look_15 : decode cX7_look 15 = .ok (.aload_n 0, 1) := by decide +kernel
theorem dX7_look_16 : decode cX7_look 16 = .ok (.iload 4, 2) := by decide +kernel
theorem dX7_look_18 : decode cX7_look 18 = .ok (.putfield 21, 3) := by decide +kernel
theorem dX7_look_21 : decode cX7_look 21 = .ok (.aload_n 0, 1) := by decide +kernel
theorem dX7_look_22 : decode cX7_look 22 = .ok (.iconst 0, 1) := by decide +kernel
theorem dX7_look_23 : decode cX7_look 23 = .ok (.putfield 24, 3) := by decide +kernel
theorem dX7_look_26 : decode cX7_look 26 = .ok (.aload_n 0, 1) := by decide +kernel
theorem dX7_look_27 : decode cX7_look 27 = .ok (.iconst (-1), 1) := by decide +kernel
theorem dX7_look_28 : decode cX7_look 28 = .ok (.putfield 27, 3) := by decide +kernel
theorem dX7_look_31 : decode cX7_look 31 = .ok (.iconst 0, 1) := by decide +kernel
theorem dX7_look_32 : decode cX7_look 32 = .ok (.istore 5, 2) := by decide +kernel
theorem dX7_look_34 : decode cX7_look 34 = .ok (.iload 5, 2) := by decide +kernel
theorem dX7_look_36 : decode cX7_look 36 = .ok (.iconst 1, 1) := by decide +kernel
theorem dX7_look_37 : decode cX7_look 37 = .ok (.aload_n 0, 1) := by decide +kernel
theorem dX7_look_38 : decode cX7_look 38 = .ok (.getfield 9, 3) := by decide +kernel
theorem dX7_look_41 : decode cX7_look 41 = .ok (.ishl, 1) := by decide +kernel
theorem dX7_look_42 : decode cX7_look 42 = .ok (.if_icmp .ge 54, 3) := by decide +kernel
theorem dX7_look_45 : decode cX7_look 45 = .ok (.aload_n 0, 1) := by decide +kernel
theorem dX7_look_46 : decode cX7_look 46 = .ok (.iload 5, 2) := by decide +kernel
theorem dX7_look_48 : decode cX7_look 48 = .ok (.invokevirtual 30, 3) := by decide +kernel
theorem dX7_look_51 : decode cX7_look 51 = .ok (.istore 6, 2) := by decide +kernel
theorem dX7_look_53 : decode cX7_look 53 = .ok (.iload 5, 2) := by decide +kernel
theorem dX7_look_55 : decode cX7_look 55 = .ok (.ifCond .eq 12, 3) := by decide +kernel
theorem dX7_look_58 : decode cX7_look 58 = .ok (.iload 6, 2) := by decide +kernel
theorem dX7_look_60 : decode cX7_look 60 = .ok (.aload_n 0, 1) := by decide +kernel
theorem dX7_look_61 : decode cX7_look 61 = .ok (.getfield 34, 3) := by decide +kernel
theorem dX7_look_64 : decode cX7_look 64 = .ok (.if_icmp .le 9, 3) := by decide +kernel
theorem dX7_look_67 : decode cX7_look 67 = .ok (.aload_n 0, 1) := by decide +kernel
theorem dX7_look_68 : decode cX7_look 68 = .ok (.iload 6, 2) := by decide +kernel
theorem dX7_look_70 : decode cX7_look 70 = .ok (.putfield 34, 3) := by decide +kernel
theorem dX7_look_73 : decode cX7_look 73 = .ok (.aload_n 0, 1) := by decide +kernel
theorem dX7_look_74 : decode cX7_look 74 = .ok (.iload 5, 2) := by decide +kernel
theorem dX7_look_76 : decode cX7_look 76 = .ok (.invokevirtual 37, 3) := by decide +kernel
theorem dX7_look_79 : decode cX7_look 79 = .ok (.ifCond .eq 11, 3) := by decide +kernel
theorem dX7_look_82 : decode cX7_look 82 = .ok (.aload_n 0, 1) := by decide +kernel
theorem dX7_look_83 : decode cX7_look 83 = .ok (.iload 5, 2) := by decide +kernel
theorem dX7_look_85 : decode cX7_look 85 = .ok (.iload 6, 2) := by decide +kernel
theorem dX7_look_87 : decode cX7_look 87 = .ok (.invokevirtual 41, 3) := by decide +kernel
theorem dX7_look_90 : decode cX7_look 90 = .ok (.iinc 5 1, 3) := by decide +kernel
theorem dX7_look_93 : decode cX7_look 93 = .ok (.goto (-59), 3) := by decide +kernel
theorem dX7_look_96 : decode cX7_look 96 = .ok (.return_, 1) := by decide +kernel
theorem dX7_keepRest_0 : decode cX7_keepRest 0 = .ok (.aload_n 0, 1) := by decide +kernel
theorem dX7_keepRest_1 : decode cX7_keepRest 1 = .ok (.getfield 24, 3) := by decide +kernel
theorem dX7_keepRest_4 : decode cX7_keepRest 4 = .ok (.ifCond .eq 11, 3) := by decide +kernel
theorem dX7_keepRest_7 : decode cX7_keepRest 7 = .ok (.iload_n 2, 1) := by decide +kernel
theorem dX7_keepRest_8 : decode cX7_keepRest 8 = .ok (.aload_n 0, 1) := by decide +kernel
theorem dX7_keepRest_9 : decode cX7_keepRest 9 = .ok (.getfield 45, 3) := by decide +kernel
theorem dX7_keepRest_12 : decode cX7_keepRest 12 = .ok (.if_icmp .le 13, 3) := by decide +kernel
theorem dX7_keepRest_15 : decode cX7_keepRest 15 = .ok (.aload_n 0, 1) := by decide +kernel
theorem dX7_keepRest_16 : decode cX7_keepRest 16 = .ok (.iload_n 1, 1) := by decide +kernel
theorem dX7_keepRest_17 : decode cX7_keepRest 17 = .ok (.putfield 27, 3) := by decide +kernel
theorem dX7_keepRest_20 : decode cX7_keepRest 20 = .ok (.aload_n 0, 1) := by decide +kernel
theorem dX7_keepRest_21 : decode cX7_keepRest 21 = .ok (.iload_n 2, 1) := by decide +kernel
theorem dX7_keepRest_22 : decode cX7_keepRest 22 = .ok (.putfield 45, 3) := by decide +kernel
theorem dX7_keepRest_25 : decode cX7_keepRest 25 = .ok (.aload_n 0, 1) := by decide +kernel
theorem dX7_keepRest_26 : decode cX7_keepRest 26 = .ok (.dup, 1) := by decide +kernel
theorem dX7_keepRest_27 : decode cX7_keepRest 27 = .ok (.getfield 24, 3) := by decide +kernel
theorem dX7_keepRest_30 : decode cX7_keepRest 30 = .ok (.iconst 1, 1) := by decide +kernel
theorem dX7_keepRest_31 : decode cX7_keepRest 31 = .ok (.iadd, 1) := by decide +kernel
theorem dX7_keepRest_32 : decode cX7_keepRest 32 = .ok (.putfield 24, 3) := by decide +kernel
theorem dX7_keepRest_35 : decode cX7_keepRest 35 = .ok (.return_, 1) := by decide +kernel
theorem dX7_allHave_0 : decode cX7_allHave 0 = .ok (.iconst 0, 1) := by decide +kernel
theorem dX7_allHave_1 : decode cX7_allHave 1 = .ok (.istore_n 2, 1) := by decide +kernel
theorem dX7_allHave_2 : decode cX7_allHave 2 = .ok (.iconst 0, 1) := by decide +kernel
theorem dX7_allHave_3 : decode cX7_allHave 3 = .ok (.istore_n 3, 1) := by decide +kernel
theorem dX7_allHave_4 : decode cX7_allHave 4 = .ok (.iload_n 3, 1) := by decide +kernel
theorem dX7_allHave_5 : decode cX7_allHave 5 = .ok (.aload_n 0, 1) := by decide +kernel
theorem dX7_allHave_6 : decode cX7_allHave 6 = .ok (.getfield 9, 3) := by decide +kernel
theorem dX7_allHave_9 : decode cX7_allHave 9 = .ok (.if_icmp .ge 23, 3) := by decide +kernel
theorem dX7_allHave_12 : decode cX7_allHave 12 = .ok (.iload_n 2, 1) := by decide +kernel
theorem dX7_allHave_13 : decode cX7_allHave 13 = .ok (.aload_n 0, 1) := by decide +kernel
theorem dX7_allHave_14 : decode cX7_allHave 14 = .ok (.iload_n 3, 1) := by decide +kernel
theorem dX7_allHave_15 : decode cX7_allHave 15 = .ok (.iload_n 1, 1) := by decide +kernel
theorem dX7_allHave_16 : decode cX7_allHave 16 = .ok (.iload_n 3, 1) := by decide +kernel
theorem dX7_allHave_17 : decode cX7_allHave 17 = .ok (.invokestatic 48, 3) := by decide +kernel
theorem dX7_allHave_20 : decode cX7_allHave 20 = .ok (.iload_n 1, 1) := by decide +kernel
theorem dX7_allHave_21 : decode cX7_allHave 21 = .ok (.invokevirtual 52, 3) := by decide +kernel
theorem dX7_allHave_24 : decode cX7_allHave 24 = .ok (.iadd, 1) := by decide +kernel
theorem dX7_allHave_25 : decode cX7_allHave 25 = .ok (.istore_n 2, 1) := by decide +kernel
theorem dX7_allHave_26 : decode cX7_allHave 26 = .ok (.iinc 3 1, 3) := by decide +kernel
theorem dX7_allHave_29 : decode cX7_allHave 29 = .ok (.goto (-25), 3) := by decide +kernel
theorem dX7_allHave_32 : decode cX7_allHave 32 = .ok (.iload_n 2, 1) := by decide +kernel
theorem dX7_allHave_33 : decode cX7_allHave 33 = .ok (.ireturn, 1) := by decide +kernel
theorem dX7_isRest_0 : decode cX7_isRest 0 = .ok (.iconst 0, 1) := by decide +kernel
theorem dX7_isRest_1 : decode cX7_isRest 1 = .ok (.istore_n 2, 1) := by decide +kernel
theorem dX7_isRest_2 : decode cX7_isRest 2 = .ok (.iload_n 2, 1) := by decide +kernel
theorem dX7_isRest_3 : decode cX7_isRest 3 = .ok (.aload_n 0, 1) := by decide +kernel
theorem dX7_isRest_4 : decode cX7_isRest 4 = .ok (.getfield 9, 3) := by decide +kernel
theorem dX7_isRest_7 : decode cX7_isRest 7 = .ok (.if_icmp .ge 43, 3) := by decide +kernel
theorem dX7_isRest_10 : decode cX7_isRest 10 = .ok (.aload_n 0, 1) := by decide +kernel
theorem dX7_isRest_11 : decode cX7_isRest 11 = .ok (.iload_n 2, 1) := by decide +kernel
theorem dX7_isRest_12 : decode cX7_isRest 12 = .ok (.iconst 1, 1) := by decide +kernel
theorem dX7_isRest_13 : decode cX7_isRest 13 = .ok (.iload_n 1, 1) := by decide +kernel
theorem dX7_isRest_14 : decode cX7_isRest 14 = .ok (.invokevirtual 52, 3) := by decide +kernel
theorem dX7_isRest_17 : decode cX7_isRest 17 = .ok (.aload_n 0, 1) := by decide +kernel
theorem dX7_isRest_18 : decode cX7_isRest 18 = .ok (.iload_n 2, 1) := by decide +kernel
theorem dX7_isRest_19 : decode cX7_isRest 19 = .ok (.iconst 0, 1) := by decide +kernel
theorem dX7_isRest_20 : decode cX7_isRest 20 = .ok (.iload_n 1, 1) := by decide +kernel
theorem dX7_isRest_21 : decode cX7_isRest 21 = .ok (.invokevirtual 52, 3) := by decide +kernel
theorem dX7_isRest_24 : decode cX7_isRest 24 = .ok (.if_icmp .le 7, 3) := by decide +kernel
theorem dX7_isRest_27 : decode cX7_isRest 27 = .ok (.iconst 1, 1) := by decide +kernel
theorem dX7_isRest_28 : decode cX7_isRest 28 = .ok (.goto 4, 3) := by decide +kernel
theorem dX7_isRest_31 : decode cX7_isRest 31 = .ok (.iconst 0, 1) := by decide +kernel
theorem dX7_isRest_32 : decode cX7_isRest 32 = .ok (.istore_n 3, 1) := by decide +kernel
theorem dX7_isRest_33 : decode cX7_isRest 33 = .ok (.iload_n 3, 1) := by decide +kernel
theorem dX7_isRest_34 : decode cX7_isRest 34 = .ok (.iload_n 1, 1) := by decide +kernel
theorem dX7_isRest_35 : decode cX7_isRest 35 = .ok (.iload_n 2, 1) := by decide +kernel
theorem dX7_isRest_36 : decode cX7_isRest 36 = .ok (.invokestatic 48, 3) := by decide +kernel
theorem dX7_isRest_39 : decode cX7_isRest 39 = .ok (.if_icmp .eq 5, 3) := by decide +kernel
theorem dX7_isRest_42 : decode cX7_isRest 42 = .ok (.iconst 0, 1) := by decide +kernel
theorem dX7_isRest_43 : decode cX7_isRest 43 = .ok (.ireturn, 1) := by decide +kernel
theorem dX7_isRest_44 : decode cX7_isRest 44 = .ok (.iinc 2 1, 3) := by decide +kernel
theorem dX7_isRest_47 : decode cX7_isRest 47 = .ok (.goto (-45), 3) := by decide +kernel
theorem dX7_isRest_50 : decode cX7_isRest 50 = .ok (.iconst 1, 1) := by decide +kernel
theorem dX7_isRest_51 : decode cX7_isRest 51 = .ok (.ireturn, 1) := by decide +kernel
theorem dX7_has_0 : decode cX7_has 0 = .ok (.iconst 0, 1) := by decide +kernel
theorem dX7_has_1 : decode cX7_has 1 = .ok (.istore 4, 2) := by decide +kernel
theorem dX7_has_3 : decode cX7_has 3 = .ok (.iload_n 1, 1) := by decide +kernel
theorem dX7_has_4 : decode cX7_has 4 = .ok (.ifCond .le 16, 3) := by decide +kernel
theorem dX7_has_7 : decode cX7_has 7 = .ok (.iload_n 3, 1) := by decide +kernel
theorem dX7_has_8 : decode cX7_has 8 = .ok (.iload_n 1, 1) := by decide +kernel
theorem dX7_has_9 : decode cX7_has 9 = .ok (.iconst 1, 1) := by decide +kernel
theorem dX7_has_10 : decode cX7_has 10 = .ok (.isub, 1) := by decide +kernel
theorem dX7_has_11 : decode cX7_has 11 = .ok (.invokestatic 48, 3) := by decide +kernel
theorem dX7_has_14 : decode cX7_has 14 = .ok (.ifCond .eq 6, 3) := by decide +kernel
theorem dX7_has_17 : decode cX7_has 17 = .ok (.iinc 4 1, 3) := by decide +kernel
theorem dX7_has_20 : decode cX7_has 20 = .ok (.iload_n 1, 1) := by decide +kernel
theorem dX7_has_21 : decode cX7_has 21 = .ok (.iconst 1, 1) := by decide +kernel
theorem dX7_has_22 : decode cX7_has 22 = .ok (.iadd, 1) := by decide +kernel
theorem dX7_has_23 : decode cX7_has 23 = .ok (.aload_n 0, 1) := by decide +kernel
theorem dX7_has_24 : decode cX7_has 24 = .ok (.getfield 9, 3) := by decide +kernel
theorem dX7_has_27 : decode cX7_has 27 = .ok (.if_icmp .ge 16, 3) := by decide +kernel
theorem dX7_has_30 : decode cX7_has 30 = .ok (.iload_n 3, 1) := by decide +kernel
theorem dX7_has_31 : decode cX7_has 31 = .ok (.iload_n 1, 1) := by decide +kernel
theorem dX7_has_32 : decode cX7_has 32 = .ok (.iconst 1, 1) := by decide +kernel
theorem dX7_has_33 : decode cX7_has 33 = .ok (.iadd, 1) := by decide +kernel
theorem dX7_has_34 : decode cX7_has 34 = .ok (.invokestatic 48, 3) := by decide +kernel
theorem dX7_has_37 : decode cX7_has 37 = .ok (.ifCond .eq 6, 3) := by decide +kernel
theorem dX7_has_40 : decode cX7_has 40 = .ok (.iinc 4 1, 3) := by decide +kernel
theorem dX7_has_43 : decode cX7_has 43 = .ok (.iload_n 2, 1) := by decide +kernel
theorem dX7_has_44 : decode cX7_has 44 = .ok (.ifCond .eq 23, 3) := by decide +kernel
theorem dX7_has_47 : decode cX7_has 47 = .ok (.aload_n 0, 1) := by decide +kernel
theorem dX7_has_48 : decode cX7_has 48 = .ok (.getfield 15, 3) := by decide +kernel
theorem dX7_has_51 : decode cX7_has 51 = .ok (.aload_n 0, 1) := by decide +kernel
theorem dX7_has_52 : decode cX7_has 52 = .ok (.getfield 21, 3) := by decide +kernel
theorem dX7_has_55 : decode cX7_has 55 = .ok (.isub, 1) := by decide +kernel
theorem dX7_has_56 : decode cX7_has 56 = .ok (.iload 4, 2) := by decide +kernel
theorem dX7_has_58 : decode cX7_has 58 = .ok (.aload_n 0, 1) := by decide +kernel
theorem dX7_has_59 : decode cX7_has 59 = .ok (.getfield 18, 3) := by decide +kernel
theorem dX7_has_62 : decode cX7_has 62 = .ok (.imul, 1) := by decide +kernel
theorem dX7_has_63 : decode cX7_has 63 = .ok (.isub, 1) := by decide +kernel
theorem dX7_has_64 : decode cX7_has 64 = .ok (.goto 13, 3) := by decide +kernel
theorem dX7_has_67 : decode cX7_has 67 = .ok (.bipush (-2), 2) := by decide +kernel
theorem dX7_has_69 : decode cX7_has 69 = .ok (.iload 4, 2) := by decide +kernel
theorem dX7_has_71 : decode cX7_has 71 = .ok (.imul, 1) := by decide +kernel
theorem dX7_has_72 : decode cX7_has 72 = .ok (.aload_n 0, 1) := by decide +kernel
theorem dX7_has_73 : decode cX7_has 73 = .ok (.getfield 18, 3) := by decide +kernel
theorem dX7_has_76 : decode cX7_has 76 = .ok (.imul, 1) := by decide +kernel
theorem dX7_has_77 : decode cX7_has 77 = .ok (.ireturn, 1) := by decide +kernel
theorem dX7_rests_0 : decode cX7_rests 0 = .ok (.aload_n 0, 1) := by decide +kernel
theorem dX7_rests_1 : decode cX7_rests 1 = .ok (.getfield 24, 3) := by decide +kernel
theorem dX7_rests_4 : decode cX7_rests 4 = .ok (.ireturn, 1) := by decide +kernel
theorem dX7_bestRest_0 : decode cX7_bestRest 0 = .ok (.aload_n 0, 1) := by decide +kernel
theorem dX7_bestRest_1 : decode cX7_bestRest 1 = .ok (.getfield 27, 3) := by decide +kernel
theorem dX7_bestRest_4 : decode cX7_bestRest 4 = .ok (.ireturn, 1) := by decide +kernel
theorem dX7_mostByRest_0 : decode cX7_mostByRest 0 = .ok (.aload_n 0, 1) := by decide +kernel
theorem dX7_mostByRest_1 : decode cX7_mostByRest 1 = .ok (.getfield 45, 3) := by decide +kernel
theorem dX7_mostByRest_4 : decode cX7_mostByRest 4 = .ok (.ireturn, 1) := by decide +kernel
theorem dX7_mostByAny_0 : decode cX7_mostByAny 0 = .ok (.aload_n 0, 1) := by decide +kernel
theorem dX7_mostByAny_1 : decode cX7_mostByAny 1 = .ok (.getfield 34, 3) := by decide +kernel
theorem dX7_mostByAny_4 : decode cX7_mostByAny 4 = .ok (.ireturn, 1) := by decide +kernel
theorem dX8_init_0 : decode cX8_init 0 = .ok (.aload_n 0, 1) := by decide +kernel
theorem dX8_init_1 : decode cX8_init 1 = .ok (.invokespecial 3, 3) := by decide +kernel
theorem dX8_init_4 : decode cX8_init 4 = .ok (.aload_n 0, 1) := by decide +kernel
theorem dX8_init_5 : decode cX8_init 5 = .ok (.sipush 200, 3) := by decide +kernel
theorem dX8_init_8 : decode cX8_init 8 = .ok (.newarray .int, 2) := by decide +kernel
theorem dX8_init_10 : decode cX8_init 10 = .ok (.putfield 11, 3) := by decide +kernel
theorem dX8_init_13 : decode cX8_init 13 = .ok (.aload_n 0, 1) := by decide +kernel
theorem dX8_init_14 : decode cX8_init 14 = .ok (.iconst 0, 1) := by decide +kernel
theorem dX8_init_15 : decode cX8_init 15 = .ok (.putfield 15, 3) := by decide +kernel
theorem dX8_init_18 : decode cX8_init 18 = .ok (.return_, 1) := by decide +kernel
theorem dX8_length_0 : decode cX8_length 0 = .ok (.aload_n 0, 1) := by decide +kernel
theorem dX8_length_1 : decode cX8_length 1 = .ok (.getfield 15, 3) := by decide +kernel
theorem dX8_length_4 : decode cX8_length 4 = .ok (.ireturn, 1) := by decide +kernel
theorem dX8_hasSpaceFor_0 : decode cX8_hasSpaceFor 0 = .ok (.aload_n 0, 1) := by decide +kernel
theorem dX8_hasSpaceFor_1 : decode cX8_hasSpaceFor 1 = .ok (.getfield 15, 3) := by decide +kernel
theorem dX8_hasSpaceFor_4 : decode cX8_hasSpaceFor 4 = .ok (.iload_n 1, 1) := by decide +kernel
theorem dX8_hasSpaceFor_5 : decode cX8_hasSpaceFor 5 = .ok (.iadd, 1) := by decide +kernel
theorem dX8_hasSpaceFor_6 : decode cX8_hasSpaceFor 6 = .ok (.sipush 200, 3) := by decide +kernel
theorem dX8_hasSpaceFor_9 : decode cX8_hasSpaceFor 9 = .ok (.if_icmp .gt 7, 3) := by decide +kernel
theorem dX8_hasSpaceFor_12 : decode cX8_hasSpaceFor 12 = .ok (.iconst 1, 1) := by decide +kernel
theorem dX8_hasSpaceFor_13 : decode cX8_hasSpaceFor 13 = .ok (.goto 4, 3) := by decide +kernel
theorem dX8_hasSpaceFor_16 : decode cX8_hasSpaceFor 16 = .ok (.iconst 0, 1) := by decide +kernel
theorem dX8_hasSpaceFor_17 : decode cX8_hasSpaceFor 17 = .ok (.ireturn, 1) := by decide +kernel
theorem dX8_add_0 : decode cX8_add 0 = .ok (.aload_n 0, 1) := by decide +kernel
theorem dX8_add_1 : decode cX8_add 1 = .ok (.getfield 15, 3) := by decide +kernel
theorem dX8_add_4 : decode cX8_add 4 = .ok (.sipush 200, 3) := by decide +kernel
theorem dX8_add_7 : decode cX8_add 7 = .ok (.if_icmp .ge 20, 3) := by decide +kernel
theorem dX8_add_10 : decode cX8_add 10 = .ok (.aload_n 0, 1) := by decide +kernel
theorem dX8_add_11 : decode cX8_add 11 = .ok (.getfield 11, 3) := by decide +kernel
theorem dX8_add_14 : decode cX8_add 14 = .ok (.aload_n 0, 1) := by decide +kernel
theorem dX8_add_15 : decode cX8_add 15 = .ok (.dup, 1) := by decide +kernel
theorem dX8_add_16 : decode cX8_add 16 = .ok (.getfield 15, 3) := by decide +kernel
theorem dX8_add_19 : decode cX8_add 19 = .ok (.dup_x1, 1) := by decide +kernel
theorem dX8_add_20 : decode cX8_add 20 = .ok (.iconst 1, 1) := by decide +kernel
theorem dX8_add_21 : decode cX8_add 21 = .ok (.iadd, 1) := by decide +kernel
theorem dX8_add_22 : decode cX8_add 22 = .ok (.putfield 15, 3) := by decide +kernel
theorem dX8_add_25 : decode cX8_add 25 = .ok (.iload_n 1, 1) := by decide +kernel
theorem dX8_add_26 : decode cX8_add 26 = .ok (.iastore, 1) := by decide +kernel
theorem dX8_add_27 : decode cX8_add 27 = .ok (.return_, 1) := by decide +kernel
theorem dX8_clear_0 : decode cX8_clear 0 = .ok (.aload_n 0, 1) := by decide +kernel
theorem dX8_clear_1 : decode cX8_clear 1 = .ok (.iconst 0, 1) := by decide +kernel
theorem dX8_clear_2 : decode cX8_clear 2 = .ok (.putfield 15, 3) := by decide +kernel
theorem dX8_clear_5 : decode cX8_clear 5 = .ok (.return_, 1) := by decide +kernel
theorem dX8_at_0 : decode cX8_at 0 = .ok (.iload_n 1, 1) := by decide +kernel
theorem dX8_at_1 : decode cX8_at 1 = .ok (.ifCond .lt 20, 3) := by decide +kernel
theorem dX8_at_4 : decode cX8_at 4 = .ok (.iload_n 1, 1) := by decide +kernel
theorem dX8_at_5 : decode cX8_at 5 = .ok (.aload_n 0, 1) := by decide +kernel
theorem dX8_at_6 : decode cX8_at 6 = .ok (.getfield 15, 3) := by decide +kernel
theorem dX8_at_9 : decode cX8_at 9 = .ok (.if_icmp .ge 12, 3) := by decide +kernel
theorem dX8_at_12 : decode cX8_at 12 = .ok (.aload_n 0, 1) := by decide +kernel
theorem dX8_at_13 : decode cX8_at 13 = .ok (.getfield 11, 3) := by decide +kernel
theorem dX8_at_16 : decode cX8_at 16 = .ok (.iload_n 1, 1) := by decide +kernel
theorem dX8_at_17 : decode cX8_at 17 = .ok (.iaload, 1) := by decide +kernel
theorem dX8_at_18 : decode cX8_at 18 = .ok (.goto 4, 3) := by decide +kernel
theorem dX8_at_21 : decode cX8_at 21 = .ok (.iconst (-1), 1) := by decide +kernel
theorem dX8_at_22 : decode cX8_at 22 = .ok (.ireturn, 1) := by decide +kernel
theorem dX8_behindBlanks_0 : decode cX8_behindBlanks 0 = .ok (.iload_n 1, 1) := by decide +kernel
theorem dX8_behindBlanks_1 : decode cX8_behindBlanks 1 = .ok (.istore_n 2, 1) := by decide +kernel
theorem dX8_behindBlanks_2 : decode cX8_behindBlanks 2 = .ok (.iload_n 2, 1) := by decide +kernel
theorem dX8_behindBlanks_3 : decode cX8_behindBlanks 3 = .ok (.aload_n 0, 1) := by decide +kernel
theorem dX8_behindBlanks_4 : decode cX8_behindBlanks 4 = .ok (.getfield 15, 3) := by decide +kernel
theorem dX8_behindBlanks_7 : decode cX8_behindBlanks 7 = .ok (.if_icmp .ge 19, 3) := by decide +kernel
theorem dX8_behindBlanks_10 : decode cX8_behindBlanks 10 = .ok (.aload_n 0, 1) := by decide +kernel
theorem dX8_behindBlanks_11 : decode cX8_behindBlanks 11 = .ok (.iload_n 2, 1) := by decide +kernel
theorem dX8_behindBlanks_12 : decode cX8_behindBlanks 12 = .ok (.invokevirtual 19, 3) := by decide +kernel
theorem dX8_behindBlanks_15 : decode cX8_behindBlanks 15 = .ok (.bipush 32, 2) := by decide +kernel
theorem dX8_behindBlanks_17 : decode cX8_behindBlanks 17 = .ok (.if_icmp .ne 9, 3) := by decide +kernel
theorem dX8_behindBlanks_20 : decode cX8_behindBlanks 20 = .ok (.iinc 2 1, 3) := by decide +kernel
theorem dX8_behindBlanks_23 : decode cX8_behindBlanks 23 = .ok (.goto (-21), 3) := by decide +kernel
theorem dX8_behindBlanks_26 : decode cX8_behindBlanks 26 = .ok (.iload_n 2, 1) := by decide +kernel
theorem dX8_behindBlanks_27 : decode cX8_behindBlanks 27 = .ok (.ireturn, 1) := by decide +kernel
theorem dX8_endOfToken_0 : decode cX8_endOfToken 0 = .ok (.iload_n 1, 1) := by decide +kernel
theorem dX8_endOfToken_1 : decode cX8_endOfToken 1 = .ok (.aload_n 0, 1) := by decide +kernel
theorem dX8_endOfToken_2 : decode cX8_endOfToken 2 = .ok (.getfield 15, 3) := by decide +kernel
theorem dX8_endOfToken_5 : decode cX8_endOfToken 5 = .ok (.if_icmp .lt 5, 3) := by decide +kernel
theorem dX8_endOfToken_8 : decode cX8_endOfToken 8 = .ok (.iload_n 1, 1) := by decide +kernel
theorem dX8_endOfToken_9 : decode cX8_endOfToken 9 = .ok (.ireturn, 1) := by decide +kernel
theorem dX8_endOfToken_10 : decode cX8_endOfToken 10 = .ok (.iload_n 1, 1) := by decide +kernel
theorem dX8_endOfToken_11 : decode cX8_endOfToken 11 = .ok (.iconst 1, 1) := by decide +kernel
theorem dX8_endOfToken_12 : decode cX8_endOfToken 12 = .ok (.iadd, 1) := by decide +kernel
theorem dX8_endOfToken_13 : decode cX8_endOfToken 13 = .ok (.istore_n 2, 1) := by decide +kernel
theorem dX8_endOfToken_14 : decode cX8_endOfToken 14 = .ok (.aload_n 0, 1) := by decide +kernel
theorem dX8_endOfToken_15 : decode cX8_endOfToken 15 = .ok (.iload_n 1, 1) := by decide +kernel
theorem dX8_endOfToken_16 : decode cX8_endOfToken 16 = .ok (.invokevirtual 19, 3) := by decide +kernel
theorem dX8_endOfToken_19 : decode cX8_endOfToken 19 = .ok (.invokestatic 23, 3) := by decide +kernel
theorem dX8_endOfToken_22 : decode cX8_endOfToken 22 = .ok (.ifCond .eq 28, 3) := by decide +kernel
theorem dX8_endOfToken_25 : decode cX8_endOfToken 25 = .ok (.iload_n 2, 1) := by decide +kernel
theorem dX8_endOfToken_26 : decode cX8_endOfToken 26 = .ok (.aload_n 0, 1) := by decide +kernel
theorem dX8_endOfToken_27 : decode cX8_endOfToken 27 = .ok (.getfield 15, 3) := by decide +kernel
theorem dX8_endOfToken_30 : decode cX8_endOfToken 30 = .ok (.if_icmp .ge 56, 3) := by decide +kernel
theorem dX8_endOfToken_33 : decode cX8_endOfToken 33 = .ok (.aload_n 0, 1) := by decide +kernel
theorem dX8_endOfToken_34 : decode cX8_endOfToken 34 = .ok (.iload_n 2, 1) := by decide +kernel
theorem dX8_endOfToken_35 : decode cX8_endOfToken 35 = .ok (.invokevirtual 19, 3) := by decide +kernel
theorem dX8_endOfToken_38 : decode cX8_endOfToken 38 = .ok (.invokestatic 23, 3) := by decide +kernel
theorem dX8_endOfToken_41 : decode cX8_endOfToken 41 = .ok (.ifCond .eq 45, 3) := by decide +kernel
theorem dX8_endOfToken_44 : decode cX8_endOfToken 44 = .ok (.iinc 2 1, 3) := by decide +kernel
theorem dX8_endOfToken_47 : decode cX8_endOfToken 47 = .ok (.goto (-22), 3) := by decide +kernel
theorem dX8_endOfToken_50 : decode cX8_endOfToken 50 = .ok (.aload_n 0, 1) := by decide +kernel
theorem dX8_endOfToken_51 : decode cX8_endOfToken 51 = .ok (.iload_n 1, 1) := by decide +kernel
theorem dX8_endOfToken_52 : decode cX8_endOfToken 52 = .ok (.invokevirtual 19, 3) := by decide +kernel
theorem dX8_endOfToken_55 : decode cX8_endOfToken 55 = .ok (.invokestatic 27, 3) := by decide +kernel
theorem dX8_endOfToken_58 : decode cX8_endOfToken 58 = .ok (.ifCond .eq 28, 3) := by decide +kernel
theorem dX8_endOfToken_61 : decode cX8_endOfToken 61 = .ok (.iload_n 2, 1) := by decide +kernel
theorem dX8_endOfToken_62 : decode cX8_endOfToken 62 = .ok (.aload_n 0, 1) := by decide +kernel
theorem dX8_endOfToken_63 : decode cX8_endOfToken 63 = .ok (.getfield 15, 3) := by decide +kernel
theorem dX8_endOfToken_66 : decode cX8_endOfToken 66 = .ok (.if_icmp .ge 20, 3) := by decide +kernel
theorem dX8_endOfToken_69 : decode cX8_endOfToken 69 = .ok (.aload_n 0, 1) := by decide +kernel
theorem dX8_endOfToken_70 : decode cX8_endOfToken 70 = .ok (.iload_n 2, 1) := by decide +kernel
theorem dX8_endOfToken_71 : decode cX8_endOfToken 71 = .ok (.invokevirtual 19, 3) := by decide +kernel
theorem dX8_endOfToken_74 : decode cX8_endOfToken 74 = .ok (.invokestatic 27, 3) := by decide +kernel
theorem dX8_endOfToken_77 : decode cX8_endOfToken 77 = .ok (.ifCond .eq 9, 3) := by decide +kernel
theorem dX8_endOfToken_80 : decode cX8_endOfToken 80 = .ok (.iinc 2 1, 3) := by decide +kernel
theorem dX8_endOfToken_83 : decode cX8_endOfToken 83 = .ok (.goto (-22), 3) := by decide +kernel
theorem dX8_endOfToken_86 : decode cX8_endOfToken 86 = .ok (.iload_n 2, 1) := by decide +kernel
theorem dX8_endOfToken_87 : decode cX8_endOfToken 87 = .ok (.ireturn, 1) := by decide +kernel
theorem dX8_spells_0 : decode cX8_spells 0 = .ok (.iload_n 2, 1) := by decide +kernel
theorem dX8_spells_1 : decode cX8_spells 1 = .ok (.iload_n 1, 1) := by decide +kernel
theorem dX8_spells_2 : decode cX8_spells 2 = .ok (.isub, 1) := by decide +kernel
theorem dX8_spells_3 : decode cX8_spells 3 = .ok (.aload_n 3, 1) := by decide +kernel
theorem dX8_spells_4 : decode cX8_spells 4 = .ok (.invokevirtual 30, 3) := by decide +kernel
theorem dX8_spells_7 : decode cX8_spells 7 = .ok (.if_icmp .eq 5, 3) := by decide +kernel
theorem dX8_spells_10 : decode cX8_spells 10 = .ok (.iconst 0, 1) := by decide +kernel
theorem dX8_spells_11 : decode cX8_spells 11 = .ok (.ireturn, 1) := by decide +kernel
theorem dX8_spells_12 : decode cX8_spells 12 = .ok (.iconst 0, 1) := by decide +kernel
theorem dX8_spells_13 : decode cX8_spells 13 = .ok (.istore 4, 2) := by decide +kernel
theorem dX8_spells_15 : decode cX8_spells 15 = .ok (.iload 4, 2) := by decide +kernel
theorem dX8_spells_17 : decode cX8_spells 17 = .ok (.aload_n 3, 1) := by decide +kernel
theorem dX8_spells_18 : decode cX8_spells 18 = .ok (.invokevirtual 30, 3) := by decide +kernel
theorem dX8_spells_21 : decode cX8_spells 21 = .ok (.if_icmp .ge 28, 3) := by decide +kernel
theorem dX8_spells_24 : decode cX8_spells 24 = .ok (.aload_n 0, 1) := by decide +kernel
theorem dX8_spells_25 : decode cX8_spells 25 = .ok (.iload_n 1, 1) := by decide +kernel
theorem dX8_spells_26 : decode cX8_spells 26 = .ok (.iload 4, 2) := by decide +kernel
theorem dX8_spells_28 : decode cX8_spells 28 = .ok (.iadd, 1) := by decide +kernel
theorem dX8_spells_29 : decode cX8_spells 29 = .ok (.invokevirtual 19, 3) := by decide +kernel
theorem dX8_spells_32 : decode cX8_spells 32 = .ok (.aload_n 3, 1) := by decide +kernel
theorem dX8_spells_33 : decode cX8_spells 33 = .ok (.iload 4, 2) := by decide +kernel
theorem dX8_spells_35 : decode cX8_spells 35 = .ok (.invokevirtual 35, 3) := by decide +kernel
theorem dX8_spells_38 : decode cX8_spells 38 = .ok (.if_icmp .eq 5, 3) := by decide +kernel
theorem dX8_spells_41 : decode cX8_spells 41 = .ok (.iconst 0, 1) := by decide +kernel
theorem dX8_spells_42 : decode cX8_spells 42 = .ok (.ireturn, 1) := by decide +kernel
theorem dX8_spells_43 : decode cX8_spells 43 = .ok (.iinc 4 1, 3) := by decide +kernel
theorem dX8_spells_46 : decode cX8_spells 46 = .ok (.goto (-31), 3) := by decide +kernel
theorem dX8_spells_49 : decode cX8_spells 49 = .ok (.iconst 1, 1) := by decide +kernel
theorem dX8_spells_50 : decode cX8_spells 50 = .ok (.ireturn, 1) := by decide +kernel
theorem dX8_numberIn_0 : decode cX8_numberIn 0 = .ok (.iload_n 2, 1) := by decide +kernel
theorem dX8_numberIn_1 : decode cX8_numberIn 1 = .ok (.iload_n 1, 1) := by decide +kernel
theorem dX8_numberIn_2 : decode cX8_numberIn 2 = .ok (.isub, 1) := by decide +kernel
theorem dX8_numberIn_3 : decode cX8_numberIn 3 = .ok (.iconst 1, 1) := by decide +kernel
theorem dX8_numberIn_4 : decode cX8_numberIn 4 = .ok (.if_icmp .lt 21, 3) := by decide +kernel
theorem dX8_numberIn_7 : decode cX8_numberIn 7 = .ok (.iload_n 2, 1) := by decide +kernel
theorem dX8_numberIn_8 : decode cX8_numberIn 8 = .ok (.iload_n 1, 1) := by decide +kernel
theorem dX8_numberIn_9 : decode cX8_numberIn 9 = .ok (.isub, 1) := by decide +kernel
theorem dX8_numberIn_10 : decode cX8_numberIn 10 = .ok (.iconst 3, 1) := by decide +kernel
theorem dX8_numberIn_11 : decode cX8_numberIn 11 = .ok (.if_icmp .gt 14, 3) := by decide +kernel
theorem dX8_numberIn_14 : decode cX8_numberIn 14 = .ok (.aload_n 0, 1) := by decide +kernel
theorem dX8_numberIn_15 : decode cX8_numberIn 15 = .ok (.iload_n 1, 1) := by decide +kernel
theorem dX8_numberIn_16 : decode cX8_numberIn 16 = .ok (.invokevirtual 19, 3) := by decide +kernel
theorem dX8_numberIn_19 : decode cX8_numberIn 19 = .ok (.invokestatic 27, 3) := by decide +kernel
theorem dX8_numberIn_22 : decode cX8_numberIn 22 = .ok (.ifCond .ne 5, 3) := by decide +kernel
theorem dX8_numberIn_25 : decode cX8_numberIn 25 = .ok (.iconst (-1), 1) := by decide +kernel
theorem dX8_numberIn_26 : decode cX8_numberIn 26 = .ok (.ireturn, 1) := by decide +kernel
theorem dX8_numberIn_27 : decode cX8_numberIn 27 = .ok (.iconst 0, 1) := by decide +kernel
theorem dX8_numberIn_28 : decode cX8_numberIn 28 = .ok (.istore_n 3, 1) := by decide +kernel
theorem dX8_numberIn_29 : decode cX8_numberIn 29 = .ok (.iload_n 1, 1) := by decide +kernel
theorem dX8_numberIn_30 : decode cX8_numberIn 30 = .ok (.istore 4, 2) := by decide +kernel
theorem dX8_numberIn_32 : decode cX8_numberIn 32 = .ok (.iload 4, 2) := by decide +kernel
theorem dX8_numberIn_34 : decode cX8_numberIn 34 = .ok (.iload_n 2, 1) := by decide +kernel
theorem dX8_numberIn_35 : decode cX8_numberIn 35 = .ok (.if_icmp .ge 24, 3) := by decide +kernel
theorem dX8_numberIn_38 : decode cX8_numberIn 38 = .ok (.iload_n 3, 1) := by decide +kernel
theorem dX8_numberIn_39 : decode cX8_numberIn 39 = .ok (.bipush 10, 2) := by decide +kernel
theorem dX8_numberIn_41 : decode cX8_numberIn 41 = .ok (.imul, 1) := by decide +kernel
theorem dX8_numberIn_42 : decode cX8_numberIn 42 = .ok (.aload_n 0, 1) := by decide +kernel
theorem dX8_numberIn_43 : decode cX8_numberIn 43 = .ok (.iload 4, 2) := by decide +kernel
theorem dX8_numberIn_45 : decode cX8_numberIn 45 = .ok (.invokevirtual 19, 3) := by decide +kernel
theorem dX8_numberIn_48 : decode cX8_numberIn 48 = .ok (.iadd, 1) := by decide +kernel
theorem dX8_numberIn_49 : decode cX8_numberIn 49 = .ok (.bipush 48, 2) := by decide +kernel
theorem dX8_numberIn_51 : decode cX8_numberIn 51 = .ok (.isub, 1) := by decide +kernel
theorem dX8_numberIn_52 : decode cX8_numberIn 52 = .ok (.istore_n 3, 1) := by decide +kernel
theorem dX8_numberIn_53 : decode cX8_numberIn 53 = .ok (.iinc 4 1, 3) := by decide +kernel
theorem dX8_numberIn_56 : decode cX8_numberIn 56 = .ok (.goto (-24), 3) := by decide +kernel
theorem dX8_numberIn_59 : decode cX8_numberIn 59 = .ok (.iload_n 3, 1) := by decide +kernel
theorem dX8_numberIn_60 : decode cX8_numberIn 60 = .ok (.ireturn, 1) := by decide +kernel
theorem dX8_isLetter_0 : decode cX8_isLetter 0 = .ok (.iload_n 0, 1) := by decide +kernel
theorem dX8_isLetter_1 : decode cX8_isLetter 1 = .ok (.bipush 97, 2) := by decide +kernel
theorem dX8_isLetter_3 : decode cX8_isLetter 3 = .ok (.if_icmp .lt 13, 3) := by decide +kernel
theorem dX8_isLetter_6 : decode cX8_isLetter 6 = .ok (.iload_n 0, 1) := by decide +kernel
theorem dX8_isLetter_7 : decode cX8_isLetter 7 = .ok (.bipush 122, 2) := by decide +kernel
theorem dX8_isLetter_9 : decode cX8_isLetter 9 = .ok (.if_icmp .gt 7, 3) := by decide +kernel
theorem dX8_isLetter_12 : decode cX8_isLetter 12 = .ok (.iconst 1, 1) := by decide +kernel
theorem dX8_isLetter_13 : decode cX8_isLetter 13 = .ok (.goto 4, 3) := by decide +kernel
theorem dX8_isLetter_16 : decode cX8_isLetter 16 = .ok (.iconst 0, 1) := by decide +kernel
theorem dX8_isLetter_17 : decode cX8_isLetter 17 = .ok (.ireturn, 1) := by decide +kernel
theorem dX8_isDigit_0 : decode cX8_isDigit 0 = .ok (.iload_n 0, 1) := by decide +kernel
theorem dX8_isDigit_1 : decode cX8_isDigit 1 = .ok (.bipush 48, 2) := by decide +kernel
theorem dX8_isDigit_3 : decode cX8_isDigit 3 = .ok (.if_icmp .lt 13, 3) := by decide +kernel
theorem dX8_isDigit_6 : decode cX8_isDigit 6 = .ok (.iload_n 0, 1) := by decide +kernel
theorem dX8_isDigit_7 : decode cX8_isDigit 7 = .ok (.bipush 57, 2) := by decide +kernel
theorem dX8_isDigit_9 : decode cX8_isDigit 9 = .ok (.if_icmp .gt 7, 3) := by decide +kernel
theorem dX8_isDigit_12 : decode cX8_isDigit 12 = .ok (.iconst 1, 1) := by decide +kernel
theorem dX8_isDigit_13 : decode cX8_isDigit 13 = .ok (.goto 4, 3) := by decide +kernel
theorem dX8_isDigit_16 : decode cX8_isDigit 16 = .ok (.iconst 0, 1) := by decide +kernel
theorem dX8_isDigit_17 : decode cX8_isDigit 17 = .ok (.ireturn, 1) := by decide +kernel
theorem dX9_init_0 : decode cX9_init 0 = .ok (.aload_n 0, 1) := by decide +kernel
theorem dX9_init_1 : decode cX9_init 1 = .ok (.invokespecial 3, 3) := by decide +kernel
theorem dX9_init_4 : decode cX9_init 4 = .ok (.aload_n 0, 1) := by decide +kernel
theorem dX9_init_5 : decode cX9_init 5 = .ok (.bipush 6, 2) := by decide +kernel
theorem dX9_init_7 : decode cX9_init 7 = .ok (.newarray .int, 2) := by decide +kernel
theorem dX9_init_9 : decode cX9_init 9 = .ok (.putfield 11, 3) := by decide +kernel
theorem dX9_init_12 : decode cX9_init 12 = .ok (.aload_n 0, 1) := by decide +kernel
theorem dX9_init_13 : decode cX9_init 13 = .ok (.bipush 6, 2) := by decide +kernel
theorem dX9_init_15 : decode cX9_init 15 = .ok (.newarray .int, 2) := by decide +kernel
theorem dX9_init_17 : decode cX9_init 17 = .ok (.putfield 15, 3) := by decide +kernel
theorem dX9_init_20 : decode cX9_init 20 = .ok (.aload_n 0, 1) := by decide +kernel
theorem dX9_init_21 : decode cX9_init 21 = .ok (.bipush 6, 2) := by decide +kernel
theorem dX9_init_23 : decode cX9_init 23 = .ok (.newarray .int, 2) := by decide +kernel
theorem dX9_init_25 : decode cX9_init 25 = .ok (.putfield 18, 3) := by decide +kernel
theorem dX9_init_28 : decode cX9_init 28 = .ok (.aload_n 0, 1) := by decide +kernel
theorem dX9_init_29 : decode cX9_init 29 = .ok (.bipush 6, 2) := by decide +kernel
theorem dX9_init_31 : decode cX9_init 31 = .ok (.newarray .int, 2) := by decide +kernel
theorem dX9_init_33 : decode cX9_init 33 = .ok (.putfield 21, 3) := by decide +kernel
theorem dX9_init_36 : decode cX9_init 36 = .ok (.aload_n 0, 1) := by decide +kernel
theorem dX9_init_37 : decode cX9_init 37 = .ok (.iconst 0, 1) := by decide +kernel
theorem dX9_init_38 : decode cX9_init 38 = .ok (.putfield 24, 3) := by decide +kernel
theorem dX9_init_41 : decode cX9_init 41 = .ok (.return_, 1) := by decide +kernel
theorem dX9_size_0 : decode cX9_size 0 = .ok (.aload_n 0, 1) := by decide +kernel
theorem dX9_size_1 : decode cX9_size 1 = .ok (.getfield 24, 3) := by decide +kernel
theorem dX9_size_4 : decode cX9_size 4 = .ok (.ireturn, 1) := by decide +kernel
theorem dX9_isFull_0 : decode cX9_isFull 0 = .ok (.aload_n 0, 1) := by decide +kernel
theorem dX9_isFull_1 : decode cX9_isFull 1 = .ok (.getfield 24, 3) := by decide +kernel
theorem dX9_isFull_4 : decode cX9_isFull 4 = .ok (.bipush 6, 2) := by decide +kernel
theorem dX9_isFull_6 : decode cX9_isFull 6 = .ok (.if_icmp .lt 7, 3) := by decide +kernel
theorem dX9_isFull_9 : decode cX9_isFull 9 = .ok (.iconst 1, 1) := by decide +kernel
theorem dX9_isFull_10 : decode cX9_isFull 10 = .ok (.goto 4, 3) := by decide +kernel
theorem dX9_isFull_13 : decode cX9_isFull 13 = .ok (.iconst 0, 1) := by decide +kernel
theorem dX9_isFull_14 : decode cX9_isFull 14 = .ok (.ireturn, 1) := by decide +kernel
theorem dX9_add_0 : decode cX9_add 0 = .ok (.aload_n 0, 1) := by decide +kernel
theorem dX9_add_1 : decode cX9_add 1 = .ok (.invokevirtual 28, 3) := by decide +kernel
theorem dX9_add_4 : decode cX9_add 4 = .ok (.ifCond .eq 6, 3) := by decide +kernel
theorem dX9_add_7 : decode cX9_add 7 = .ok (.bipush (-5), 2) := by decide +kernel
theorem dX9_add_9 : decode cX9_add 9 = .ok (.ireturn, 1) := by decide +kernel
theorem dX9_add_10 : decode cX9_add 10 = .ok (.aload_n 0, 1) := by decide +kernel
theorem dX9_add_11 : decode cX9_add 11 = .ok (.getfield 11, 3) := by decide +kernel
theorem dX9_add_14 : decode cX9_add 14 = .ok (.aload_n 0, 1) := by decide +kernel
theorem dX9_add_15 : decode cX9_add 15 = .ok (.getfield 24, 3) := by decide +kernel
theorem dX9_add_18 : decode cX9_add 18 = .ok (.iload_n 1, 1) := by decide +kernel
theorem dX9_add_19 : decode cX9_add 19 = .ok (.iastore, 1) := by decide +kernel
theorem dX9_add_20 : decode cX9_add 20 = .ok (.aload_n 0, 1) := by decide +kernel
theorem dX9_add_21 : decode cX9_add 21 = .ok (.getfield 15, 3) := by decide +kernel
theorem dX9_add_24 : decode cX9_add 24 = .ok (.aload_n 0, 1) := by decide +kernel
theorem dX9_add_25 : decode cX9_add 25 = .ok (.getfield 24, 3) := by decide +kernel
theorem dX9_add_28 : decode cX9_add 28 = .ok (.iload_n 2, 1) := by decide +kernel
theorem dX9_add_29 : decode cX9_add 29 = .ok (.iastore, 1) := by decide +kernel
theorem dX9_add_30 : decode cX9_add 30 = .ok (.aload_n 0, 1) := by decide +kernel
theorem dX9_add_31 : decode cX9_add 31 = .ok (.getfield 18, 3) := by decide +kernel
theorem dX9_add_34 : decode cX9_add 34 = .ok (.aload_n 0, 1) := by decide +kernel
theorem dX9_add_35 : decode cX9_add 35 = .ok (.getfield 24, 3) := by decide +kernel
theorem dX9_add_38 : decode cX9_add 38 = .ok (.iload_n 3, 1) := by decide +kernel
theorem dX9_add_39 : decode cX9_add 39 = .ok (.iastore, 1) := by decide +kernel
theorem dX9_add_40 : decode cX9_add 40 = .ok (.aload_n 0, 1) := by decide +kernel
theorem dX9_add_41 : decode cX9_add 41 = .ok (.getfield 21, 3) := by decide +kernel
theorem dX9_add_44 : decode cX9_add 44 = .ok (.aload_n 0, 1) := by decide +kernel
theorem dX9_add_45 : decode cX9_add 45 = .ok (.getfield 24, 3) := by decide +kernel
theorem dX9_add_48 : decode cX9_add 48 = .ok (.iload 4, 2) := by decide +kernel
theorem dX9_add_50 : decode cX9_add 50 = .ok (.iastore, 1) := by decide +kernel
theorem dX9_add_51 : decode cX9_add 51 = .ok (.aload_n 0, 1) := by decide +kernel
theorem dX9_add_52 : decode cX9_add 52 = .ok (.dup, 1) := by decide +kernel
theorem dX9_add_53 : decode cX9_add 53 = .ok (.getfield 24, 3) := by decide +kernel
theorem dX9_add_56 : decode cX9_add 56 = .ok (.dup_x1, 1) := by decide +kernel
theorem dX9_add_57 : decode cX9_add 57 = .ok (.iconst 1, 1) := by decide +kernel
theorem dX9_add_58 : decode cX9_add 58 = .ok (.iadd, 1) := by decide +kernel
theorem dX9_add_59 : decode cX9_add 59 = .ok (.putfield 24, 3) := by decide +kernel
theorem dX9_add_62 : decode cX9_add 62 = .ok (.ireturn, 1) := by decide +kernel
theorem dX9_findFor_0 : decode cX9_findFor 0 = .ok (.aload_n 3, 1) := by decide +kernel
theorem dX9_findFor_1 : decode cX9_findFor 1 = .ok (.aload_n 2, 1) := by decide +kernel
theorem dX9_findFor_2 : decode cX9_findFor 2 = .ok (.invokevirtual 32, 3) := by decide +kernel
theorem dX9_findFor_5 : decode cX9_findFor 5 = .ok (.iconst 0, 1) := by decide +kernel
theorem dX9_findFor_6 : decode cX9_findFor 6 = .ok (.istore 5, 2) := by decide +kernel
theorem dX9_findFor_8 : decode cX9_findFor 8 = .ok (.iload 5, 2) := by decide +kernel
theorem dX9_findFor_10 : decode cX9_findFor 10 = .ok (.iconst 1, 1) := by decide +kernel
theorem dX9_findFor_11 : decode cX9_findFor 11 = .ok (.aload_n 0, 1) := by decide +kernel
theorem dX9_findFor_12 : decode cX9_findFor 12 = .ok (.getfield 24, 3) := by decide +kernel
theorem dX9_findFor_15 : decode cX9_findFor 15 = .ok (.ishl, 1) := by decide +kernel
theorem dX9_findFor_16 : decode cX9_findFor 16 = .ok (.if_icmp .ge 75, 3) := by decide +kernel
theorem dX9_findFor_19 : decode cX9_findFor 19 = .ok (.aload_n 0, 1) := by decide +kernel
theorem dX9_findFor_20 : decode cX9_findFor 20 = .ok (.iload 5, 2) := by decide +kernel
theorem dX9_findFor_22 : decode cX9_findFor 22 = .ok (.invokevirtual 38, 3) := by decide +kernel
theorem dX9_findFor_25 : decode cX9_findFor 25 = .ok (.iload_n 1, 1) := by decide +kernel
theorem dX9_findFor_26 : decode cX9_findFor 26 = .ok (.if_icmp .le 6, 3) := by decide +kernel
theorem dX9_findFor_29 : decode cX9_findFor 29 = .ok (.goto 56, 3) := by decide +kernel
theorem dX9_findFor_32 : decode cX9_findFor 32 = .ok (.aload_n 3, 1) := by decide +kernel
theorem dX9_findFor_33 : decode cX9_findFor 33 = .ok (.aload_n 2, 1) := by decide +kernel
theorem dX9_findFor_34 : decode cX9_findFor 34 = .ok (.invokevirtual 42, 3) := by decide +kernel
theorem dX9_findFor_37 : decode cX9_findFor 37 = .ok (.aload_n 0, 1) := by decide +kernel
theorem dX9_findFor_38 : decode cX9_findFor 38 = .ok (.iload 5, 2) := by decide +kernel
theorem dX9_findFor_40 : decode cX9_findFor 40 = .ok (.aload_n 3, 1) := by decide +kernel
theorem dX9_findFor_41 : decode cX9_findFor 41 = .ok (.invokevirtual 45, 3) := by decide +kernel
theorem dX9_findFor_44 : decode cX9_findFor 44 = .ok (.aload 4, 2) := by decide +kernel
theorem dX9_findFor_46 : decode cX9_findFor 46 = .ok (.aload_n 2, 1) := by decide +kernel
theorem dX9_findFor_47 : decode cX9_findFor 47 = .ok (.aload_n 3, 1) := by decide +kernel
theorem dX9_findFor_48 : decode cX9_findFor 48 = .ok (.invokevirtual 49, 3) := by decide +kernel
theorem dX9_findFor_51 : decode cX9_findFor 51 = .ok (.aload 4, 2) := by decide +kernel
theorem dX9_findFor_53 : decode cX9_findFor 53 = .ok (.aload_n 2, 1) := by decide +kernel
theorem dX9_findFor_54 : decode cX9_findFor 54 = .ok (.invokevirtual 55, 3) := by decide +kernel
theorem dX9_findFor_57 : decode cX9_findFor 57 = .ok (.istore 6, 2) := by decide +kernel
theorem dX9_findFor_59 : decode cX9_findFor 59 = .ok (.iload 5, 2) := by decide +kernel
theorem dX9_findFor_61 : decode cX9_findFor 61 = .ok (.ifCond .eq 12, 3) := by decide +kernel
theorem dX9_findFor_64 : decode cX9_findFor 64 = .ok (.iload 6, 2) := by decide +kernel
theorem dX9_findFor_66 : decode cX9_findFor 66 = .ok (.aload_n 0, 1) := by decide +kernel
theorem dX9_findFor_67 : decode cX9_findFor 67 = .ok (.getfield 59, 3) := by decide +kernel
theorem dX9_findFor_70 : decode cX9_findFor 70 = .ok (.if_icmp .ge 15, 3) := by decide +kernel
theorem dX9_findFor_73 : decode cX9_findFor 73 = .ok (.aload_n 0, 1) := by decide +kernel
theorem dX9_findFor_74 : decode cX9_findFor 74 = .ok (.iload 5, 2) := by decide +kernel
theorem dX9_findFor_76 : decode cX9_findFor 76 = .ok (.putfield 62, 3) := by decide +kernel
theorem dX9_findFor_79 : decode cX9_findFor 79 = .ok (.aload_n 0, 1) := by decide +kernel
theorem dX9_findFor_80 : decode cX9_findFor 80 = .ok (.iload 6, 2) := by decide +kernel
theorem dX9_findFor_82 : decode cX9_findFor 82 = .ok (.putfield 59, 3) := by decide +kernel
theorem dX9_findFor_85 : decode cX9_findFor 85 = .ok (.iinc 5 1, 3) := by decide +kernel
theorem dX9_findFor_88 : decode cX9_findFor 88 = .ok (.goto (-80), 3) := by decide +kernel
theorem dX9_findFor_91 : decode cX9_findFor 91 = .ok (.return_, 1) := by decide +kernel
theorem dX9_costOf_0 : decode cX9_costOf 0 = .ok (.iconst 0, 1) := by decide +kernel
theorem dX9_costOf_1 : decode cX9_costOf 1 = .ok (.istore_n 2, 1) := by decide +kernel
theorem dX9_costOf_2 : decode cX9_costOf 2 = .ok (.iconst 0, 1) := by decide +kernel
theorem dX9_costOf_3 : decode cX9_costOf 3 = .ok (.istore_n 3, 1) := by decide +kernel
theorem dX9_costOf_4 : decode cX9_costOf 4 = .ok (.iload_n 3, 1) := by decide +kernel
theorem dX9_costOf_5 : decode cX9_costOf 5 = .ok (.aload_n 0, 1) := by decide +kernel
theorem dX9_costOf_6 : decode cX9_costOf 6 = .ok (.getfield 24, 3) := by decide +kernel
theorem dX9_costOf_9 : decode cX9_costOf 9 = .ok (.if_icmp .ge 26, 3) := by decide +kernel
theorem dX9_costOf_12 : decode cX9_costOf 12 = .ok (.iload_n 1, 1) := by decide +kernel
theorem dX9_costOf_13 : decode cX9_costOf 13 = .ok (.iload_n 3, 1) := by decide +kernel
theorem dX9_costOf_14 : decode cX9_costOf 14 = .ok (.invokestatic 65, 3) := by decide +kernel
theorem dX9_costOf_17 : decode cX9_costOf 17 = .ok (.ifCond .eq 12, 3) := by decide +kernel
theorem dX9_costOf_20 : decode cX9_costOf 20 = .ok (.iload_n 2, 1) := by decide +kernel
theorem dX9_costOf_21 : decode cX9_costOf 21 = .ok (.aload_n 0, 1) := by decide +kernel
theorem dX9_costOf_22 : decode cX9_costOf 22 = .ok (.getfield 15, 3) := by decide +kernel
theorem dX9_costOf_25 : decode cX9_costOf 25 = .ok (.iload_n 3, 1) := by decide +kernel
theorem dX9_costOf_26 : decode cX9_costOf 26 = .ok (.iaload, 1) := by decide +kernel
theorem dX9_costOf_27 : decode cX9_costOf 27 = .ok (.iadd, 1) := by decide +kernel
theorem dX9_costOf_28 : decode cX9_costOf 28 = .ok (.istore_n 2, 1) := by decide +kernel
theorem dX9_costOf_29 : decode cX9_costOf 29 = .ok (.iinc 3 1, 3) := by decide +kernel
theorem dX9_costOf_32 : decode cX9_costOf 32 = .ok (.goto (-28), 3) := by decide +kernel
theorem dX9_costOf_35 : decode cX9_costOf 35 = .ok (.iload_n 2, 1) := by decide +kernel
theorem dX9_costOf_36 : decode cX9_costOf 36 = .ok (.ireturn, 1) := by decide +kernel
theorem dX9_put_0 : decode cX9_put 0 = .ok (.iconst 0, 1) := by decide +kernel
theorem dX9_put_1 : decode cX9_put 1 = .ok (.istore_n 3, 1) := by decide +kernel
theorem dX9_put_2 : decode cX9_put 2 = .ok (.iload_n 3, 1) := by decide +kernel
theorem dX9_put_3 : decode cX9_put 3 = .ok (.aload_n 0, 1) := by decide +kernel
theorem dX9_put_4 : decode cX9_put 4 = .ok (.getfield 24, 3) := by decide +kernel
theorem dX9_put_7 : decode cX9_put 7 = .ok (.if_icmp .ge 39, 3) := by decide +kernel
theorem dX9_put_10 : decode cX9_put 10 = .ok (.iload_n 1, 1) := by decide +kernel
theorem dX9_put_11 : decode cX9_put 11 = .ok (.iload_n 3, 1) := by decide +kernel
theorem dX9_put_12 : decode cX9_put 12 = .ok (.invokestatic 65, 3) := by decide +kernel
theorem dX9_put_15 : decode cX9_put 15 = .ok (.ifCond .eq 25, 3) := by decide +kernel
theorem dX9_put_18 : decode cX9_put 18 = .ok (.aload_n 2, 1) := by decide +kernel
theorem dX9_put_19 : decode cX9_put 19 = .ok (.aload_n 0, 1) := by decide +kernel
theorem dX9_put_20 : decode cX9_put 20 = .ok (.getfield 11, 3) := by decide +kernel
theorem dX9_put_23 : decode cX9_put 23 = .ok (.iload_n 3, 1) := by decide +kernel
theorem dX9_put_24 : decode cX9_put 24 = .ok (.iaload, 1) := by decide +kernel
theorem dX9_put_25 : decode cX9_put 25 = .ok (.aload_n 0, 1) := by decide +kernel
theorem dX9_put_26 : decode cX9_put 26 = .ok (.getfield 18, 3) := by decide +kernel
theorem dX9_put_29 : decode cX9_put 29 = .ok (.iload_n 3, 1) := by decide +kernel
theorem dX9_put_30 : decode cX9_put 30 = .ok (.iaload, 1) := by decide +kernel
theorem dX9_put_31 : decode cX9_put 31 = .ok (.aload_n 0, 1) := by decide +kernel
theorem dX9_put_32 : decode cX9_put 32 = .ok (.getfield 21, 3) := by decide +kernel
theorem dX9_put_35 : decode cX9_put 35 = .ok (.iload_n 3, 1) := by decide +kernel
theorem dX9_put_36 : decode cX9_put 36 = .ok (.iaload, 1) := by decide +kernel
theorem dX9_put_37 : decode cX9_put 37 = .ok (.invokevirtual 69, 3) := by decide +kernel
theorem dX9_put_40 : decode cX9_put 40 = .ok (.iinc 3 1, 3) := by decide +kernel
theorem dX9_put_43 : decode cX9_put 43 = .ok (.goto (-41), 3) := by decide +kernel
theorem dX9_put_46 : decode cX9_put 46 = .ok (.return_, 1) := by decide +kernel
theorem dX9_bestSet_0 : decode cX9_bestSet 0 = .ok (.aload_n 0, 1) := by decide +kernel
theorem dX9_bestSet_1 : decode cX9_bestSet 1 = .ok (.getfield 62, 3) := by decide +kernel
theorem dX9_bestSet_4 : decode cX9_bestSet 4 = .ok (.ireturn, 1) := by decide +kernel
theorem dX9_bestNight_0 : decode cX9_bestNight 0 = .ok (.aload_n 0, 1) := by decide +kernel
theorem dX9_bestNight_1 : decode cX9_bestNight 1 = .ok (.getfield 59, 3) := by decide +kernel
theorem dX9_bestNight_4 : decode cX9_bestNight 4 = .ok (.ireturn, 1) := by decide +kernel
theorem dX10_init_0 : decode cX10_init 0 = .ok (.aload_n 0, 1) := by decide +kernel
theorem dX10_init_1 : decode cX10_init 1 = .ok (.invokespecial 3, 3) := by decide +kernel
theorem dX10_init_4 : decode cX10_init 4 = .ok (.aload_n 0, 1) := by decide +kernel
theorem dX10_init_5 : decode cX10_init 5 = .ok (.new 9, 3) := by decide +kernel
theorem dX10_init_8 : decode cX10_init 8 = .ok (.dup, 1) := by decide +kernel
theorem dX10_init_9 : decode cX10_init 9 = .ok (.invokespecial 11, 3) := by decide +kernel
theorem dX10_init_12 : decode cX10_init 12 = .ok (.putfield 12, 3) := by decide +kernel
theorem dX10_init_15 : decode cX10_init 15 = .ok (.aload_n 0, 1) := by decide +kernel
theorem dX10_init_16 : decode cX10_init 16 = .ok (.new 16, 3) := by decide +kernel
theorem dX10_init_19 : decode cX10_init 19 = .ok (.dup, 1) := by decide +kernel
theorem dX10_init_20 : decode cX10_init 20 = .ok (.invokespecial 18, 3) := by decide +kernel
theorem dX10_init_23 : decode cX10_init 23 = .ok (.putfield 19, 3) := by decide +kernel
theorem dX10_init_26 : decode cX10_init 26 = .ok (.aload_n 0, 1) := by decide +kernel
theorem dX10_init_27 : decode cX10_init 27 = .ok (.new 23, 3) := by decide +kernel
theorem dX10_init_30 : decode cX10_init 30 = .ok (.dup, 1) := by decide +kernel
theorem dX10_init_31 : decode cX10_init 31 = .ok (.invokespecial 25, 3) := by decide +kernel
theorem dX10_init_34 : decode cX10_init 34 = .ok (.putfield 26, 3) := by decide +kernel
theorem dX10_init_37 : decode cX10_init 37 = .ok (.aload_n 0, 1) := by decide +kernel
theorem dX10_init_38 : decode cX10_init 38 = .ok (.new 30, 3) := by decide +kernel
theorem dX10_init_41 : decode cX10_init 41 = .ok (.dup, 1) := by decide +kernel
theorem dX10_init_42 : decode cX10_init 42 = .ok (.invokespecial 32, 3) := by decide +kernel
theorem dX10_init_45 : decode cX10_init 45 = .ok (.putfield 33, 3) := by decide +kernel
theorem dX10_init_48 : decode cX10_init 48 = .ok (.aload_n 0, 1) := by decide +kernel
theorem dX10_init_49 : decode cX10_init 49 = .ok (.new 37, 3) := by decide +kernel
theorem dX10_init_52 : decode cX10_init 52 = .ok (.dup, 1) := by decide +kernel
theorem dX10_init_53 : decode cX10_init 53 = .ok (.invokespecial 39, 3) := by decide +kernel
theorem dX10_init_56 : decode cX10_init 56 = .ok (.putfield 40, 3) := by decide +kernel
theorem dX10_init_59 : decode cX10_init 59 = .ok (.aload_n 0, 1) := by decide +kernel
theorem dX10_init_60 : decode cX10_init 60 = .ok (.new 37, 3) := by decide +kernel
theorem dX10_init_63 : decode cX10_init 63 = .ok (.dup, 1) := by decide +kernel
theorem dX10_init_64 : decode cX10_init 64 = .ok (.invokespecial 39, 3) := by decide +kernel
theorem dX10_init_67 : decode cX10_init 67 = .ok (.putfield 44, 3) := by decide +kernel
theorem dX10_init_70 : decode cX10_init 70 = .ok (.aload_n 0, 1) := by decide +kernel
theorem dX10_init_71 : decode cX10_init 71 = .ok (.new 47, 3) := by decide +kernel
theorem dX10_init_74 : decode cX10_init 74 = .ok (.dup, 1) := by decide +kernel
theorem dX10_init_75 : decode cX10_init 75 = .ok (.invokespecial 49, 3) := by decide +kernel
theorem dX10_init_78 : decode cX10_init 78 = .ok (.putfield 50, 3) := by decide +kernel
theorem dX10_init_81 : decode cX10_init 81 = .ok (.aload_n 0, 1) := by decide +kernel
theorem dX10_init_82 : decode cX10_init 82 = .ok (.new 54, 3) := by decide +kernel
theorem dX10_init_85 : decode cX10_init 85 = .ok (.dup, 1) := by decide +kernel
theorem dX10_init_86 : decode cX10_init 86 = .ok (.invokespecial 56, 3) := by decide +kernel
theorem dX10_init_89 : decode cX10_init 89 = .ok (.putfield 57, 3) := by decide +kernel
theorem dX10_init_92 : decode cX10_init 92 = .ok (.aload_n 0, 1) := by decide +kernel
theorem dX10_init_93 : decode cX10_init 93 = .ok (.new 61, 3) := by decide +kernel
theorem dX10_init_96 : decode cX10_init 96 = .ok (.dup, 1) := by decide +kernel
theorem dX10_init_97 : decode cX10_init 97 = .ok (.invokespecial 63, 3) := by decide +kernel
theorem dX10_init_100 : decode cX10_init 100 = .ok (.putfield 64, 3) := by decide +kernel
theorem dX10_init_103 : decode cX10_init 103 = .ok (.aload_n 0, 1) := by decide +kernel
theorem dX10_init_104 : decode cX10_init 104 = .ok (.new 68, 3) := by decide +kernel
theorem dX10_init_107 : decode cX10_init 107 = .ok (.dup, 1) := by decide +kernel
theorem dX10_init_108 : decode cX10_init 108 = .ok (.invokespecial 70, 3) := by decide +kernel
theorem dX10_init_111 : decode cX10_init 111 = .ok (.putfield 71, 3) := by decide +kernel
theorem dX10_init_114 : decode cX10_init 114 = .ok (.aload_n 0, 1) := by decide +kernel
theorem dX10_init_115 : decode cX10_init 115 = .ok (.new 75, 3) := by decide +kernel
theorem dX10_init_118 : decode cX10_init 118 = .ok (.dup, 1) := by decide +kernel
theorem dX10_init_119 : decode cX10_init 119 = .ok (.invokespecial 77, 3) := by decide +kernel
theorem dX10_init_122 : decode cX10_init 122 = .ok (.putfield 78, 3) := by decide +kernel
theorem dX10_init_125 : decode cX10_init 125 = .ok (.aload_n 0, 1) := by decide +kernel
theorem dX10_init_126 : decode cX10_init 126 = .ok (.iconst 0, 1) := by decide +kernel
theorem dX10_init_127 : decode cX10_init 127 = .ok (.putfield 82, 3) := by decide +kernel
theorem dX10_init_130 : decode cX10_init 130 = .ok (.return_, 1) := by decide +kernel
theorem dX10_write_0 : decode cX10_write 0 = .ok (.iload_n 3, 1) := by decide +kernel
theorem dX10_write_1 : decode cX10_write 1 = .ok (.iconst 1, 1) := by decide +kernel
theorem dX10_write_2 : decode cX10_write 2 = .ok (.bipush 8, 2) := by decide +kernel
theorem dX10_write_4 : decode cX10_write 4 = .ok (.invokestatic 86, 3) := by decide +kernel
theorem dX10_write_7 : decode cX10_write 7 = .ok (.ifCond .ne 6, 3) := by decide +kernel
theorem dX10_write_10 : decode cX10_write 10 = .ok (.bipush (-3), 2) := by decide +kernel
theorem dX10_write_12 : decode cX10_write 12 = .ok (.ireturn, 1) := by decide +kernel
theorem dX10_write_13 : decode cX10_write 13 = .ok (.aload_n 0, 1) := by decide +kernel
theorem dX10_write_14 : decode cX10_write 14 = .ok (.getfield 12, 3) := by decide +kernel
theorem dX10_write_17 : decode cX10_write 17 = .ok (.iload_n 3, 1) := by decide +kernel
theorem dX10_write_18 : decode cX10_write 18 = .ok (.invokevirtual 90, 3) := by decide +kernel
theorem dX10_write_21 : decode cX10_write 21 = .ok (.ifCond .ne 6, 3) := by decide +kernel
theorem dX10_write_24 : decode cX10_write 24 = .ok (.bipush (-5), 2) := by decide +kernel
theorem dX10_write_26 : decode cX10_write 26 = .ok (.ireturn, 1) := by decide +kernel
theorem dX10_write_27 : decode cX10_write 27 = .ok (.iconst 0, 1) := by decide +kernel
theorem dX10_write_28 : decode cX10_write 28 = .ok (.istore 4, 2) := by decide +kernel
theorem dX10_write_30 : decode cX10_write 30 = .ok (.iload 4, 2) := by decide +kernel
theorem dX10_write_32 : decode cX10_write 32 = .ok (.iload_n 3, 1) := by decide +kernel
theorem dX10_write_33 : decode cX10_write 33 = .ok (.if_icmp .ge 28, 3) := by decide +kernel
theorem dX10_write_36 : decode cX10_write 36 = .ok (.aload_n 0, 1) := by decide +kernel
theorem dX10_write_37 : decode cX10_write 37 = .ok (.getfield 12, 3) := by decide +kernel
theorem dX10_write_40 : decode cX10_write 40 = .ok (.lload_n 1, 1) := by decide +kernel
theorem dX10_write_41 : decode cX10_write 41 = .ok (.bipush 8, 2) := by decide +kernel
theorem dX10_write_43 : decode cX10_write 43 = .ok (.iload 4, 2) := by decide +kernel
theorem dX10_write_45 : decode cX10_write 45 = .ok (.imul, 1) := by decide +kernel
theorem dX10_write_46 : decode cX10_write 46 = .ok (.lshr, 1) := by decide +kernel
theorem dX10_write_47 : decode cX10_write 47 = .ok (.ldc2_w 94, 3) := by decide +kernel
theorem dX10_write_50 : decode cX10_write 50 = .ok (.land, 1) := by decide +kernel
theorem dX10_write_51 : decode cX10_write 51 = .ok (.l2i, 1) := by decide +kernel
theorem dX10_write_52 : decode cX10_write 52 = .ok (.invokevirtual 96, 3) := by decide +kernel
theorem dX10_write_55 : decode cX10_write 55 = .ok (.iinc 4 1, 3) := by decide +kernel
theorem dX10_write_58 : decode cX10_write 58 = .ok (.goto (-28), 3) := by decide +kernel
theorem dX10_write_61 : decode cX10_write 61 = .ok (.aload_n 0, 1) := by decide +kernel
theorem dX10_write_62 : decode cX10_write 62 = .ok (.getfield 12, 3) := by decide +kernel
theorem dX10_write_65 : decode cX10_write 65 = .ok (.invokevirtual 100, 3) := by decide +kernel
theorem dX10_write_68 : decode cX10_write 68 = .ok (.ireturn, 1) := by decide +kernel
theorem dX10_erase_0 : decode cX10_erase 0 = .ok (.aload_n 0, 1) := by decide +kernel
theorem dX10_erase_1 : decode cX10_erase 1 = .ok (.getfield 12, 3) := by decide +kernel
theorem dX10_erase_4 : decode cX10_erase 4 = .ok (.invokevirtual 100, 3) := by decide +kernel
theorem dX10_erase_7 : decode cX10_erase 7 = .ok (.istore_n 1, 1) := by decide +kernel
theorem dX10_erase_8 : decode cX10_erase 8 = .ok (.aload_n 0, 1) := by decide +kernel
theorem dX10_erase_9 : decode cX10_erase 9 = .ok (.getfield 12, 3) := by decide +kernel
theorem dX10_erase_12 : decode cX10_erase 12 = .ok (.invokevirtual 104, 3) := by decide +kernel
theorem dX10_erase_15 : decode cX10_erase 15 = .ok (.iload_n 1, 1) := by decide +kernel
theorem dX10_erase_16 : decode cX10_erase 16 = .ok (.ireturn, 1) := by decide +kernel
theorem dX10_fault_0 : decode cX10_fault 0 = .ok (.aload_n 0, 1) := by decide +kernel
theorem dX10_fault_1 : decode cX10_fault 1 = .ok (.getfield 19, 3) := by decide +kernel
theorem dX10_fault_4 : decode cX10_fault 4 = .ok (.aload_n 0, 1) := by decide +kernel
theorem dX10_fault_5 : decode cX10_fault 5 = .ok (.getfield 12, 3) := by decide +kernel
theorem dX10_fault_8 : decode cX10_fault 8 = .ok (.invokevirtual 107, 3) := by decide +kernel
theorem dX10_fault_11 : decode cX10_fault 11 = .ok (.ireturn, 1) := by decide +kernel
theorem dX10_week_0 : decode cX10_week 0 = .ok (.aload_n 0, 1) := by decide +kernel
theorem dX10_week_1 : decode cX10_week 1 = .ok (.getfield 19, 3) := by decide +kernel
theorem dX10_week_4 : decode cX10_week 4 = .ok (.aload_n 0, 1) := by decide +kernel
theorem dX10_week_5 : decode cX10_week 5 = .ok (.getfield 12, 3) := by decide +kernel
theorem dX10_week_8 : decode cX10_week 8 = .ok (.invokevirtual 107, 3) := by decide +kernel
theorem dX10_week_11 : decode cX10_week 11 = .ok (.iconst (-1), 1) := by decide +kernel
theorem dX10_week_12 : decode cX10_week 12 = .ok (.if_icmp .eq 6, 3) := by decide +kernel
theorem dX10_week_15 : decode cX10_week 15 = .ok (.bipush (-4), 2) := by decide +kernel
theorem dX10_week_17 : decode cX10_week 17 = .ok (.ireturn, 1) := by decide +kernel
theorem dX10_week_18 : decode cX10_week 18 = .ok (.aload_n 0, 1) := by decide +kernel
theorem dX10_week_19 : decode cX10_week 19 = .ok (.getfield 19, 3) := by decide +kernel
theorem dX10_week_22 : decode cX10_week 22 = .ok (.invokevirtual 111, 3) := by decide +kernel
theorem dX10_week_25 : decode cX10_week 25 = .ok (.istore_n 1, 1) := by decide +kernel
theorem dX10_week_26 : decode cX10_week 26 = .ok (.iconst 0, 1) := by decide +kernel
theorem dX10_week_27 : decode cX10_week 27 = .ok (.istore_n 2, 1) := by decide +kernel
theorem dX10_week_28 : decode cX10_week 28 = .ok (.iload_n 2, 1) := by decide +kernel
theorem dX10_week_29 : decode cX10_week 29 = .ok (.iload_n 1, 1) := by decide +kernel
theorem dX10_week_30 : decode cX10_week 30 = .ok (.if_icmp .ge 32, 3) := by decide +kernel
theorem dX10_week_33 : decode cX10_week 33 = .ok (.aload_n 0, 1) := by decide +kernel
theorem dX10_week_34 : decode cX10_week 34 = .ok (.getfield 26, 3) := by decide +kernel
theorem dX10_week_37 : decode cX10_week 37 = .ok (.aload_n 0, 1) := by decide +kernel
theorem dX10_week_38 : decode cX10_week 38 = .ok (.getfield 19, 3) := by decide +kernel
theorem dX10_week_41 : decode cX10_week 41 = .ok (.iload_n 2, 1) := by decide +kernel
theorem dX10_week_42 : decode cX10_week 42 = .ok (.invokevirtual 114, 3) := by decide +kernel
theorem dX10_week_45 : decode cX10_week 45 = .ok (.aload_n 0, 1) := by decide +kernel
theorem dX10_week_46 : decode cX10_week 46 = .ok (.getfield 19, 3) := by decide +kernel
theorem dX10_week_49 : decode cX10_week 49 = .ok (.iload_n 2, 1) := by decide +kernel
theorem dX10_week_50 : decode cX10_week 50 = .ok (.invokevirtual 118, 3) := by decide +kernel
theorem dX10_week_53 : decode cX10_week 53 = .ok (.invokevirtual 122, 3) := by decide +kernel
theorem dX10_week_56 : decode cX10_week 56 = .ok (.iinc 2 1, 3) := by decide +kernel
theorem dX10_week_59 : decode cX10_week 59 = .ok (.goto (-31), 3) := by decide +kernel
theorem dX10_week_62 : decode cX10_week 62 = .ok (.aload_n 0, 1) := by decide +kernel
theorem dX10_week_63 : decode cX10_week 63 = .ok (.getfield 12, 3) := by decide +kernel
theorem dX10_week_66 : decode cX10_week 66 = .ok (.invokevirtual 104, 3) := by decide +kernel
theorem dX10_week_69 : decode cX10_week 69 = .ok (.aload_n 0, 1) := by decide +kernel
theorem dX10_week_70 : decode cX10_week 70 = .ok (.iconst 0, 1) := by decide +kernel
theorem dX10_week_71 : decode cX10_week 71 = .ok (.putfield 82, 3) := by decide +kernel
theorem dX10_week_74 : decode cX10_week 74 = .ok (.aload_n 0, 1) := by decide +kernel
theorem dX10_week_75 : decode cX10_week 75 = .ok (.getfield 50, 3) := by decide +kernel
theorem dX10_week_78 : decode cX10_week 78 = .ok (.invokevirtual 126, 3) := by decide +kernel
theorem dX10_week_81 : decode cX10_week 81 = .ok (.iload_n 1, 1) := by decide +kernel
theorem dX10_week_82 : decode cX10_week 82 = .ok (.ireturn, 1) := by decide +kernel
theorem dX10_room_0 : decode cX10_room 0 = .ok (.aload_n 0, 1) := by decide +kernel
theorem dX10_room_1 : decode cX10_room 1 = .ok (.getfield 26, 3) := by decide +kernel
theorem dX10_room_4 : decode cX10_room 4 = .ok (.iload_n 1, 1) := by decide +kernel
theorem dX10_room_5 : decode cX10_room 5 = .ok (.invokevirtual 129, 3) := by decide +kernel
theorem dX10_room_8 : decode cX10_room 8 = .ok (.ifCond .ne 6, 3) := by decide +kernel
theorem dX10_room_11 : decode cX10_room 11 = .ok (.bipush (-2), 2) := by decide +kernel
theorem dX10_room_13 : decode cX10_room 13 = .ok (.ireturn, 1) := by decide +kernel
theorem dX10_room_14 : decode cX10_room 14 = .ok (.iload_n 2, 1) := by decide +kernel
theorem dX10_room_15 : decode cX10_room 15 = .ok (.tableswitch 104 0 6 #[41, 50, 59, 68, 77, 86, 95], 41) := by decide +kernel
theorem dX10_room_56 : decode cX10_room 56 = .ok (.aload_n 0, 1) := by decide +kernel
theorem dX10_room_57 : decode cX10_room 57 = .ok (.getfield 26, 3) := by decide +kernel
theorem dX10_room_60 : decode cX10_room 60 = .ok (.iload_n 1, 1) := by decide +kernel
theorem dX10_room_61 : decode cX10_room 61 = .ok (.invokevirtual 132, 3) := by decide +kernel
theorem dX10_room_64 : decode cX10_room 64 = .ok (.ireturn, 1) := by decide +kernel
theorem dX10_room_65 : decode cX10_room 65 = .ok (.aload_n 0, 1) := by decide +kernel
theorem dX10_room_66 : decode cX10_room 66 = .ok (.getfield 26, 3) := by decide +kernel
theorem dX10_room_69 : decode cX10_room 69 = .ok (.iload_n 1, 1) := by decide +kernel
theorem dX10_room_70 : decode cX10_room 70 = .ok (.invokevirtual 135, 3) := by decide +kernel
theorem dX10_room_73 : decode cX10_room 73 = .ok (.ireturn, 1) := by decide +kernel
theorem dX10_room_74 : decode cX10_room 74 = .ok (.aload_n 0, 1) := by decide +kernel
theorem dX10_room_75 : decode cX10_room 75 = .ok (.getfield 26, 3) := by decide +kernel
theorem dX10_room_78 : decode cX10_room 78 = .ok (.iload_n 1, 1) := by decide +kernel
theorem dX10_room_79 : decode cX10_room 79 = .ok (.invokevirtual 138, 3) := by decide +kernel
theorem dX10_room_82 : decode cX10_room 82 = .ok (.ireturn, 1) := by decide +kernel
theorem dX10_room_83 : decode cX10_room 83 = .ok (.aload_n 0, 1) := by decide +kernel
theorem dX10_room_84 : decode cX10_room 84 = .ok (.getfield 26, 3) := by decide +kernel
theorem dX10_room_87 : decode cX10_room 87 = .ok (.iload_n 1, 1) := by decide +kernel
theorem dX10_room_88 : decode cX10_room 88 = .ok (.invokevirtual 141, 3) := by decide +kernel
theorem dX10_room_91 : decode cX10_room 91 = .ok (.ireturn, 1) := by decide +kernel
theorem dX10_room_92 : decode cX10_room 92 = .ok (.aload_n 0, 1) := by decide +kernel
theorem dX10_room_93 : decode cX10_room 93 = .ok (.getfield 26, 3) := by decide +kernel
theorem dX10_room_96 : decode cX10_room 96 = .ok (.iload_n 1, 1) := by decide +kernel
theorem dX10_room_97 : decode cX10_room 97 = .ok (.invokevirtual 144, 3) := by decide +kernel
theorem dX10_room_100 : decode cX10_room 100 = .ok (.ireturn, 1) := by decide +kernel
theorem dX10_room_101 : decode cX10_room 101 = .ok (.aload_n 0, 1) := by decide +kernel
theorem dX10_room_102 : decode cX10_room 102 = .ok (.getfield 26, 3) := by decide +kernel
theorem dX10_room_105 : decode cX10_room 105 = .ok (.iload_n 1, 1) := by decide +kernel
theorem dX10_room_106 : decode cX10_room 106 = .ok (.invokevirtual 147, 3) := by decide +kernel
theorem dX10_room_109 : decode cX10_room 109 = .ok (.ireturn, 1) := by decide +kernel
theorem dX10_room_110 : decode cX10_room 110 = .ok (.aload_n 0, 1) := by decide +kernel
theorem dX10_room_111 : decode cX10_room 111 = .ok (.getfield 26, 3) := by decide +kernel
theorem dX10_room_114 : decode cX10_room 114 = .ok (.iload_n 1, 1) := by decide +kernel
theorem dX10_room_115 : decode cX10_room 115 = .ok (.invokevirtual 150, 3) := by decide +kernel
theorem dX10_room_118 : decode cX10_room 118 = .ok (.ireturn, 1) := by decide +kernel
theorem dX10_room_119 : decode cX10_room 119 = .ok (.bipush (-3), 2) := by decide +kernel
theorem dX10_room_121 : decode cX10_room 121 = .ok (.ireturn, 1) := by decide +kernel
theorem dX10_door_0 : decode cX10_door 0 = .ok (.iload_n 1, 1) := by decide +kernel
theorem dX10_door_1 : decode cX10_door 1 = .ok (.invokestatic 153, 3) := by decide +kernel
theorem dX10_door_4 : decode cX10_door 4 = .ok (.ifCond .eq 15, 3) := by decide +kernel
theorem dX10_door_7 : decode cX10_door 7 = .ok (.iload_n 2, 1) := by decide +kernel
theorem dX10_door_8 : decode cX10_door 8 = .ok (.invokestatic 153, 3) := by decide +kernel
theorem dX10_door_11 : decode cX10_door 11 = .ok (.ifCond .eq 8, 3) := by decide +kernel
theorem dX10_door_14 : decode cX10_door 14 = .ok (.iload_n 1, 1) := by decide +kernel
theorem dX10_door_15 : decode cX10_door 15 = .ok (.iload_n 2, 1) := by decide +kernel
theorem dX10_door_16 : decode cX10_door 16 = .ok (.if_icmp .ne 6, 3) := by decide +kernel
theorem dX10_door_19 : decode cX10_door 19 = .ok (.bipush (-2), 2) := by decide +kernel
theorem dX10_door_21 : decode cX10_door 21 = .ok (.ireturn, 1) := by decide +kernel
theorem dX10_door_22 : decode cX10_door 22 = .ok (.aload_n 0, 1) := by decide +kernel
theorem dX10_door_23 : decode cX10_door 23 = .ok (.getfield 26, 3) := by decide +kernel
theorem dX10_door_26 : decode cX10_door 26 = .ok (.iload_n 1, 1) := by decide +kernel
theorem dX10_door_27 : decode cX10_door 27 = .ok (.iload_n 2, 1) := by decide +kernel
theorem dX10_door_28 : decode cX10_door 28 = .ok (.invokevirtual 156, 3) := by decide +kernel
theorem dX10_door_31 : decode cX10_door 31 = .ok (.ireturn, 1) := by decide +kernel
theorem dX10_out_0 : decode cX10_out 0 = .ok (.iload_n 1, 1) := by decide +kernel
theorem dX10_out_1 : decode cX10_out 1 = .ok (.invokestatic 160, 3) := by decide +kernel
theorem dX10_out_4 : decode cX10_out 4 = .ok (.ifCond .eq 14, 3) := by decide +kernel
theorem dX10_out_7 : decode cX10_out 7 = .ok (.aload_n 0, 1) := by decide +kernel
theorem dX10_out_8 : decode cX10_out 8 = .ok (.getfield 26, 3) := by decide +kernel
theorem dX10_out_11 : decode cX10_out 11 = .ok (.iload_n 1, 1) := by decide +kernel
theorem dX10_out_12 : decode cX10_out 12 = .ok (.invokevirtual 163, 3) := by decide +kernel
theorem dX10_out_15 : decode cX10_out 15 = .ok (.goto 5, 3) := by decide +kernel
theorem dX10_out_18 : decode cX10_out 18 = .ok (.bipush (-2), 2) := by decide +kernel
theorem dX10_out_20 : decode cX10_out 20 = .ok (.ireturn, 1) := by decide +kernel
theorem dX10_warm_0 : decode cX10_warm 0 = .ok (.aload_n 0, 1) := by decide +kernel
theorem dX10_warm_1 : decode cX10_warm 1 = .ok (.getfield 26, 3) := by decide +kernel
theorem dX10_warm_4 : decode cX10_warm 4 = .ok (.iload_n 1, 1) := by decide +kernel
theorem dX10_warm_5 : decode cX10_warm 5 = .ok (.invokevirtual 129, 3) := by decide +kernel
theorem dX10_warm_8 : decode cX10_warm 8 = .ok (.ifCond .eq 10, 3) := by decide +kernel
theorem dX10_warm_11 : decode cX10_warm 11 = .ok (.iload_n 2, 1) := by decide +kernel
theorem dX10_warm_12 : decode cX10_warm 12 = .ok (.invokestatic 160, 3) := by decide +kernel
theorem dX10_warm_15 : decode cX10_warm 15 = .ok (.ifCond .ne 6, 3) := by decide +kernel
theorem dX10_warm_18 : decode cX10_warm 18 = .ok (.bipush (-2), 2) := by decide +kernel
theorem dX10_warm_20 : decode cX10_warm 20 = .ok (.ireturn, 1) := by decide +kernel
theorem dX10_warm_21 : decode cX10_warm 21 = .ok (.iload_n 3, 1) := by decide +kernel
theorem dX10_warm_22 : decode cX10_warm 22 = .ok (.tableswitch 56 0 2 #[26, 36, 46], 26) := by decide +kernel
theorem dX10_warm_48 : decode cX10_warm 48 = .ok (.aload_n 0, 1) := by decide +kernel
theorem dX10_warm_49 : decode cX10_warm 49 = .ok (.invokevirtual 166, 3) := by decide +kernel
theorem dX10_warm_52 : decode cX10_warm 52 = .ok (.iload_n 1, 1) := by decide +kernel
theorem dX10_warm_53 : decode cX10_warm 53 = .ok (.iload_n 2, 1) := by decide +kernel
theorem dX10_warm_54 : decode cX10_warm 54 = .ok (.invokevirtual 170, 3) := by decide +kernel
theorem dX10_warm_57 : decode cX10_warm 57 = .ok (.ireturn, 1) := by decide +kernel
theorem dX10_warm_58 : decode cX10_warm 58 = .ok (.aload_n 0, 1) := by decide +kernel
theorem dX10_warm_59 : decode cX10_warm 59 = .ok (.invokevirtual 166, 3) := by decide +kernel
theorem dX10_warm_62 : decode cX10_warm 62 = .ok (.iload_n 1, 1) := by decide +kernel
theorem dX10_warm_63 : decode cX10_warm 63 = .ok (.iload_n 2, 1) := by decide +kernel
theorem dX10_warm_64 : decode cX10_warm 64 = .ok (.invokevirtual 173, 3) := by decide +kernel
theorem dX10_warm_67 : decode cX10_warm 67 = .ok (.ireturn, 1) := by decide +kernel
theorem dX10_warm_68 : decode cX10_warm 68 = .ok (.aload_n 0, 1) := by decide +kernel
theorem dX10_warm_69 : decode cX10_warm 69 = .ok (.invokevirtual 166, 3) := by decide +kernel
theorem dX10_warm_72 : decode cX10_warm 72 = .ok (.iload_n 1, 1) := by decide +kernel
theorem dX10_warm_73 : decode cX10_warm 73 = .ok (.iload_n 2, 1) := by decide +kernel
theorem dX10_warm_74 : decode cX10_warm 74 = .ok (.invokevirtual 176, 3) := by decide +kernel
theorem dX10_warm_77 : decode cX10_warm 77 = .ok (.ireturn, 1) := by decide +kernel
theorem dX10_warm_78 : decode cX10_warm 78 = .ok (.bipush (-3), 2) := by decide +kernel
theorem dX10_warm_80 : decode cX10_warm 80 = .ok (.ireturn, 1) := by decide +kernel
theorem dX10_night_0 : decode cX10_night 0 = .ok (.iload_n 1, 1) := by decide +kernel
theorem dX10_night_1 : decode cX10_night 1 = .ok (.iconst (-1), 1) := by decide +kernel
theorem dX10_night_2 : decode cX10_night 2 = .ok (.if_icmp .ne 15, 3) := by decide +kernel
theorem dX10_night_5 : decode cX10_night 5 = .ok (.aload_n 0, 1) := by decide +kernel
theorem dX10_night_6 : decode cX10_night 6 = .ok (.invokevirtual 166, 3) := by decide +kernel
theorem dX10_night_9 : decode cX10_night 9 = .ok (.aload_n 0, 1) := by decide +kernel
theorem dX10_night_10 : decode cX10_night 10 = .ok (.getfield 26, 3) := by decide +kernel
theorem dX10_night_13 : decode cX10_night 13 = .ok (.invokevirtual 179, 3) := by decide +kernel
theorem dX10_night_16 : decode cX10_night 16 = .ok (.ireturn, 1) := by decide +kernel
theorem dX10_night_17 : decode cX10_night 17 = .ok (.aload_n 0, 1) := by decide +kernel
theorem dX10_night_18 : decode cX10_night 18 = .ok (.getfield 26, 3) := by decide +kernel
theorem dX10_night_21 : decode cX10_night 21 = .ok (.iload_n 1, 1) := by decide +kernel
theorem dX10_night_22 : decode cX10_night 22 = .ok (.invokevirtual 129, 3) := by decide +kernel
theorem dX10_night_25 : decode cX10_night 25 = .ok (.ifCond .eq 14, 3) := by decide +kernel
theorem dX10_night_28 : decode cX10_night 28 = .ok (.aload_n 0, 1) := by decide +kernel
theorem dX10_night_29 : decode cX10_night 29 = .ok (.invokevirtual 166, 3) := by decide +kernel
theorem dX10_night_32 : decode cX10_night 32 = .ok (.iload_n 1, 1) := by decide +kernel
theorem dX10_night_33 : decode cX10_night 33 = .ok (.invokevirtual 183, 3) := by decide +kernel
theorem dX10_night_36 : decode cX10_night 36 = .ok (.goto 5, 3) := by decide +kernel
theorem dX10_night_39 : decode cX10_night 39 = .ok (.bipush (-2), 2) := by decide +kernel
theorem dX10_night_41 : decode cX10_night 41 = .ok (.ireturn, 1) := by decide +kernel
theorem dX10_above_0 : decode cX10_above 0 = .ok (.aload_n 0, 1) := by decide +kernel
theorem dX10_above_1 : decode cX10_above 1 = .ok (.getfield 26, 3) := by decide +kernel
theorem dX10_above_4 : decode cX10_above 4 = .ok (.iload_n 1, 1) := by decide +kernel
theorem dX10_above_5 : decode cX10_above 5 = .ok (.invokevirtual 129, 3) := by decide +kernel
theorem dX10_above_8 : decode cX10_above 8 = .ok (.ifCond .ne 6, 3) := by decide +kernel
theorem dX10_above_11 : decode cX10_above 11 = .ok (.bipush (-2), 2) := by decide +kernel
theorem dX10_above_13 : decode cX10_above 13 = .ok (.ireturn, 1) := by decide +kernel
theorem dX10_above_14 : decode cX10_above 14 = .ok (.iload_n 2, 1) := by decide +kernel
theorem dX10_above_15 : decode cX10_above 15 = .ok (.sipush (-999), 3) := by decide +kernel
theorem dX10_above_18 : decode cX10_above 18 = .ok (.sipush 9999, 3) := by decide +kernel
theorem dX10_above_21 : decode cX10_above 21 = .ok (.invokestatic 86, 3) := by decide +kernel
theorem dX10_above_24 : decode cX10_above 24 = .ok (.ifCond .ne 6, 3) := by decide +kernel
theorem dX10_above_27 : decode cX10_above 27 = .ok (.bipush (-3), 2) := by decide +kernel
theorem dX10_above_29 : decode cX10_above 29 = .ok (.ireturn, 1) := by decide +kernel
theorem dX10_above_30 : decode cX10_above 30 = .ok (.aload_n 0, 1) := by decide +kernel
theorem dX10_above_31 : decode cX10_above 31 = .ok (.invokevirtual 166, 3) := by decide +kernel
theorem dX10_above_34 : decode cX10_above 34 = .ok (.iload_n 1, 1) := by decide +kernel
theorem dX10_above_35 : decode cX10_above 35 = .ok (.iload_n 2, 1) := by decide +kernel
theorem dX10_above_36 : decode cX10_above 36 = .ok (.invokevirtual 186, 3) := by decide +kernel
theorem dX10_above_39 : decode cX10_above 39 = .ok (.ireturn, 1) := by decide +kernel
theorem dX10_costs_0 : decode cX10_costs 0 = .ok (.aload_n 0, 1) := by decide +kernel
theorem dX10_costs_1 : decode cX10_costs 1 = .ok (.getfield 26, 3) := by decide +kernel
theorem dX10_costs_4 : decode cX10_costs 4 = .ok (.iload_n 1, 1) := by decide +kernel
theorem dX10_costs_5 : decode cX10_costs 5 = .ok (.invokevirtual 129, 3) := by decide +kernel
theorem dX10_costs_8 : decode cX10_costs 8 = .ok (.ifCond .ne 6, 3) := by decide +kernel
theorem dX10_costs_11 : decode cX10_costs 11 = .ok (.bipush (-2), 2) := by decide +kernel
theorem dX10_costs_13 : decode cX10_costs 13 = .ok (.ireturn, 1) := by decide +kernel
theorem dX10_costs_14 : decode cX10_costs 14 = .ok (.aload_n 0, 1) := by decide +kernel
theorem dX10_costs_15 : decode cX10_costs 15 = .ok (.getfield 33, 3) := by decide +kernel
theorem dX10_costs_18 : decode cX10_costs 18 = .ok (.aload_n 0, 1) := by decide +kernel
theorem dX10_costs_19 : decode cX10_costs 19 = .ok (.getfield 26, 3) := by decide +kernel
theorem dX10_costs_22 : decode cX10_costs 22 = .ok (.invokevirtual 189, 3) := by decide +kernel
theorem dX10_costs_25 : decode cX10_costs 25 = .ok (.aload_n 0, 1) := by decide +kernel
theorem dX10_costs_26 : decode cX10_costs 26 = .ok (.getfield 33, 3) := by decide +kernel
theorem dX10_costs_29 : decode cX10_costs 29 = .ok (.iload_n 1, 1) := by decide +kernel
theorem dX10_costs_30 : decode cX10_costs 30 = .ok (.iconst 1, 1) := by decide +kernel
theorem dX10_costs_31 : decode cX10_costs 31 = .ok (.invokevirtual 193, 3) := by decide +kernel
theorem dX10_costs_34 : decode cX10_costs 34 = .ok (.aload_n 0, 1) := by decide +kernel
theorem dX10_costs_35 : decode cX10_costs 35 = .ok (.getfield 44, 3) := by decide +kernel
theorem dX10_costs_38 : decode cX10_costs 38 = .ok (.aload_n 0, 1) := by decide +kernel
theorem dX10_costs_39 : decode cX10_costs 39 = .ok (.getfield 26, 3) := by decide +kernel
theorem dX10_costs_42 : decode cX10_costs 42 = .ok (.aload_n 0, 1) := by decide +kernel
theorem dX10_costs_43 : decode cX10_costs 43 = .ok (.getfield 33, 3) := by decide +kernel
theorem dX10_costs_46 : decode cX10_costs 46 = .ok (.invokevirtual 197, 3) := by decide +kernel
theorem dX10_costs_49 : decode cX10_costs 49 = .ok (.ldc 201, 2) := by decide +kernel
theorem dX10_costs_51 : decode cX10_costs 51 = .ok (.aload_n 0, 1) := by decide +kernel
theorem dX10_costs_52 : decode cX10_costs 52 = .ok (.invokevirtual 166, 3) := by decide +kernel
theorem dX10_costs_55 : decode cX10_costs 55 = .ok (.aload_n 0, 1) := by decide +kernel
theorem dX10_costs_56 : decode cX10_costs 56 = .ok (.getfield 26, 3) := by decide +kernel
theorem dX10_costs_59 : decode cX10_costs 59 = .ok (.invokevirtual 179, 3) := by decide +kernel
theorem dX10_costs_62 : decode cX10_costs 62 = .ok (.iadd, 1) := by decide +kernel
theorem dX10_costs_63 : decode cX10_costs 63 = .ok (.aload_n 0, 1) := by decide +kernel
theorem dX10_costs_64 : decode cX10_costs 64 = .ok (.getfield 44, 3) := by decide +kernel
theorem dX10_costs_67 : decode cX10_costs 67 = .ok (.aload_n 0, 1) := by decide +kernel
theorem dX10_costs_68 : decode cX10_costs 68 = .ok (.getfield 26, 3) := by decide +kernel
theorem dX10_costs_71 : decode cX10_costs 71 = .ok (.invokevirtual 179, 3) := by decide +kernel
theorem dX10_costs_74 : decode cX10_costs 74 = .ok (.isub, 1) := by decide +kernel
theorem dX10_costs_75 : decode cX10_costs 75 = .ok (.ireturn, 1) := by decide +kernel
theorem dX10_clock_0 : decode cX10_clock 0 = .ok (.iload_n 1, 1) := by decide +kernel
theorem dX10_clock_1 : decode cX10_clock 1 = .ok (.iconst 0, 1) := by decide +kernel
theorem dX10_clock_2 : decode cX10_clock 2 = .ok (.iconst 3, 1) := by decide +kernel
theorem dX10_clock_3 : decode cX10_clock 3 = .ok (.invokestatic 86, 3) := by decide +kernel
theorem dX10_clock_6 : decode cX10_clock 6 = .ok (.ifCond .ne 6, 3) := by decide +kernel
theorem dX10_clock_9 : decode cX10_clock 9 = .ok (.bipush (-3), 2) := by decide +kernel
theorem dX10_clock_11 : decode cX10_clock 11 = .ok (.ireturn, 1) := by decide +kernel
theorem dX10_clock_12 : decode cX10_clock 12 = .ok (.aload_n 0, 1) := by decide +kernel
theorem dX10_clock_13 : decode cX10_clock 13 = .ok (.getfield 50, 3) := by decide +kernel
theorem dX10_clock_16 : decode cX10_clock 16 = .ok (.aload_n 0, 1) := by decide +kernel
theorem dX10_clock_17 : decode cX10_clock 17 = .ok (.getfield 26, 3) := by decide +kernel
theorem dX10_clock_20 : decode cX10_clock 20 = .ok (.aload_n 0, 1) := by decide +kernel
theorem dX10_clock_21 : decode cX10_clock 21 = .ok (.getfield 33, 3) := by decide +kernel
theorem dX10_clock_24 : decode cX10_clock 24 = .ok (.aload_n 0, 1) := by decide +kernel
theorem dX10_clock_25 : decode cX10_clock 25 = .ok (.getfield 44, 3) := by decide +kernel
theorem dX10_clock_28 : decode cX10_clock 28 = .ok (.invokevirtual 202, 3) := by decide +kernel
theorem dX10_clock_31 : decode cX10_clock 31 = .ok (.iload_n 1, 1) := by decide +kernel
theorem dX10_clock_32 : decode cX10_clock 32 = .ok (.tableswitch 52 0 2 #[28, 36, 44], 28) := by decide +kernel
theorem dX10_clock_60 : decode cX10_clock 60 = .ok (.aload_n 0, 1) := by decide +kernel
theorem dX10_clock_61 : decode cX10_clock 61 = .ok (.getfield 50, 3) := by decide +kernel
theorem dX10_clock_64 : decode cX10_clock 64 = .ok (.invokevirtual 206, 3) := by decide +kernel
theorem dX10_clock_67 : decode cX10_clock 67 = .ok (.ireturn, 1) := by decide +kernel
theorem dX10_clock_68 : decode cX10_clock 68 = .ok (.aload_n 0, 1) := by decide +kernel
theorem dX10_clock_69 : decode cX10_clock 69 = .ok (.getfield 50, 3) := by decide +kernel
theorem dX10_clock_72 : decode cX10_clock 72 = .ok (.invokevirtual 209, 3) := by decide +kernel
theorem dX10_clock_75 : decode cX10_clock 75 = .ok (.ireturn, 1) := by decide +kernel
theorem dX10_clock_76 : decode cX10_clock 76 = .ok (.aload_n 0, 1) := by decide +kernel
theorem dX10_clock_77 : decode cX10_clock 77 = .ok (.getfield 50, 3) := by decide +kernel
theorem dX10_clock_80 : decode cX10_clock 80 = .ok (.invokevirtual 212, 3) := by decide +kernel
theorem dX10_clock_83 : decode cX10_clock 83 = .ok (.ireturn, 1) := by decide +kernel
theorem dX10_clock_84 : decode cX10_clock 84 = .ok (.ldc 201, 2) := by decide +kernel
theorem dX10_clock_86 : decode cX10_clock 86 = .ok (.aload_n 0, 1) := by decide +kernel
theorem dX10_clock_87 : decode cX10_clock 87 = .ok (.getfield 50, 3) := by decide +kernel
theorem dX10_clock_90 : decode cX10_clock 90 = .ok (.invokevirtual 214, 3) := by decide +kernel
theorem dX10_clock_93 : decode cX10_clock 93 = .ok (.iadd, 1) := by decide +kernel
theorem dX10_clock_94 : decode cX10_clock 94 = .ok (.ireturn, 1) := by decide +kernel
theorem dX10_work_0 : decode cX10_work 0 = .ok (.iload_n 1, 1) := by decide +kernel
theorem dX10_work_1 : decode cX10_work 1 = .ok (.invokestatic 153, 3) := by decide +kernel
theorem dX10_work_4 : decode cX10_work 4 = .ok (.ifCond .ne 6, 3) := by decide +kernel
theorem dX10_work_7 : decode cX10_work 7 = .ok (.bipush (-2), 2) := by decide +kernel
theorem dX10_work_9 : decode cX10_work 9 = .ok (.ireturn, 1) := by decide +kernel
theorem dX10_work_10 : decode cX10_work 10 = .ok (.iload_n 2, 1) := by decide +kernel
theorem dX10_work_11 : decode cX10_work 11 = .ok (.iconst 1, 1) := by decide +kernel
theorem dX10_work_12 : decode cX10_work 12 = .ok (.sipush 999, 3) := by decide +kernel
theorem dX10_work_15 : decode cX10_work 15 = .ok (.invokestatic 86, 3) := by decide +kernel
theorem dX10_work_18 : decode cX10_work 18 = .ok (.ifCond .eq 24, 3) := by decide +kernel
theorem dX10_work_21 : decode cX10_work 21 = .ok (.iload_n 3, 1) := by decide +kernel
theorem dX10_work_22 : decode cX10_work 22 = .ok (.iconst 0, 1) := by decide +kernel
theorem dX10_work_23 : decode cX10_work 23 = .ok (.bipush 100, 2) := by decide +kernel
theorem dX10_work_25 : decode cX10_work 25 = .ok (.invokestatic 86, 3) := by decide +kernel
theorem dX10_work_28 : decode cX10_work 28 = .ok (.ifCond .eq 14, 3) := by decide +kernel
theorem dX10_work_31 : decode cX10_work 31 = .ok (.iload 4, 2) := by decide +kernel
theorem dX10_work_33 : decode cX10_work 33 = .ok (.iconst 0, 1) := by decide +kernel
theorem dX10_work_34 : decode cX10_work 34 = .ok (.bipush 20, 2) := by decide +kernel
theorem dX10_work_36 : decode cX10_work 36 = .ok (.invokestatic 86, 3) := by decide +kernel
theorem dX10_work_39 : decode cX10_work 39 = .ok (.ifCond .ne 6, 3) := by decide +kernel
theorem dX10_work_42 : decode cX10_work 42 = .ok (.bipush (-3), 2) := by decide +kernel
theorem dX10_work_44 : decode cX10_work 44 = .ok (.ireturn, 1) := by decide +kernel
theorem dX10_work_45 : decode cX10_work 45 = .ok (.aload_n 0, 1) := by decide +kernel
theorem dX10_work_46 : decode cX10_work 46 = .ok (.getfield 57, 3) := by decide +kernel
theorem dX10_work_49 : decode cX10_work 49 = .ok (.invokevirtual 217, 3) := by decide +kernel
theorem dX10_work_52 : decode cX10_work 52 = .ok (.ifCond .eq 8, 3) := by decide +kernel
theorem dX10_work_55 : decode cX10_work 55 = .ok (.bipush (-5), 2) := by decide +kernel
theorem dX10_work_57 : decode cX10_work 57 = .ok (.goto 15, 3) := by decide +kernel
theorem dX10_work_60 : decode cX10_work 60 = .ok (.aload_n 0, 1) := by decide +kernel
theorem dX10_work_61 : decode cX10_work 61 = .ok (.getfield 57, 3) := by decide +kernel
theorem dX10_work_64 : decode cX10_work 64 = .ok (.iload_n 1, 1) := by decide +kernel
theorem dX10_work_65 : decode cX10_work 65 = .ok (.iload_n 2, 1) := by decide +kernel
theorem dX10_work_66 : decode cX10_work 66 = .ok (.iload_n 3, 1) := by decide +kernel
theorem dX10_work_67 : decode cX10_work 67 = .ok (.iload 4, 2) := by decide +kernel
theorem dX10_work_69 : decode cX10_work 69 = .ok (.invokevirtual 221, 3) := by decide +kernel
theorem dX10_work_72 : decode cX10_work 72 = .ok (.ireturn, 1) := by decide +kernel
theorem dX10_works_0 : decode cX10_works 0 = .ok (.iload_n 1, 1) := by decide +kernel
theorem dX10_works_1 : decode cX10_works 1 = .ok (.iconst 0, 1) := by decide +kernel
theorem dX10_works_2 : decode cX10_works 2 = .ok (.sipush 9999, 3) := by decide +kernel
theorem dX10_works_5 : decode cX10_works 5 = .ok (.invokestatic 86, 3) := by decide +kernel
theorem dX10_works_8 : decode cX10_works 8 = .ok (.ifCond .eq 12, 3) := by decide +kernel
theorem dX10_works_11 : decode cX10_works 11 = .ok (.iload_n 2, 1) := by decide +kernel
theorem dX10_works_12 : decode cX10_works 12 = .ok (.iconst 0, 1) := by decide +kernel
theorem dX10_works_13 : decode cX10_works 13 = .ok (.iconst 1, 1) := by decide +kernel
theorem dX10_works_14 : decode cX10_works 14 = .ok (.invokestatic 86, 3) := by decide +kernel
theorem dX10_works_17 : decode cX10_works 17 = .ok (.ifCond .ne 6, 3) := by decide +kernel
theorem dX10_works_20 : decode cX10_works 20 = .ok (.bipush (-3), 2) := by decide +kernel
theorem dX10_works_22 : decode cX10_works 22 = .ok (.ireturn, 1) := by decide +kernel
theorem dX10_works_23 : decode cX10_works 23 = .ok (.aload_n 0, 1) := by decide +kernel
theorem dX10_works_24 : decode cX10_works 24 = .ok (.getfield 57, 3) := by decide +kernel
theorem dX10_works_27 : decode cX10_works 27 = .ok (.iload_n 1, 1) := by decide +kernel
theorem dX10_works_28 : decode cX10_works 28 = .ok (.aload_n 0, 1) := by decide +kernel
theorem dX10_works_29 : decode cX10_works 29 = .ok (.getfield 26, 3) := by decide +kernel
theorem dX10_works_32 : decode cX10_works 32 = .ok (.aload_n 0, 1) := by decide +kernel
theorem dX10_works_33 : decode cX10_works 33 = .ok (.getfield 33, 3) := by decide +kernel
theorem dX10_works_36 : decode cX10_works 36 = .ok (.aload_n 0, 1) := by decide +kernel
theorem dX10_works_37 : decode cX10_works 37 = .ok (.getfield 44, 3) := by decide +kernel
theorem dX10_works_40 : decode cX10_works 40 = .ok (.invokevirtual 224, 3) := by decide +kernel
theorem dX10_works_43 : decode cX10_works 43 = .ok (.iload_n 2, 1) := by decide +kernel
theorem dX10_works_44 : decode cX10_works 44 = .ok (.ifCond .ne 13, 3) := by decide +kernel
theorem dX10_works_47 : decode cX10_works 47 = .ok (.aload_n 0, 1) := by decide +kernel
theorem dX10_works_48 : decode cX10_works 48 = .ok (.getfield 57, 3) := by decide +kernel
theorem dX10_works_51 : decode cX10_works 51 = .ok (.invokevirtual 228, 3) := by decide +kernel
theorem dX10_works_54 : decode cX10_works 54 = .ok (.goto 10, 3) := by decide +kernel
theorem dX10_works_57 : decode cX10_works 57 = .ok (.aload_n 0, 1) := by decide +kernel
theorem dX10_works_58 : decode cX10_works 58 = .ok (.getfield 57, 3) := by decide +kernel
theorem dX10_works_61 : decode cX10_works 61 = .ok (.invokevirtual 231, 3) := by decide +kernel
theorem dX10_works_64 : decode cX10_works 64 = .ok (.ireturn, 1) := by decide +kernel
theorem dX10_read_0 : decode cX10_read 0 = .ok (.iload_n 1, 1) := by decide +kernel
theorem dX10_read_1 : decode cX10_read 1 = .ok (.invokestatic 153, 3) := by decide +kernel
theorem dX10_read_4 : decode cX10_read 4 = .ok (.ifCond .eq 10, 3) := by decide +kernel
theorem dX10_read_7 : decode cX10_read 7 = .ok (.iload_n 2, 1) := by decide +kernel
theorem dX10_read_8 : decode cX10_read 8 = .ok (.invokestatic 160, 3) := by decide +kernel
theorem dX10_read_11 : decode cX10_read 11 = .ok (.ifCond .ne 6, 3) := by decide +kernel
theorem dX10_read_14 : decode cX10_read 14 = .ok (.bipush (-2), 2) := by decide +kernel
theorem dX10_read_16 : decode cX10_read 16 = .ok (.ireturn, 1) := by decide +kernel
theorem dX10_read_17 : decode cX10_read 17 = .ok (.iload_n 3, 1) := by decide +kernel
theorem dX10_read_18 : decode cX10_read 18 = .ok (.sipush (-999), 3) := by decide +kernel
theorem dX10_read_21 : decode cX10_read 21 = .ok (.sipush 9999, 3) := by decide +kernel
theorem dX10_read_24 : decode cX10_read 24 = .ok (.invokestatic 86, 3) := by decide +kernel
theorem dX10_read_27 : decode cX10_read 27 = .ok (.ifCond .ne 6, 3) := by decide +kernel
theorem dX10_read_30 : decode cX10_read 30 = .ok (.bipush (-3), 2) := by decide +kernel
theorem dX10_read_32 : decode cX10_read 32 = .ok (.ireturn, 1) := by decide +kernel
theorem dX10_read_33 : decode cX10_read 33 = .ok (.aload_n 0, 1) := by decide +kernel
theorem dX10_read_34 : decode cX10_read 34 = .ok (.getfield 64, 3) := by decide +kernel
theorem dX10_read_37 : decode cX10_read 37 = .ok (.invokevirtual 234, 3) := by decide +kernel
theorem dX10_read_40 : decode cX10_read 40 = .ok (.ifCond .eq 8, 3) := by decide +kernel
theorem dX10_read_43 : decode cX10_read 43 = .ok (.bipush (-5), 2) := by decide +kernel
theorem dX10_read_45 : decode cX10_read 45 = .ok (.goto 13, 3) := by decide +kernel
theorem dX10_read_48 : decode cX10_read 48 = .ok (.aload_n 0, 1) := by decide +kernel
theorem dX10_read_49 : decode cX10_read 49 = .ok (.getfield 64, 3) := by decide +kernel
theorem dX10_read_52 : decode cX10_read 52 = .ok (.iload_n 1, 1) := by decide +kernel
theorem dX10_read_53 : decode cX10_read 53 = .ok (.iload_n 2, 1) := by decide +kernel
theorem dX10_read_54 : decode cX10_read 54 = .ok (.iload_n 3, 1) := by decide +kernel
theorem dX10_read_55 : decode cX10_read 55 = .ok (.invokevirtual 235, 3) := by decide +kernel
theorem dX10_read_58 : decode cX10_read 58 = .ok (.ireturn, 1) := by decide +kernel
theorem dX10_learnt_0 : decode cX10_learnt 0 = .ok (.iload_n 1, 1) := by decide +kernel
theorem dX10_learnt_1 : decode cX10_learnt 1 = .ok (.iconst 0, 1) := by decide +kernel
theorem dX10_learnt_2 : decode cX10_learnt 2 = .ok (.sipush 999, 3) := by decide +kernel
theorem dX10_learnt_5 : decode cX10_learnt 5 = .ok (.invokestatic 86, 3) := by decide +kernel
theorem dX10_learnt_8 : decode cX10_learnt 8 = .ok (.ifCond .eq 12, 3) := by decide +kernel
theorem dX10_learnt_11 : decode cX10_learnt 11 = .ok (.iload_n 2, 1) := by decide +kernel
theorem dX10_learnt_12 : decode cX10_learnt 12 = .ok (.iconst 0, 1) := by decide +kernel
theorem dX10_learnt_13 : decode cX10_learnt 13 = .ok (.iconst 4, 1) := by decide +kernel
theorem dX10_learnt_14 : decode cX10_learnt 14 = .ok (.invokestatic 86, 3) := by decide +kernel
theorem dX10_learnt_17 : decode cX10_learnt 17 = .ok (.ifCond .ne 6, 3) := by decide +kernel
theorem dX10_learnt_20 : decode cX10_learnt 20 = .ok (.bipush (-3), 2) := by decide +kernel
theorem dX10_learnt_22 : decode cX10_learnt 22 = .ok (.ireturn, 1) := by decide +kernel
theorem dX10_learnt_23 : decode cX10_learnt 23 = .ok (.aload_n 0, 1) := by decide +kernel
theorem dX10_learnt_24 : decode cX10_learnt 24 = .ok (.getfield 64, 3) := by decide +kernel
theorem dX10_learnt_27 : decode cX10_learnt 27 = .ok (.iload_n 1, 1) := by decide +kernel
theorem dX10_learnt_28 : decode cX10_learnt 28 = .ok (.aload_n 0, 1) := by decide +kernel
theorem dX10_learnt_29 : decode cX10_learnt 29 = .ok (.getfield 26, 3) := by decide +kernel
theorem dX10_learnt_32 : decode cX10_learnt 32 = .ok (.aload_n 0, 1) := by decide +kernel
theorem dX10_learnt_33 : decode cX10_learnt 33 = .ok (.getfield 33, 3) := by decide +kernel
theorem dX10_learnt_36 : decode cX10_learnt 36 = .ok (.aload_n 0, 1) := by decide +kernel
theorem dX10_learnt_37 : decode cX10_learnt 37 = .ok (.getfield 44, 3) := by decide +kernel
theorem dX10_learnt_40 : decode cX10_learnt 40 = .ok (.invokevirtual 238, 3) := by decide +kernel
theorem dX10_learnt_43 : decode cX10_learnt 43 = .ok (.iload_n 2, 1) := by decide +kernel
theorem dX10_learnt_44 : decode cX10_learnt 44 = .ok (.ifCond .ne 11, 3) := by decide +kernel
theorem dX10_learnt_47 : decode cX10_learnt 47 = .ok (.aload_n 0, 1) := by decide +kernel
theorem dX10_learnt_48 : decode cX10_learnt 48 = .ok (.getfield 64, 3) := by decide +kernel
theorem dX10_learnt_51 : decode cX10_learnt 51 = .ok (.invokevirtual 241, 3) := by decide +kernel
theorem dX10_learnt_54 : decode cX10_learnt 54 = .ok (.ireturn, 1) := by decide +kernel
theorem dX10_learnt_55 : decode cX10_learnt 55 = .ok (.aload_n 0, 1) := by decide +kernel
theorem dX10_learnt_56 : decode cX10_learnt 56 = .ok (.getfield 64, 3) := by decide +kernel
theorem dX10_learnt_59 : decode cX10_learnt 59 = .ok (.invokevirtual 241, 3) := by decide +kernel
theorem dX10_learnt_62 : decode cX10_learnt 62 = .ok (.ifCond .ne 7, 3) := by decide +kernel
theorem dX10_learnt_65 : decode cX10_learnt 65 = .ok (.iconst (-1), 1) := by decide +kernel
theorem dX10_learnt_66 : decode cX10_learnt 66 = .ok (.goto 11, 3) := by decide +kernel
theorem dX10_learnt_69 : decode cX10_learnt 69 = .ok (.aload_n 0, 1) := by decide +kernel
theorem dX10_learnt_70 : decode cX10_learnt 70 = .ok (.getfield 64, 3) := by decide +kernel
theorem dX10_learnt_73 : decode cX10_learnt 73 = .ok (.iload_n 2, 1) := by decide +kernel
theorem dX10_learnt_74 : decode cX10_learnt 74 = .ok (.invokevirtual 244, 3) := by decide +kernel
theorem dX10_learnt_77 : decode cX10_learnt 77 = .ok (.ireturn, 1) := by decide +kernel
theorem dX10_flat_0 : decode cX10_flat 0 = .ok (.iload_n 1, 1) := by decide +kernel
theorem dX10_flat_1 : decode cX10_flat 1 = .ok (.iconst 0, 1) := by decide +kernel
theorem dX10_flat_2 : decode cX10_flat 2 = .ok (.bipush 7, 2) := by decide +kernel
theorem dX10_flat_4 : decode cX10_flat 4 = .ok (.invokestatic 86, 3) := by decide +kernel
theorem dX10_flat_7 : decode cX10_flat 7 = .ok (.ifCond .ne 6, 3) := by decide +kernel
theorem dX10_flat_10 : decode cX10_flat 10 = .ok (.bipush (-2), 2) := by decide +kernel
theorem dX10_flat_12 : decode cX10_flat 12 = .ok (.ireturn, 1) := by decide +kernel
theorem dX10_flat_13 : decode cX10_flat 13 = .ok (.iload_n 2, 1) := by decide +kernel
theorem dX10_flat_14 : decode cX10_flat 14 = .ok (.iconst 0, 1) := by decide +kernel
theorem dX10_flat_15 : decode cX10_flat 15 = .ok (.bipush 99, 2) := by decide +kernel
theorem dX10_flat_17 : decode cX10_flat 17 = .ok (.invokestatic 86, 3) := by decide +kernel
theorem dX10_flat_20 : decode cX10_flat 20 = .ok (.ifCond .eq 13, 3) := by decide +kernel
theorem dX10_flat_23 : decode cX10_flat 23 = .ok (.iload_n 3, 1) := by decide +kernel
theorem dX10_flat_24 : decode cX10_flat 24 = .ok (.iconst 1, 1) := by decide +kernel
theorem dX10_flat_25 : decode cX10_flat 25 = .ok (.bipush 8, 2) := by decide +kernel
theorem dX10_flat_27 : decode cX10_flat 27 = .ok (.invokestatic 86, 3) := by decide +kernel
theorem dX10_flat_30 : decode cX10_flat 30 = .ok (.ifCond .ne 6, 3) := by decide +kernel
theorem dX10_flat_33 : decode cX10_flat 33 = .ok (.bipush (-3), 2) := by decide +kernel
theorem dX10_flat_35 : decode cX10_flat 35 = .ok (.ireturn, 1) := by decide +kernel
theorem dX10_flat_36 : decode cX10_flat 36 = .ok (.aload_n 0, 1) := by decide +kernel
theorem dX10_flat_37 : decode cX10_flat 37 = .ok (.getfield 71, 3) := by decide +kernel
theorem dX10_flat_40 : decode cX10_flat 40 = .ok (.iload_n 1, 1) := by decide +kernel
theorem dX10_flat_41 : decode cX10_flat 41 = .ok (.iload_n 2, 1) := by decide +kernel
theorem dX10_flat_42 : decode cX10_flat 42 = .ok (.iload_n 3, 1) := by decide +kernel
theorem dX10_flat_43 : decode cX10_flat 43 = .ok (.invokevirtual 247, 3) := by decide +kernel
theorem dX10_flat_46 : decode cX10_flat 46 = .ok (.iconst 1, 1) := by decide +kernel
theorem dX10_flat_47 : decode cX10_flat 47 = .ok (.ireturn, 1) := by decide +kernel
theorem dX10_ring_0 : decode cX10_ring 0 = .ok (.iload_n 1, 1) := by decide +kernel
theorem dX10_ring_1 : decode cX10_ring 1 = .ok (.iconst (-1), 1) := by decide +kernel
theorem dX10_ring_2 : decode cX10_ring 2 = .ok (.if_icmp .ge 6, 3) := by decide +kernel
theorem dX10_ring_5 : decode cX10_ring 5 = .ok (.bipush (-3), 2) := by decide +kernel
theorem dX10_ring_7 : decode cX10_ring 7 = .ok (.ireturn, 1) := by decide +kernel
theorem dX10_ring_8 : decode cX10_ring 8 = .ok (.aload_n 0, 1) := by decide +kernel
theorem dX10_ring_9 : decode cX10_ring 9 = .ok (.getfield 71, 3) := by decide +kernel
theorem dX10_ring_12 : decode cX10_ring 12 = .ok (.invokevirtual 250, 3) := by decide +kernel
theorem dX10_ring_15 : decode cX10_ring 15 = .ok (.iload_n 1, 1) := by decide +kernel
theorem dX10_ring_16 : decode cX10_ring 16 = .ok (.iconst (-1), 1) := by decide +kernel
theorem dX10_ring_17 : decode cX10_ring 17 = .ok (.if_icmp .ne 13, 3) := by decide +kernel
theorem dX10_ring_20 : decode cX10_ring 20 = .ok (.aload_n 0, 1) := by decide +kernel
theorem dX10_ring_21 : decode cX10_ring 21 = .ok (.getfield 71, 3) := by decide +kernel
theorem dX10_ring_24 : decode cX10_ring 24 = .ok (.invokevirtual 253, 3) := by decide +kernel
theorem dX10_ring_27 : decode cX10_ring 27 = .ok (.goto 11, 3) := by decide +kernel
theorem dX10_ring_30 : decode cX10_ring 30 = .ok (.aload_n 0, 1) := by decide +kernel
theorem dX10_ring_31 : decode cX10_ring 31 = .ok (.getfield 71, 3) := by decide +kernel
theorem dX10_ring_34 : decode cX10_ring 34 = .ok (.iload_n 1, 1) := by decide +kernel
theorem dX10_ring_35 : decode cX10_ring 35 = .ok (.invokevirtual 256, 3) := by decide +kernel
theorem dX10_ring_38 : decode cX10_ring 38 = .ok (.ireturn, 1) := by decide +kernel
theorem dX10_street_0 : decode cX10_street 0 = .ok (.iload_n 1, 1) := by decide +kernel
theorem dX10_street_1 : decode cX10_street 1 = .ok (.iconst 1, 1) := by decide +kernel
theorem dX10_street_2 : decode cX10_street 2 = .ok (.bipush 8, 2) := by decide +kernel
theorem dX10_street_4 : decode cX10_street 4 = .ok (.invokestatic 86, 3) := by decide +kernel
theorem dX10_street_7 : decode cX10_street 7 = .ok (.ifCond .eq 44, 3) := by decide +kernel
theorem dX10_street_10 : decode cX10_street 10 = .ok (.iload_n 2, 1) := by decide +kernel
theorem dX10_street_11 : decode cX10_street 11 = .ok (.iconst 0, 1) := by decide +kernel
theorem dX10_street_12 : decode cX10_street 12 = .ok (.bipush 99, 2) := by decide +kernel
theorem dX10_street_14 : decode cX10_street 14 = .ok (.invokestatic 86, 3) := by decide +kernel
theorem dX10_street_17 : decode cX10_street 17 = .ok (.ifCond .eq 34, 3) := by decide +kernel
theorem dX10_street_20 : decode cX10_street 20 = .ok (.iload_n 3, 1) := by decide +kernel
theorem dX10_street_21 : decode cX10_street 21 = .ok (.iconst 0, 1) := by decide +kernel
theorem dX10_street_22 : decode cX10_street 22 = .ok (.bipush 99, 2) := by decide +kernel
theorem dX10_street_24 : decode cX10_street 24 = .ok (.invokestatic 86, 3) := by decide +kernel
theorem dX10_street_27 : decode cX10_street 27 = .ok (.ifCond .eq 24, 3) := by decide +kernel
theorem dX10_street_30 : decode cX10_street 30 = .ok (.iload 4, 2) := by decide +kernel
theorem dX10_street_32 : decode cX10_street 32 = .ok (.iconst 0, 1) := by decide +kernel
theorem dX10_street_33 : decode cX10_street 33 = .ok (.bipush 99, 2) := by decide +kernel
theorem dX10_street_35 : decode cX10_street 35 = .ok (.invokestatic 86, 3) := by decide +kernel
theorem dX10_street_38 : decode cX10_street 38 = .ok (.ifCond .eq 13, 3) := by decide +kernel
theorem dX10_street_41 : decode cX10_street 41 = .ok (.iload 5, 2) := by decide +kernel
theorem dX10_street_43 : decode cX10_street 43 = .ok (.iconst 0, 1) := by decide +kernel
theorem dX10_street_44 : decode cX10_street 44 = .ok (.iconst 3, 1) := by decide +kernel
theorem dX10_street_45 : decode cX10_street 45 = .ok (.invokestatic 86, 3) := by decide +kernel
theorem dX10_street_48 : decode cX10_street 48 = .ok (.ifCond .ne 6, 3) := by decide +kernel
theorem dX10_street_51 : decode cX10_street 51 = .ok (.bipush (-3), 2) := by decide +kernel
theorem dX10_street_53 : decode cX10_street 53 = .ok (.ireturn, 1) := by decide +kernel
theorem dX10_street_54 : decode cX10_street 54 = .ok (.aload_n 0, 1) := by decide +kernel
theorem dX10_street_55 : decode cX10_street 55 = .ok (.getfield 78, 3) := by decide +kernel
theorem dX10_street_58 : decode cX10_street 58 = .ok (.iload_n 1, 1) := by decide +kernel
theorem dX10_street_59 : decode cX10_street 59 = .ok (.iload_n 2, 1) := by decide +kernel
theorem dX10_street_60 : decode cX10_street 60 = .ok (.iload_n 3, 1) := by decide +kernel
theorem dX10_street_61 : decode cX10_street 61 = .ok (.iload 4, 2) := by decide +kernel
theorem dX10_street_63 : decode cX10_street 63 = .ok (.invokevirtual 259, 3) := by decide +kernel
theorem dX10_street_66 : decode cX10_street 66 = .ok (.iload 5, 2) := by decide +kernel
theorem dX10_street_68 : decode cX10_street 68 = .ok (.tableswitch 70 0 2 #[28, 36, 44], 28) := by decide +kernel
theorem dX10_street_96 : decode cX10_street 96 = .ok (.aload_n 0, 1) := by decide +kernel
theorem dX10_street_97 : decode cX10_street 97 = .ok (.getfield 78, 3) := by decide +kernel
theorem dX10_street_100 : decode cX10_street 100 = .ok (.invokevirtual 263, 3) := by decide +kernel
theorem dX10_street_103 : decode cX10_street 103 = .ok (.ireturn, 1) := by decide +kernel
theorem dX10_street_104 : decode cX10_street 104 = .ok (.aload_n 0, 1) := by decide +kernel
theorem dX10_street_105 : decode cX10_street 105 = .ok (.getfield 78, 3) := by decide +kernel
theorem dX10_street_108 : decode cX10_street 108 = .ok (.invokevirtual 266, 3) := by decide +kernel
theorem dX10_street_111 : decode cX10_street 111 = .ok (.ireturn, 1) := by decide +kernel
theorem dX10_street_112 : decode cX10_street 112 = .ok (.aload_n 0, 1) := by decide +kernel
theorem dX10_street_113 : decode cX10_street 113 = .ok (.getfield 78, 3) := by decide +kernel
theorem dX10_street_116 : decode cX10_street 116 = .ok (.invokevirtual 263, 3) := by decide +kernel
theorem dX10_street_119 : decode cX10_street 119 = .ok (.ifCond .ne 7, 3) := by decide +kernel
theorem dX10_street_122 : decode cX10_street 122 = .ok (.iconst (-1), 1) := by decide +kernel
theorem dX10_street_123 : decode cX10_street 123 = .ok (.goto 14, 3) := by decide +kernel
theorem dX10_street_126 : decode cX10_street 126 = .ok (.ldc_w 269, 3) := by decide +kernel
theorem dX10_street_129 : decode cX10_street 129 = .ok (.aload_n 0, 1) := by decide +kernel
theorem dX10_street_130 : decode cX10_street 130 = .ok (.getfield 78, 3) := by decide +kernel
theorem dX10_street_133 : decode cX10_street 133 = .ok (.invokevirtual 270, 3) := by decide +kernel
theorem dX10_street_136 : decode cX10_street 136 = .ok (.iadd, 1) := by decide +kernel
theorem dX10_street_137 : decode cX10_street 137 = .ok (.ireturn, 1) := by decide +kernel
theorem dX10_street_138 : decode cX10_street 138 = .ok (.ldc_w 269, 3) := by decide +kernel
theorem dX10_street_141 : decode cX10_street 141 = .ok (.aload_n 0, 1) := by decide +kernel
theorem dX10_street_142 : decode cX10_street 142 = .ok (.getfield 78, 3) := by decide +kernel
theorem dX10_street_145 : decode cX10_street 145 = .ok (.invokevirtual 273, 3) := by decide +kernel
theorem dX10_street_148 : decode cX10_street 148 = .ok (.iadd, 1) := by decide +kernel
theorem dX10_street_149 : decode cX10_street 149 = .ok (.ireturn, 1) := by decide +kernel
theorem dX10_count_0 : decode cX10_count 0 = .ok (.iload_n 1, 1) := by decide +kernel
theorem dX10_count_1 : decode cX10_count 1 = .ok (.tableswitch 87 0 5 #[39, 47, 55, 63, 71, 79], 39) := by decide +kernel
theorem dX10_count_40 : decode cX10_count 40 = .ok (.aload_n 0, 1) := by decide +kernel
theorem dX10_count_41 : decode cX10_count 41 = .ok (.getfield 26, 3) := by decide +kernel
theorem dX10_count_44 : decode cX10_count 44 = .ok (.invokevirtual 276, 3) := by decide +kernel
theorem dX10_count_47 : decode cX10_count 47 = .ok (.ireturn, 1) := by decide +kernel
theorem dX10_count_48 : decode cX10_count 48 = .ok (.aload_n 0, 1) := by decide +kernel
theorem dX10_count_49 : decode cX10_count 49 = .ok (.getfield 12, 3) := by decide +kernel
theorem dX10_count_52 : decode cX10_count 52 = .ok (.invokevirtual 100, 3) := by decide +kernel
theorem dX10_count_55 : decode cX10_count 55 = .ok (.ireturn, 1) := by decide +kernel
theorem dX10_count_56 : decode cX10_count 56 = .ok (.aload_n 0, 1) := by decide +kernel
theorem dX10_count_57 : decode cX10_count 57 = .ok (.getfield 57, 3) := by decide +kernel
theorem dX10_count_60 : decode cX10_count 60 = .ok (.invokevirtual 279, 3) := by decide +kernel
theorem dX10_count_63 : decode cX10_count 63 = .ok (.ireturn, 1) := by decide +kernel
theorem dX10_count_64 : decode cX10_count 64 = .ok (.aload_n 0, 1) := by decide +kernel
theorem dX10_count_65 : decode cX10_count 65 = .ok (.getfield 64, 3) := by decide +kernel
theorem dX10_count_68 : decode cX10_count 68 = .ok (.invokevirtual 282, 3) := by decide +kernel
theorem dX10_count_71 : decode cX10_count 71 = .ok (.ireturn, 1) := by decide +kernel
theorem dX10_count_72 : decode cX10_count 72 = .ok (.aload_n 0, 1) := by decide +kernel
theorem dX10_count_73 : decode cX10_count 73 = .ok (.getfield 71, 3) := by decide +kernel
theorem dX10_count_76 : decode cX10_count 76 = .ok (.invokevirtual 283, 3) := by decide +kernel
theorem dX10_count_79 : decode cX10_count 79 = .ok (.ireturn, 1) := by decide +kernel
theorem dX10_count_80 : decode cX10_count 80 = .ok (.aload_n 0, 1) := by decide +kernel
theorem dX10_count_81 : decode cX10_count 81 = .ok (.getfield 26, 3) := by decide +kernel
theorem dX10_count_84 : decode cX10_count 84 = .ok (.invokevirtual 286, 3) := by decide +kernel
theorem dX10_count_87 : decode cX10_count 87 = .ok (.ireturn, 1) := by decide +kernel
theorem dX10_count_88 : decode cX10_count 88 = .ok (.bipush (-3), 2) := by decide +kernel
theorem dX10_count_90 : decode cX10_count 90 = .ok (.ireturn, 1) := by decide +kernel
theorem dX10_courseAsTold_0 : decode cX10_courseAsTold 0 = .ok (.aload_n 0, 1) := by decide +kernel
theorem dX10_courseAsTold_1 : decode cX10_courseAsTold 1 = .ok (.getfield 82, 3) := by decide +kernel
theorem dX10_courseAsTold_4 : decode cX10_courseAsTold 4 = .ok (.ifCond .ne 34, 3) := by decide +kernel
theorem dX10_courseAsTold_7 : decode cX10_courseAsTold 7 = .ok (.aload_n 0, 1) := by decide +kernel
theorem dX10_courseAsTold_8 : decode cX10_courseAsTold 8 = .ok (.getfield 33, 3) := by decide +kernel
theorem dX10_courseAsTold_11 : decode cX10_courseAsTold 11 = .ok (.aload_n 0, 1) := by decide +kernel
theorem dX10_courseAsTold_12 : decode cX10_courseAsTold 12 = .ok (.getfield 26, 3) := by decide +kernel
theorem dX10_courseAsTold_15 : decode cX10_courseAsTold 15 = .ok (.invokevirtual 189, 3) := by decide +kernel
theorem dX10_courseAsTold_18 : decode cX10_courseAsTold 18 = .ok (.aload_n 0, 1) := by decide +kernel
theorem dX10_courseAsTold_19 : decode cX10_courseAsTold 19 = .ok (.getfield 40, 3) := by decide +kernel
theorem dX10_courseAsTold_22 : decode cX10_courseAsTold 22 = .ok (.aload_n 0, 1) := by decide +kernel
theorem dX10_courseAsTold_23 : decode cX10_courseAsTold 23 = .ok (.getfield 26, 3) := by decide +kernel
theorem dX10_courseAsTold_26 : decode cX10_courseAsTold 26 = .ok (.aload_n 0, 1) := by decide +kernel
theorem dX10_courseAsTold_27 : decode cX10_courseAsTold 27 = .ok (.getfield 33, 3) := by decide +kernel
theorem dX10_courseAsTold_30 : decode cX10_courseAsTold 30 = .ok (.invokevirtual 197, 3) := by decide +kernel
theorem dX10_courseAsTold_33 : decode cX10_courseAsTold 33 = .ok (.aload_n 0, 1) := by decide +kernel
theorem dX10_courseAsTold_34 : decode cX10_courseAsTold 34 = .ok (.iconst 1, 1) := by decide +kernel
theorem dX10_courseAsTold_35 : decode cX10_courseAsTold 35 = .ok (.putfield 82, 3) := by decide +kernel
theorem dX10_courseAsTold_38 : decode cX10_courseAsTold 38 = .ok (.aload_n 0, 1) := by decide +kernel
theorem dX10_courseAsTold_39 : decode cX10_courseAsTold 39 = .ok (.getfield 40, 3) := by decide +kernel
theorem dX10_courseAsTold_42 : decode cX10_courseAsTold 42 = .ok (.areturn, 1) := by decide +kernel
theorem dX10_isWithin_0 : decode cX10_isWithin 0 = .ok (.iload_n 0, 1) := by decide +kernel
theorem dX10_isWithin_1 : decode cX10_isWithin 1 = .ok (.iload_n 1, 1) := by decide +kernel
theorem dX10_isWithin_2 : decode cX10_isWithin 2 = .ok (.if_icmp .lt 12, 3) := by decide +kernel
theorem dX10_isWithin_5 : decode cX10_isWithin 5 = .ok (.iload_n 0, 1) := by decide +kernel
theorem dX10_isWithin_6 : decode cX10_isWithin 6 = .ok (.iload_n 2, 1) := by decide +kernel
theorem dX10_isWithin_7 : decode cX10_isWithin 7 = .ok (.if_icmp .gt 7, 3) := by decide +kernel
theorem dX10_isWithin_10 : decode cX10_isWithin 10 = .ok (.iconst 1, 1) := by decide +kernel
theorem dX10_isWithin_11 : decode cX10_isWithin 11 = .ok (.goto 4, 3) := by decide +kernel
theorem dX10_isWithin_14 : decode cX10_isWithin 14 = .ok (.iconst 0, 1) := by decide +kernel
theorem dX10_isWithin_15 : decode cX10_isWithin 15 = .ok (.ireturn, 1) := by decide +kernel
theorem dX10_isRoom_0 : decode cX10_isRoom 0 = .ok (.iload_n 0, 1) := by decide +kernel
theorem dX10_isRoom_1 : decode cX10_isRoom 1 = .ok (.iconst 0, 1) := by decide +kernel
theorem dX10_isRoom_2 : decode cX10_isRoom 2 = .ok (.iconst 4, 1) := by decide +kernel
theorem dX10_isRoom_3 : decode cX10_isRoom 3 = .ok (.invokestatic 86, 3) := by decide +kernel
theorem dX10_isRoom_6 : decode cX10_isRoom 6 = .ok (.ireturn, 1) := by decide +kernel
theorem dX10_isHour_0 : decode cX10_isHour 0 = .ok (.iload_n 0, 1) := by decide +kernel
theorem dX10_isHour_1 : decode cX10_isHour 1 = .ok (.iconst 0, 1) := by decide +kernel
theorem dX10_isHour_2 : decode cX10_isHour 2 = .ok (.bipush 95, 2) := by decide +kernel
theorem dX10_isHour_4 : decode cX10_isHour 4 = .ok (.invokestatic 86, 3) := by decide +kernel
theorem dX10_isHour_7 : decode cX10_isHour 7 = .ok (.ireturn, 1) := by decide +kernel
theorem dX10_hasBit_0 : decode cX10_hasBit 0 = .ok (.iload_n 0, 1) := by decide +kernel
theorem dX10_hasBit_1 : decode cX10_hasBit 1 = .ok (.iload_n 1, 1) := by decide +kernel
theorem dX10_hasBit_2 : decode cX10_hasBit 2 = .ok (.ishr, 1) := by decide +kernel
theorem dX10_hasBit_3 : decode cX10_hasBit 3 = .ok (.iconst 1, 1) := by decide +kernel
theorem dX10_hasBit_4 : decode cX10_hasBit 4 = .ok (.iand, 1) := by decide +kernel
theorem dX10_hasBit_5 : decode cX10_hasBit 5 = .ok (.iconst 1, 1) := by decide +kernel
theorem dX10_hasBit_6 : decode cX10_hasBit 6 = .ok (.if_icmp .ne 7, 3) := by decide +kernel
theorem dX10_hasBit_9 : decode cX10_hasBit 9 = .ok (.iconst 1, 1) := by decide +kernel
theorem dX10_hasBit_10 : decode cX10_hasBit 10 = .ok (.goto 4, 3) := by decide +kernel
theorem dX10_hasBit_13 : decode cX10_hasBit 13 = .ok (.iconst 0, 1) := by decide +kernel
theorem dX10_hasBit_14 : decode cX10_hasBit 14 = .ok (.ireturn, 1) := by decide +kernel
theorem dX10_hoursFrom_0 : decode cX10_hoursFrom 0 = .ok (.iconst 0, 1) := by decide +kernel
theorem dX10_hoursFrom_1 : decode cX10_hoursFrom 1 = .ok (.istore_n 2, 1) := by decide +kernel
theorem dX10_hoursFrom_2 : decode cX10_hoursFrom 2 = .ok (.iconst 0, 1) := by decide +kernel
theorem dX10_hoursFrom_3 : decode cX10_hoursFrom 3 = .ok (.istore_n 3, 1) := by decide +kernel
theorem dX10_hoursFrom_4 : decode cX10_hoursFrom 4 = .ok (.iload_n 3, 1) := by decide +kernel
theorem dX10_hoursFrom_5 : decode cX10_hoursFrom 5 = .ok (.bipush 24, 2) := by decide +kernel
theorem dX10_hoursFrom_7 : decode cX10_hoursFrom 7 = .ok (.if_icmp .ge 33, 3) := by decide +kernel
theorem dX10_hoursFrom_10 : decode cX10_hoursFrom 10 = .ok (.iload_n 0, 1) := by decide +kernel
theorem dX10_hoursFrom_11 : decode cX10_hoursFrom 11 = .ok (.iload_n 3, 1) := by decide +kernel
theorem dX10_hoursFrom_12 : decode cX10_hoursFrom 12 = .ok (.iadd, 1) := by decide +kernel
theorem dX10_hoursFrom_13 : decode cX10_hoursFrom 13 = .ok (.bipush 24, 2) := by decide +kernel
theorem dX10_hoursFrom_15 : decode cX10_hoursFrom 15 = .ok (.irem, 1) := by decide +kernel
theorem dX10_hoursFrom_16 : decode cX10_hoursFrom 16 = .ok (.istore 4, 2) := by decide +kernel
theorem dX10_hoursFrom_18 : decode cX10_hoursFrom 18 = .ok (.iload 4, 2) := by decide +kernel
theorem dX10_hoursFrom_20 : decode cX10_hoursFrom 20 = .ok (.iload_n 1, 1) := by decide +kernel
theorem dX10_hoursFrom_21 : decode cX10_hoursFrom 21 = .ok (.if_icmp .ne 6, 3) := by decide +kernel
theorem dX10_hoursFrom_24 : decode cX10_hoursFrom 24 = .ok (.goto 16, 3) := by decide +kernel
theorem dX10_hoursFrom_27 : decode cX10_hoursFrom 27 = .ok (.iload_n 2, 1) := by decide +kernel
theorem dX10_hoursFrom_28 : decode cX10_hoursFrom 28 = .ok (.iconst 1, 1) := by decide +kernel
theorem dX10_hoursFrom_29 : decode cX10_hoursFrom 29 = .ok (.iload 4, 2) := by decide +kernel
theorem dX10_hoursFrom_31 : decode cX10_hoursFrom 31 = .ok (.ishl, 1) := by decide +kernel
theorem dX10_hoursFrom_32 : decode cX10_hoursFrom 32 = .ok (.ior, 1) := by decide +kernel
theorem dX10_hoursFrom_33 : decode cX10_hoursFrom 33 = .ok (.istore_n 2, 1) := by decide +kernel
theorem dX10_hoursFrom_34 : decode cX10_hoursFrom 34 = .ok (.iinc 3 1, 3) := by decide +kernel
theorem dX10_hoursFrom_37 : decode cX10_hoursFrom 37 = .ok (.goto (-33), 3) := by decide +kernel
theorem dX10_hoursFrom_40 : decode cX10_hoursFrom 40 = .ok (.iload_n 2, 1) := by decide +kernel
theorem dX10_hoursFrom_41 : decode cX10_hoursFrom 41 = .ok (.ireturn, 1) := by decide +kernel
