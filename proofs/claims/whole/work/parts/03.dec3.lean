theorem dX0_init_0 : decode cX0_init 0 = .ok (.aload_n 0, 1) := by decide +kernel
theorem dX0_init_1 : decode cX0_init 1 = .ok (.invokespecial 3, 3) := by decide +kernel
theorem dX0_init_4 : decode cX0_init 4 = .ok (.aload_n 0, 1) := by decide +kernel
theorem dX0_init_5 : decode cX0_init 5 = .ok (.bipush 40, 2) := by decide +kernel
theorem dX0_init_7 : decode cX0_init 7 = .ok (.anewarray 9, 3) := by decide +kernel
theorem dX0_init_10 : decode cX0_init 10 = .ok (.putfield 11, 3) := by decide +kernel
theorem dX0_init_13 : decode cX0_init 13 = .ok (.aload_n 0, 1) := by decide +kernel
theorem dX0_init_14 : decode cX0_init 14 = .ok (.iconst 0, 1) := by decide +kernel
theorem dX0_init_15 : decode cX0_init 15 = .ok (.putfield 17, 3) := by decide +kernel
theorem dX0_init_18 : decode cX0_init 18 = .ok (.return_, 1) := by decide +kernel
theorem dX0_add_0 : decode cX0_add 0 = .ok (.aload_n 0, 1) := by decide +kernel
theorem dX0_add_1 : decode cX0_add 1 = .ok (.getfield 11, 3) := by decide +kernel
theorem dX0_add_4 : decode cX0_add 4 = .ok (.aload_n 0, 1) := by decide +kernel
theorem dX0_add_5 : decode cX0_add 5 = .ok (.getfield 17, 3) := by decide +kernel
theorem dX0_add_8 : decode cX0_add 8 = .ok (.aload_n 1, 1) := by decide +kernel
theorem dX0_add_9 : decode cX0_add 9 = .ok (.aastore, 1) := by decide +kernel
theorem dX0_add_10 : decode cX0_add 10 = .ok (.aload_n 0, 1) := by decide +kernel
theorem dX0_add_11 : decode cX0_add 11 = .ok (.dup, 1) := by decide +kernel
theorem dX0_add_12 : decode cX0_add 12 = .ok (.getfield 17, 3) := by decide +kernel
theorem dX0_add_15 : decode cX0_add 15 = .ok (.dup_x1, 1) := by decide +kernel
theorem dX0_add_16 : decode cX0_add 16 = .ok (.iconst 1, 1) := by decide +kernel
theorem dX0_add_17 : decode cX0_add 17 = .ok (.iadd, 1) := by decide +kernel
theorem dX0_add_18 : decode cX0_add 18 = .ok (.putfield 17, 3) := by decide +kernel
theorem dX0_add_21 : decode cX0_add 21 = .ok (.ireturn, 1) := by decide +kernel
theorem dX0_countOn_0 : decode cX0_countOn 0 = .ok (.iconst 0, 1) := by decide +kernel
theorem dX0_countOn_1 : decode cX0_countOn 1 = .ok (.istore_n 3, 1) := by decide +kernel
theorem dX0_countOn_2 : decode cX0_countOn 2 = .ok (.iconst 0, 1) := by decide +kernel
theorem dX0_countOn_3 : decode cX0_countOn 3 = .ok (.istore 4, 2) := by decide +kernel
theorem dX0_countOn_5 : decode cX0_countOn 5 = .ok (.iload 4, 2) := by decide +kernel
theorem dX0_countOn_7 : decode cX0_countOn 7 = .ok (.aload_n 0, 1) := by decide +kernel
theorem dX0_countOn_8 : decode cX0_countOn 8 = .ok (.getfield 17, 3) := by decide +kernel
theorem dX0_countOn_11 : decode cX0_countOn 11 = .ok (.if_icmp .ge 32, 3) := by decide +kernel
theorem dX0_countOn_14 : decode cX0_countOn 14 = .ok (.iload_n 3, 1) := by decide +kernel
theorem dX0_countOn_15 : decode cX0_countOn 15 = .ok (.aload_n 0, 1) := by decide +kernel
theorem dX0_countOn_16 : decode cX0_countOn 16 = .ok (.getfield 11, 3) := by decide +kernel
theorem dX0_countOn_19 : decode cX0_countOn 19 = .ok (.iload 4, 2) := by decide +kernel
theorem dX0_countOn_21 : decode cX0_countOn 21 = .ok (.aaload, 1) := by decide +kernel
theorem dX0_countOn_22 : decode cX0_countOn 22 = .ok (.iload_n 1, 1) := by decide +kernel
theorem dX0_countOn_23 : decode cX0_countOn 23 = .ok (.iload_n 2, 1) := by decide +kernel
theorem dX0_countOn_24 : decode cX0_countOn 24 = .ok (.invokevirtual 21, 3) := by decide +kernel
theorem dX0_countOn_27 : decode cX0_countOn 27 = .ok (.ifCond .eq 7, 3) := by decide +kernel
theorem dX0_countOn_30 : decode cX0_countOn 30 = .ok (.iconst 1, 1) := by decide +kernel
theorem dX0_countOn_31 : decode cX0_countOn 31 = .ok (.goto 4, 3) := by decide +kernel
theorem dX0_countOn_34 : decode cX0_countOn 34 = .ok (.iconst 0, 1) := by decide +kernel
theorem dX0_countOn_35 : decode cX0_countOn 35 = .ok (.iadd, 1) := by decide +kernel
theorem dX0_countOn_36 : decode cX0_countOn 36 = .ok (.istore_n 3, 1) := by decide +kernel
theorem dX0_countOn_37 : decode cX0_countOn 37 = .ok (.iinc 4 1, 3) := by decide +kernel
theorem dX0_countOn_40 : decode cX0_countOn 40 = .ok (.goto (-35), 3) := by decide +kernel
theorem dX0_countOn_43 : decode cX0_countOn 43 = .ok (.iload_n 3, 1) := by decide +kernel
theorem dX0_countOn_44 : decode cX0_countOn 44 = .ok (.ireturn, 1) := by decide +kernel
theorem dX0_areOneMail_0 : decode cX0_areOneMail 0 = .ok (.iconst 0, 1) := by decide +kernel
theorem dX0_areOneMail_1 : decode cX0_areOneMail 1 = .ok (.istore 4, 2) := by decide +kernel
theorem dX0_areOneMail_3 : decode cX0_areOneMail 3 = .ok (.iload 4, 2) := by decide +kernel
theorem dX0_areOneMail_5 : decode cX0_areOneMail 5 = .ok (.aload_n 0, 1) := by decide +kernel
theorem dX0_areOneMail_6 : decode cX0_areOneMail 6 = .ok (.getfield 17, 3) := by decide +kernel
theorem dX0_areOneMail_9 : decode cX0_areOneMail 9 = .ok (.if_icmp .ge 55, 3) := by decide +kernel
theorem dX0_areOneMail_12 : decode cX0_areOneMail 12 = .ok (.aload_n 0, 1) := by decide +kernel
theorem dX0_areOneMail_13 : decode cX0_areOneMail 13 = .ok (.getfield 11, 3) := by decide +kernel
theorem dX0_areOneMail_16 : decode cX0_areOneMail 16 = .ok (.iload 4, 2) := by decide +kernel
theorem dX0_areOneMail_18 : decode cX0_areOneMail 18 = .ok (.aaload, 1) := by decide +kernel
theorem dX0_areOneMail_19 : decode cX0_areOneMail 19 = .ok (.getfield 25, 3) := by decide +kernel
theorem dX0_areOneMail_22 : decode cX0_areOneMail 22 = .ok (.ifnull 36, 3) := by decide +kernel
theorem dX0_areOneMail_25 : decode cX0_areOneMail 25 = .ok (.aload_n 0, 1) := by decide +kernel
theorem dX0_areOneMail_26 : decode cX0_areOneMail 26 = .ok (.getfield 11, 3) := by decide +kernel
theorem dX0_areOneMail_29 : decode cX0_areOneMail 29 = .ok (.iload 4, 2) := by decide +kernel
theorem dX0_areOneMail_31 : decode cX0_areOneMail 31 = .ok (.aaload, 1) := by decide +kernel
theorem dX0_areOneMail_32 : decode cX0_areOneMail 32 = .ok (.iload_n 1, 1) := by decide +kernel
theorem dX0_areOneMail_33 : decode cX0_areOneMail 33 = .ok (.iload_n 3, 1) := by decide +kernel
theorem dX0_areOneMail_34 : decode cX0_areOneMail 34 = .ok (.invokevirtual 21, 3) := by decide +kernel
theorem dX0_areOneMail_37 : decode cX0_areOneMail 37 = .ok (.ifCond .eq 21, 3) := by decide +kernel
theorem dX0_areOneMail_40 : decode cX0_areOneMail 40 = .ok (.aload_n 0, 1) := by decide +kernel
theorem dX0_areOneMail_41 : decode cX0_areOneMail 41 = .ok (.aload_n 0, 1) := by decide +kernel
theorem dX0_areOneMail_42 : decode cX0_areOneMail 42 = .ok (.getfield 11, 3) := by decide +kernel
theorem dX0_areOneMail_45 : decode cX0_areOneMail 45 = .ok (.iload 4, 2) := by decide +kernel
theorem dX0_areOneMail_47 : decode cX0_areOneMail 47 = .ok (.aaload, 1) := by decide +kernel
theorem dX0_areOneMail_48 : decode cX0_areOneMail 48 = .ok (.iload_n 2, 1) := by decide +kernel
theorem dX0_areOneMail_49 : decode cX0_areOneMail 49 = .ok (.iload_n 3, 1) := by decide +kernel
theorem dX0_areOneMail_50 : decode cX0_areOneMail 50 = .ok (.invokevirtual 29, 3) := by decide +kernel
theorem dX0_areOneMail_53 : decode cX0_areOneMail 53 = .ok (.ifCond .eq 5, 3) := by decide +kernel
theorem dX0_areOneMail_56 : decode cX0_areOneMail 56 = .ok (.iconst 1, 1) := by decide +kernel
theorem dX0_areOneMail_57 : decode cX0_areOneMail 57 = .ok (.ireturn, 1) := by decide +kernel
theorem dX0_areOneMail_58 : decode cX0_areOneMail 58 = .ok (.iinc 4 1, 3) := by decide +kernel
theorem dX0_areOneMail_61 : decode cX0_areOneMail 61 = .ok (.goto (-58), 3) := by decide +kernel
theorem dX0_areOneMail_64 : decode cX0_areOneMail 64 = .ok (.iconst 0, 1) := by decide +kernel
theorem dX0_areOneMail_65 : decode cX0_areOneMail 65 = .ok (.ireturn, 1) := by decide +kernel
theorem dX0_hasMarkWith_0 : decode cX0_hasMarkWith 0 = .ok (.iconst 0, 1) := by decide +kernel
theorem dX0_hasMarkWith_1 : decode cX0_hasMarkWith 1 = .ok (.istore 4, 2) := by decide +kernel
theorem dX0_hasMarkWith_3 : decode cX0_hasMarkWith 3 = .ok (.iload 4, 2) := by decide +kernel
theorem dX0_hasMarkWith_5 : decode cX0_hasMarkWith 5 = .ok (.aload_n 0, 1) := by decide +kernel
theorem dX0_hasMarkWith_6 : decode cX0_hasMarkWith 6 = .ok (.getfield 17, 3) := by decide +kernel
theorem dX0_hasMarkWith_9 : decode cX0_hasMarkWith 9 = .ok (.if_icmp .ge 57, 3) := by decide +kernel
theorem dX0_hasMarkWith_12 : decode cX0_hasMarkWith 12 = .ok (.aload_n 0, 1) := by decide +kernel
theorem dX0_hasMarkWith_13 : decode cX0_hasMarkWith 13 = .ok (.getfield 11, 3) := by decide +kernel
theorem dX0_hasMarkWith_16 : decode cX0_hasMarkWith 16 = .ok (.iload 4, 2) := by decide +kernel
theorem dX0_hasMarkWith_18 : decode cX0_hasMarkWith 18 = .ok (.aaload, 1) := by decide +kernel
theorem dX0_hasMarkWith_19 : decode cX0_hasMarkWith 19 = .ok (.astore 5, 2) := by decide +kernel
theorem dX0_hasMarkWith_21 : decode cX0_hasMarkWith 21 = .ok (.aload 5, 2) := by decide +kernel
theorem dX0_hasMarkWith_23 : decode cX0_hasMarkWith 23 = .ok (.iload_n 2, 1) := by decide +kernel
theorem dX0_hasMarkWith_24 : decode cX0_hasMarkWith 24 = .ok (.iload_n 3, 1) := by decide +kernel
theorem dX0_hasMarkWith_25 : decode cX0_hasMarkWith 25 = .ok (.invokevirtual 21, 3) := by decide +kernel
theorem dX0_hasMarkWith_28 : decode cX0_hasMarkWith 28 = .ok (.ifCond .eq 32, 3) := by decide +kernel
theorem dX0_hasMarkWith_31 : decode cX0_hasMarkWith 31 = .ok (.aload 5, 2) := by decide +kernel
theorem dX0_hasMarkWith_33 : decode cX0_hasMarkWith 33 = .ok (.getfield 33, 3) := by decide +kernel
theorem dX0_hasMarkWith_36 : decode cX0_hasMarkWith 36 = .ok (.aload_n 1, 1) := by decide +kernel
theorem dX0_hasMarkWith_37 : decode cX0_hasMarkWith 37 = .ok (.getfield 33, 3) := by decide +kernel
theorem dX0_hasMarkWith_40 : decode cX0_hasMarkWith 40 = .ok (.if_icmp .ne 20, 3) := by decide +kernel
theorem dX0_hasMarkWith_43 : decode cX0_hasMarkWith 43 = .ok (.aload 5, 2) := by decide +kernel
theorem dX0_hasMarkWith_45 : decode cX0_hasMarkWith 45 = .ok (.getfield 36, 3) := by decide +kernel
theorem dX0_hasMarkWith_48 : decode cX0_hasMarkWith 48 = .ok (.aload_n 1, 1) := by decide +kernel
theorem dX0_hasMarkWith_49 : decode cX0_hasMarkWith 49 = .ok (.getfield 36, 3) := by decide +kernel
theorem dX0_hasMarkWith_52 : decode cX0_hasMarkWith 52 = .ok (.invokevirtual 40, 3) := by decide +kernel
theorem dX0_hasMarkWith_55 : decode cX0_hasMarkWith 55 = .ok (.ifCond .eq 5, 3) := by decide +kernel
theorem dX0_hasMarkWith_58 : decode cX0_hasMarkWith 58 = .ok (.iconst 1, 1) := by decide +kernel
theorem dX0_hasMarkWith_59 : decode cX0_hasMarkWith 59 = .ok (.ireturn, 1) := by decide +kernel
theorem dX0_hasMarkWith_60 : decode cX0_hasMarkWith 60 = .ok (.iinc 4 1, 3) := by decide +kernel
theorem dX0_hasMarkWith_63 : decode cX0_hasMarkWith 63 = .ok (.goto (-60), 3) := by decide +kernel
theorem dX0_hasMarkWith_66 : decode cX0_hasMarkWith 66 = .ok (.iconst 0, 1) := by decide +kernel
theorem dX0_hasMarkWith_67 : decode cX0_hasMarkWith 67 = .ok (.ireturn, 1) := by decide +kernel
theorem dX0_heapOf_0 : decode cX0_heapOf 0 = .ok (.iconst 1, 1) := by decide +kernel
theorem dX0_heapOf_1 : decode cX0_heapOf 1 = .ok (.iload_n 1, 1) := by decide +kernel
theorem dX0_heapOf_2 : decode cX0_heapOf 2 = .ok (.ishl, 1) := by decide +kernel
theorem dX0_heapOf_3 : decode cX0_heapOf 3 = .ok (.istore_n 3, 1) := by decide +kernel
theorem dX0_heapOf_4 : decode cX0_heapOf 4 = .ok (.iconst 0, 1) := by decide +kernel
theorem dX0_heapOf_5 : decode cX0_heapOf 5 = .ok (.istore 4, 2) := by decide +kernel
theorem dX0_heapOf_7 : decode cX0_heapOf 7 = .ok (.iconst 0, 1) := by decide +kernel
theorem dX0_heapOf_8 : decode cX0_heapOf 8 = .ok (.istore 5, 2) := by decide +kernel
theorem dX0_heapOf_10 : decode cX0_heapOf 10 = .ok (.iload 5, 2) := by decide +kernel
theorem dX0_heapOf_12 : decode cX0_heapOf 12 = .ok (.bipush 8, 2) := by decide +kernel
theorem dX0_heapOf_14 : decode cX0_heapOf 14 = .ok (.if_icmp .ge 79, 3) := by decide +kernel
theorem dX0_heapOf_17 : decode cX0_heapOf 17 = .ok (.iload 4, 2) := by decide +kernel
theorem dX0_heapOf_19 : decode cX0_heapOf 19 = .ok (.iload_n 3, 1) := by decide +kernel
theorem dX0_heapOf_20 : decode cX0_heapOf 20 = .ok (.if_icmp .eq 73, 3) := by decide +kernel
theorem dX0_heapOf_23 : decode cX0_heapOf 23 = .ok (.iload_n 3, 1) := by decide +kernel
theorem dX0_heapOf_24 : decode cX0_heapOf 24 = .ok (.iload 4, 2) := by decide +kernel
theorem dX0_heapOf_26 : decode cX0_heapOf 26 = .ok (.iconst (-1), 1) := by decide +kernel
theorem dX0_heapOf_27 : decode cX0_heapOf 27 = .ok (.ixor, 1) := by decide +kernel
theorem dX0_heapOf_28 : decode cX0_heapOf 28 = .ok (.iand, 1) := by decide +kernel
theorem dX0_heapOf_29 : decode cX0_heapOf 29 = .ok (.invokestatic 46, 3) := by decide +kernel
theorem dX0_heapOf_32 : decode cX0_heapOf 32 = .ok (.istore 6, 2) := by decide +kernel
theorem dX0_heapOf_34 : decode cX0_heapOf 34 = .ok (.iload 4, 2) := by decide +kernel
theorem dX0_heapOf_36 : decode cX0_heapOf 36 = .ok (.iconst 1, 1) := by decide +kernel
theorem dX0_heapOf_37 : decode cX0_heapOf 37 = .ok (.iload 6, 2) := by decide +kernel
theorem dX0_heapOf_39 : decode cX0_heapOf 39 = .ok (.ishl, 1) := by decide +kernel
theorem dX0_heapOf_40 : decode cX0_heapOf 40 = .ok (.ior, 1) := by decide +kernel
theorem dX0_heapOf_41 : decode cX0_heapOf 41 = .ok (.istore 4, 2) := by decide +kernel
theorem dX0_heapOf_43 : decode cX0_heapOf 43 = .ok (.iconst 0, 1) := by decide +kernel
theorem dX0_heapOf_44 : decode cX0_heapOf 44 = .ok (.istore 7, 2) := by decide +kernel
theorem dX0_heapOf_46 : decode cX0_heapOf 46 = .ok (.iload 7, 2) := by decide +kernel
theorem dX0_heapOf_48 : decode cX0_heapOf 48 = .ok (.bipush 8, 2) := by decide +kernel
theorem dX0_heapOf_50 : decode cX0_heapOf 50 = .ok (.if_icmp .ge 37, 3) := by decide +kernel
theorem dX0_heapOf_53 : decode cX0_heapOf 53 = .ok (.iload_n 3, 1) := by decide +kernel
theorem dX0_heapOf_54 : decode cX0_heapOf 54 = .ok (.iload 7, 2) := by decide +kernel
theorem dX0_heapOf_56 : decode cX0_heapOf 56 = .ok (.ishr, 1) := by decide +kernel
theorem dX0_heapOf_57 : decode cX0_heapOf 57 = .ok (.iconst 1, 1) := by decide +kernel
theorem dX0_heapOf_58 : decode cX0_heapOf 58 = .ok (.iand, 1) := by decide +kernel
theorem dX0_heapOf_59 : decode cX0_heapOf 59 = .ok (.ifCond .ne 22, 3) := by decide +kernel
theorem dX0_heapOf_62 : decode cX0_heapOf 62 = .ok (.aload_n 0, 1) := by decide +kernel
theorem dX0_heapOf_63 : decode cX0_heapOf 63 = .ok (.iload 6, 2) := by decide +kernel
theorem dX0_heapOf_65 : decode cX0_heapOf 65 = .ok (.iload 7, 2) := by decide +kernel
theorem dX0_heapOf_67 : decode cX0_heapOf 67 = .ok (.iload_n 2, 1) := by decide +kernel
theorem dX0_heapOf_68 : decode cX0_heapOf 68 = .ok (.invokevirtual 50, 3) := by decide +kernel
theorem dX0_heapOf_71 : decode cX0_heapOf 71 = .ok (.ifCond .eq 10, 3) := by decide +kernel
theorem dX0_heapOf_74 : decode cX0_heapOf 74 = .ok (.iload_n 3, 1) := by decide +kernel
theorem dX0_heapOf_75 : decode cX0_heapOf 75 = .ok (.iconst 1, 1) := by decide +kernel
theorem dX0_heapOf_76 : decode cX0_heapOf 76 = .ok (.iload 7, 2) := by decide +kernel
theorem dX0_heapOf_78 : decode cX0_heapOf 78 = .ok (.ishl, 1) := by decide +kernel
theorem dX0_heapOf_79 : decode cX0_heapOf 79 = .ok (.ior, 1) := by decide +kernel
theorem dX0_heapOf_80 : decode cX0_heapOf 80 = .ok (.istore_n 3, 1) := by decide +kernel
theorem dX0_heapOf_81 : decode cX0_heapOf 81 = .ok (.iinc 7 1, 3) := by decide +kernel
theorem dX0_heapOf_84 : decode cX0_heapOf 84 = .ok (.goto (-38), 3) := by decide +kernel
theorem dX0_heapOf_87 : decode cX0_heapOf 87 = .ok (.iinc 5 1, 3) := by decide +kernel
theorem dX0_heapOf_90 : decode cX0_heapOf 90 = .ok (.goto (-80), 3) := by decide +kernel
theorem dX0_heapOf_93 : decode cX0_heapOf 93 = .ok (.iload_n 3, 1) := by decide +kernel
theorem dX0_heapOf_94 : decode cX0_heapOf 94 = .ok (.ireturn, 1) := by decide +kernel
theorem dX0_lowestOf_0 : decode cX0_lowestOf 0 = .ok (.iconst 0, 1) := by decide +kernel
theorem dX0_lowestOf_1 : decode cX0_lowestOf 1 = .ok (.istore_n 1, 1) := by decide +kernel
theorem dX0_lowestOf_2 : decode cX0_lowestOf 2 = .ok (.iload_n 1, 1) := by decide +kernel
theorem dX0_lowestOf_3 : decode cX0_lowestOf 3 = .ok (.bipush 8, 2) := by decide +kernel
theorem dX0_lowestOf_5 : decode cX0_lowestOf 5 = .ok (.if_icmp .ge 20, 3) := by decide +kernel
theorem dX0_lowestOf_8 : decode cX0_lowestOf 8 = .ok (.iload_n 0, 1) := by decide +kernel
theorem dX0_lowestOf_9 : decode cX0_lowestOf 9 = .ok (.iload_n 1, 1) := by decide +kernel
theorem dX0_lowestOf_10 : decode cX0_lowestOf 10 = .ok (.ishr, 1) := by decide +kernel
theorem dX0_lowestOf_11 : decode cX0_lowestOf 11 = .ok (.iconst 1, 1) := by decide +kernel
theorem dX0_lowestOf_12 : decode cX0_lowestOf 12 = .ok (.iand, 1) := by decide +kernel
theorem dX0_lowestOf_13 : decode cX0_lowestOf 13 = .ok (.iconst 1, 1) := by decide +kernel
theorem dX0_lowestOf_14 : decode cX0_lowestOf 14 = .ok (.if_icmp .ne 5, 3) := by decide +kernel
theorem dX0_lowestOf_17 : decode cX0_lowestOf 17 = .ok (.iload_n 1, 1) := by decide +kernel
theorem dX0_lowestOf_18 : decode cX0_lowestOf 18 = .ok (.ireturn, 1) := by decide +kernel
theorem dX0_lowestOf_19 : decode cX0_lowestOf 19 = .ok (.iinc 1 1, 3) := by decide +kernel
theorem dX0_lowestOf_22 : decode cX0_lowestOf 22 = .ok (.goto (-20), 3) := by decide +kernel
theorem dX0_lowestOf_25 : decode cX0_lowestOf 25 = .ok (.iconst 0, 1) := by decide +kernel
theorem dX0_lowestOf_26 : decode cX0_lowestOf 26 = .ok (.ireturn, 1) := by decide +kernel
theorem dX0_manyOf_0 : decode cX0_manyOf 0 = .ok (.iconst 0, 1) := by decide +kernel
theorem dX0_manyOf_1 : decode cX0_manyOf 1 = .ok (.istore_n 3, 1) := by decide +kernel
theorem dX0_manyOf_2 : decode cX0_manyOf 2 = .ok (.iconst 0, 1) := by decide +kernel
theorem dX0_manyOf_3 : decode cX0_manyOf 3 = .ok (.istore 4, 2) := by decide +kernel
theorem dX0_manyOf_5 : decode cX0_manyOf 5 = .ok (.iload 4, 2) := by decide +kernel
theorem dX0_manyOf_7 : decode cX0_manyOf 7 = .ok (.bipush 8, 2) := by decide +kernel
theorem dX0_manyOf_9 : decode cX0_manyOf 9 = .ok (.if_icmp .ge 28, 3) := by decide +kernel
theorem dX0_manyOf_12 : decode cX0_manyOf 12 = .ok (.iload_n 3, 1) := by decide +kernel
theorem dX0_manyOf_13 : decode cX0_manyOf 13 = .ok (.aload_n 0, 1) := by decide +kernel
theorem dX0_manyOf_14 : decode cX0_manyOf 14 = .ok (.iload 4, 2) := by decide +kernel
theorem dX0_manyOf_16 : decode cX0_manyOf 16 = .ok (.iload_n 1, 1) := by decide +kernel
theorem dX0_manyOf_17 : decode cX0_manyOf 17 = .ok (.iload_n 2, 1) := by decide +kernel
theorem dX0_manyOf_18 : decode cX0_manyOf 18 = .ok (.invokevirtual 54, 3) := by decide +kernel
theorem dX0_manyOf_21 : decode cX0_manyOf 21 = .ok (.ifCond .eq 7, 3) := by decide +kernel
theorem dX0_manyOf_24 : decode cX0_manyOf 24 = .ok (.iconst 1, 1) := by decide +kernel
theorem dX0_manyOf_25 : decode cX0_manyOf 25 = .ok (.goto 4, 3) := by decide +kernel
theorem dX0_manyOf_28 : decode cX0_manyOf 28 = .ok (.iconst 0, 1) := by decide +kernel
theorem dX0_manyOf_29 : decode cX0_manyOf 29 = .ok (.iadd, 1) := by decide +kernel
theorem dX0_manyOf_30 : decode cX0_manyOf 30 = .ok (.istore_n 3, 1) := by decide +kernel
theorem dX0_manyOf_31 : decode cX0_manyOf 31 = .ok (.iinc 4 1, 3) := by decide +kernel
theorem dX0_manyOf_34 : decode cX0_manyOf 34 = .ok (.goto (-29), 3) := by decide +kernel
theorem dX0_manyOf_37 : decode cX0_manyOf 37 = .ok (.iconst 0, 1) := by decide +kernel
theorem dX0_manyOf_38 : decode cX0_manyOf 38 = .ok (.istore 4, 2) := by decide +kernel
theorem dX0_manyOf_40 : decode cX0_manyOf 40 = .ok (.iconst 0, 1) := by decide +kernel
theorem dX0_manyOf_41 : decode cX0_manyOf 41 = .ok (.istore 5, 2) := by decide +kernel
theorem dX0_manyOf_43 : decode cX0_manyOf 43 = .ok (.iconst 0, 1) := by decide +kernel
theorem dX0_manyOf_44 : decode cX0_manyOf 44 = .ok (.istore 6, 2) := by decide +kernel
theorem dX0_manyOf_46 : decode cX0_manyOf 46 = .ok (.iload 6, 2) := by decide +kernel
theorem dX0_manyOf_48 : decode cX0_manyOf 48 = .ok (.bipush 16, 2) := by decide +kernel
theorem dX0_manyOf_50 : decode cX0_manyOf 50 = .ok (.if_icmp .ge 107, 3) := by decide +kernel
theorem dX0_manyOf_53 : decode cX0_manyOf 53 = .ok (.lconst 0, 1) := by decide +kernel
theorem dX0_manyOf_54 : decode cX0_manyOf 54 = .ok (.lstore 7, 2) := by decide +kernel
theorem dX0_manyOf_56 : decode cX0_manyOf 56 = .ok (.lconst 0, 1) := by decide +kernel
theorem dX0_manyOf_57 : decode cX0_manyOf 57 = .ok (.lstore 9, 2) := by decide +kernel
theorem dX0_manyOf_59 : decode cX0_manyOf 59 = .ok (.lconst 0, 1) := by decide +kernel
theorem dX0_manyOf_60 : decode cX0_manyOf 60 = .ok (.lstore 11, 2) := by decide +kernel
theorem dX0_manyOf_62 : decode cX0_manyOf 62 = .ok (.iconst 0, 1) := by decide +kernel
theorem dX0_manyOf_63 : decode cX0_manyOf 63 = .ok (.istore 13, 2) := by decide +kernel
theorem dX0_manyOf_65 : decode cX0_manyOf 65 = .ok (.iload 13, 2) := by decide +kernel
theorem dX0_manyOf_67 : decode cX0_manyOf 67 = .ok (.bipush 8, 2) := by decide +kernel
theorem dX0_manyOf_69 : decode cX0_manyOf 69 = .ok (.if_icmp .ge 48, 3) := by decide +kernel
theorem dX0_manyOf_72 : decode cX0_manyOf 72 = .ok (.aload_n 0, 1) := by decide +kernel
theorem dX0_manyOf_73 : decode cX0_manyOf 73 = .ok (.iload 13, 2) := by decide +kernel
theorem dX0_manyOf_75 : decode cX0_manyOf 75 = .ok (.iload_n 1, 1) := by decide +kernel
theorem dX0_manyOf_76 : decode cX0_manyOf 76 = .ok (.iload_n 2, 1) := by decide +kernel
theorem dX0_manyOf_77 : decode cX0_manyOf 77 = .ok (.iload 6, 2) := by decide +kernel
theorem dX0_manyOf_79 : decode cX0_manyOf 79 = .ok (.invokevirtual 57, 3) := by decide +kernel
theorem dX0_manyOf_82 : decode cX0_manyOf 82 = .ok (.lstore 14, 2) := by decide +kernel
theorem dX0_manyOf_84 : decode cX0_manyOf 84 = .ok (.lload 11, 2) := by decide +kernel
theorem dX0_manyOf_86 : decode cX0_manyOf 86 = .ok (.lload 9, 2) := by decide +kernel
theorem dX0_manyOf_88 : decode cX0_manyOf 88 = .ok (.lload 14, 2) := by decide +kernel
theorem dX0_manyOf_90 : decode cX0_manyOf 90 = .ok (.land, 1) := by decide +kernel
theorem dX0_manyOf_91 : decode cX0_manyOf 91 = .ok (.lor, 1) := by decide +kernel
theorem dX0_manyOf_92 : decode cX0_manyOf 92 = .ok (.lstore 11, 2) := by decide +kernel
theorem dX0_manyOf_94 : decode cX0_manyOf 94 = .ok (.lload 9, 2) := by decide +kernel
theorem dX0_manyOf_96 : decode cX0_manyOf 96 = .ok (.lload 7, 2) := by decide +kernel
theorem dX0_manyOf_98 : decode cX0_manyOf 98 = .ok (.lload 14, 2) := by decide +kernel
theorem dX0_manyOf_100 : decode cX0_manyOf 100 = .ok (.land, 1) := by decide +kernel
theorem dX0_manyOf_101 : decode cX0_manyOf 101 = .ok (.lor, 1) := by decide +kernel
theorem dX0_manyOf_102 : decode cX0_manyOf 102 = .ok (.lstore 9, 2) := by decide +kernel
theorem dX0_manyOf_104 : decode cX0_manyOf 104 = .ok (.lload 7, 2) := by decide +kernel
theorem dX0_manyOf_106 : decode cX0_manyOf 106 = .ok (.lload 14, 2) := by decide +kernel
theorem dX0_manyOf_108 : decode cX0_manyOf 108 = .ok (.lor, 1) := by decide +kernel
theorem dX0_manyOf_109 : decode cX0_manyOf 109 = .ok (.lstore 7, 2) := by decide +kernel
theorem dX0_manyOf_111 : decode cX0_manyOf 111 = .ok (.iinc 13 1, 3) := by decide +kernel
theorem dX0_manyOf_114 : decode cX0_manyOf 114 = .ok (.goto (-49), 3) := by decide +kernel
theorem dX0_manyOf_117 : decode cX0_manyOf 117 = .ok (.iload 4, 2) := by decide +kernel
theorem dX0_manyOf_119 : decode cX0_manyOf 119 = .ok (.lload 7, 2) := by decide +kernel
theorem dX0_manyOf_121 : decode cX0_manyOf 121 = .ok (.lload 9, 2) := by decide +kernel
theorem dX0_manyOf_123 : decode cX0_manyOf 123 = .ok (.ldc2_w 61, 3) := by decide +kernel
theorem dX0_manyOf_126 : decode cX0_manyOf 126 = .ok (.lxor, 1) := by decide +kernel
theorem dX0_manyOf_127 : decode cX0_manyOf 127 = .ok (.land, 1) := by decide +kernel
theorem dX0_manyOf_128 : decode cX0_manyOf 128 = .ok (.invokestatic 63, 3) := by decide +kernel
theorem dX0_manyOf_131 : decode cX0_manyOf 131 = .ok (.iadd, 1) := by decide +kernel
theorem dX0_manyOf_132 : decode cX0_manyOf 132 = .ok (.istore 4, 2) := by decide +kernel
theorem dX0_manyOf_134 : decode cX0_manyOf 134 = .ok (.iload 5, 2) := by decide +kernel
theorem dX0_manyOf_136 : decode cX0_manyOf 136 = .ok (.lload 9, 2) := by decide +kernel
theorem dX0_manyOf_138 : decode cX0_manyOf 138 = .ok (.lload 11, 2) := by decide +kernel
theorem dX0_manyOf_140 : decode cX0_manyOf 140 = .ok (.ldc2_w 61, 3) := by decide +kernel
theorem dX0_manyOf_143 : decode cX0_manyOf 143 = .ok (.lxor, 1) := by decide +kernel
theorem dX0_manyOf_144 : decode cX0_manyOf 144 = .ok (.land, 1) := by decide +kernel
theorem dX0_manyOf_145 : decode cX0_manyOf 145 = .ok (.invokestatic 63, 3) := by decide +kernel
theorem dX0_manyOf_148 : decode cX0_manyOf 148 = .ok (.iadd, 1) := by decide +kernel
theorem dX0_manyOf_149 : decode cX0_manyOf 149 = .ok (.istore 5, 2) := by decide +kernel
theorem dX0_manyOf_151 : decode cX0_manyOf 151 = .ok (.iinc 6 1, 3) := by decide +kernel
theorem dX0_manyOf_154 : decode cX0_manyOf 154 = .ok (.goto (-108), 3) := by decide +kernel
theorem dX0_manyOf_157 : decode cX0_manyOf 157 = .ok (.iload_n 3, 1) := by decide +kernel
theorem dX0_manyOf_158 : decode cX0_manyOf 158 = .ok (.iload 5, 2) := by decide +kernel
theorem dX0_manyOf_160 : decode cX0_manyOf 160 = .ok (.ifCond .le 16, 3) := by decide +kernel
theorem dX0_manyOf_163 : decode cX0_manyOf 163 = .ok (.iload 4, 2) := by decide +kernel
theorem dX0_manyOf_165 : decode cX0_manyOf 165 = .ok (.iload 4, 2) := by decide +kernel
theorem dX0_manyOf_167 : decode cX0_manyOf 167 = .ok (.imul, 1) := by decide +kernel
theorem dX0_manyOf_168 : decode cX0_manyOf 168 = .ok (.iconst 2, 1) := by decide +kernel
theorem dX0_manyOf_169 : decode cX0_manyOf 169 = .ok (.iload 5, 2) := by decide +kernel
theorem dX0_manyOf_171 : decode cX0_manyOf 171 = .ok (.imul, 1) := by decide +kernel
theorem dX0_manyOf_172 : decode cX0_manyOf 172 = .ok (.idiv, 1) := by decide +kernel
theorem dX0_manyOf_173 : decode cX0_manyOf 173 = .ok (.goto 12, 3) := by decide +kernel
theorem dX0_manyOf_176 : decode cX0_manyOf 176 = .ok (.iload 4, 2) := by decide +kernel
theorem dX0_manyOf_178 : decode cX0_manyOf 178 = .ok (.iload 4, 2) := by decide +kernel
theorem dX0_manyOf_180 : decode cX0_manyOf 180 = .ok (.iconst 1, 1) := by decide +kernel
theorem dX0_manyOf_181 : decode cX0_manyOf 181 = .ok (.isub, 1) := by decide +kernel
theorem dX0_manyOf_182 : decode cX0_manyOf 182 = .ok (.imul, 1) := by decide +kernel
theorem dX0_manyOf_183 : decode cX0_manyOf 183 = .ok (.iconst 2, 1) := by decide +kernel
theorem dX0_manyOf_184 : decode cX0_manyOf 184 = .ok (.idiv, 1) := by decide +kernel
theorem dX0_manyOf_185 : decode cX0_manyOf 185 = .ok (.iadd, 1) := by decide +kernel
theorem dX0_manyOf_186 : decode cX0_manyOf 186 = .ok (.ireturn, 1) := by decide +kernel
theorem dX0_hasDie_0 : decode cX0_hasDie 0 = .ok (.iconst 0, 1) := by decide +kernel
theorem dX0_hasDie_1 : decode cX0_hasDie 1 = .ok (.istore 4, 2) := by decide +kernel
theorem dX0_hasDie_3 : decode cX0_hasDie 3 = .ok (.iload 4, 2) := by decide +kernel
theorem dX0_hasDie_5 : decode cX0_hasDie 5 = .ok (.aload_n 0, 1) := by decide +kernel
theorem dX0_hasDie_6 : decode cX0_hasDie 6 = .ok (.getfield 17, 3) := by decide +kernel
theorem dX0_hasDie_9 : decode cX0_hasDie 9 = .ok (.if_icmp .ge 40, 3) := by decide +kernel
theorem dX0_hasDie_12 : decode cX0_hasDie 12 = .ok (.aload_n 0, 1) := by decide +kernel
theorem dX0_hasDie_13 : decode cX0_hasDie 13 = .ok (.getfield 11, 3) := by decide +kernel
theorem dX0_hasDie_16 : decode cX0_hasDie 16 = .ok (.iload 4, 2) := by decide +kernel
theorem dX0_hasDie_18 : decode cX0_hasDie 18 = .ok (.aaload, 1) := by decide +kernel
theorem dX0_hasDie_19 : decode cX0_hasDie 19 = .ok (.getfield 33, 3) := by decide +kernel
theorem dX0_hasDie_22 : decode cX0_hasDie 22 = .ok (.iload_n 2, 1) := by decide +kernel
theorem dX0_hasDie_23 : decode cX0_hasDie 23 = .ok (.if_icmp .ne 20, 3) := by decide +kernel
theorem dX0_hasDie_26 : decode cX0_hasDie 26 = .ok (.aload_n 0, 1) := by decide +kernel
theorem dX0_hasDie_27 : decode cX0_hasDie 27 = .ok (.getfield 11, 3) := by decide +kernel
theorem dX0_hasDie_30 : decode cX0_hasDie 30 = .ok (.iload 4, 2) := by decide +kernel
theorem dX0_hasDie_32 : decode cX0_hasDie 32 = .ok (.aaload, 1) := by decide +kernel
theorem dX0_hasDie_33 : decode cX0_hasDie 33 = .ok (.iload_n 1, 1) := by decide +kernel
theorem dX0_hasDie_34 : decode cX0_hasDie 34 = .ok (.iload_n 3, 1) := by decide +kernel
theorem dX0_hasDie_35 : decode cX0_hasDie 35 = .ok (.invokevirtual 21, 3) := by decide +kernel
theorem dX0_hasDie_38 : decode cX0_hasDie 38 = .ok (.ifCond .eq 5, 3) := by decide +kernel
theorem dX0_hasDie_41 : decode cX0_hasDie 41 = .ok (.iconst 1, 1) := by decide +kernel
theorem dX0_hasDie_42 : decode cX0_hasDie 42 = .ok (.ireturn, 1) := by decide +kernel
theorem dX0_hasDie_43 : decode cX0_hasDie 43 = .ok (.iinc 4 1, 3) := by decide +kernel
theorem dX0_hasDie_46 : decode cX0_hasDie 46 = .ok (.goto (-43), 3) := by decide +kernel
theorem dX0_hasDie_49 : decode cX0_hasDie 49 = .ok (.iconst 0, 1) := by decide +kernel
theorem dX0_hasDie_50 : decode cX0_hasDie 50 = .ok (.ireturn, 1) := by decide +kernel
theorem dX0_wordOf_0 : decode cX0_wordOf 0 = .ok (.lconst 0, 1) := by decide +kernel
theorem dX0_wordOf_1 : decode cX0_wordOf 1 = .ok (.lstore 5, 2) := by decide +kernel
theorem dX0_wordOf_3 : decode cX0_wordOf 3 = .ok (.iconst 0, 1) := by decide +kernel
theorem dX0_wordOf_4 : decode cX0_wordOf 4 = .ok (.istore 7, 2) := by decide +kernel
theorem dX0_wordOf_6 : decode cX0_wordOf 6 = .ok (.iload 7, 2) := by decide +kernel
theorem dX0_wordOf_8 : decode cX0_wordOf 8 = .ok (.aload_n 0, 1) := by decide +kernel
theorem dX0_wordOf_9 : decode cX0_wordOf 9 = .ok (.getfield 17, 3) := by decide +kernel
theorem dX0_wordOf_12 : decode cX0_wordOf 12 = .ok (.if_icmp .ge 59, 3) := by decide +kernel
theorem dX0_wordOf_15 : decode cX0_wordOf 15 = .ok (.aload_n 0, 1) := by decide +kernel
theorem dX0_wordOf_16 : decode cX0_wordOf 16 = .ok (.getfield 11, 3) := by decide +kernel
theorem dX0_wordOf_19 : decode cX0_wordOf 19 = .ok (.iload 7, 2) := by decide +kernel
theorem dX0_wordOf_21 : decode cX0_wordOf 21 = .ok (.aaload, 1) := by decide +kernel
theorem dX0_wordOf_22 : decode cX0_wordOf 22 = .ok (.getfield 33, 3) := by decide +kernel
theorem dX0_wordOf_25 : decode cX0_wordOf 25 = .ok (.iload_n 2, 1) := by decide +kernel
theorem dX0_wordOf_26 : decode cX0_wordOf 26 = .ok (.if_icmp .ne 39, 3) := by decide +kernel
theorem dX0_wordOf_29 : decode cX0_wordOf 29 = .ok (.aload_n 0, 1) := by decide +kernel
theorem dX0_wordOf_30 : decode cX0_wordOf 30 = .ok (.getfield 11, 3) := by decide +kernel
theorem dX0_wordOf_33 : decode cX0_wordOf 33 = .ok (.iload 7, 2) := by decide +kernel
theorem dX0_wordOf_35 : decode cX0_wordOf 35 = .ok (.aaload, 1) := by decide +kernel
theorem dX0_wordOf_36 : decode cX0_wordOf 36 = .ok (.iload_n 1, 1) := by decide +kernel
theorem dX0_wordOf_37 : decode cX0_wordOf 37 = .ok (.iload_n 3, 1) := by decide +kernel
theorem dX0_wordOf_38 : decode cX0_wordOf 38 = .ok (.invokevirtual 21, 3) := by decide +kernel
theorem dX0_wordOf_41 : decode cX0_wordOf 41 = .ok (.ifCond .eq 24, 3) := by decide +kernel
theorem dX0_wordOf_44 : decode cX0_wordOf 44 = .ok (.lload 5, 2) := by decide +kernel
theorem dX0_wordOf_46 : decode cX0_wordOf 46 = .ok (.aload_n 0, 1) := by decide +kernel
theorem dX0_wordOf_47 : decode cX0_wordOf 47 = .ok (.getfield 11, 3) := by decide +kernel
theorem dX0_wordOf_50 : decode cX0_wordOf 50 = .ok (.iload 7, 2) := by decide +kernel
theorem dX0_wordOf_52 : decode cX0_wordOf 52 = .ok (.aaload, 1) := by decide +kernel
theorem dX0_wordOf_53 : decode cX0_wordOf 53 = .ok (.getfield 36, 3) := by decide +kernel
theorem dX0_wordOf_56 : decode cX0_wordOf 56 = .ok (.getfield 69, 3) := by decide +kernel
theorem dX0_wordOf_59 : decode cX0_wordOf 59 = .ok (.iload 4, 2) := by decide +kernel
theorem dX0_wordOf_61 : decode cX0_wordOf 61 = .ok (.laload, 1) := by decide +kernel
theorem dX0_wordOf_62 : decode cX0_wordOf 62 = .ok (.lor, 1) := by decide +kernel
theorem dX0_wordOf_63 : decode cX0_wordOf 63 = .ok (.lstore 5, 2) := by decide +kernel
theorem dX0_wordOf_65 : decode cX0_wordOf 65 = .ok (.iinc 7 1, 3) := by decide +kernel
theorem dX0_wordOf_68 : decode cX0_wordOf 68 = .ok (.goto (-62), 3) := by decide +kernel
theorem dX0_wordOf_71 : decode cX0_wordOf 71 = .ok (.lload 5, 2) := by decide +kernel
theorem dX0_wordOf_73 : decode cX0_wordOf 73 = .ok (.lreturn, 1) := by decide +kernel
theorem dX0_nextLook_0 : decode cX0_nextLook 0 = .ok (.bipush (-9), 2) := by decide +kernel
theorem dX0_nextLook_2 : decode cX0_nextLook 2 = .ok (.istore_n 3, 1) := by decide +kernel
theorem dX0_nextLook_3 : decode cX0_nextLook 3 = .ok (.sipush 1001, 3) := by decide +kernel
theorem dX0_nextLook_6 : decode cX0_nextLook 6 = .ok (.istore 4, 2) := by decide +kernel
theorem dX0_nextLook_8 : decode cX0_nextLook 8 = .ok (.iconst 0, 1) := by decide +kernel
theorem dX0_nextLook_9 : decode cX0_nextLook 9 = .ok (.istore 5, 2) := by decide +kernel
theorem dX0_nextLook_11 : decode cX0_nextLook 11 = .ok (.iload 5, 2) := by decide +kernel
theorem dX0_nextLook_13 : decode cX0_nextLook 13 = .ok (.aload_n 0, 1) := by decide +kernel
theorem dX0_nextLook_14 : decode cX0_nextLook 14 = .ok (.getfield 17, 3) := by decide +kernel
theorem dX0_nextLook_17 : decode cX0_nextLook 17 = .ok (.if_icmp .ge 92, 3) := by decide +kernel
theorem dX0_nextLook_20 : decode cX0_nextLook 20 = .ok (.aload_n 0, 1) := by decide +kernel
theorem dX0_nextLook_21 : decode cX0_nextLook 21 = .ok (.getfield 11, 3) := by decide +kernel
theorem dX0_nextLook_24 : decode cX0_nextLook 24 = .ok (.iload 5, 2) := by decide +kernel
theorem dX0_nextLook_26 : decode cX0_nextLook 26 = .ok (.aaload, 1) := by decide +kernel
theorem dX0_nextLook_27 : decode cX0_nextLook 27 = .ok (.astore 6, 2) := by decide +kernel
theorem dX0_nextLook_29 : decode cX0_nextLook 29 = .ok (.iconst 0, 1) := by decide +kernel
theorem dX0_nextLook_30 : decode cX0_nextLook 30 = .ok (.istore 7, 2) := by decide +kernel
theorem dX0_nextLook_32 : decode cX0_nextLook 32 = .ok (.iload 7, 2) := by decide +kernel
theorem dX0_nextLook_34 : decode cX0_nextLook 34 = .ok (.iconst 3, 1) := by decide +kernel
theorem dX0_nextLook_35 : decode cX0_nextLook 35 = .ok (.if_icmp .ge 68, 3) := by decide +kernel
theorem dX0_nextLook_38 : decode cX0_nextLook 38 = .ok (.aload 6, 2) := by decide +kernel
theorem dX0_nextLook_40 : decode cX0_nextLook 40 = .ok (.iload_n 1, 1) := by decide +kernel
theorem dX0_nextLook_41 : decode cX0_nextLook 41 = .ok (.iload_n 2, 1) := by decide +kernel
theorem dX0_nextLook_42 : decode cX0_nextLook 42 = .ok (.invokevirtual 21, 3) := by decide +kernel
theorem dX0_nextLook_45 : decode cX0_nextLook 45 = .ok (.ifCond .eq 58, 3) := by decide +kernel
theorem dX0_nextLook_48 : decode cX0_nextLook 48 = .ok (.aload 6, 2) := by decide +kernel
theorem dX0_nextLook_50 : decode cX0_nextLook 50 = .ok (.getfield 73, 3) := by decide +kernel
theorem dX0_nextLook_53 : decode cX0_nextLook 53 = .ok (.iload 7, 2) := by decide +kernel
theorem dX0_nextLook_55 : decode cX0_nextLook 55 = .ok (.iaload, 1) := by decide +kernel
theorem dX0_nextLook_56 : decode cX0_nextLook 56 = .ok (.istore 8, 2) := by decide +kernel
theorem dX0_nextLook_58 : decode cX0_nextLook 58 = .ok (.aload 6, 2) := by decide +kernel
theorem dX0_nextLook_60 : decode cX0_nextLook 60 = .ok (.iload 7, 2) := by decide +kernel
theorem dX0_nextLook_62 : decode cX0_nextLook 62 = .ok (.invokevirtual 77, 3) := by decide +kernel
theorem dX0_nextLook_65 : decode cX0_nextLook 65 = .ok (.ifCond .eq 32, 3) := by decide +kernel
theorem dX0_nextLook_68 : decode cX0_nextLook 68 = .ok (.iload 8, 2) := by decide +kernel
theorem dX0_nextLook_70 : decode cX0_nextLook 70 = .ok (.aload 6, 2) := by decide +kernel
theorem dX0_nextLook_72 : decode cX0_nextLook 72 = .ok (.getfield 81, 3) := by decide +kernel
theorem dX0_nextLook_75 : decode cX0_nextLook 75 = .ok (.if_icmp .ge 22, 3) := by decide +kernel
theorem dX0_nextLook_78 : decode cX0_nextLook 78 = .ok (.iload 8, 2) := by decide +kernel
theorem dX0_nextLook_80 : decode cX0_nextLook 80 = .ok (.iload 4, 2) := by decide +kernel
theorem dX0_nextLook_82 : decode cX0_nextLook 82 = .ok (.if_icmp .ge 15, 3) := by decide +kernel
theorem dX0_nextLook_85 : decode cX0_nextLook 85 = .ok (.iload 8, 2) := by decide +kernel
theorem dX0_nextLook_87 : decode cX0_nextLook 87 = .ok (.istore 4, 2) := by decide +kernel
theorem dX0_nextLook_89 : decode cX0_nextLook 89 = .ok (.iconst 3, 1) := by decide +kernel
theorem dX0_nextLook_90 : decode cX0_nextLook 90 = .ok (.iload 5, 2) := by decide +kernel
theorem dX0_nextLook_92 : decode cX0_nextLook 92 = .ok (.imul, 1) := by decide +kernel
theorem dX0_nextLook_93 : decode cX0_nextLook 93 = .ok (.iload 7, 2) := by decide +kernel
theorem dX0_nextLook_95 : decode cX0_nextLook 95 = .ok (.iadd, 1) := by decide +kernel
theorem dX0_nextLook_96 : decode cX0_nextLook 96 = .ok (.istore_n 3, 1) := by decide +kernel
theorem dX0_nextLook_97 : decode cX0_nextLook 97 = .ok (.iinc 7 1, 3) := by decide +kernel
theorem dX0_nextLook_100 : decode cX0_nextLook 100 = .ok (.goto (-68), 3) := by decide +kernel
theorem dX0_nextLook_103 : decode cX0_nextLook 103 = .ok (.iinc 5 1, 3) := by decide +kernel
theorem dX0_nextLook_106 : decode cX0_nextLook 106 = .ok (.goto (-95), 3) := by decide +kernel
theorem dX0_nextLook_109 : decode cX0_nextLook 109 = .ok (.iload_n 3, 1) := by decide +kernel
theorem dX0_nextLook_110 : decode cX0_nextLook 110 = .ok (.ireturn, 1) := by decide +kernel
theorem dX1_init_0 : decode cX1_init 0 = .ok (.aload_n 0, 1) := by decide +kernel
theorem dX1_init_1 : decode cX1_init 1 = .ok (.invokespecial 3, 3) := by decide +kernel
theorem dX1_init_4 : decode cX1_init 4 = .ok (.aload_n 0, 1) := by decide +kernel
theorem dX1_init_5 : decode cX1_init 5 = .ok (.bipush 16, 2) := by decide +kernel
theorem dX1_init_7 : decode cX1_init 7 = .ok (.newarray .long, 2) := by decide +kernel
theorem dX1_init_9 : decode cX1_init 9 = .ok (.putfield 11, 3) := by decide +kernel
theorem dX1_init_12 : decode cX1_init 12 = .ok (.return_, 1) := by decide +kernel
theorem dX1_add_0 : decode cX1_add 0 = .ok (.iload_n 1, 1) := by decide +kernel
theorem dX1_add_1 : decode cX1_add 1 = .ok (.invokestatic 15, 3) := by decide +kernel
theorem dX1_add_4 : decode cX1_add 4 = .ok (.ifCond .eq 21, 3) := by decide +kernel
theorem dX1_add_7 : decode cX1_add 7 = .ok (.aload_n 0, 1) := by decide +kernel
theorem dX1_add_8 : decode cX1_add 8 = .ok (.getfield 11, 3) := by decide +kernel
theorem dX1_add_11 : decode cX1_add 11 = .ok (.iload_n 1, 1) := by decide +kernel
theorem dX1_add_12 : decode cX1_add 12 = .ok (.bipush 6, 2) := by decide +kernel
theorem dX1_add_14 : decode cX1_add 14 = .ok (.ishr, 1) := by decide +kernel
theorem dX1_add_15 : decode cX1_add 15 = .ok (.dup2, 1) := by decide +kernel
theorem dX1_add_16 : decode cX1_add 16 = .ok (.laload, 1) := by decide +kernel
theorem dX1_add_17 : decode cX1_add 17 = .ok (.lconst 1, 1) := by decide +kernel
theorem dX1_add_18 : decode cX1_add 18 = .ok (.iload_n 1, 1) := by decide +kernel
theorem dX1_add_19 : decode cX1_add 19 = .ok (.bipush 63, 2) := by decide +kernel
theorem dX1_add_21 : decode cX1_add 21 = .ok (.iand, 1) := by decide +kernel
theorem dX1_add_22 : decode cX1_add 22 = .ok (.lshl, 1) := by decide +kernel
theorem dX1_add_23 : decode cX1_add 23 = .ok (.lor, 1) := by decide +kernel
theorem dX1_add_24 : decode cX1_add 24 = .ok (.lastore, 1) := by decide +kernel
theorem dX1_add_25 : decode cX1_add 25 = .ok (.return_, 1) := by decide +kernel
theorem dX1_has_0 : decode cX1_has 0 = .ok (.iload_n 1, 1) := by decide +kernel
theorem dX1_has_1 : decode cX1_has 1 = .ok (.invokestatic 15, 3) := by decide +kernel
theorem dX1_has_4 : decode cX1_has 4 = .ok (.ifCond .eq 28, 3) := by decide +kernel
theorem dX1_has_7 : decode cX1_has 7 = .ok (.aload_n 0, 1) := by decide +kernel
theorem dX1_has_8 : decode cX1_has 8 = .ok (.getfield 11, 3) := by decide +kernel
theorem dX1_has_11 : decode cX1_has 11 = .ok (.iload_n 1, 1) := by decide +kernel
theorem dX1_has_12 : decode cX1_has 12 = .ok (.bipush 6, 2) := by decide +kernel
theorem dX1_has_14 : decode cX1_has 14 = .ok (.ishr, 1) := by decide +kernel
theorem dX1_has_15 : decode cX1_has 15 = .ok (.laload, 1) := by decide +kernel
theorem dX1_has_16 : decode cX1_has 16 = .ok (.iload_n 1, 1) := by decide +kernel
theorem dX1_has_17 : decode cX1_has 17 = .ok (.bipush 63, 2) := by decide +kernel
theorem dX1_has_19 : decode cX1_has 19 = .ok (.iand, 1) := by decide +kernel
theorem dX1_has_20 : decode cX1_has 20 = .ok (.lushr, 1) := by decide +kernel
theorem dX1_has_21 : decode cX1_has 21 = .ok (.lconst 1, 1) := by decide +kernel
theorem dX1_has_22 : decode cX1_has 22 = .ok (.land, 1) := by decide +kernel
theorem dX1_has_23 : decode cX1_has 23 = .ok (.lconst 1, 1) := by decide +kernel
theorem dX1_has_24 : decode cX1_has 24 = .ok (.lcmp, 1) := by decide +kernel
theorem dX1_has_25 : decode cX1_has 25 = .ok (.ifCond .ne 7, 3) := by decide +kernel
theorem dX1_has_28 : decode cX1_has 28 = .ok (.iconst 1, 1) := by decide +kernel
theorem dX1_has_29 : decode cX1_has 29 = .ok (.goto 4, 3) := by decide +kernel
theorem dX1_has_32 : decode cX1_has 32 = .ok (.iconst 0, 1) := by decide +kernel
theorem dX1_has_33 : decode cX1_has 33 = .ok (.ireturn, 1) := by decide +kernel
theorem dX1_size_0 : decode cX1_size 0 = .ok (.iconst 0, 1) := by decide +kernel
theorem dX1_size_1 : decode cX1_size 1 = .ok (.istore_n 1, 1) := by decide +kernel
theorem dX1_size_2 : decode cX1_size 2 = .ok (.iconst 0, 1) := by decide +kernel
theorem dX1_size_3 : decode cX1_size 3 = .ok (.istore_n 2, 1) := by decide +kernel
theorem dX1_size_4 : decode cX1_size 4 = .ok (.iload_n 2, 1) := by decide +kernel
theorem dX1_size_5 : decode cX1_size 5 = .ok (.bipush 16, 2) := by decide +kernel
theorem dX1_size_7 : decode cX1_size 7 = .ok (.if_icmp .ge 21, 3) := by decide +kernel
theorem dX1_size_10 : decode cX1_size 10 = .ok (.iload_n 1, 1) := by decide +kernel
theorem dX1_size_11 : decode cX1_size 11 = .ok (.aload_n 0, 1) := by decide +kernel
theorem dX1_size_12 : decode cX1_size 12 = .ok (.getfield 11, 3) := by decide +kernel
theorem dX1_size_15 : decode cX1_size 15 = .ok (.iload_n 2, 1) := by decide +kernel
theorem dX1_size_16 : decode cX1_size 16 = .ok (.laload, 1) := by decide +kernel
theorem dX1_size_17 : decode cX1_size 17 = .ok (.invokestatic 19, 3) := by decide +kernel
theorem dX1_size_20 : decode cX1_size 20 = .ok (.iadd, 1) := by decide +kernel
theorem dX1_size_21 : decode cX1_size 21 = .ok (.istore_n 1, 1) := by decide +kernel
theorem dX1_size_22 : decode cX1_size 22 = .ok (.iinc 2 1, 3) := by decide +kernel
theorem dX1_size_25 : decode cX1_size 25 = .ok (.goto (-21), 3) := by decide +kernel
theorem dX1_size_28 : decode cX1_size 28 = .ok (.iload_n 1, 1) := by decide +kernel
theorem dX1_size_29 : decode cX1_size 29 = .ok (.ireturn, 1) := by decide +kernel
theorem dX1_firstFrom_0 : decode cX1_firstFrom 0 = .ok (.iload_n 1, 1) := by decide +kernel
theorem dX1_firstFrom_1 : decode cX1_firstFrom 1 = .ok (.iconst 0, 1) := by decide +kernel
theorem dX1_firstFrom_2 : decode cX1_firstFrom 2 = .ok (.invokestatic 25, 3) := by decide +kernel
theorem dX1_firstFrom_5 : decode cX1_firstFrom 5 = .ok (.istore_n 2, 1) := by decide +kernel
theorem dX1_firstFrom_6 : decode cX1_firstFrom 6 = .ok (.iload_n 2, 1) := by decide +kernel
theorem dX1_firstFrom_7 : decode cX1_firstFrom 7 = .ok (.sipush 1000, 3) := by decide +kernel
theorem dX1_firstFrom_10 : decode cX1_firstFrom 10 = .ok (.if_icmp .ge 43, 3) := by decide +kernel
theorem dX1_firstFrom_13 : decode cX1_firstFrom 13 = .ok (.aload_n 0, 1) := by decide +kernel
theorem dX1_firstFrom_14 : decode cX1_firstFrom 14 = .ok (.iload_n 2, 1) := by decide +kernel
theorem dX1_firstFrom_15 : decode cX1_firstFrom 15 = .ok (.invokevirtual 31, 3) := by decide +kernel
theorem dX1_firstFrom_18 : decode cX1_firstFrom 18 = .ok (.ifCond .eq 5, 3) := by decide +kernel
theorem dX1_firstFrom_21 : decode cX1_firstFrom 21 = .ok (.iload_n 2, 1) := by decide +kernel
theorem dX1_firstFrom_22 : decode cX1_firstFrom 22 = .ok (.ireturn, 1) := by decide +kernel
theorem dX1_firstFrom_23 : decode cX1_firstFrom 23 = .ok (.aload_n 0, 1) := by decide +kernel
theorem dX1_firstFrom_24 : decode cX1_firstFrom 24 = .ok (.getfield 11, 3) := by decide +kernel
theorem dX1_firstFrom_27 : decode cX1_firstFrom 27 = .ok (.iload_n 2, 1) := by decide +kernel
theorem dX1_firstFrom_28 : decode cX1_firstFrom 28 = .ok (.bipush 6, 2) := by decide +kernel
theorem dX1_firstFrom_30 : decode cX1_firstFrom 30 = .ok (.ishr, 1) := by decide +kernel
theorem dX1_firstFrom_31 : decode cX1_firstFrom 31 = .ok (.laload, 1) := by decide +kernel
theorem dX1_firstFrom_32 : decode cX1_firstFrom 32 = .ok (.lconst 0, 1) := by decide +kernel
theorem dX1_firstFrom_33 : decode cX1_firstFrom 33 = .ok (.lcmp, 1) := by decide +kernel
theorem dX1_firstFrom_34 : decode cX1_firstFrom 34 = .ok (.ifCond .ne 12, 3) := by decide +kernel
theorem dX1_firstFrom_37 : decode cX1_firstFrom 37 = .ok (.iload_n 2, 1) := by decide +kernel
theorem dX1_firstFrom_38 : decode cX1_firstFrom 38 = .ok (.bipush 63, 2) := by decide +kernel
theorem dX1_firstFrom_40 : decode cX1_firstFrom 40 = .ok (.ior, 1) := by decide +kernel
theorem dX1_firstFrom_41 : decode cX1_firstFrom 41 = .ok (.iconst 1, 1) := by decide +kernel
theorem dX1_firstFrom_42 : decode cX1_firstFrom 42 = .ok (.iadd, 1) := by decide +kernel
theorem dX1_firstFrom_43 : decode cX1_firstFrom 43 = .ok (.goto 6, 3) := by decide +kernel
theorem dX1_firstFrom_46 : decode cX1_firstFrom 46 = .ok (.iload_n 2, 1) := by decide +kernel
theorem dX1_firstFrom_47 : decode cX1_firstFrom 47 = .ok (.iconst 1, 1) := by decide +kernel
theorem dX1_firstFrom_48 : decode cX1_firstFrom 48 = .ok (.iadd, 1) := by decide +kernel
theorem dX1_firstFrom_49 : decode cX1_firstFrom 49 = .ok (.istore_n 2, 1) := by decide +kernel
theorem dX1_firstFrom_50 : decode cX1_firstFrom 50 = .ok (.goto (-44), 3) := by decide +kernel
theorem dX1_firstFrom_53 : decode cX1_firstFrom 53 = .ok (.bipush (-9), 2) := by decide +kernel
theorem dX1_firstFrom_55 : decode cX1_firstFrom 55 = .ok (.ireturn, 1) := by decide +kernel
theorem dX1_lastTill_0 : decode cX1_lastTill 0 = .ok (.iload_n 1, 1) := by decide +kernel
theorem dX1_lastTill_1 : decode cX1_lastTill 1 = .ok (.sipush 999, 3) := by decide +kernel
theorem dX1_lastTill_4 : decode cX1_lastTill 4 = .ok (.invokestatic 34, 3) := by decide +kernel
theorem dX1_lastTill_7 : decode cX1_lastTill 7 = .ok (.istore_n 2, 1) := by decide +kernel
theorem dX1_lastTill_8 : decode cX1_lastTill 8 = .ok (.iload_n 2, 1) := by decide +kernel
theorem dX1_lastTill_9 : decode cX1_lastTill 9 = .ok (.ifCond .lt 43, 3) := by decide +kernel
theorem dX1_lastTill_12 : decode cX1_lastTill 12 = .ok (.aload_n 0, 1) := by decide +kernel
theorem dX1_lastTill_13 : decode cX1_lastTill 13 = .ok (.iload_n 2, 1) := by decide +kernel
theorem dX1_lastTill_14 : decode cX1_lastTill 14 = .ok (.invokevirtual 31, 3) := by decide +kernel
theorem dX1_lastTill_17 : decode cX1_lastTill 17 = .ok (.ifCond .eq 5, 3) := by decide +kernel
theorem dX1_lastTill_20 : decode cX1_lastTill 20 = .ok (.iload_n 2, 1) := by decide +kernel
theorem dX1_lastTill_21 : decode cX1_lastTill 21 = .ok (.ireturn, 1) := by decide +kernel
theorem dX1_lastTill_22 : decode cX1_lastTill 22 = .ok (.aload_n 0, 1) := by decide +kernel
theorem dX1_lastTill_23 : decode cX1_lastTill 23 = .ok (.getfield 11, 3) := by decide +kernel
theorem dX1_lastTill_26 : decode cX1_lastTill 26 = .ok (.iload_n 2, 1) := by decide +kernel
theorem dX1_lastTill_27 : decode cX1_lastTill 27 = .ok (.bipush 6, 2) := by decide +kernel
theorem dX1_lastTill_29 : decode cX1_lastTill 29 = .ok (.ishr, 1) := by decide +kernel
theorem dX1_lastTill_30 : decode cX1_lastTill 30 = .ok (.laload, 1) := by decide +kernel
theorem dX1_lastTill_31 : decode cX1_lastTill 31 = .ok (.lconst 0, 1) := by decide +kernel
theorem dX1_lastTill_32 : decode cX1_lastTill 32 = .ok (.lcmp, 1) := by decide +kernel
theorem dX1_lastTill_33 : decode cX1_lastTill 33 = .ok (.ifCond .ne 12, 3) := by decide +kernel
theorem dX1_lastTill_36 : decode cX1_lastTill 36 = .ok (.iload_n 2, 1) := by decide +kernel
theorem dX1_lastTill_37 : decode cX1_lastTill 37 = .ok (.bipush (-64), 2) := by decide +kernel
theorem dX1_lastTill_39 : decode cX1_lastTill 39 = .ok (.iand, 1) := by decide +kernel
theorem dX1_lastTill_40 : decode cX1_lastTill 40 = .ok (.iconst 1, 1) := by decide +kernel
theorem dX1_lastTill_41 : decode cX1_lastTill 41 = .ok (.isub, 1) := by decide +kernel
theorem dX1_lastTill_42 : decode cX1_lastTill 42 = .ok (.goto 6, 3) := by decide +kernel
theorem dX1_lastTill_45 : decode cX1_lastTill 45 = .ok (.iload_n 2, 1) := by decide +kernel
theorem dX1_lastTill_46 : decode cX1_lastTill 46 = .ok (.iconst 1, 1) := by decide +kernel
theorem dX1_lastTill_47 : decode cX1_lastTill 47 = .ok (.isub, 1) := by decide +kernel
theorem dX1_lastTill_48 : decode cX1_lastTill 48 = .ok (.istore_n 2, 1) := by decide +kernel
theorem dX1_lastTill_49 : decode cX1_lastTill 49 = .ok (.goto (-41), 3) := by decide +kernel
theorem dX1_lastTill_52 : decode cX1_lastTill 52 = .ok (.bipush (-9), 2) := by decide +kernel
theorem dX1_lastTill_54 : decode cX1_lastTill 54 = .ok (.ireturn, 1) := by decide +kernel
theorem dX1_meets_0 : decode cX1_meets 0 = .ok (.iconst 0, 1) := by decide +kernel
theorem dX1_meets_1 : decode cX1_meets 1 = .ok (.istore_n 2, 1) := by decide +kernel
theorem dX1_meets_2 : decode cX1_meets 2 = .ok (.iload_n 2, 1) := by decide +kernel
theorem dX1_meets_3 : decode cX1_meets 3 = .ok (.bipush 16, 2) := by decide +kernel
theorem dX1_meets_5 : decode cX1_meets 5 = .ok (.if_icmp .ge 29, 3) := by decide +kernel
theorem dX1_meets_8 : decode cX1_meets 8 = .ok (.aload_n 0, 1) := by decide +kernel
theorem dX1_meets_9 : decode cX1_meets 9 = .ok (.getfield 11, 3) := by decide +kernel
theorem dX1_meets_12 : decode cX1_meets 12 = .ok (.iload_n 2, 1) := by decide +kernel
theorem dX1_meets_13 : decode cX1_meets 13 = .ok (.laload, 1) := by decide +kernel
theorem dX1_meets_14 : decode cX1_meets 14 = .ok (.aload_n 1, 1) := by decide +kernel
theorem dX1_meets_15 : decode cX1_meets 15 = .ok (.getfield 11, 3) := by decide +kernel
theorem dX1_meets_18 : decode cX1_meets 18 = .ok (.iload_n 2, 1) := by decide +kernel
theorem dX1_meets_19 : decode cX1_meets 19 = .ok (.laload, 1) := by decide +kernel
theorem dX1_meets_20 : decode cX1_meets 20 = .ok (.land, 1) := by decide +kernel
theorem dX1_meets_21 : decode cX1_meets 21 = .ok (.lconst 0, 1) := by decide +kernel
theorem dX1_meets_22 : decode cX1_meets 22 = .ok (.lcmp, 1) := by decide +kernel
theorem dX1_meets_23 : decode cX1_meets 23 = .ok (.ifCond .eq 5, 3) := by decide +kernel
theorem dX1_meets_26 : decode cX1_meets 26 = .ok (.iconst 1, 1) := by decide +kernel
theorem dX1_meets_27 : decode cX1_meets 27 = .ok (.ireturn, 1) := by decide +kernel
theorem dX1_meets_28 : decode cX1_meets 28 = .ok (.iinc 2 1, 3) := by decide +kernel
theorem dX1_meets_31 : decode cX1_meets 31 = .ok (.goto (-29), 3) := by decide +kernel
theorem dX1_meets_34 : decode cX1_meets 34 = .ok (.iconst 0, 1) := by decide +kernel
theorem dX1_meets_35 : decode cX1_meets 35 = .ok (.ireturn, 1) := by decide +kernel
theorem dX2_init_0 : decode cX2_init 0 = .ok (.aload_n 0, 1) := by decide +kernel
theorem dX2_init_1 : decode cX2_init 1 = .ok (.invokespecial 3, 3) := by decide +kernel
theorem dX2_init_4 : decode cX2_init 4 = .ok (.aload_n 0, 1) := by decide +kernel
theorem dX2_init_5 : decode cX2_init 5 = .ok (.aload_n 1, 1) := by decide +kernel
theorem dX2_init_6 : decode cX2_init 6 = .ok (.putfield 9, 3) := by decide +kernel
theorem dX2_init_9 : decode cX2_init 9 = .ok (.aload_n 0, 1) := by decide +kernel
theorem dX2_init_10 : decode cX2_init 10 = .ok (.iload_n 2, 1) := by decide +kernel
theorem dX2_init_11 : decode cX2_init 11 = .ok (.putfield 15, 3) := by decide +kernel
theorem dX2_init_14 : decode cX2_init 14 = .ok (.aload_n 0, 1) := by decide +kernel
theorem dX2_init_15 : decode cX2_init 15 = .ok (.iload_n 3, 1) := by decide +kernel
theorem dX2_init_16 : decode cX2_init 16 = .ok (.putfield 19, 3) := by decide +kernel
theorem dX2_init_19 : decode cX2_init 19 = .ok (.aload_n 0, 1) := by decide +kernel
theorem dX2_init_20 : decode cX2_init 20 = .ok (.iload 4, 2) := by decide +kernel
theorem dX2_init_22 : decode cX2_init 22 = .ok (.putfield 22, 3) := by decide +kernel
theorem dX2_init_25 : decode cX2_init 25 = .ok (.aload_n 0, 1) := by decide +kernel
theorem dX2_init_26 : decode cX2_init 26 = .ok (.iload 5, 2) := by decide +kernel
theorem dX2_init_28 : decode cX2_init 28 = .ok (.putfield 25, 3) := by decide +kernel
theorem dX2_init_31 : decode cX2_init 31 = .ok (.return_, 1) := by decide +kernel
theorem dX2_strikesOn_0 : decode cX2_strikesOn 0 = .ok (.iload_n 1, 1) := by decide +kernel
theorem dX2_strikesOn_1 : decode cX2_strikesOn 1 = .ok (.aload_n 0, 1) := by decide +kernel
theorem dX2_strikesOn_2 : decode cX2_strikesOn 2 = .ok (.getfield 19, 3) := by decide +kernel
theorem dX2_strikesOn_5 : decode cX2_strikesOn 5 = .ok (.aload_n 0, 1) := by decide +kernel
theorem dX2_strikesOn_6 : decode cX2_strikesOn 6 = .ok (.getfield 22, 3) := by decide +kernel
theorem dX2_strikesOn_9 : decode cX2_strikesOn 9 = .ok (.invokestatic 28, 3) := by decide +kernel
theorem dX2_strikesOn_12 : decode cX2_strikesOn 12 = .ok (.ifCond .eq 28, 3) := by decide +kernel
theorem dX2_strikesOn_15 : decode cX2_strikesOn 15 = .ok (.iload_n 1, 1) := by decide +kernel
theorem dX2_strikesOn_16 : decode cX2_strikesOn 16 = .ok (.aload_n 0, 1) := by decide +kernel
theorem dX2_strikesOn_17 : decode cX2_strikesOn 17 = .ok (.getfield 9, 3) := by decide +kernel
theorem dX2_strikesOn_20 : decode cX2_strikesOn 20 = .ok (.getfield 32, 3) := by decide +kernel
theorem dX2_strikesOn_23 : decode cX2_strikesOn 23 = .ok (.aload_n 0, 1) := by decide +kernel
theorem dX2_strikesOn_24 : decode cX2_strikesOn 24 = .ok (.getfield 9, 3) := by decide +kernel
theorem dX2_strikesOn_27 : decode cX2_strikesOn 27 = .ok (.getfield 35, 3) := by decide +kernel
theorem dX2_strikesOn_30 : decode cX2_strikesOn 30 = .ok (.invokestatic 28, 3) := by decide +kernel
theorem dX2_strikesOn_33 : decode cX2_strikesOn 33 = .ok (.ifCond .eq 7, 3) := by decide +kernel
theorem dX2_strikesOn_36 : decode cX2_strikesOn 36 = .ok (.iconst 1, 1) := by decide +kernel
theorem dX2_strikesOn_37 : decode cX2_strikesOn 37 = .ok (.goto 4, 3) := by decide +kernel
theorem dX2_strikesOn_40 : decode cX2_strikesOn 40 = .ok (.iconst 0, 1) := by decide +kernel
theorem dX2_strikesOn_41 : decode cX2_strikesOn 41 = .ok (.ireturn, 1) := by decide +kernel
theorem dX2_hasInk_0 : decode cX2_hasInk 0 = .ok (.aload_n 0, 1) := by decide +kernel
theorem dX2_hasInk_1 : decode cX2_hasInk 1 = .ok (.getfield 15, 3) := by decide +kernel
theorem dX2_hasInk_4 : decode cX2_hasInk 4 = .ok (.iload_n 1, 1) := by decide +kernel
theorem dX2_hasInk_5 : decode cX2_hasInk 5 = .ok (.ishr, 1) := by decide +kernel
theorem dX2_hasInk_6 : decode cX2_hasInk 6 = .ok (.iconst 1, 1) := by decide +kernel
theorem dX2_hasInk_7 : decode cX2_hasInk 7 = .ok (.iand, 1) := by decide +kernel
theorem dX2_hasInk_8 : decode cX2_hasInk 8 = .ok (.iconst 1, 1) := by decide +kernel
theorem dX2_hasInk_9 : decode cX2_hasInk 9 = .ok (.if_icmp .ne 7, 3) := by decide +kernel
theorem dX2_hasInk_12 : decode cX2_hasInk 12 = .ok (.iconst 1, 1) := by decide +kernel
theorem dX2_hasInk_13 : decode cX2_hasInk 13 = .ok (.goto 4, 3) := by decide +kernel
theorem dX2_hasInk_16 : decode cX2_hasInk 16 = .ok (.iconst 0, 1) := by decide +kernel
theorem dX2_hasInk_17 : decode cX2_hasInk 17 = .ok (.ireturn, 1) := by decide +kernel
theorem dX2_fitsNick_0 : decode cX2_fitsNick 0 = .ok (.aload_n 0, 1) := by decide +kernel
theorem dX2_fitsNick_1 : decode cX2_fitsNick 1 = .ok (.getfield 25, 3) := by decide +kernel
theorem dX2_fitsNick_4 : decode cX2_fitsNick 4 = .ok (.bipush (-9), 2) := by decide +kernel
theorem dX2_fitsNick_6 : decode cX2_fitsNick 6 = .ok (.if_icmp .eq 15, 3) := by decide +kernel
theorem dX2_fitsNick_9 : decode cX2_fitsNick 9 = .ok (.iload_n 2, 1) := by decide +kernel
theorem dX2_fitsNick_10 : decode cX2_fitsNick 10 = .ok (.aload_n 0, 1) := by decide +kernel
theorem dX2_fitsNick_11 : decode cX2_fitsNick 11 = .ok (.getfield 25, 3) := by decide +kernel
theorem dX2_fitsNick_14 : decode cX2_fitsNick 14 = .ok (.if_icmp .lt 7, 3) := by decide +kernel
theorem dX2_fitsNick_17 : decode cX2_fitsNick 17 = .ok (.iconst 1, 1) := by decide +kernel
theorem dX2_fitsNick_18 : decode cX2_fitsNick 18 = .ok (.goto 4, 3) := by decide +kernel
theorem dX2_fitsNick_21 : decode cX2_fitsNick 21 = .ok (.iconst 0, 1) := by decide +kernel
theorem dX2_fitsNick_22 : decode cX2_fitsNick 22 = .ok (.istore_n 3, 1) := by decide +kernel
theorem dX2_fitsNick_23 : decode cX2_fitsNick 23 = .ok (.iload_n 1, 1) := by decide +kernel
theorem dX2_fitsNick_24 : decode cX2_fitsNick 24 = .ok (.bipush (-9), 2) := by decide +kernel
theorem dX2_fitsNick_26 : decode cX2_fitsNick 26 = .ok (.if_icmp .eq 17, 3) := by decide +kernel
theorem dX2_fitsNick_29 : decode cX2_fitsNick 29 = .ok (.iload_n 3, 1) := by decide +kernel
theorem dX2_fitsNick_30 : decode cX2_fitsNick 30 = .ok (.iload_n 1, 1) := by decide +kernel
theorem dX2_fitsNick_31 : decode cX2_fitsNick 31 = .ok (.iconst 1, 1) := by decide +kernel
theorem dX2_fitsNick_32 : decode cX2_fitsNick 32 = .ok (.if_icmp .ne 7, 3) := by decide +kernel
theorem dX2_fitsNick_35 : decode cX2_fitsNick 35 = .ok (.iconst 1, 1) := by decide +kernel
theorem dX2_fitsNick_36 : decode cX2_fitsNick 36 = .ok (.goto 4, 3) := by decide +kernel
theorem dX2_fitsNick_39 : decode cX2_fitsNick 39 = .ok (.iconst 0, 1) := by decide +kernel
theorem dX2_fitsNick_40 : decode cX2_fitsNick 40 = .ok (.if_icmp .ne 7, 3) := by decide +kernel
theorem dX2_fitsNick_43 : decode cX2_fitsNick 43 = .ok (.iconst 1, 1) := by decide +kernel
theorem dX2_fitsNick_44 : decode cX2_fitsNick 44 = .ok (.goto 4, 3) := by decide +kernel
theorem dX2_fitsNick_47 : decode cX2_fitsNick 47 = .ok (.iconst 0, 1) := by decide +kernel
theorem dX2_fitsNick_48 : decode cX2_fitsNick 48 = .ok (.ireturn, 1) := by decide +kernel
theorem dX3_init_0 : decode cX3_init 0 = .ok (.aload_n 0, 1) := by decide +kernel
theorem dX3_init_1 : decode cX3_init 1 = .ok (.invokespecial 3, 3) := by decide +kernel
theorem dX3_init_4 : decode cX3_init 4 = .ok (.aload_n 0, 1) := by decide +kernel
theorem dX3_init_5 : decode cX3_init 5 = .ok (.bipush 10, 2) := by decide +kernel
theorem dX3_init_7 : decode cX3_init 7 = .ok (.anewarray 9, 3) := by decide +kernel
theorem dX3_init_10 : decode cX3_init 10 = .ok (.putfield 11, 3) := by decide +kernel
theorem dX3_init_13 : decode cX3_init 13 = .ok (.aload_n 0, 1) := by decide +kernel
theorem dX3_init_14 : decode cX3_init 14 = .ok (.bipush 10, 2) := by decide +kernel
theorem dX3_init_16 : decode cX3_init 16 = .ok (.newarray .int, 2) := by decide +kernel
theorem dX3_init_18 : decode cX3_init 18 = .ok (.putfield 17, 3) := by decide +kernel
theorem dX3_init_21 : decode cX3_init 21 = .ok (.aload_n 0, 1) := by decide +kernel
theorem dX3_init_22 : decode cX3_init 22 = .ok (.sipush 1024, 3) := by decide +kernel
theorem dX3_init_25 : decode cX3_init 25 = .ok (.newarray .int, 2) := by decide +kernel
theorem dX3_init_27 : decode cX3_init 27 = .ok (.putfield 21, 3) := by decide +kernel
theorem dX3_init_30 : decode cX3_init 30 = .ok (.aload_n 0, 1) := by decide +kernel
theorem dX3_init_31 : decode cX3_init 31 = .ok (.iconst 0, 1) := by decide +kernel
theorem dX3_init_32 : decode cX3_init 32 = .ok (.putfield 24, 3) := by decide +kernel
theorem dX3_init_35 : decode cX3_init 35 = .ok (.aload_n 0, 1) := by decide +kernel
theorem dX3_init_36 : decode cX3_init 36 = .ok (.iconst 0, 1) := by decide +kernel
theorem dX3_init_37 : decode cX3_init 37 = .ok (.putfield 28, 3) := by decide +kernel
theorem dX3_init_40 : decode cX3_init 40 = .ok (.aload_n 0, 1) := by decide +kernel
theorem dX3_init_41 : decode cX3_init 41 = .ok (.iconst 0, 1) := by decide +kernel
theorem dX3_init_42 : decode cX3_init 42 = .ok (.putfield 31, 3) := by decide +kernel
theorem dX3_init_45 : decode cX3_init 45 = .ok (.aload_n 0, 1) := by decide +kernel
theorem dX3_init_46 : decode cX3_init 46 = .ok (.iconst 0, 1) := by decide +kernel
theorem dX3_init_47 : decode cX3_init 47 = .ok (.putfield 34, 3) := by decide +kernel
theorem dX3_init_50 : decode cX3_init 50 = .ok (.aload_n 0, 1) := by decide +kernel
theorem dX3_init_51 : decode cX3_init 51 = .ok (.aload_n 1, 1) := by decide +kernel
theorem dX3_init_52 : decode cX3_init 52 = .ok (.putfield 37, 3) := by decide +kernel
theorem dX3_init_55 : decode cX3_init 55 = .ok (.return_, 1) := by decide +kernel
theorem dX3_gather_0 : decode cX3_gather 0 = .ok (.aload_n 0, 1) := by decide +kernel
theorem dX3_gather_1 : decode cX3_gather 1 = .ok (.iconst 0, 1) := by decide +kernel
theorem dX3_gather_2 : decode cX3_gather 2 = .ok (.putfield 24, 3) := by decide +kernel
theorem dX3_gather_5 : decode cX3_gather 5 = .ok (.iconst 0, 1) := by decide +kernel
theorem dX3_gather_6 : decode cX3_gather 6 = .ok (.istore 4, 2) := by decide +kernel
theorem dX3_gather_8 : decode cX3_gather 8 = .ok (.iload 4, 2) := by decide +kernel
theorem dX3_gather_10 : decode cX3_gather 10 = .ok (.aload_n 1, 1) := by decide +kernel
theorem dX3_gather_11 : decode cX3_gather 11 = .ok (.getfield 41, 3) := by decide +kernel
theorem dX3_gather_14 : decode cX3_gather 14 = .ok (.if_icmp .ge 65, 3) := by decide +kernel
theorem dX3_gather_17 : decode cX3_gather 17 = .ok (.aload_n 1, 1) := by decide +kernel
theorem dX3_gather_18 : decode cX3_gather 18 = .ok (.getfield 46, 3) := by decide +kernel
theorem dX3_gather_21 : decode cX3_gather 21 = .ok (.iload 4, 2) := by decide +kernel
theorem dX3_gather_23 : decode cX3_gather 23 = .ok (.aaload, 1) := by decide +kernel
theorem dX3_gather_24 : decode cX3_gather 24 = .ok (.astore 5, 2) := by decide +kernel
theorem dX3_gather_26 : decode cX3_gather 26 = .ok (.aload 5, 2) := by decide +kernel
theorem dX3_gather_28 : decode cX3_gather 28 = .ok (.getfield 49, 3) := by decide +kernel
theorem dX3_gather_31 : decode cX3_gather 31 = .ok (.ifnull 42, 3) := by decide +kernel
theorem dX3_gather_34 : decode cX3_gather 34 = .ok (.aload 5, 2) := by decide +kernel
theorem dX3_gather_36 : decode cX3_gather 36 = .ok (.iload_n 2, 1) := by decide +kernel
theorem dX3_gather_37 : decode cX3_gather 37 = .ok (.iload_n 3, 1) := by decide +kernel
theorem dX3_gather_38 : decode cX3_gather 38 = .ok (.invokevirtual 53, 3) := by decide +kernel
theorem dX3_gather_41 : decode cX3_gather 41 = .ok (.ifCond .eq 32, 3) := by decide +kernel
theorem dX3_gather_44 : decode cX3_gather 44 = .ok (.aload_n 0, 1) := by decide +kernel
theorem dX3_gather_45 : decode cX3_gather 45 = .ok (.getfield 24, 3) := by decide +kernel
theorem dX3_gather_48 : decode cX3_gather 48 = .ok (.bipush 10, 2) := by decide +kernel
theorem dX3_gather_50 : decode cX3_gather 50 = .ok (.if_icmp .lt 5, 3) := by decide +kernel
theorem dX3_gather_53 : decode cX3_gather 53 = .ok (.iconst 0, 1) := by decide +kernel
theorem dX3_gather_54 : decode cX3_gather 54 = .ok (.ireturn, 1) := by decide +kernel
theorem dX3_gather_55 : decode cX3_gather 55 = .ok (.aload_n 0, 1) := by decide +kernel
theorem dX3_gather_56 : decode cX3_gather 56 = .ok (.getfield 11, 3) := by decide +kernel
theorem dX3_gather_59 : decode cX3_gather 59 = .ok (.aload_n 0, 1) := by decide +kernel
theorem dX3_gather_60 : decode cX3_gather 60 = .ok (.dup, 1) := by decide +kernel
theorem dX3_gather_61 : decode cX3_gather 61 = .ok (.getfield 24, 3) := by decide +kernel
theorem dX3_gather_64 : decode cX3_gather 64 = .ok (.dup_x1, 1) := by decide +kernel
theorem dX3_gather_65 : decode cX3_gather 65 = .ok (.iconst 1, 1) := by decide +kernel
theorem dX3_gather_66 : decode cX3_gather 66 = .ok (.iadd, 1) := by decide +kernel
theorem dX3_gather_67 : decode cX3_gather 67 = .ok (.putfield 24, 3) := by decide +kernel
theorem dX3_gather_70 : decode cX3_gather 70 = .ok (.aload 5, 2) := by decide +kernel
theorem dX3_gather_72 : decode cX3_gather 72 = .ok (.aastore, 1) := by decide +kernel
theorem dX3_gather_73 : decode cX3_gather 73 = .ok (.iinc 4 1, 3) := by decide +kernel
theorem dX3_gather_76 : decode cX3_gather 76 = .ok (.goto (-68), 3) := by decide +kernel
theorem dX3_gather_79 : decode cX3_gather 79 = .ok (.iconst 1, 1) := by decide +kernel
theorem dX3_gather_80 : decode cX3_gather 80 = .ok (.ireturn, 1) := by decide +kernel
theorem dX3_firstBarred_0 : decode cX3_firstBarred 0 = .ok (.bipush (-9), 2) := by decide +kernel
theorem dX3_firstBarred_2 : decode cX3_firstBarred 2 = .ok (.istore_n 2, 1) := by decide +kernel
theorem dX3_firstBarred_3 : decode cX3_firstBarred 3 = .ok (.iconst 0, 1) := by decide +kernel
theorem dX3_firstBarred_4 : decode cX3_firstBarred 4 = .ok (.istore_n 3, 1) := by decide +kernel
theorem dX3_firstBarred_5 : decode cX3_firstBarred 5 = .ok (.iload_n 3, 1) := by decide +kernel
theorem dX3_firstBarred_6 : decode cX3_firstBarred 6 = .ok (.aload_n 0, 1) := by decide +kernel
theorem dX3_firstBarred_7 : decode cX3_firstBarred 7 = .ok (.getfield 24, 3) := by decide +kernel
theorem dX3_firstBarred_10 : decode cX3_firstBarred 10 = .ok (.if_icmp .ge 106, 3) := by decide +kernel
theorem dX3_firstBarred_13 : decode cX3_firstBarred 13 = .ok (.iload_n 1, 1) := by decide +kernel
theorem dX3_firstBarred_14 : decode cX3_firstBarred 14 = .ok (.iload_n 3, 1) := by decide +kernel
theorem dX3_firstBarred_15 : decode cX3_firstBarred 15 = .ok (.ishr, 1) := by decide +kernel
theorem dX3_firstBarred_16 : decode cX3_firstBarred 16 = .ok (.iconst 1, 1) := by decide +kernel
theorem dX3_firstBarred_17 : decode cX3_firstBarred 17 = .ok (.iand, 1) := by decide +kernel
theorem dX3_firstBarred_18 : decode cX3_firstBarred 18 = .ok (.iconst 1, 1) := by decide +kernel
theorem dX3_firstBarred_19 : decode cX3_firstBarred 19 = .ok (.if_icmp .ne 6, 3) := by decide +kernel
theorem dX3_firstBarred_22 : decode cX3_firstBarred 22 = .ok (.goto 88, 3) := by decide +kernel
theorem dX3_firstBarred_25 : decode cX3_firstBarred 25 = .ok (.iconst 0, 1) := by decide +kernel
theorem dX3_firstBarred_26 : decode cX3_firstBarred 26 = .ok (.istore 4, 2) := by decide +kernel
theorem dX3_firstBarred_28 : decode cX3_firstBarred 28 = .ok (.iload_n 2, 1) := by decide +kernel
theorem dX3_firstBarred_29 : decode cX3_firstBarred 29 = .ok (.bipush (-9), 2) := by decide +kernel
theorem dX3_firstBarred_31 : decode cX3_firstBarred 31 = .ok (.if_icmp .eq 44, 3) := by decide +kernel
theorem dX3_firstBarred_34 : decode cX3_firstBarred 34 = .ok (.aload_n 0, 1) := by decide +kernel
theorem dX3_firstBarred_35 : decode cX3_firstBarred 35 = .ok (.getfield 37, 3) := by decide +kernel
theorem dX3_firstBarred_38 : decode cX3_firstBarred 38 = .ok (.aload_n 0, 1) := by decide +kernel
theorem dX3_firstBarred_39 : decode cX3_firstBarred 39 = .ok (.getfield 11, 3) := by decide +kernel
theorem dX3_firstBarred_42 : decode cX3_firstBarred 42 = .ok (.iload_n 2, 1) := by decide +kernel
theorem dX3_firstBarred_43 : decode cX3_firstBarred 43 = .ok (.aaload, 1) := by decide +kernel
theorem dX3_firstBarred_44 : decode cX3_firstBarred 44 = .ok (.getfield 57, 3) := by decide +kernel
theorem dX3_firstBarred_47 : decode cX3_firstBarred 47 = .ok (.aload_n 0, 1) := by decide +kernel
theorem dX3_firstBarred_48 : decode cX3_firstBarred 48 = .ok (.getfield 17, 3) := by decide +kernel
theorem dX3_firstBarred_51 : decode cX3_firstBarred 51 = .ok (.iload_n 2, 1) := by decide +kernel
theorem dX3_firstBarred_52 : decode cX3_firstBarred 52 = .ok (.iaload, 1) := by decide +kernel
theorem dX3_firstBarred_53 : decode cX3_firstBarred 53 = .ok (.invokevirtual 60, 3) := by decide +kernel
theorem dX3_firstBarred_56 : decode cX3_firstBarred 56 = .ok (.aload_n 0, 1) := by decide +kernel
theorem dX3_firstBarred_57 : decode cX3_firstBarred 57 = .ok (.getfield 37, 3) := by decide +kernel
theorem dX3_firstBarred_60 : decode cX3_firstBarred 60 = .ok (.getfield 66, 3) := by decide +kernel
theorem dX3_firstBarred_63 : decode cX3_firstBarred 63 = .ok (.aload_n 0, 1) := by decide +kernel
theorem dX3_firstBarred_64 : decode cX3_firstBarred 64 = .ok (.getfield 11, 3) := by decide +kernel
theorem dX3_firstBarred_67 : decode cX3_firstBarred 67 = .ok (.iload_n 3, 1) := by decide +kernel
theorem dX3_firstBarred_68 : decode cX3_firstBarred 68 = .ok (.aaload, 1) := by decide +kernel
theorem dX3_firstBarred_69 : decode cX3_firstBarred 69 = .ok (.getfield 57, 3) := by decide +kernel
theorem dX3_firstBarred_72 : decode cX3_firstBarred 72 = .ok (.iaload, 1) := by decide +kernel
theorem dX3_firstBarred_73 : decode cX3_firstBarred 73 = .ok (.istore 4, 2) := by decide +kernel
theorem dX3_firstBarred_75 : decode cX3_firstBarred 75 = .ok (.aload_n 0, 1) := by decide +kernel
theorem dX3_firstBarred_76 : decode cX3_firstBarred 76 = .ok (.getfield 17, 3) := by decide +kernel
theorem dX3_firstBarred_79 : decode cX3_firstBarred 79 = .ok (.iload_n 3, 1) := by decide +kernel
theorem dX3_firstBarred_80 : decode cX3_firstBarred 80 = .ok (.aload_n 0, 1) := by decide +kernel
theorem dX3_firstBarred_81 : decode cX3_firstBarred 81 = .ok (.getfield 11, 3) := by decide +kernel
theorem dX3_firstBarred_84 : decode cX3_firstBarred 84 = .ok (.iload_n 3, 1) := by decide +kernel
theorem dX3_firstBarred_85 : decode cX3_firstBarred 85 = .ok (.aaload, 1) := by decide +kernel
theorem dX3_firstBarred_86 : decode cX3_firstBarred 86 = .ok (.getfield 69, 3) := by decide +kernel
theorem dX3_firstBarred_89 : decode cX3_firstBarred 89 = .ok (.iload 4, 2) := by decide +kernel
theorem dX3_firstBarred_91 : decode cX3_firstBarred 91 = .ok (.invokevirtual 73, 3) := by decide +kernel
theorem dX3_firstBarred_94 : decode cX3_firstBarred 94 = .ok (.iastore, 1) := by decide +kernel
theorem dX3_firstBarred_95 : decode cX3_firstBarred 95 = .ok (.aload_n 0, 1) := by decide +kernel
theorem dX3_firstBarred_96 : decode cX3_firstBarred 96 = .ok (.getfield 17, 3) := by decide +kernel
theorem dX3_firstBarred_99 : decode cX3_firstBarred 99 = .ok (.iload_n 3, 1) := by decide +kernel
theorem dX3_firstBarred_100 : decode cX3_firstBarred 100 = .ok (.iaload, 1) := by decide +kernel
theorem dX3_firstBarred_101 : decode cX3_firstBarred 101 = .ok (.bipush (-9), 2) := by decide +kernel
theorem dX3_firstBarred_103 : decode cX3_firstBarred 103 = .ok (.if_icmp .ne 5, 3) := by decide +kernel
theorem dX3_firstBarred_106 : decode cX3_firstBarred 106 = .ok (.iload_n 3, 1) := by decide +kernel
theorem dX3_firstBarred_107 : decode cX3_firstBarred 107 = .ok (.ireturn, 1) := by decide +kernel
theorem dX3_firstBarred_108 : decode cX3_firstBarred 108 = .ok (.iload_n 3, 1) := by decide +kernel
theorem dX3_firstBarred_109 : decode cX3_firstBarred 109 = .ok (.istore_n 2, 1) := by decide +kernel
theorem dX3_firstBarred_110 : decode cX3_firstBarred 110 = .ok (.iinc 3 1, 3) := by decide +kernel
theorem dX3_firstBarred_113 : decode cX3_firstBarred 113 = .ok (.goto (-108), 3) := by decide +kernel
theorem dX3_firstBarred_116 : decode cX3_firstBarred 116 = .ok (.bipush (-9), 2) := by decide +kernel
theorem dX3_firstBarred_118 : decode cX3_firstBarred 118 = .ok (.ireturn, 1) := by decide +kernel
theorem dX3_lastDayOf_0 : decode cX3_lastDayOf 0 = .ok (.sipush 999, 3) := by decide +kernel
theorem dX3_lastDayOf_3 : decode cX3_lastDayOf 3 = .ok (.istore_n 2, 1) := by decide +kernel
theorem dX3_lastDayOf_4 : decode cX3_lastDayOf 4 = .ok (.bipush (-9), 2) := by decide +kernel
theorem dX3_lastDayOf_6 : decode cX3_lastDayOf 6 = .ok (.istore_n 3, 1) := by decide +kernel
theorem dX3_lastDayOf_7 : decode cX3_lastDayOf 7 = .ok (.aload_n 0, 1) := by decide +kernel
theorem dX3_lastDayOf_8 : decode cX3_lastDayOf 8 = .ok (.getfield 24, 3) := by decide +kernel
theorem dX3_lastDayOf_11 : decode cX3_lastDayOf 11 = .ok (.iconst 1, 1) := by decide +kernel
theorem dX3_lastDayOf_12 : decode cX3_lastDayOf 12 = .ok (.isub, 1) := by decide +kernel
theorem dX3_lastDayOf_13 : decode cX3_lastDayOf 13 = .ok (.istore 4, 2) := by decide +kernel
theorem dX3_lastDayOf_15 : decode cX3_lastDayOf 15 = .ok (.iload 4, 2) := by decide +kernel
theorem dX3_lastDayOf_17 : decode cX3_lastDayOf 17 = .ok (.iload_n 1, 1) := by decide +kernel
theorem dX3_lastDayOf_18 : decode cX3_lastDayOf 18 = .ok (.if_icmp .lt 76, 3) := by decide +kernel
theorem dX3_lastDayOf_21 : decode cX3_lastDayOf 21 = .ok (.aload_n 0, 1) := by decide +kernel
theorem dX3_lastDayOf_22 : decode cX3_lastDayOf 22 = .ok (.getfield 11, 3) := by decide +kernel
theorem dX3_lastDayOf_25 : decode cX3_lastDayOf 25 = .ok (.iload 4, 2) := by decide +kernel
theorem dX3_lastDayOf_27 : decode cX3_lastDayOf 27 = .ok (.aaload, 1) := by decide +kernel
theorem dX3_lastDayOf_28 : decode cX3_lastDayOf 28 = .ok (.getfield 69, 3) := by decide +kernel
theorem dX3_lastDayOf_31 : decode cX3_lastDayOf 31 = .ok (.iload_n 2, 1) := by decide +kernel
theorem dX3_lastDayOf_32 : decode cX3_lastDayOf 32 = .ok (.invokevirtual 79, 3) := by decide +kernel
theorem dX3_lastDayOf_35 : decode cX3_lastDayOf 35 = .ok (.istore_n 3, 1) := by decide +kernel
theorem dX3_lastDayOf_36 : decode cX3_lastDayOf 36 = .ok (.iload_n 3, 1) := by decide +kernel
theorem dX3_lastDayOf_37 : decode cX3_lastDayOf 37 = .ok (.bipush (-9), 2) := by decide +kernel
theorem dX3_lastDayOf_39 : decode cX3_lastDayOf 39 = .ok (.if_icmp .eq 8, 3) := by decide +kernel
theorem dX3_lastDayOf_42 : decode cX3_lastDayOf 42 = .ok (.iload 4, 2) := by decide +kernel
theorem dX3_lastDayOf_44 : decode cX3_lastDayOf 44 = .ok (.ifCond .ne 5, 3) := by decide +kernel
theorem dX3_lastDayOf_47 : decode cX3_lastDayOf 47 = .ok (.iload_n 3, 1) := by decide +kernel
theorem dX3_lastDayOf_48 : decode cX3_lastDayOf 48 = .ok (.ireturn, 1) := by decide +kernel
theorem dX3_lastDayOf_49 : decode cX3_lastDayOf 49 = .ok (.aload_n 0, 1) := by decide +kernel
theorem dX3_lastDayOf_50 : decode cX3_lastDayOf 50 = .ok (.getfield 37, 3) := by decide +kernel
theorem dX3_lastDayOf_53 : decode cX3_lastDayOf 53 = .ok (.aload_n 0, 1) := by decide +kernel
theorem dX3_lastDayOf_54 : decode cX3_lastDayOf 54 = .ok (.getfield 11, 3) := by decide +kernel
theorem dX3_lastDayOf_57 : decode cX3_lastDayOf 57 = .ok (.iload 4, 2) := by decide +kernel
theorem dX3_lastDayOf_59 : decode cX3_lastDayOf 59 = .ok (.aaload, 1) := by decide +kernel
theorem dX3_lastDayOf_60 : decode cX3_lastDayOf 60 = .ok (.getfield 57, 3) := by decide +kernel
theorem dX3_lastDayOf_63 : decode cX3_lastDayOf 63 = .ok (.iload_n 3, 1) := by decide +kernel
theorem dX3_lastDayOf_64 : decode cX3_lastDayOf 64 = .ok (.invokevirtual 82, 3) := by decide +kernel
theorem dX3_lastDayOf_67 : decode cX3_lastDayOf 67 = .ok (.aload_n 0, 1) := by decide +kernel
theorem dX3_lastDayOf_68 : decode cX3_lastDayOf 68 = .ok (.getfield 37, 3) := by decide +kernel
theorem dX3_lastDayOf_71 : decode cX3_lastDayOf 71 = .ok (.getfield 85, 3) := by decide +kernel
theorem dX3_lastDayOf_74 : decode cX3_lastDayOf 74 = .ok (.aload_n 0, 1) := by decide +kernel
theorem dX3_lastDayOf_75 : decode cX3_lastDayOf 75 = .ok (.getfield 11, 3) := by decide +kernel
theorem dX3_lastDayOf_78 : decode cX3_lastDayOf 78 = .ok (.iload 4, 2) := by decide +kernel
theorem dX3_lastDayOf_80 : decode cX3_lastDayOf 80 = .ok (.iconst 1, 1) := by decide +kernel
theorem dX3_lastDayOf_81 : decode cX3_lastDayOf 81 = .ok (.isub, 1) := by decide +kernel
theorem dX3_lastDayOf_82 : decode cX3_lastDayOf 82 = .ok (.aaload, 1) := by decide +kernel
theorem dX3_lastDayOf_83 : decode cX3_lastDayOf 83 = .ok (.getfield 57, 3) := by decide +kernel
theorem dX3_lastDayOf_86 : decode cX3_lastDayOf 86 = .ok (.iaload, 1) := by decide +kernel
theorem dX3_lastDayOf_87 : decode cX3_lastDayOf 87 = .ok (.istore_n 2, 1) := by decide +kernel
theorem dX3_lastDayOf_88 : decode cX3_lastDayOf 88 = .ok (.iinc 4 (-1), 3) := by decide +kernel
theorem dX3_lastDayOf_91 : decode cX3_lastDayOf 91 = .ok (.goto (-76), 3) := by decide +kernel
theorem dX3_lastDayOf_94 : decode cX3_lastDayOf 94 = .ok (.iload_n 3, 1) := by decide +kernel
theorem dX3_lastDayOf_95 : decode cX3_lastDayOf 95 = .ok (.ireturn, 1) := by decide +kernel
theorem dX3_weighSets_0 : decode cX3_weighSets 0 = .ok (.aload_n 0, 1) := by decide +kernel
theorem dX3_weighSets_1 : decode cX3_weighSets 1 = .ok (.invokevirtual 88, 3) := by decide +kernel
theorem dX3_weighSets_4 : decode cX3_weighSets 4 = .ok (.iconst 1, 1) := by decide +kernel
theorem dX3_weighSets_5 : decode cX3_weighSets 5 = .ok (.aload_n 0, 1) := by decide +kernel
theorem dX3_weighSets_6 : decode cX3_weighSets 6 = .ok (.getfield 24, 3) := by decide +kernel
theorem dX3_weighSets_9 : decode cX3_weighSets 9 = .ok (.ishl, 1) := by decide +kernel
theorem dX3_weighSets_10 : decode cX3_weighSets 10 = .ok (.iconst 1, 1) := by decide +kernel
theorem dX3_weighSets_11 : decode cX3_weighSets 11 = .ok (.isub, 1) := by decide +kernel
theorem dX3_weighSets_12 : decode cX3_weighSets 12 = .ok (.istore_n 1, 1) := by decide +kernel
theorem dX3_weighSets_13 : decode cX3_weighSets 13 = .ok (.aload_n 0, 1) := by decide +kernel
theorem dX3_weighSets_14 : decode cX3_weighSets 14 = .ok (.aload_n 0, 1) := by decide +kernel
theorem dX3_weighSets_15 : decode cX3_weighSets 15 = .ok (.getfield 24, 3) := by decide +kernel
theorem dX3_weighSets_18 : decode cX3_weighSets 18 = .ok (.iconst 1, 1) := by decide +kernel
theorem dX3_weighSets_19 : decode cX3_weighSets 19 = .ok (.iadd, 1) := by decide +kernel
theorem dX3_weighSets_20 : decode cX3_weighSets 20 = .ok (.putfield 28, 3) := by decide +kernel
theorem dX3_weighSets_23 : decode cX3_weighSets 23 = .ok (.iconst 0, 1) := by decide +kernel
theorem dX3_weighSets_24 : decode cX3_weighSets 24 = .ok (.istore_n 2, 1) := by decide +kernel
theorem dX3_weighSets_25 : decode cX3_weighSets 25 = .ok (.iload_n 2, 1) := by decide +kernel
theorem dX3_weighSets_26 : decode cX3_weighSets 26 = .ok (.iload_n 1, 1) := by decide +kernel
theorem dX3_weighSets_27 : decode cX3_weighSets 27 = .ok (.if_icmp .gt 73, 3) := by decide +kernel
theorem dX3_weighSets_30 : decode cX3_weighSets 30 = .ok (.iload_n 2, 1) := by decide +kernel
theorem dX3_weighSets_31 : decode cX3_weighSets 31 = .ok (.invokestatic 91, 3) := by decide +kernel
theorem dX3_weighSets_34 : decode cX3_weighSets 34 = .ok (.istore_n 3, 1) := by decide +kernel
theorem dX3_weighSets_35 : decode cX3_weighSets 35 = .ok (.aload_n 0, 1) := by decide +kernel
theorem dX3_weighSets_36 : decode cX3_weighSets 36 = .ok (.getfield 21, 3) := by decide +kernel
theorem dX3_weighSets_39 : decode cX3_weighSets 39 = .ok (.iload_n 1, 1) := by decide +kernel
theorem dX3_weighSets_40 : decode cX3_weighSets 40 = .ok (.iload_n 2, 1) := by decide +kernel
theorem dX3_weighSets_41 : decode cX3_weighSets 41 = .ok (.iconst (-1), 1) := by decide +kernel
theorem dX3_weighSets_42 : decode cX3_weighSets 42 = .ok (.ixor, 1) := by decide +kernel
theorem dX3_weighSets_43 : decode cX3_weighSets 43 = .ok (.iand, 1) := by decide +kernel
theorem dX3_weighSets_44 : decode cX3_weighSets 44 = .ok (.iaload, 1) := by decide +kernel
theorem dX3_weighSets_45 : decode cX3_weighSets 45 = .ok (.bipush (-9), 2) := by decide +kernel
theorem dX3_weighSets_47 : decode cX3_weighSets 47 = .ok (.if_icmp .eq 47, 3) := by decide +kernel
theorem dX3_weighSets_50 : decode cX3_weighSets 50 = .ok (.iload_n 3, 1) := by decide +kernel
theorem dX3_weighSets_51 : decode cX3_weighSets 51 = .ok (.aload_n 0, 1) := by decide +kernel
theorem dX3_weighSets_52 : decode cX3_weighSets 52 = .ok (.getfield 28, 3) := by decide +kernel
theorem dX3_weighSets_55 : decode cX3_weighSets 55 = .ok (.if_icmp .le 6, 3) := by decide +kernel
theorem dX3_weighSets_58 : decode cX3_weighSets 58 = .ok (.goto 36, 3) := by decide +kernel
theorem dX3_weighSets_61 : decode cX3_weighSets 61 = .ok (.iload_n 3, 1) := by decide +kernel
theorem dX3_weighSets_62 : decode cX3_weighSets 62 = .ok (.aload_n 0, 1) := by decide +kernel
theorem dX3_weighSets_63 : decode cX3_weighSets 63 = .ok (.getfield 28, 3) := by decide +kernel
theorem dX3_weighSets_66 : decode cX3_weighSets 66 = .ok (.if_icmp .ge 18, 3) := by decide +kernel
theorem dX3_weighSets_69 : decode cX3_weighSets 69 = .ok (.aload_n 0, 1) := by decide +kernel
theorem dX3_weighSets_70 : decode cX3_weighSets 70 = .ok (.iload_n 3, 1) := by decide +kernel
theorem dX3_weighSets_71 : decode cX3_weighSets 71 = .ok (.putfield 28, 3) := by decide +kernel
theorem dX3_weighSets_74 : decode cX3_weighSets 74 = .ok (.aload_n 0, 1) := by decide +kernel
theorem dX3_weighSets_75 : decode cX3_weighSets 75 = .ok (.iload_n 2, 1) := by decide +kernel
theorem dX3_weighSets_76 : decode cX3_weighSets 76 = .ok (.putfield 31, 3) := by decide +kernel
theorem dX3_weighSets_79 : decode cX3_weighSets 79 = .ok (.aload_n 0, 1) := by decide +kernel
theorem dX3_weighSets_80 : decode cX3_weighSets 80 = .ok (.iconst 0, 1) := by decide +kernel
theorem dX3_weighSets_81 : decode cX3_weighSets 81 = .ok (.putfield 34, 3) := by decide +kernel
theorem dX3_weighSets_84 : decode cX3_weighSets 84 = .ok (.aload_n 0, 1) := by decide +kernel
theorem dX3_weighSets_85 : decode cX3_weighSets 85 = .ok (.dup, 1) := by decide +kernel
theorem dX3_weighSets_86 : decode cX3_weighSets 86 = .ok (.getfield 34, 3) := by decide +kernel
theorem dX3_weighSets_89 : decode cX3_weighSets 89 = .ok (.iconst 1, 1) := by decide +kernel
theorem dX3_weighSets_90 : decode cX3_weighSets 90 = .ok (.iadd, 1) := by decide +kernel
theorem dX3_weighSets_91 : decode cX3_weighSets 91 = .ok (.putfield 34, 3) := by decide +kernel
theorem dX3_weighSets_94 : decode cX3_weighSets 94 = .ok (.iinc 2 1, 3) := by decide +kernel
theorem dX3_weighSets_97 : decode cX3_weighSets 97 = .ok (.goto (-72), 3) := by decide +kernel
theorem dX3_weighSets_100 : decode cX3_weighSets 100 = .ok (.return_, 1) := by decide +kernel
theorem dX3_endAllSets_0 : decode cX3_endAllSets 0 = .ok (.iconst 1, 1) := by decide +kernel
theorem dX3_endAllSets_1 : decode cX3_endAllSets 1 = .ok (.aload_n 0, 1) := by decide +kernel
theorem dX3_endAllSets_2 : decode cX3_endAllSets 2 = .ok (.getfield 24, 3) := by decide +kernel
theorem dX3_endAllSets_5 : decode cX3_endAllSets 5 = .ok (.ishl, 1) := by decide +kernel
theorem dX3_endAllSets_6 : decode cX3_endAllSets 6 = .ok (.istore_n 1, 1) := by decide +kernel
theorem dX3_endAllSets_7 : decode cX3_endAllSets 7 = .ok (.aload_n 0, 1) := by decide +kernel
theorem dX3_endAllSets_8 : decode cX3_endAllSets 8 = .ok (.getfield 21, 3) := by decide +kernel
theorem dX3_endAllSets_11 : decode cX3_endAllSets 11 = .ok (.bipush (-9), 2) := by decide +kernel
theorem dX3_endAllSets_13 : decode cX3_endAllSets 13 = .ok (.invokestatic 96, 3) := by decide +kernel
theorem dX3_endAllSets_16 : decode cX3_endAllSets 16 = .ok (.aload_n 0, 1) := by decide +kernel
theorem dX3_endAllSets_17 : decode cX3_endAllSets 17 = .ok (.getfield 21, 3) := by decide +kernel
theorem dX3_endAllSets_20 : decode cX3_endAllSets 20 = .ok (.iconst 0, 1) := by decide +kernel
theorem dX3_endAllSets_21 : decode cX3_endAllSets 21 = .ok (.iconst 0, 1) := by decide +kernel
theorem dX3_endAllSets_22 : decode cX3_endAllSets 22 = .ok (.iastore, 1) := by decide +kernel
theorem dX3_endAllSets_23 : decode cX3_endAllSets 23 = .ok (.iconst 0, 1) := by decide +kernel
theorem dX3_endAllSets_24 : decode cX3_endAllSets 24 = .ok (.istore_n 2, 1) := by decide +kernel
theorem dX3_endAllSets_25 : decode cX3_endAllSets 25 = .ok (.iload_n 2, 1) := by decide +kernel
theorem dX3_endAllSets_26 : decode cX3_endAllSets 26 = .ok (.iload_n 1, 1) := by decide +kernel
theorem dX3_endAllSets_27 : decode cX3_endAllSets 27 = .ok (.if_icmp .ge 143, 3) := by decide +kernel
theorem dX3_endAllSets_30 : decode cX3_endAllSets 30 = .ok (.aload_n 0, 1) := by decide +kernel
theorem dX3_endAllSets_31 : decode cX3_endAllSets 31 = .ok (.getfield 21, 3) := by decide +kernel
theorem dX3_endAllSets_34 : decode cX3_endAllSets 34 = .ok (.iload_n 2, 1) := by decide +kernel
theorem dX3_endAllSets_35 : decode cX3_endAllSets 35 = .ok (.iaload, 1) := by decide +kernel
theorem dX3_endAllSets_36 : decode cX3_endAllSets 36 = .ok (.bipush (-9), 2) := by decide +kernel
theorem dX3_endAllSets_38 : decode cX3_endAllSets 38 = .ok (.if_icmp .ne 6, 3) := by decide +kernel
theorem dX3_endAllSets_41 : decode cX3_endAllSets 41 = .ok (.goto 123, 3) := by decide +kernel
theorem dX3_endAllSets_44 : decode cX3_endAllSets 44 = .ok (.aload_n 0, 1) := by decide +kernel
theorem dX3_endAllSets_45 : decode cX3_endAllSets 45 = .ok (.iload_n 2, 1) := by decide +kernel
theorem dX3_endAllSets_46 : decode cX3_endAllSets 46 = .ok (.invokevirtual 102, 3) := by decide +kernel
theorem dX3_endAllSets_49 : decode cX3_endAllSets 49 = .ok (.istore_n 3, 1) := by decide +kernel
theorem dX3_endAllSets_50 : decode cX3_endAllSets 50 = .ok (.iload_n 3, 1) := by decide +kernel
theorem dX3_endAllSets_51 : decode cX3_endAllSets 51 = .ok (.bipush (-9), 2) := by decide +kernel
theorem dX3_endAllSets_53 : decode cX3_endAllSets 53 = .ok (.if_icmp .eq 25, 3) := by decide +kernel
theorem dX3_endAllSets_56 : decode cX3_endAllSets 56 = .ok (.aload_n 0, 1) := by decide +kernel
theorem dX3_endAllSets_57 : decode cX3_endAllSets 57 = .ok (.getfield 37, 3) := by decide +kernel
theorem dX3_endAllSets_60 : decode cX3_endAllSets 60 = .ok (.aload_n 0, 1) := by decide +kernel
theorem dX3_endAllSets_61 : decode cX3_endAllSets 61 = .ok (.getfield 11, 3) := by decide +kernel
theorem dX3_endAllSets_64 : decode cX3_endAllSets 64 = .ok (.iload_n 3, 1) := by decide +kernel
theorem dX3_endAllSets_65 : decode cX3_endAllSets 65 = .ok (.aaload, 1) := by decide +kernel
theorem dX3_endAllSets_66 : decode cX3_endAllSets 66 = .ok (.getfield 57, 3) := by decide +kernel
theorem dX3_endAllSets_69 : decode cX3_endAllSets 69 = .ok (.aload_n 0, 1) := by decide +kernel
theorem dX3_endAllSets_70 : decode cX3_endAllSets 70 = .ok (.getfield 21, 3) := by decide +kernel
theorem dX3_endAllSets_73 : decode cX3_endAllSets 73 = .ok (.iload_n 2, 1) := by decide +kernel
theorem dX3_endAllSets_74 : decode cX3_endAllSets 74 = .ok (.iaload, 1) := by decide +kernel
theorem dX3_endAllSets_75 : decode cX3_endAllSets 75 = .ok (.invokevirtual 60, 3) := by decide +kernel
theorem dX3_endAllSets_78 : decode cX3_endAllSets 78 = .ok (.iload_n 3, 1) := by decide +kernel
theorem dX3_endAllSets_79 : decode cX3_endAllSets 79 = .ok (.bipush (-9), 2) := by decide +kernel
theorem dX3_endAllSets_81 : decode cX3_endAllSets 81 = .ok (.if_icmp .ne 7, 3) := by decide +kernel
theorem dX3_endAllSets_84 : decode cX3_endAllSets 84 = .ok (.iconst 0, 1) := by decide +kernel
theorem dX3_endAllSets_85 : decode cX3_endAllSets 85 = .ok (.goto 6, 3) := by decide +kernel
theorem dX3_endAllSets_88 : decode cX3_endAllSets 88 = .ok (.iload_n 3, 1) := by decide +kernel
theorem dX3_endAllSets_89 : decode cX3_endAllSets 89 = .ok (.iconst 1, 1) := by decide +kernel
theorem dX3_endAllSets_90 : decode cX3_endAllSets 90 = .ok (.iadd, 1) := by decide +kernel
theorem dX3_endAllSets_91 : decode cX3_endAllSets 91 = .ok (.istore 4, 2) := by decide +kernel
theorem dX3_endAllSets_93 : decode cX3_endAllSets 93 = .ok (.iload 4, 2) := by decide +kernel
theorem dX3_endAllSets_95 : decode cX3_endAllSets 95 = .ok (.aload_n 0, 1) := by decide +kernel
theorem dX3_endAllSets_96 : decode cX3_endAllSets 96 = .ok (.getfield 24, 3) := by decide +kernel
theorem dX3_endAllSets_99 : decode cX3_endAllSets 99 = .ok (.if_icmp .ge 65, 3) := by decide +kernel
theorem dX3_endAllSets_102 : decode cX3_endAllSets 102 = .ok (.iload_n 3, 1) := by decide +kernel
theorem dX3_endAllSets_103 : decode cX3_endAllSets 103 = .ok (.bipush (-9), 2) := by decide +kernel
theorem dX3_endAllSets_105 : decode cX3_endAllSets 105 = .ok (.if_icmp .ne 7, 3) := by decide +kernel
theorem dX3_endAllSets_108 : decode cX3_endAllSets 108 = .ok (.iconst 0, 1) := by decide +kernel
theorem dX3_endAllSets_109 : decode cX3_endAllSets 109 = .ok (.goto 21, 3) := by decide +kernel
theorem dX3_endAllSets_112 : decode cX3_endAllSets 112 = .ok (.aload_n 0, 1) := by decide +kernel
theorem dX3_endAllSets_113 : decode cX3_endAllSets 113 = .ok (.getfield 37, 3) := by decide +kernel
theorem dX3_endAllSets_116 : decode cX3_endAllSets 116 = .ok (.getfield 66, 3) := by decide +kernel
theorem dX3_endAllSets_119 : decode cX3_endAllSets 119 = .ok (.aload_n 0, 1) := by decide +kernel
theorem dX3_endAllSets_120 : decode cX3_endAllSets 120 = .ok (.getfield 11, 3) := by decide +kernel
theorem dX3_endAllSets_123 : decode cX3_endAllSets 123 = .ok (.iload 4, 2) := by decide +kernel
theorem dX3_endAllSets_125 : decode cX3_endAllSets 125 = .ok (.aaload, 1) := by decide +kernel
theorem dX3_endAllSets_126 : decode cX3_endAllSets 126 = .ok (.getfield 57, 3) := by decide +kernel
theorem dX3_endAllSets_129 : decode cX3_endAllSets 129 = .ok (.iaload, 1) := by decide +kernel
theorem dX3_endAllSets_130 : decode cX3_endAllSets 130 = .ok (.istore 5, 2) := by decide +kernel
theorem dX3_endAllSets_132 : decode cX3_endAllSets 132 = .ok (.aload_n 0, 1) := by decide +kernel
theorem dX3_endAllSets_133 : decode cX3_endAllSets 133 = .ok (.getfield 21, 3) := by decide +kernel
theorem dX3_endAllSets_136 : decode cX3_endAllSets 136 = .ok (.iload_n 2, 1) := by decide +kernel
theorem dX3_endAllSets_137 : decode cX3_endAllSets 137 = .ok (.iconst 1, 1) := by decide +kernel
theorem dX3_endAllSets_138 : decode cX3_endAllSets 138 = .ok (.iload 4, 2) := by decide +kernel
theorem dX3_endAllSets_140 : decode cX3_endAllSets 140 = .ok (.ishl, 1) := by decide +kernel
theorem dX3_endAllSets_141 : decode cX3_endAllSets 141 = .ok (.ior, 1) := by decide +kernel
theorem dX3_endAllSets_142 : decode cX3_endAllSets 142 = .ok (.aload_n 0, 1) := by decide +kernel
theorem dX3_endAllSets_143 : decode cX3_endAllSets 143 = .ok (.getfield 11, 3) := by decide +kernel
theorem dX3_endAllSets_146 : decode cX3_endAllSets 146 = .ok (.iload 4, 2) := by decide +kernel
theorem dX3_endAllSets_148 : decode cX3_endAllSets 148 = .ok (.aaload, 1) := by decide +kernel
theorem dX3_endAllSets_149 : decode cX3_endAllSets 149 = .ok (.getfield 69, 3) := by decide +kernel
theorem dX3_endAllSets_152 : decode cX3_endAllSets 152 = .ok (.iload 5, 2) := by decide +kernel
theorem dX3_endAllSets_154 : decode cX3_endAllSets 154 = .ok (.invokevirtual 73, 3) := by decide +kernel
theorem dX3_endAllSets_157 : decode cX3_endAllSets 157 = .ok (.iastore, 1) := by decide +kernel
theorem dX3_endAllSets_158 : decode cX3_endAllSets 158 = .ok (.iinc 4 1, 3) := by decide +kernel
theorem dX3_endAllSets_161 : decode cX3_endAllSets 161 = .ok (.goto (-68), 3) := by decide +kernel
theorem dX3_endAllSets_164 : decode cX3_endAllSets 164 = .ok (.iinc 2 1, 3) := by decide +kernel
theorem dX3_endAllSets_167 : decode cX3_endAllSets 167 = .ok (.goto (-142), 3) := by decide +kernel
theorem dX3_endAllSets_170 : decode cX3_endAllSets 170 = .ok (.return_, 1) := by decide +kernel
theorem dX3_lastOf_0 : decode cX3_lastOf 0 = .ok (.aload_n 0, 1) := by decide +kernel
theorem dX3_lastOf_1 : decode cX3_lastOf 1 = .ok (.getfield 24, 3) := by decide +kernel
theorem dX3_lastOf_4 : decode cX3_lastOf 4 = .ok (.iconst 1, 1) := by decide +kernel
theorem dX3_lastOf_5 : decode cX3_lastOf 5 = .ok (.isub, 1) := by decide +kernel
theorem dX3_lastOf_6 : decode cX3_lastOf 6 = .ok (.istore_n 2, 1) := by decide +kernel
theorem dX3_lastOf_7 : decode cX3_lastOf 7 = .ok (.iload_n 2, 1) := by decide +kernel
theorem dX3_lastOf_8 : decode cX3_lastOf 8 = .ok (.ifCond .lt 20, 3) := by decide +kernel
theorem dX3_lastOf_11 : decode cX3_lastOf 11 = .ok (.iload_n 1, 1) := by decide +kernel
theorem dX3_lastOf_12 : decode cX3_lastOf 12 = .ok (.iload_n 2, 1) := by decide +kernel
theorem dX3_lastOf_13 : decode cX3_lastOf 13 = .ok (.ishr, 1) := by decide +kernel
theorem dX3_lastOf_14 : decode cX3_lastOf 14 = .ok (.iconst 1, 1) := by decide +kernel
theorem dX3_lastOf_15 : decode cX3_lastOf 15 = .ok (.iand, 1) := by decide +kernel
theorem dX3_lastOf_16 : decode cX3_lastOf 16 = .ok (.iconst 1, 1) := by decide +kernel
theorem dX3_lastOf_17 : decode cX3_lastOf 17 = .ok (.if_icmp .ne 5, 3) := by decide +kernel
theorem dX3_lastOf_20 : decode cX3_lastOf 20 = .ok (.iload_n 2, 1) := by decide +kernel
theorem dX3_lastOf_21 : decode cX3_lastOf 21 = .ok (.ireturn, 1) := by decide +kernel
theorem dX3_lastOf_22 : decode cX3_lastOf 22 = .ok (.iinc 2 (-1), 3) := by decide +kernel
theorem dX3_lastOf_25 : decode cX3_lastOf 25 = .ok (.goto (-18), 3) := by decide +kernel
theorem dX3_lastOf_28 : decode cX3_lastOf 28 = .ok (.bipush (-9), 2) := by decide +kernel
theorem dX3_lastOf_30 : decode cX3_lastOf 30 = .ok (.ireturn, 1) := by decide +kernel
theorem dX4_init_0 : decode cX4_init 0 = .ok (.aload_n 0, 1) := by decide +kernel
theorem dX4_init_1 : decode cX4_init 1 = .ok (.invokespecial 3, 3) := by decide +kernel
theorem dX4_init_4 : decode cX4_init 4 = .ok (.aload_n 0, 1) := by decide +kernel
theorem dX4_init_5 : decode cX4_init 5 = .ok (.lconst 0, 1) := by decide +kernel
theorem dX4_init_6 : decode cX4_init 6 = .ok (.putfield 9, 3) := by decide +kernel
theorem dX4_init_9 : decode cX4_init 9 = .ok (.return_, 1) := by decide +kernel
theorem dX4_ofKind_0 : decode cX4_ofKind 0 = .ok (.iload_n 1, 1) := by decide +kernel
theorem dX4_ofKind_1 : decode cX4_ofKind 1 = .ok (.tableswitch 65 1 5 #[35, 41, 47, 53, 59], 35) := by decide +kernel
theorem dX4_ofKind_36 : decode cX4_ofKind 36 = .ok (.aload_n 0, 1) := by decide +kernel
theorem dX4_ofKind_37 : decode cX4_ofKind 37 = .ok (.aload_n 2, 1) := by decide +kernel
theorem dX4_ofKind_38 : decode cX4_ofKind 38 = .ok (.invokevirtual 15, 3) := by decide +kernel
theorem dX4_ofKind_41 : decode cX4_ofKind 41 = .ok (.ireturn, 1) := by decide +kernel
theorem dX4_ofKind_42 : decode cX4_ofKind 42 = .ok (.aload_n 0, 1) := by decide +kernel
theorem dX4_ofKind_43 : decode cX4_ofKind 43 = .ok (.aload_n 2, 1) := by decide +kernel
theorem dX4_ofKind_44 : decode cX4_ofKind 44 = .ok (.invokevirtual 19, 3) := by decide +kernel
theorem dX4_ofKind_47 : decode cX4_ofKind 47 = .ok (.ireturn, 1) := by decide +kernel
theorem dX4_ofKind_48 : decode cX4_ofKind 48 = .ok (.aload_n 0, 1) := by decide +kernel
theorem dX4_ofKind_49 : decode cX4_ofKind 49 = .ok (.aload_n 2, 1) := by decide +kernel
theorem dX4_ofKind_50 : decode cX4_ofKind 50 = .ok (.invokevirtual 22, 3) := by decide +kernel
theorem dX4_ofKind_53 : decode cX4_ofKind 53 = .ok (.ireturn, 1) := by decide +kernel
theorem dX4_ofKind_54 : decode cX4_ofKind 54 = .ok (.aload_n 0, 1) := by decide +kernel
theorem dX4_ofKind_55 : decode cX4_ofKind 55 = .ok (.aload_n 2, 1) := by decide +kernel
theorem dX4_ofKind_56 : decode cX4_ofKind 56 = .ok (.invokevirtual 25, 3) := by decide +kernel
theorem dX4_ofKind_59 : decode cX4_ofKind 59 = .ok (.ireturn, 1) := by decide +kernel
theorem dX4_ofKind_60 : decode cX4_ofKind 60 = .ok (.aload_n 0, 1) := by decide +kernel
theorem dX4_ofKind_61 : decode cX4_ofKind 61 = .ok (.aload_n 2, 1) := by decide +kernel
theorem dX4_ofKind_62 : decode cX4_ofKind 62 = .ok (.invokevirtual 28, 3) := by decide +kernel
theorem dX4_ofKind_65 : decode cX4_ofKind 65 = .ok (.ireturn, 1) := by decide +kernel
theorem dX4_ofKind_66 : decode cX4_ofKind 66 = .ok (.aload_n 0, 1) := by decide +kernel
theorem dX4_ofKind_67 : decode cX4_ofKind 67 = .ok (.aload_n 2, 1) := by decide +kernel
theorem dX4_ofKind_68 : decode cX4_ofKind 68 = .ok (.invokevirtual 31, 3) := by decide +kernel
theorem dX4_ofKind_71 : decode cX4_ofKind 71 = .ok (.ireturn, 1) := by decide +kernel
theorem dX4_ofMark_0 : decode cX4_ofMark 0 = .ok (.aload_n 0, 1) := by decide +kernel
theorem dX4_ofMark_1 : decode cX4_ofMark 1 = .ok (.dup, 1) := by decide +kernel
theorem dX4_ofMark_2 : decode cX4_ofMark 2 = .ok (.getfield 9, 3) := by decide +kernel
theorem dX4_ofMark_5 : decode cX4_ofMark 5 = .ok (.lconst 1, 1) := by decide +kernel
theorem dX4_ofMark_6 : decode cX4_ofMark 6 = .ok (.ladd, 1) := by decide +kernel
theorem dX4_ofMark_7 : decode cX4_ofMark 7 = .ok (.putfield 9, 3) := by decide +kernel
theorem dX4_ofMark_10 : decode cX4_ofMark 10 = .ok (.aload_n 1, 1) := by decide +kernel
theorem dX4_ofMark_11 : decode cX4_ofMark 11 = .ok (.getfield 34, 3) := by decide +kernel
theorem dX4_ofMark_14 : decode cX4_ofMark 14 = .ok (.ifnonnull 8, 3) := by decide +kernel
theorem dX4_ofMark_17 : decode cX4_ofMark 17 = .ok (.bipush 10, 2) := by decide +kernel
theorem dX4_ofMark_19 : decode cX4_ofMark 19 = .ok (.goto 5, 3) := by decide +kernel
theorem dX4_ofMark_22 : decode cX4_ofMark 22 = .ok (.bipush 15, 2) := by decide +kernel
theorem dX4_ofMark_24 : decode cX4_ofMark 24 = .ok (.ireturn, 1) := by decide +kernel
theorem dX4_ofDated_0 : decode cX4_ofDated 0 = .ok (.aload_n 0, 1) := by decide +kernel
theorem dX4_ofDated_1 : decode cX4_ofDated 1 = .ok (.dup, 1) := by decide +kernel
theorem dX4_ofDated_2 : decode cX4_ofDated 2 = .ok (.getfield 9, 3) := by decide +kernel
theorem dX4_ofDated_5 : decode cX4_ofDated 5 = .ok (.ldc2_w 40, 3) := by decide +kernel
theorem dX4_ofDated_8 : decode cX4_ofDated 8 = .ok (.ladd, 1) := by decide +kernel
theorem dX4_ofDated_9 : decode cX4_ofDated 9 = .ok (.putfield 9, 3) := by decide +kernel
theorem dX4_ofDated_12 : decode cX4_ofDated 12 = .ok (.aload_n 0, 1) := by decide +kernel
theorem dX4_ofDated_13 : decode cX4_ofDated 13 = .ok (.aload_n 1, 1) := by decide +kernel
theorem dX4_ofDated_14 : decode cX4_ofDated 14 = .ok (.invokevirtual 31, 3) := by decide +kernel
theorem dX4_ofDated_17 : decode cX4_ofDated 17 = .ok (.iconst 4, 1) := by decide +kernel
theorem dX4_ofDated_18 : decode cX4_ofDated 18 = .ok (.aload_n 1, 1) := by decide +kernel
theorem dX4_ofDated_19 : decode cX4_ofDated 19 = .ok (.invokevirtual 42, 3) := by decide +kernel
theorem dX4_ofDated_22 : decode cX4_ofDated 22 = .ok (.imul, 1) := by decide +kernel
theorem dX4_ofDated_23 : decode cX4_ofDated 23 = .ok (.iadd, 1) := by decide +kernel
theorem dX4_ofDated_24 : decode cX4_ofDated 24 = .ok (.ireturn, 1) := by decide +kernel
theorem dX4_ofRate_0 : decode cX4_ofRate 0 = .ok (.aload_n 0, 1) := by decide +kernel
theorem dX4_ofRate_1 : decode cX4_ofRate 1 = .ok (.dup, 1) := by decide +kernel
theorem dX4_ofRate_2 : decode cX4_ofRate 2 = .ok (.getfield 9, 3) := by decide +kernel
theorem dX4_ofRate_5 : decode cX4_ofRate 5 = .ok (.ldc2_w 46, 3) := by decide +kernel
theorem dX4_ofRate_8 : decode cX4_ofRate 8 = .ok (.ladd, 1) := by decide +kernel
theorem dX4_ofRate_9 : decode cX4_ofRate 9 = .ok (.putfield 9, 3) := by decide +kernel
theorem dX4_ofRate_12 : decode cX4_ofRate 12 = .ok (.aload_n 0, 1) := by decide +kernel
theorem dX4_ofRate_13 : decode cX4_ofRate 13 = .ok (.aload_n 1, 1) := by decide +kernel
theorem dX4_ofRate_14 : decode cX4_ofRate 14 = .ok (.invokevirtual 31, 3) := by decide +kernel
theorem dX4_ofRate_17 : decode cX4_ofRate 17 = .ok (.aload_n 1, 1) := by decide +kernel
theorem dX4_ofRate_18 : decode cX4_ofRate 18 = .ok (.getfield 48, 3) := by decide +kernel
theorem dX4_ofRate_21 : decode cX4_ofRate 21 = .ok (.bipush (-9), 2) := by decide +kernel
theorem dX4_ofRate_23 : decode cX4_ofRate 23 = .ok (.if_icmp .ne 7, 3) := by decide +kernel
theorem dX4_ofRate_26 : decode cX4_ofRate 26 = .ok (.iconst 0, 1) := by decide +kernel
theorem dX4_ofRate_27 : decode cX4_ofRate 27 = .ok (.goto 5, 3) := by decide +kernel
theorem dX4_ofRate_30 : decode cX4_ofRate 30 = .ok (.bipush 7, 2) := by decide +kernel
theorem dX4_ofRate_32 : decode cX4_ofRate 32 = .ok (.iadd, 1) := by decide +kernel
theorem dX4_ofRate_33 : decode cX4_ofRate 33 = .ok (.ireturn, 1) := by decide +kernel
theorem dX4_ofThrough_0 : decode cX4_ofThrough 0 = .ok (.aload_n 0, 1) := by decide +kernel
theorem dX4_ofThrough_1 : decode cX4_ofThrough 1 = .ok (.dup, 1) := by decide +kernel
theorem dX4_ofThrough_2 : decode cX4_ofThrough 2 = .ok (.getfield 9, 3) := by decide +kernel
theorem dX4_ofThrough_5 : decode cX4_ofThrough 5 = .ok (.ldc2_w 52, 3) := by decide +kernel
theorem dX4_ofThrough_8 : decode cX4_ofThrough 8 = .ok (.ladd, 1) := by decide +kernel
theorem dX4_ofThrough_9 : decode cX4_ofThrough 9 = .ok (.putfield 9, 3) := by decide +kernel
theorem dX4_ofThrough_12 : decode cX4_ofThrough 12 = .ok (.aload_n 0, 1) := by decide +kernel
theorem dX4_ofThrough_13 : decode cX4_ofThrough 13 = .ok (.aload_n 1, 1) := by decide +kernel
theorem dX4_ofThrough_14 : decode cX4_ofThrough 14 = .ok (.invokevirtual 15, 3) := by decide +kernel
theorem dX4_ofThrough_17 : decode cX4_ofThrough 17 = .ok (.istore_n 2, 1) := by decide +kernel
theorem dX4_ofThrough_18 : decode cX4_ofThrough 18 = .ok (.iload_n 2, 1) := by decide +kernel
theorem dX4_ofThrough_19 : decode cX4_ofThrough 19 = .ok (.iload_n 2, 1) := by decide +kernel
theorem dX4_ofThrough_20 : decode cX4_ofThrough 20 = .ok (.iconst 3, 1) := by decide +kernel
theorem dX4_ofThrough_21 : decode cX4_ofThrough 21 = .ok (.idiv, 1) := by decide +kernel
theorem dX4_ofThrough_22 : decode cX4_ofThrough 22 = .ok (.iadd, 1) := by decide +kernel
theorem dX4_ofThrough_23 : decode cX4_ofThrough 23 = .ok (.ireturn, 1) := by decide +kernel
theorem dX4_ofStamp_0 : decode cX4_ofStamp 0 = .ok (.aload_n 0, 1) := by decide +kernel
theorem dX4_ofStamp_1 : decode cX4_ofStamp 1 = .ok (.dup, 1) := by decide +kernel
theorem dX4_ofStamp_2 : decode cX4_ofStamp 2 = .ok (.getfield 9, 3) := by decide +kernel
theorem dX4_ofStamp_5 : decode cX4_ofStamp 5 = .ok (.ldc2_w 54, 3) := by decide +kernel
theorem dX4_ofStamp_8 : decode cX4_ofStamp 8 = .ok (.ladd, 1) := by decide +kernel
theorem dX4_ofStamp_9 : decode cX4_ofStamp 9 = .ok (.putfield 9, 3) := by decide +kernel
theorem dX4_ofStamp_12 : decode cX4_ofStamp 12 = .ok (.aload_n 0, 1) := by decide +kernel
theorem dX4_ofStamp_13 : decode cX4_ofStamp 13 = .ok (.aload_n 1, 1) := by decide +kernel
theorem dX4_ofStamp_14 : decode cX4_ofStamp 14 = .ok (.invokevirtual 31, 3) := by decide +kernel
theorem dX4_ofStamp_17 : decode cX4_ofStamp 17 = .ok (.aload_n 1, 1) := by decide +kernel
theorem dX4_ofStamp_18 : decode cX4_ofStamp 18 = .ok (.getfield 56, 3) := by decide +kernel
theorem dX4_ofStamp_21 : decode cX4_ofStamp 21 = .ok (.iadd, 1) := by decide +kernel
theorem dX4_ofStamp_22 : decode cX4_ofStamp 22 = .ok (.ireturn, 1) := by decide +kernel
theorem dX4_ofDoubted_0 : decode cX4_ofDoubted 0 = .ok (.aload_n 0, 1) := by decide +kernel
theorem dX4_ofDoubted_1 : decode cX4_ofDoubted 1 = .ok (.dup, 1) := by decide +kernel
theorem dX4_ofDoubted_2 : decode cX4_ofDoubted 2 = .ok (.getfield 9, 3) := by decide +kernel
theorem dX4_ofDoubted_5 : decode cX4_ofDoubted 5 = .ok (.ldc2_w 59, 3) := by decide +kernel
theorem dX4_ofDoubted_8 : decode cX4_ofDoubted 8 = .ok (.ladd, 1) := by decide +kernel
theorem dX4_ofDoubted_9 : decode cX4_ofDoubted 9 = .ok (.putfield 9, 3) := by decide +kernel
theorem dX4_ofDoubted_12 : decode cX4_ofDoubted 12 = .ok (.aload_n 0, 1) := by decide +kernel
theorem dX4_ofDoubted_13 : decode cX4_ofDoubted 13 = .ok (.aload_n 1, 1) := by decide +kernel
theorem dX4_ofDoubted_14 : decode cX4_ofDoubted 14 = .ok (.invokevirtual 31, 3) := by decide +kernel
theorem dX4_ofDoubted_17 : decode cX4_ofDoubted 17 = .ok (.iconst 2, 1) := by decide +kernel
theorem dX4_ofDoubted_18 : decode cX4_ofDoubted 18 = .ok (.idiv, 1) := by decide +kernel
theorem dX4_ofDoubted_19 : decode cX4_ofDoubted 19 = .ok (.ireturn, 1) := by decide +kernel
theorem dX5_init_0 : decode cX5_init 0 = .ok (.aload_n 0, 1) := by decide +kernel
theorem dX5_init_1 : decode cX5_init 1 = .ok (.invokespecial 3, 3) := by decide +kernel
theorem dX5_init_4 : decode cX5_init 4 = .ok (.aload_n 0, 1) := by decide +kernel
theorem dX5_init_5 : decode cX5_init 5 = .ok (.new 9, 3) := by decide +kernel
theorem dX5_init_8 : decode cX5_init 8 = .ok (.dup, 1) := by decide +kernel
theorem dX5_init_9 : decode cX5_init 9 = .ok (.invokespecial 11, 3) := by decide +kernel
theorem dX5_init_12 : decode cX5_init 12 = .ok (.putfield 12, 3) := by decide +kernel
theorem dX5_init_15 : decode cX5_init 15 = .ok (.aload_n 0, 1) := by decide +kernel
theorem dX5_init_16 : decode cX5_init 16 = .ok (.iconst 3, 1) := by decide +kernel
theorem dX5_init_17 : decode cX5_init 17 = .ok (.newarray .int, 2) := by decide +kernel
theorem dX5_init_19 : decode cX5_init 19 = .ok (.putfield 18, 3) := by decide +kernel
theorem dX5_init_22 : decode cX5_init 22 = .ok (.aload_n 0, 1) := by decide +kernel
theorem dX5_init_23 : decode cX5_init 23 = .ok (.bipush (-9), 2) := by decide +kernel
theorem dX5_init_25 : decode cX5_init 25 = .ok (.putfield 22, 3) := by decide +kernel
theorem dX5_init_28 : decode cX5_init 28 = .ok (.aload_n 0, 1) := by decide +kernel
theorem dX5_init_29 : decode cX5_init 29 = .ok (.bipush (-9), 2) := by decide +kernel
theorem dX5_init_31 : decode cX5_init 31 = .ok (.putfield 26, 3) := by decide +kernel
theorem dX5_init_34 : decode cX5_init 34 = .ok (.aload_n 0, 1) := by decide +kernel
theorem dX5_init_35 : decode cX5_init 35 = .ok (.aconst_null, 1) := by decide +kernel
theorem dX5_init_36 : decode cX5_init 36 = .ok (.putfield 29, 3) := by decide +kernel
theorem dX5_init_39 : decode cX5_init 39 = .ok (.aload_n 0, 1) := by decide +kernel
theorem dX5_init_40 : decode cX5_init 40 = .ok (.bipush (-9), 2) := by decide +kernel
theorem dX5_init_42 : decode cX5_init 42 = .ok (.putfield 33, 3) := by decide +kernel
theorem dX5_init_45 : decode cX5_init 45 = .ok (.aload_n 0, 1) := by decide +kernel
theorem dX5_init_46 : decode cX5_init 46 = .ok (.bipush (-9), 2) := by decide +kernel
theorem dX5_init_48 : decode cX5_init 48 = .ok (.putfield 36, 3) := by decide +kernel
theorem dX5_init_51 : decode cX5_init 51 = .ok (.aload_n 0, 1) := by decide +kernel
theorem dX5_init_52 : decode cX5_init 52 = .ok (.iload_n 1, 1) := by decide +kernel
theorem dX5_init_53 : decode cX5_init 53 = .ok (.putfield 39, 3) := by decide +kernel
theorem dX5_init_56 : decode cX5_init 56 = .ok (.aload_n 0, 1) := by decide +kernel
theorem dX5_init_57 : decode cX5_init 57 = .ok (.iload_n 2, 1) := by decide +kernel
theorem dX5_init_58 : decode cX5_init 58 = .ok (.putfield 42, 3) := by decide +kernel
theorem dX5_init_61 : decode cX5_init 61 = .ok (.aload_n 0, 1) := by decide +kernel
theorem dX5_init_62 : decode cX5_init 62 = .ok (.iload_n 3, 1) := by decide +kernel
theorem dX5_init_63 : decode cX5_init 63 = .ok (.putfield 45, 3) := by decide +kernel
theorem dX5_init_66 : decode cX5_init 66 = .ok (.return_, 1) := by decide +kernel
theorem dX5_write_0 : decode cX5_write 0 = .ok (.aload_n 0, 1) := by decide +kernel
theorem dX5_write_1 : decode cX5_write 1 = .ok (.iload_n 1, 1) := by decide +kernel
theorem dX5_write_2 : decode cX5_write 2 = .ok (.putfield 48, 3) := by decide +kernel
theorem dX5_write_5 : decode cX5_write 5 = .ok (.aload_n 0, 1) := by decide +kernel
theorem dX5_write_6 : decode cX5_write 6 = .ok (.iload_n 2, 1) := by decide +kernel
theorem dX5_write_7 : decode cX5_write 7 = .ok (.putfield 22, 3) := by decide +kernel
theorem dX5_write_10 : decode cX5_write 10 = .ok (.return_, 1) := by decide +kernel
theorem dX5_strike_0 : decode cX5_strike 0 = .ok (.aload_n 0, 1) := by decide +kernel
theorem dX5_strike_1 : decode cX5_strike 1 = .ok (.iload_n 1, 1) := by decide +kernel
theorem dX5_strike_2 : decode cX5_strike 2 = .ok (.putfield 26, 3) := by decide +kernel
theorem dX5_strike_5 : decode cX5_strike 5 = .ok (.aload_n 0, 1) := by decide +kernel
theorem dX5_strike_6 : decode cX5_strike 6 = .ok (.aload_n 2, 1) := by decide +kernel
theorem dX5_strike_7 : decode cX5_strike 7 = .ok (.putfield 29, 3) := by decide +kernel
theorem dX5_strike_10 : decode cX5_strike 10 = .ok (.aload_n 0, 1) := by decide +kernel
theorem dX5_strike_11 : decode cX5_strike 11 = .ok (.iload_n 3, 1) := by decide +kernel
theorem dX5_strike_12 : decode cX5_strike 12 = .ok (.putfield 51, 3) := by decide +kernel
theorem dX5_strike_15 : decode cX5_strike 15 = .ok (.aload_n 0, 1) := by decide +kernel
theorem dX5_strike_16 : decode cX5_strike 16 = .ok (.iload 4, 2) := by decide +kernel
theorem dX5_strike_18 : decode cX5_strike 18 = .ok (.putfield 33, 3) := by decide +kernel
theorem dX5_strike_21 : decode cX5_strike 21 = .ok (.aload_n 0, 1) := by decide +kernel
theorem dX5_strike_22 : decode cX5_strike 22 = .ok (.aload_n 2, 1) := by decide +kernel
theorem dX5_strike_23 : decode cX5_strike 23 = .ok (.ifnonnull 8, 3) := by decide +kernel
theorem dX5_strike_26 : decode cX5_strike 26 = .ok (.bipush (-9), 2) := by decide +kernel
theorem dX5_strike_28 : decode cX5_strike 28 = .ok (.goto 10, 3) := by decide +kernel
theorem dX5_strike_31 : decode cX5_strike 31 = .ok (.aload_n 2, 1) := by decide +kernel
theorem dX5_strike_32 : decode cX5_strike 32 = .ok (.getfield 54, 3) := by decide +kernel
theorem dX5_strike_35 : decode cX5_strike 35 = .ok (.getfield 60, 3) := by decide +kernel
theorem dX5_strike_38 : decode cX5_strike 38 = .ok (.putfield 36, 3) := by decide +kernel
theorem dX5_strike_41 : decode cX5_strike 41 = .ok (.return_, 1) := by decide +kernel
theorem dX5_findDays_0 : decode cX5_findDays 0 = .ok (.iconst 0, 1) := by decide +kernel
theorem dX5_findDays_1 : decode cX5_findDays 1 = .ok (.istore_n 1, 1) := by decide +kernel
theorem dX5_findDays_2 : decode cX5_findDays 2 = .ok (.iload_n 1, 1) := by decide +kernel
theorem dX5_findDays_3 : decode cX5_findDays 3 = .ok (.sipush 1000, 3) := by decide +kernel
theorem dX5_findDays_6 : decode cX5_findDays 6 = .ok (.if_icmp .ge 33, 3) := by decide +kernel
theorem dX5_findDays_9 : decode cX5_findDays 9 = .ok (.aload_n 0, 1) := by decide +kernel
theorem dX5_findDays_10 : decode cX5_findDays 10 = .ok (.iload_n 1, 1) := by decide +kernel
theorem dX5_findDays_11 : decode cX5_findDays 11 = .ok (.invokevirtual 63, 3) := by decide +kernel
theorem dX5_findDays_14 : decode cX5_findDays 14 = .ok (.ifCond .eq 19, 3) := by decide +kernel
theorem dX5_findDays_17 : decode cX5_findDays 17 = .ok (.aload_n 0, 1) := by decide +kernel
theorem dX5_findDays_18 : decode cX5_findDays 18 = .ok (.iload_n 1, 1) := by decide +kernel
theorem dX5_findDays_19 : decode cX5_findDays 19 = .ok (.invokevirtual 67, 3) := by decide +kernel
theorem dX5_findDays_22 : decode cX5_findDays 22 = .ok (.ifCond .eq 11, 3) := by decide +kernel
theorem dX5_findDays_25 : decode cX5_findDays 25 = .ok (.aload_n 0, 1) := by decide +kernel
theorem dX5_findDays_26 : decode cX5_findDays 26 = .ok (.getfield 12, 3) := by decide +kernel
theorem dX5_findDays_29 : decode cX5_findDays 29 = .ok (.iload_n 1, 1) := by decide +kernel
theorem dX5_findDays_30 : decode cX5_findDays 30 = .ok (.invokevirtual 70, 3) := by decide +kernel
theorem dX5_findDays_33 : decode cX5_findDays 33 = .ok (.iinc 1 1, 3) := by decide +kernel
theorem dX5_findDays_36 : decode cX5_findDays 36 = .ok (.goto (-34), 3) := by decide +kernel
theorem dX5_findDays_39 : decode cX5_findDays 39 = .ok (.aload_n 0, 1) := by decide +kernel
theorem dX5_findDays_40 : decode cX5_findDays 40 = .ok (.aload_n 0, 1) := by decide +kernel
theorem dX5_findDays_41 : decode cX5_findDays 41 = .ok (.getfield 12, 3) := by decide +kernel
theorem dX5_findDays_44 : decode cX5_findDays 44 = .ok (.invokevirtual 74, 3) := by decide +kernel
theorem dX5_findDays_47 : decode cX5_findDays 47 = .ok (.putfield 78, 3) := by decide +kernel
theorem dX5_findDays_50 : decode cX5_findDays 50 = .ok (.bipush 10, 2) := by decide +kernel
theorem dX5_findDays_52 : decode cX5_findDays 52 = .ok (.newarray .int, 2) := by decide +kernel
theorem dX5_findDays_54 : decode cX5_findDays 54 = .ok (.astore_n 1, 1) := by decide +kernel
theorem dX5_findDays_55 : decode cX5_findDays 55 = .ok (.iconst 0, 1) := by decide +kernel
theorem dX5_findDays_56 : decode cX5_findDays 56 = .ok (.istore_n 2, 1) := by decide +kernel
theorem dX5_findDays_57 : decode cX5_findDays 57 = .ok (.iload_n 2, 1) := by decide +kernel
theorem dX5_findDays_58 : decode cX5_findDays 58 = .ok (.iconst 3, 1) := by decide +kernel
theorem dX5_findDays_59 : decode cX5_findDays 59 = .ok (.if_icmp .ge 21, 3) := by decide +kernel
theorem dX5_findDays_62 : decode cX5_findDays 62 = .ok (.aload_n 0, 1) := by decide +kernel
theorem dX5_findDays_63 : decode cX5_findDays 63 = .ok (.getfield 18, 3) := by decide +kernel
theorem dX5_findDays_66 : decode cX5_findDays 66 = .ok (.iload_n 2, 1) := by decide +kernel
theorem dX5_findDays_67 : decode cX5_findDays 67 = .ok (.aload_n 0, 1) := by decide +kernel
theorem dX5_findDays_68 : decode cX5_findDays 68 = .ok (.iload_n 2, 1) := by decide +kernel
theorem dX5_findDays_69 : decode cX5_findDays 69 = .ok (.aload_n 1, 1) := by decide +kernel
theorem dX5_findDays_70 : decode cX5_findDays 70 = .ok (.invokevirtual 81, 3) := by decide +kernel
theorem dX5_findDays_73 : decode cX5_findDays 73 = .ok (.iastore, 1) := by decide +kernel
theorem dX5_findDays_74 : decode cX5_findDays 74 = .ok (.iinc 2 1, 3) := by decide +kernel
theorem dX5_findDays_77 : decode cX5_findDays 77 = .ok (.goto (-20), 3) := by decide +kernel
theorem dX5_findDays_80 : decode cX5_findDays 80 = .ok (.return_, 1) := by decide +kernel
theorem dX5_fitsDate_0 : decode cX5_fitsDate 0 = .ok (.iconst 0, 1) := by decide +kernel
theorem dX5_fitsDate_1 : decode cX5_fitsDate 1 = .ok (.istore_n 2, 1) := by decide +kernel
theorem dX5_fitsDate_2 : decode cX5_fitsDate 2 = .ok (.iload_n 2, 1) := by decide +kernel
theorem dX5_fitsDate_3 : decode cX5_fitsDate 3 = .ok (.iconst 3, 1) := by decide +kernel
theorem dX5_fitsDate_4 : decode cX5_fitsDate 4 = .ok (.if_icmp .ge 38, 3) := by decide +kernel
theorem dX5_fitsDate_7 : decode cX5_fitsDate 7 = .ok (.aload_n 0, 1) := by decide +kernel
theorem dX5_fitsDate_8 : decode cX5_fitsDate 8 = .ok (.getfield 48, 3) := by decide +kernel
theorem dX5_fitsDate_11 : decode cX5_fitsDate 11 = .ok (.iload_n 2, 1) := by decide +kernel
theorem dX5_fitsDate_12 : decode cX5_fitsDate 12 = .ok (.invokestatic 85, 3) := by decide +kernel
theorem dX5_fitsDate_15 : decode cX5_fitsDate 15 = .ok (.istore_n 3, 1) := by decide +kernel
theorem dX5_fitsDate_16 : decode cX5_fitsDate 16 = .ok (.iload_n 3, 1) := by decide +kernel
theorem dX5_fitsDate_17 : decode cX5_fitsDate 17 = .ok (.bipush 63, 2) := by decide +kernel
theorem dX5_fitsDate_19 : decode cX5_fitsDate 19 = .ok (.if_icmp .eq 17, 3) := by decide +kernel
theorem dX5_fitsDate_22 : decode cX5_fitsDate 22 = .ok (.iload_n 3, 1) := by decide +kernel
theorem dX5_fitsDate_23 : decode cX5_fitsDate 23 = .ok (.bipush 48, 2) := by decide +kernel
theorem dX5_fitsDate_25 : decode cX5_fitsDate 25 = .ok (.isub, 1) := by decide +kernel
theorem dX5_fitsDate_26 : decode cX5_fitsDate 26 = .ok (.iload_n 1, 1) := by decide +kernel
theorem dX5_fitsDate_27 : decode cX5_fitsDate 27 = .ok (.iload_n 2, 1) := by decide +kernel
theorem dX5_fitsDate_28 : decode cX5_fitsDate 28 = .ok (.invokestatic 89, 3) := by decide +kernel
theorem dX5_fitsDate_31 : decode cX5_fitsDate 31 = .ok (.if_icmp .eq 5, 3) := by decide +kernel
theorem dX5_fitsDate_34 : decode cX5_fitsDate 34 = .ok (.iconst 0, 1) := by decide +kernel
theorem dX5_fitsDate_35 : decode cX5_fitsDate 35 = .ok (.ireturn, 1) := by decide +kernel
theorem dX5_fitsDate_36 : decode cX5_fitsDate 36 = .ok (.iinc 2 1, 3) := by decide +kernel
theorem dX5_fitsDate_39 : decode cX5_fitsDate 39 = .ok (.goto (-37), 3) := by decide +kernel
theorem dX5_fitsDate_42 : decode cX5_fitsDate 42 = .ok (.iconst 1, 1) := by decide +kernel
theorem dX5_fitsDate_43 : decode cX5_fitsDate 43 = .ok (.ireturn, 1) := by decide +kernel
theorem dX5_fitsDie_0 : decode cX5_fitsDie 0 = .ok (.aload_n 0, 1) := by decide +kernel
theorem dX5_fitsDie_1 : decode cX5_fitsDie 1 = .ok (.getfield 29, 3) := by decide +kernel
theorem dX5_fitsDie_4 : decode cX5_fitsDie 4 = .ok (.ifnull 43, 3) := by decide +kernel
theorem dX5_fitsDie_7 : decode cX5_fitsDie 7 = .ok (.aload_n 0, 1) := by decide +kernel
theorem dX5_fitsDie_8 : decode cX5_fitsDie 8 = .ok (.getfield 29, 3) := by decide +kernel
theorem dX5_fitsDie_11 : decode cX5_fitsDie 11 = .ok (.iload_n 1, 1) := by decide +kernel
theorem dX5_fitsDie_12 : decode cX5_fitsDie 12 = .ok (.invokevirtual 92, 3) := by decide +kernel
theorem dX5_fitsDie_15 : decode cX5_fitsDie 15 = .ok (.ifCond .eq 36, 3) := by decide +kernel
theorem dX5_fitsDie_18 : decode cX5_fitsDie 18 = .ok (.aload_n 0, 1) := by decide +kernel
theorem dX5_fitsDie_19 : decode cX5_fitsDie 19 = .ok (.getfield 29, 3) := by decide +kernel
theorem dX5_fitsDie_22 : decode cX5_fitsDie 22 = .ok (.aload_n 0, 1) := by decide +kernel
theorem dX5_fitsDie_23 : decode cX5_fitsDie 23 = .ok (.getfield 51, 3) := by decide +kernel
theorem dX5_fitsDie_26 : decode cX5_fitsDie 26 = .ok (.invokevirtual 95, 3) := by decide +kernel
theorem dX5_fitsDie_29 : decode cX5_fitsDie 29 = .ok (.ifCond .eq 22, 3) := by decide +kernel
theorem dX5_fitsDie_32 : decode cX5_fitsDie 32 = .ok (.aload_n 0, 1) := by decide +kernel
theorem dX5_fitsDie_33 : decode cX5_fitsDie 33 = .ok (.getfield 29, 3) := by decide +kernel
theorem dX5_fitsDie_36 : decode cX5_fitsDie 36 = .ok (.aload_n 0, 1) := by decide +kernel
theorem dX5_fitsDie_37 : decode cX5_fitsDie 37 = .ok (.getfield 33, 3) := by decide +kernel
theorem dX5_fitsDie_40 : decode cX5_fitsDie 40 = .ok (.iload_n 1, 1) := by decide +kernel
theorem dX5_fitsDie_41 : decode cX5_fitsDie 41 = .ok (.invokevirtual 98, 3) := by decide +kernel
theorem dX5_fitsDie_44 : decode cX5_fitsDie 44 = .ok (.ifCond .eq 7, 3) := by decide +kernel
theorem dX5_fitsDie_47 : decode cX5_fitsDie 47 = .ok (.iconst 1, 1) := by decide +kernel
theorem dX5_fitsDie_48 : decode cX5_fitsDie 48 = .ok (.goto 4, 3) := by decide +kernel
theorem dX5_fitsDie_51 : decode cX5_fitsDie 51 = .ok (.iconst 0, 1) := by decide +kernel
theorem dX5_fitsDie_52 : decode cX5_fitsDie 52 = .ok (.ireturn, 1) := by decide +kernel
theorem dX5_mostDaysByFigure_0 : decode cX5_mostDaysByFigure 0 = .ok (.aload_n 2, 1) := by decide +kernel
theorem dX5_mostDaysByFigure_1 : decode cX5_mostDaysByFigure 1 = .ok (.iconst 0, 1) := by decide +kernel
theorem dX5_mostDaysByFigure_2 : decode cX5_mostDaysByFigure 2 = .ok (.invokestatic 102, 3) := by decide +kernel
theorem dX5_mostDaysByFigure_5 : decode cX5_mostDaysByFigure 5 = .ok (.iconst 0, 1) := by decide +kernel
theorem dX5_mostDaysByFigure_6 : decode cX5_mostDaysByFigure 6 = .ok (.istore_n 3, 1) := by decide +kernel
theorem dX5_mostDaysByFigure_7 : decode cX5_mostDaysByFigure 7 = .ok (.iconst 0, 1) := by decide +kernel
theorem dX5_mostDaysByFigure_8 : decode cX5_mostDaysByFigure 8 = .ok (.istore 4, 2) := by decide +kernel
theorem dX5_mostDaysByFigure_10 : decode cX5_mostDaysByFigure 10 = .ok (.iload 4, 2) := by decide +kernel
theorem dX5_mostDaysByFigure_12 : decode cX5_mostDaysByFigure 12 = .ok (.sipush 1000, 3) := by decide +kernel
theorem dX5_mostDaysByFigure_15 : decode cX5_mostDaysByFigure 15 = .ok (.if_icmp .ge 59, 3) := by decide +kernel
theorem dX5_mostDaysByFigure_18 : decode cX5_mostDaysByFigure 18 = .ok (.iload 4, 2) := by decide +kernel
theorem dX5_mostDaysByFigure_20 : decode cX5_mostDaysByFigure 20 = .ok (.iload_n 1, 1) := by decide +kernel
theorem dX5_mostDaysByFigure_21 : decode cX5_mostDaysByFigure 21 = .ok (.invokestatic 89, 3) := by decide +kernel
theorem dX5_mostDaysByFigure_24 : decode cX5_mostDaysByFigure 24 = .ok (.istore 5, 2) := by decide +kernel
theorem dX5_mostDaysByFigure_26 : decode cX5_mostDaysByFigure 26 = .ok (.aload_n 0, 1) := by decide +kernel
theorem dX5_mostDaysByFigure_27 : decode cX5_mostDaysByFigure 27 = .ok (.getfield 12, 3) := by decide +kernel
theorem dX5_mostDaysByFigure_30 : decode cX5_mostDaysByFigure 30 = .ok (.iload 4, 2) := by decide +kernel
theorem dX5_mostDaysByFigure_32 : decode cX5_mostDaysByFigure 32 = .ok (.invokevirtual 108, 3) := by decide +kernel
theorem dX5_mostDaysByFigure_35 : decode cX5_mostDaysByFigure 35 = .ok (.ifCond .eq 33, 3) := by decide +kernel
theorem dX5_mostDaysByFigure_38 : decode cX5_mostDaysByFigure 38 = .ok (.iload 5, 2) := by decide +kernel
theorem dX5_mostDaysByFigure_40 : decode cX5_mostDaysByFigure 40 = .ok (.iconst 0, 1) := by decide +kernel
theorem dX5_mostDaysByFigure_41 : decode cX5_mostDaysByFigure 41 = .ok (.aload_n 2, 1) := by decide +kernel
theorem dX5_mostDaysByFigure_42 : decode cX5_mostDaysByFigure 42 = .ok (.arraylength, 1) := by decide +kernel
theorem dX5_mostDaysByFigure_43 : decode cX5_mostDaysByFigure 43 = .ok (.iconst 1, 1) := by decide +kernel
theorem dX5_mostDaysByFigure_44 : decode cX5_mostDaysByFigure 44 = .ok (.isub, 1) := by decide +kernel
theorem dX5_mostDaysByFigure_45 : decode cX5_mostDaysByFigure 45 = .ok (.invokestatic 111, 3) := by decide +kernel
theorem dX5_mostDaysByFigure_48 : decode cX5_mostDaysByFigure 48 = .ok (.ifCond .eq 20, 3) := by decide +kernel
theorem dX5_mostDaysByFigure_51 : decode cX5_mostDaysByFigure 51 = .ok (.aload_n 2, 1) := by decide +kernel
theorem dX5_mostDaysByFigure_52 : decode cX5_mostDaysByFigure 52 = .ok (.iload 5, 2) := by decide +kernel
theorem dX5_mostDaysByFigure_54 : decode cX5_mostDaysByFigure 54 = .ok (.dup2, 1) := by decide +kernel
theorem dX5_mostDaysByFigure_55 : decode cX5_mostDaysByFigure 55 = .ok (.iaload, 1) := by decide +kernel
theorem dX5_mostDaysByFigure_56 : decode cX5_mostDaysByFigure 56 = .ok (.iconst 1, 1) := by decide +kernel
theorem dX5_mostDaysByFigure_57 : decode cX5_mostDaysByFigure 57 = .ok (.iadd, 1) := by decide +kernel
theorem dX5_mostDaysByFigure_58 : decode cX5_mostDaysByFigure 58 = .ok (.iastore, 1) := by decide +kernel
theorem dX5_mostDaysByFigure_59 : decode cX5_mostDaysByFigure 59 = .ok (.iload_n 3, 1) := by decide +kernel
theorem dX5_mostDaysByFigure_60 : decode cX5_mostDaysByFigure 60 = .ok (.aload_n 2, 1) := by decide +kernel
theorem dX5_mostDaysByFigure_61 : decode cX5_mostDaysByFigure 61 = .ok (.iload 5, 2) := by decide +kernel
theorem dX5_mostDaysByFigure_63 : decode cX5_mostDaysByFigure 63 = .ok (.iaload, 1) := by decide +kernel
theorem dX5_mostDaysByFigure_64 : decode cX5_mostDaysByFigure 64 = .ok (.invokestatic 115, 3) := by decide +kernel
theorem dX5_mostDaysByFigure_67 : decode cX5_mostDaysByFigure 67 = .ok (.istore_n 3, 1) := by decide +kernel
theorem dX5_mostDaysByFigure_68 : decode cX5_mostDaysByFigure 68 = .ok (.iinc 4 1, 3) := by decide +kernel
theorem dX5_mostDaysByFigure_71 : decode cX5_mostDaysByFigure 71 = .ok (.goto (-61), 3) := by decide +kernel
theorem dX5_mostDaysByFigure_74 : decode cX5_mostDaysByFigure 74 = .ok (.iload_n 3, 1) := by decide +kernel
theorem dX5_mostDaysByFigure_75 : decode cX5_mostDaysByFigure 75 = .ok (.ireturn, 1) := by decide +kernel
theorem dX5_isOn_0 : decode cX5_isOn 0 = .ok (.aload_n 0, 1) := by decide +kernel
theorem dX5_isOn_1 : decode cX5_isOn 1 = .ok (.getfield 39, 3) := by decide +kernel
theorem dX5_isOn_4 : decode cX5_isOn 4 = .ok (.iload_n 1, 1) := by decide +kernel
theorem dX5_isOn_5 : decode cX5_isOn 5 = .ok (.if_icmp .ne 15, 3) := by decide +kernel
theorem dX5_isOn_8 : decode cX5_isOn 8 = .ok (.aload_n 0, 1) := by decide +kernel
theorem dX5_isOn_9 : decode cX5_isOn 9 = .ok (.getfield 45, 3) := by decide +kernel
theorem dX5_isOn_12 : decode cX5_isOn 12 = .ok (.iload_n 2, 1) := by decide +kernel
theorem dX5_isOn_13 : decode cX5_isOn 13 = .ok (.if_icmp .gt 7, 3) := by decide +kernel
theorem dX5_isOn_16 : decode cX5_isOn 16 = .ok (.iconst 1, 1) := by decide +kernel
theorem dX5_isOn_17 : decode cX5_isOn 17 = .ok (.goto 4, 3) := by decide +kernel
theorem dX5_isOn_20 : decode cX5_isOn 20 = .ok (.iconst 0, 1) := by decide +kernel
theorem dX5_isOn_21 : decode cX5_isOn 21 = .ok (.ireturn, 1) := by decide +kernel
theorem dX5_isTorn_0 : decode cX5_isTorn 0 = .ok (.aload_n 0, 1) := by decide +kernel
theorem dX5_isTorn_1 : decode cX5_isTorn 1 = .ok (.getfield 48, 3) := by decide +kernel
theorem dX5_isTorn_4 : decode cX5_isTorn 4 = .ok (.iload_n 1, 1) := by decide +kernel
theorem dX5_isTorn_5 : decode cX5_isTorn 5 = .ok (.invokestatic 85, 3) := by decide +kernel
theorem dX5_isTorn_8 : decode cX5_isTorn 8 = .ok (.bipush 63, 2) := by decide +kernel
theorem dX5_isTorn_10 : decode cX5_isTorn 10 = .ok (.if_icmp .ne 7, 3) := by decide +kernel
theorem dX5_isTorn_13 : decode cX5_isTorn 13 = .ok (.iconst 1, 1) := by decide +kernel
theorem dX5_isTorn_14 : decode cX5_isTorn 14 = .ok (.goto 4, 3) := by decide +kernel
theorem dX5_isTorn_17 : decode cX5_isTorn 17 = .ok (.iconst 0, 1) := by decide +kernel
theorem dX5_isTorn_18 : decode cX5_isTorn 18 = .ok (.ireturn, 1) := by decide +kernel
theorem dX5_readBytes_0 : decode cX5_readBytes 0 = .ok (.iconst 0, 1) := by decide +kernel
theorem dX5_readBytes_1 : decode cX5_readBytes 1 = .ok (.istore_n 1, 1) := by decide +kernel
theorem dX5_readBytes_2 : decode cX5_readBytes 2 = .ok (.iconst 0, 1) := by decide +kernel
theorem dX5_readBytes_3 : decode cX5_readBytes 3 = .ok (.istore_n 2, 1) := by decide +kernel
theorem dX5_readBytes_4 : decode cX5_readBytes 4 = .ok (.iload_n 2, 1) := by decide +kernel
theorem dX5_readBytes_5 : decode cX5_readBytes 5 = .ok (.iconst 3, 1) := by decide +kernel
theorem dX5_readBytes_6 : decode cX5_readBytes 6 = .ok (.if_icmp .ge 25, 3) := by decide +kernel
theorem dX5_readBytes_9 : decode cX5_readBytes 9 = .ok (.iload_n 1, 1) := by decide +kernel
theorem dX5_readBytes_10 : decode cX5_readBytes 10 = .ok (.aload_n 0, 1) := by decide +kernel
theorem dX5_readBytes_11 : decode cX5_readBytes 11 = .ok (.iload_n 2, 1) := by decide +kernel
theorem dX5_readBytes_12 : decode cX5_readBytes 12 = .ok (.invokevirtual 120, 3) := by decide +kernel
theorem dX5_readBytes_15 : decode cX5_readBytes 15 = .ok (.ifCond .eq 7, 3) := by decide +kernel
theorem dX5_readBytes_18 : decode cX5_readBytes 18 = .ok (.iconst 0, 1) := by decide +kernel
theorem dX5_readBytes_19 : decode cX5_readBytes 19 = .ok (.goto 4, 3) := by decide +kernel
theorem dX5_readBytes_22 : decode cX5_readBytes 22 = .ok (.iconst 1, 1) := by decide +kernel
theorem dX5_readBytes_23 : decode cX5_readBytes 23 = .ok (.iadd, 1) := by decide +kernel
theorem dX5_readBytes_24 : decode cX5_readBytes 24 = .ok (.istore_n 1, 1) := by decide +kernel
theorem dX5_readBytes_25 : decode cX5_readBytes 25 = .ok (.iinc 2 1, 3) := by decide +kernel
theorem dX5_readBytes_28 : decode cX5_readBytes 28 = .ok (.goto (-24), 3) := by decide +kernel
theorem dX5_readBytes_31 : decode cX5_readBytes 31 = .ok (.iload_n 1, 1) := by decide +kernel
theorem dX5_readBytes_32 : decode cX5_readBytes 32 = .ok (.ireturn, 1) := by decide +kernel
theorem dX6_init_0 : decode cX6_init 0 = .ok (.aload_n 0, 1) := by decide +kernel
theorem dX6_init_1 : decode cX6_init 1 = .ok (.invokespecial 1, 3) := by decide +kernel
theorem dX6_init_4 : decode cX6_init 4 = .ok (.aload_n 0, 1) := by decide +kernel
theorem dX6_init_5 : decode cX6_init 5 = .ok (.iload_n 1, 1) := by decide +kernel
theorem dX6_init_6 : decode cX6_init 6 = .ok (.putfield 7, 3) := by decide +kernel
theorem dX6_init_9 : decode cX6_init 9 = .ok (.aload_n 0, 1) := by decide +kernel
theorem dX6_init_10 : decode cX6_init 10 = .ok (.iload_n 2, 1) := by decide +kernel
theorem dX6_init_11 : decode cX6_init 11 = .ok (.putfield 13, 3) := by decide +kernel
theorem dX6_init_14 : decode cX6_init 14 = .ok (.aload_n 0, 1) := by decide +kernel
theorem dX6_init_15 : decode cX6_init 15 = .ok (.iload_n 3, 1) := by decide +kernel
theorem dX6_init_16 : decode cX6_init 16 = .ok (.putfield 16, 3) := by decide +kernel
theorem dX6_init_19 : decode cX6_init 19 = .ok (.return_, 1) := by decide +kernel
theorem dX7_init_0 : decode cX7_init 0 = .ok (.aload_n 0, 1) := by decide +kernel
theorem dX7_init_1 : decode cX7_init 1 = .ok (.invokespecial 3, 3) := by decide +kernel
theorem dX7_init_4 : decode cX7_init 4 = .ok (.aload_n 0, 1) := by decide +kernel
theorem dX7_init_5 : decode cX7_init 5 = .ok (.bipush 12, 2) := by decide +kernel
theorem dX7_init_7 : decode cX7_init 7 = .ok (.anewarray 9, 3) := by decide +kernel
theorem dX7_init_10 : decode cX7_init 10 = .ok (.putfield 11, 3) := by decide +kernel
theorem dX7_init_13 : decode cX7_init 13 = .ok (.aload_n 0, 1) := by decide +kernel
theorem dX7_init_14 : decode cX7_init 14 = .ok (.iconst 0, 1) := by decide +kernel
theorem dX7_init_15 : decode cX7_init 15 = .ok (.putfield 17, 3) := by decide +kernel
theorem dX7_init_18 : decode cX7_init 18 = .ok (.iconst 0, 1) := by decide +kernel
theorem dX7_init_19 : decode cX7_init 19 = .ok (.istore_n 1, 1) := by decide +kernel
theorem dX7_init_20 : decode cX7_init 20 = .ok (.iload_n 1, 1) := by decide +kernel
theorem dX7_init_21 : decode cX7_init 21 = .ok (.bipush 12, 2) := by decide +kernel
theorem dX7_init_23 : decode cX7_init 23 = .ok (.if_icmp .ge 22, 3) := by decide +kernel
theorem dX7_init_26 : decode cX7_init 26 = .ok (.aload_n 0, 1) := by decide +kernel
theorem dX7_init_27 : decode cX7_init 27 = .ok (.getfield 11, 3) := by decide +kernel
theorem dX7_init_30 : decode cX7_init 30 = .ok (.iload_n 1, 1) := by decide +kernel
theorem dX7_init_31 : decode cX7_init 31 = .ok (.new 9, 3) := by decide +kernel
theorem dX7_init_34 : decode cX7_init 34 = .ok (.dup, 1) := by decide +kernel
theorem dX7_init_35 : decode cX7_init 35 = .ok (.invokespecial 21, 3) := by decide +kernel
theorem dX7_init_38 : decode cX7_init 38 = .ok (.aastore, 1) := by decide +kernel
theorem dX7_init_39 : decode cX7_init 39 = .ok (.iinc 1 1, 3) := by decide +kernel
theorem dX7_init_42 : decode cX7_init 42 = .ok (.goto (-22), 3) := by decide +kernel
theorem dX7_init_45 : decode cX7_init 45 = .ok (.return_, 1) := by decide +kernel
theorem dX7_lastThatHolds_0 : decode cX7_lastThatHolds 0 = .ok (.aload_n 0, 1) := by decide +kernel
theorem dX7_lastThatHolds_1 : decode cX7_lastThatHolds 1 = .ok (.getfield 17, 3) := by decide +kernel
theorem dX7_lastThatHolds_4 : decode cX7_lastThatHolds 4 = .ok (.iconst 1, 1) := by decide +kernel
theorem dX7_lastThatHolds_5 : decode cX7_lastThatHolds 5 = .ok (.isub, 1) := by decide +kernel
theorem dX7_lastThatHolds_6 : decode cX7_lastThatHolds 6 = .ok (.istore 4, 2) := by decide +kernel
theorem dX7_lastThatHolds_8 : decode cX7_lastThatHolds 8 = .ok (.iload 4, 2) := by decide +kernel
theorem dX7_lastThatHolds_10 : decode cX7_lastThatHolds 10 = .ok (.ifCond .lt 28, 3) := by decide +kernel
theorem dX7_lastThatHolds_13 : decode cX7_lastThatHolds 13 = .ok (.aload_n 0, 1) := by decide +kernel
theorem dX7_lastThatHolds_14 : decode cX7_lastThatHolds 14 = .ok (.getfield 11, 3) := by decide +kernel
theorem dX7_lastThatHolds_17 : decode cX7_lastThatHolds 17 = .ok (.iload 4, 2) := by decide +kernel
theorem dX7_lastThatHolds_19 : decode cX7_lastThatHolds 19 = .ok (.aaload, 1) := by decide +kernel
theorem dX7_lastThatHolds_20 : decode cX7_lastThatHolds 20 = .ok (.iload_n 1, 1) := by decide +kernel
theorem dX7_lastThatHolds_21 : decode cX7_lastThatHolds 21 = .ok (.iload_n 2, 1) := by decide +kernel
theorem dX7_lastThatHolds_22 : decode cX7_lastThatHolds 22 = .ok (.iload_n 3, 1) := by decide +kernel
theorem dX7_lastThatHolds_23 : decode cX7_lastThatHolds 23 = .ok (.invokevirtual 22, 3) := by decide +kernel
theorem dX7_lastThatHolds_26 : decode cX7_lastThatHolds 26 = .ok (.ifCond .eq 6, 3) := by decide +kernel
theorem dX7_lastThatHolds_29 : decode cX7_lastThatHolds 29 = .ok (.iload 4, 2) := by decide +kernel
theorem dX7_lastThatHolds_31 : decode cX7_lastThatHolds 31 = .ok (.ireturn, 1) := by decide +kernel
theorem dX7_lastThatHolds_32 : decode cX7_lastThatHolds 32 = .ok (.iinc 4 (-1), 3) := by decide +kernel
theorem dX7_lastThatHolds_35 : decode cX7_lastThatHolds 35 = .ok (.goto (-27), 3) := by decide +kernel
theorem dX7_lastThatHolds_38 : decode cX7_lastThatHolds 38 = .ok (.bipush (-9), 2) := by decide +kernel
theorem dX7_lastThatHolds_40 : decode cX7_lastThatHolds 40 = .ok (.ireturn, 1) := by decide +kernel
theorem dX8_init_0 : decode cX8_init 0 = .ok (.aload_n 0, 1) := by decide +kernel
theorem dX8_init_1 : decode cX8_init 1 = .ok (.invokespecial 3, 3) := by decide +kernel
theorem dX8_init_4 : decode cX8_init 4 = .ok (.aload_n 0, 1) := by decide +kernel
theorem dX8_init_5 : decode cX8_init 5 = .ok (.sipush 600, 3) := by decide +kernel
theorem dX8_init_8 : decode cX8_init 8 = .ok (.newarray .byte, 2) := by decide +kernel
theorem dX8_init_10 : decode cX8_init 10 = .ok (.putfield 9, 3) := by decide +kernel
theorem dX8_init_13 : decode cX8_init 13 = .ok (.aload_n 0, 1) := by decide +kernel
theorem dX8_init_14 : decode cX8_init 14 = .ok (.iconst 0, 1) := by decide +kernel
theorem dX8_init_15 : decode cX8_init 15 = .ok (.putfield 15, 3) := by decide +kernel
theorem dX8_init_18 : decode cX8_init 18 = .ok (.aload_n 0, 1) := by decide +kernel
theorem dX8_init_19 : decode cX8_init 19 = .ok (.iconst 0, 1) := by decide +kernel
theorem dX8_init_20 : decode cX8_init 20 = .ok (.putfield 19, 3) := by decide +kernel
theorem dX8_init_23 : decode cX8_init 23 = .ok (.aload_n 0, 1) := by decide +kernel
theorem dX8_init_24 : decode cX8_init 24 = .ok (.iconst 0, 1) := by decide +kernel
theorem dX8_init_25 : decode cX8_init 25 = .ok (.putfield 22, 3) := by decide +kernel
theorem dX8_init_28 : decode cX8_init 28 = .ok (.aload_n 0, 1) := by decide +kernel
theorem dX8_init_29 : decode cX8_init 29 = .ok (.iconst 1, 1) := by decide +kernel
theorem dX8_init_30 : decode cX8_init 30 = .ok (.putfield 25, 3) := by decide +kernel
theorem dX8_init_33 : decode cX8_init 33 = .ok (.aload_n 0, 1) := by decide +kernel
theorem dX8_init_34 : decode cX8_init 34 = .ok (.iconst 0, 1) := by decide +kernel
theorem dX8_init_35 : decode cX8_init 35 = .ok (.putfield 28, 3) := by decide +kernel
theorem dX8_init_38 : decode cX8_init 38 = .ok (.aload_n 0, 1) := by decide +kernel
theorem dX8_init_39 : decode cX8_init 39 = .ok (.iconst 0, 1) := by decide +kernel
theorem dX8_init_40 : decode cX8_init 40 = .ok (.putfield 31, 3) := by decide +kernel
theorem dX8_init_43 : decode cX8_init 43 = .ok (.return_, 1) := by decide +kernel
theorem dX8_addBytes_0 : decode cX8_addBytes 0 = .ok (.iload_n 3, 1) := by decide +kernel
theorem dX8_addBytes_1 : decode cX8_addBytes 1 = .ok (.iconst 1, 1) := by decide +kernel
theorem dX8_addBytes_2 : decode cX8_addBytes 2 = .ok (.isub, 1) := by decide +kernel
theorem dX8_addBytes_3 : decode cX8_addBytes 3 = .ok (.istore 4, 2) := by decide +kernel
theorem dX8_addBytes_5 : decode cX8_addBytes 5 = .ok (.iload 4, 2) := by decide +kernel
theorem dX8_addBytes_7 : decode cX8_addBytes 7 = .ok (.ifCond .lt 44, 3) := by decide +kernel
theorem dX8_addBytes_10 : decode cX8_addBytes 10 = .ok (.aload_n 0, 1) := by decide +kernel
theorem dX8_addBytes_11 : decode cX8_addBytes 11 = .ok (.getfield 15, 3) := by decide +kernel
theorem dX8_addBytes_14 : decode cX8_addBytes 14 = .ok (.sipush 600, 3) := by decide +kernel
theorem dX8_addBytes_17 : decode cX8_addBytes 17 = .ok (.if_icmp .ge 34, 3) := by decide +kernel
theorem dX8_addBytes_20 : decode cX8_addBytes 20 = .ok (.aload_n 0, 1) := by decide +kernel
theorem dX8_addBytes_21 : decode cX8_addBytes 21 = .ok (.getfield 9, 3) := by decide +kernel
theorem dX8_addBytes_24 : decode cX8_addBytes 24 = .ok (.aload_n 0, 1) := by decide +kernel
theorem dX8_addBytes_25 : decode cX8_addBytes 25 = .ok (.dup, 1) := by decide +kernel
theorem dX8_addBytes_26 : decode cX8_addBytes 26 = .ok (.getfield 15, 3) := by decide +kernel
theorem dX8_addBytes_29 : decode cX8_addBytes 29 = .ok (.dup_x1, 1) := by decide +kernel
theorem dX8_addBytes_30 : decode cX8_addBytes 30 = .ok (.iconst 1, 1) := by decide +kernel
theorem dX8_addBytes_31 : decode cX8_addBytes 31 = .ok (.iadd, 1) := by decide +kernel
theorem dX8_addBytes_32 : decode cX8_addBytes 32 = .ok (.putfield 15, 3) := by decide +kernel
theorem dX8_addBytes_35 : decode cX8_addBytes 35 = .ok (.lload_n 1, 1) := by decide +kernel
theorem dX8_addBytes_36 : decode cX8_addBytes 36 = .ok (.bipush 8, 2) := by decide +kernel
theorem dX8_addBytes_38 : decode cX8_addBytes 38 = .ok (.iload 4, 2) := by decide +kernel
theorem dX8_addBytes_40 : decode cX8_addBytes 40 = .ok (.imul, 1) := by decide +kernel
theorem dX8_addBytes_41 : decode cX8_addBytes 41 = .ok (.lushr, 1) := by decide +kernel
theorem dX8_addBytes_42 : decode cX8_addBytes 42 = .ok (.l2i, 1) := by decide +kernel
theorem dX8_addBytes_43 : decode cX8_addBytes 43 = .ok (.i2b, 1) := by decide +kernel
theorem dX8_addBytes_44 : decode cX8_addBytes 44 = .ok (.bastore, 1) := by decide +kernel
theorem dX8_addBytes_45 : decode cX8_addBytes 45 = .ok (.iinc 4 (-1), 3) := by decide +kernel
theorem dX8_addBytes_48 : decode cX8_addBytes 48 = .ok (.goto (-43), 3) := by decide +kernel
theorem dX8_addBytes_51 : decode cX8_addBytes 51 = .ok (.return_, 1) := by decide +kernel
theorem dX8_readInto_0 : decode cX8_readInto 0 = .ok (.aload_n 0, 1) := by decide +kernel
theorem dX8_readInto_1 : decode cX8_readInto 1 = .ok (.iconst 0, 1) := by decide +kernel
theorem dX8_readInto_2 : decode cX8_readInto 2 = .ok (.putfield 19, 3) := by decide +kernel
theorem dX8_readInto_5 : decode cX8_readInto 5 = .ok (.aload_n 1, 1) := by decide +kernel
theorem dX8_readInto_6 : decode cX8_readInto 6 = .ok (.iconst 0, 1) := by decide +kernel
theorem dX8_readInto_7 : decode cX8_readInto 7 = .ok (.putfield 34, 3) := by decide +kernel
theorem dX8_readInto_10 : decode cX8_readInto 10 = .ok (.aload_n 0, 1) := by decide +kernel
theorem dX8_readInto_11 : decode cX8_readInto 11 = .ok (.invokevirtual 39, 3) := by decide +kernel
theorem dX8_readInto_14 : decode cX8_readInto 14 = .ok (.iconst 0, 1) := by decide +kernel
theorem dX8_readInto_15 : decode cX8_readInto 15 = .ok (.istore_n 2, 1) := by decide +kernel
theorem dX8_readInto_16 : decode cX8_readInto 16 = .ok (.iload_n 2, 1) := by decide +kernel
theorem dX8_readInto_17 : decode cX8_readInto 17 = .ok (.bipush 12, 2) := by decide +kernel
theorem dX8_readInto_19 : decode cX8_readInto 19 = .ok (.if_icmp .ge 75, 3) := by decide +kernel
theorem dX8_readInto_22 : decode cX8_readInto 22 = .ok (.aload_n 0, 1) := by decide +kernel
theorem dX8_readInto_23 : decode cX8_readInto 23 = .ok (.getfield 25, 3) := by decide +kernel
theorem dX8_readInto_26 : decode cX8_readInto 26 = .ok (.iconst 1, 1) := by decide +kernel
theorem dX8_readInto_27 : decode cX8_readInto 27 = .ok (.if_icmp .eq 67, 3) := by decide +kernel
theorem dX8_readInto_30 : decode cX8_readInto 30 = .ok (.aload_n 1, 1) := by decide +kernel
theorem dX8_readInto_31 : decode cX8_readInto 31 = .ok (.getfield 42, 3) := by decide +kernel
theorem dX8_readInto_34 : decode cX8_readInto 34 = .ok (.iload_n 2, 1) := by decide +kernel
theorem dX8_readInto_35 : decode cX8_readInto 35 = .ok (.aaload, 1) := by decide +kernel
theorem dX8_readInto_36 : decode cX8_readInto 36 = .ok (.astore_n 3, 1) := by decide +kernel
theorem dX8_readInto_37 : decode cX8_readInto 37 = .ok (.aload_n 3, 1) := by decide +kernel
theorem dX8_readInto_38 : decode cX8_readInto 38 = .ok (.invokevirtual 46, 3) := by decide +kernel
theorem dX8_readInto_41 : decode cX8_readInto 41 = .ok (.aload_n 0, 1) := by decide +kernel
theorem dX8_readInto_42 : decode cX8_readInto 42 = .ok (.aload_n 3, 1) := by decide +kernel
theorem dX8_readInto_43 : decode cX8_readInto 43 = .ok (.invokevirtual 51, 3) := by decide +kernel
theorem dX8_readInto_46 : decode cX8_readInto 46 = .ok (.ifCond .eq 27, 3) := by decide +kernel
theorem dX8_readInto_49 : decode cX8_readInto 49 = .ok (.aload_n 0, 1) := by decide +kernel
theorem dX8_readInto_50 : decode cX8_readInto 50 = .ok (.aload_n 3, 1) := by decide +kernel
theorem dX8_readInto_51 : decode cX8_readInto 51 = .ok (.invokevirtual 55, 3) := by decide +kernel
theorem dX8_readInto_54 : decode cX8_readInto 54 = .ok (.ifCond .eq 19, 3) := by decide +kernel
theorem dX8_readInto_57 : decode cX8_readInto 57 = .ok (.aload_n 0, 1) := by decide +kernel
theorem dX8_readInto_58 : decode cX8_readInto 58 = .ok (.aload_n 3, 1) := by decide +kernel
theorem dX8_readInto_59 : decode cX8_readInto 59 = .ok (.invokevirtual 58, 3) := by decide +kernel
theorem dX8_readInto_62 : decode cX8_readInto 62 = .ok (.ifCond .eq 11, 3) := by decide +kernel
theorem dX8_readInto_65 : decode cX8_readInto 65 = .ok (.aload_n 0, 1) := by decide +kernel
theorem dX8_readInto_66 : decode cX8_readInto 66 = .ok (.aload_n 3, 1) := by decide +kernel
theorem dX8_readInto_67 : decode cX8_readInto 67 = .ok (.invokevirtual 61, 3) := by decide +kernel
theorem dX8_readInto_70 : decode cX8_readInto 70 = .ok (.ifCond .ne 8, 3) := by decide +kernel
theorem dX8_readInto_73 : decode cX8_readInto 73 = .ok (.aload_n 0, 1) := by decide +kernel
theorem dX8_readInto_74 : decode cX8_readInto 74 = .ok (.getfield 22, 3) := by decide +kernel
theorem dX8_readInto_77 : decode cX8_readInto 77 = .ok (.ireturn, 1) := by decide +kernel
theorem dX8_readInto_78 : decode cX8_readInto 78 = .ok (.aload_n 1, 1) := by decide +kernel
theorem dX8_readInto_79 : decode cX8_readInto 79 = .ok (.dup, 1) := by decide +kernel
theorem dX8_readInto_80 : decode cX8_readInto 80 = .ok (.getfield 34, 3) := by decide +kernel
theorem dX8_readInto_83 : decode cX8_readInto 83 = .ok (.iconst 1, 1) := by decide +kernel
theorem dX8_readInto_84 : decode cX8_readInto 84 = .ok (.iadd, 1) := by decide +kernel
theorem dX8_readInto_85 : decode cX8_readInto 85 = .ok (.putfield 34, 3) := by decide +kernel
theorem dX8_readInto_88 : decode cX8_readInto 88 = .ok (.iinc 2 1, 3) := by decide +kernel
theorem dX8_readInto_91 : decode cX8_readInto 91 = .ok (.goto (-75), 3) := by decide +kernel
theorem dX8_readInto_94 : decode cX8_readInto 94 = .ok (.aload_n 0, 1) := by decide +kernel
theorem dX8_readInto_95 : decode cX8_readInto 95 = .ok (.getfield 25, 3) := by decide +kernel
theorem dX8_readInto_98 : decode cX8_readInto 98 = .ok (.iconst 1, 1) := by decide +kernel
theorem dX8_readInto_99 : decode cX8_readInto 99 = .ok (.if_icmp .ne 8, 3) := by decide +kernel
theorem dX8_readInto_102 : decode cX8_readInto 102 = .ok (.bipush (-9), 2) := by decide +kernel
theorem dX8_readInto_104 : decode cX8_readInto 104 = .ok (.goto 7, 3) := by decide +kernel
theorem dX8_readInto_107 : decode cX8_readInto 107 = .ok (.aload_n 0, 1) := by decide +kernel
theorem dX8_readInto_108 : decode cX8_readInto 108 = .ok (.getfield 22, 3) := by decide +kernel
theorem dX8_readInto_111 : decode cX8_readInto 111 = .ok (.ireturn, 1) := by decide +kernel
theorem dX8_readLandsAndDays_0 : decode cX8_readLandsAndDays 0 = .ok (.aload_n 0, 1) := by decide +kernel
theorem dX8_readLandsAndDays_1 : decode cX8_readLandsAndDays 1 = .ok (.iconst 3, 1) := by decide +kernel
theorem dX8_readLandsAndDays_2 : decode cX8_readLandsAndDays 2 = .ok (.invokevirtual 64, 3) := by decide +kernel
theorem dX8_readLandsAndDays_5 : decode cX8_readLandsAndDays 5 = .ok (.ifCond .eq 12, 3) := by decide +kernel
theorem dX8_readLandsAndDays_8 : decode cX8_readLandsAndDays 8 = .ok (.aload_n 0, 1) := by decide +kernel
theorem dX8_readLandsAndDays_9 : decode cX8_readLandsAndDays 9 = .ok (.iconst 0, 1) := by decide +kernel
theorem dX8_readLandsAndDays_10 : decode cX8_readLandsAndDays 10 = .ok (.iconst 2, 1) := by decide +kernel
theorem dX8_readLandsAndDays_11 : decode cX8_readLandsAndDays 11 = .ok (.invokevirtual 68, 3) := by decide +kernel
theorem dX8_readLandsAndDays_14 : decode cX8_readLandsAndDays 14 = .ok (.ifCond .ne 5, 3) := by decide +kernel
theorem dX8_readLandsAndDays_17 : decode cX8_readLandsAndDays 17 = .ok (.iconst 0, 1) := by decide +kernel
theorem dX8_readLandsAndDays_18 : decode cX8_readLandsAndDays 18 = .ok (.ireturn, 1) := by decide +kernel
theorem dX8_readLandsAndDays_19 : decode cX8_readLandsAndDays 19 = .ok (.aload_n 1, 1) := by decide +kernel
theorem dX8_readLandsAndDays_20 : decode cX8_readLandsAndDays 20 = .ok (.aload_n 0, 1) := by decide +kernel
theorem dX8_readLandsAndDays_21 : decode cX8_readLandsAndDays 21 = .ok (.getfield 31, 3) := by decide +kernel
theorem dX8_readLandsAndDays_24 : decode cX8_readLandsAndDays 24 = .ok (.putfield 72, 3) := by decide +kernel
theorem dX8_readLandsAndDays_27 : decode cX8_readLandsAndDays 27 = .ok (.aload_n 0, 1) := by decide +kernel
theorem dX8_readLandsAndDays_28 : decode cX8_readLandsAndDays 28 = .ok (.bipush 62, 2) := by decide +kernel
theorem dX8_readLandsAndDays_30 : decode cX8_readLandsAndDays 30 = .ok (.invokevirtual 64, 3) := by decide +kernel
theorem dX8_readLandsAndDays_33 : decode cX8_readLandsAndDays 33 = .ok (.ifCond .eq 12, 3) := by decide +kernel
theorem dX8_readLandsAndDays_36 : decode cX8_readLandsAndDays 36 = .ok (.aload_n 0, 1) := by decide +kernel
theorem dX8_readLandsAndDays_37 : decode cX8_readLandsAndDays 37 = .ok (.iconst 0, 1) := by decide +kernel
theorem dX8_readLandsAndDays_38 : decode cX8_readLandsAndDays 38 = .ok (.iconst 2, 1) := by decide +kernel
theorem dX8_readLandsAndDays_39 : decode cX8_readLandsAndDays 39 = .ok (.invokevirtual 68, 3) := by decide +kernel
theorem dX8_readLandsAndDays_42 : decode cX8_readLandsAndDays 42 = .ok (.ifCond .ne 5, 3) := by decide +kernel
theorem dX8_readLandsAndDays_45 : decode cX8_readLandsAndDays 45 = .ok (.iconst 0, 1) := by decide +kernel
theorem dX8_readLandsAndDays_46 : decode cX8_readLandsAndDays 46 = .ok (.ireturn, 1) := by decide +kernel
theorem dX8_readLandsAndDays_47 : decode cX8_readLandsAndDays 47 = .ok (.aload_n 1, 1) := by decide +kernel
theorem dX8_readLandsAndDays_48 : decode cX8_readLandsAndDays 48 = .ok (.aload_n 0, 1) := by decide +kernel
theorem dX8_readLandsAndDays_49 : decode cX8_readLandsAndDays 49 = .ok (.getfield 31, 3) := by decide +kernel
theorem dX8_readLandsAndDays_52 : decode cX8_readLandsAndDays 52 = .ok (.putfield 75, 3) := by decide +kernel
theorem dX8_readLandsAndDays_55 : decode cX8_readLandsAndDays 55 = .ok (.aload_n 0, 1) := by decide +kernel
theorem dX8_readLandsAndDays_56 : decode cX8_readLandsAndDays 56 = .ok (.bipush 44, 2) := by decide +kernel
theorem dX8_readLandsAndDays_58 : decode cX8_readLandsAndDays 58 = .ok (.invokevirtual 64, 3) := by decide +kernel
theorem dX8_readLandsAndDays_61 : decode cX8_readLandsAndDays 61 = .ok (.ifCond .eq 14, 3) := by decide +kernel
theorem dX8_readLandsAndDays_64 : decode cX8_readLandsAndDays 64 = .ok (.aload_n 0, 1) := by decide +kernel
theorem dX8_readLandsAndDays_65 : decode cX8_readLandsAndDays 65 = .ok (.iconst 0, 1) := by decide +kernel
theorem dX8_readLandsAndDays_66 : decode cX8_readLandsAndDays 66 = .ok (.sipush 999, 3) := by decide +kernel
theorem dX8_readLandsAndDays_69 : decode cX8_readLandsAndDays 69 = .ok (.invokevirtual 68, 3) := by decide +kernel
theorem dX8_readLandsAndDays_72 : decode cX8_readLandsAndDays 72 = .ok (.ifCond .ne 5, 3) := by decide +kernel
theorem dX8_readLandsAndDays_75 : decode cX8_readLandsAndDays 75 = .ok (.iconst 0, 1) := by decide +kernel
theorem dX8_readLandsAndDays_76 : decode cX8_readLandsAndDays 76 = .ok (.ireturn, 1) := by decide +kernel
theorem dX8_readLandsAndDays_77 : decode cX8_readLandsAndDays 77 = .ok (.aload_n 1, 1) := by decide +kernel
theorem dX8_readLandsAndDays_78 : decode cX8_readLandsAndDays 78 = .ok (.aload_n 0, 1) := by decide +kernel
theorem dX8_readLandsAndDays_79 : decode cX8_readLandsAndDays 79 = .ok (.getfield 31, 3) := by decide +kernel
theorem dX8_readLandsAndDays_82 : decode cX8_readLandsAndDays 82 = .ok (.putfield 78, 3) := by decide +kernel
theorem dX8_readLandsAndDays_85 : decode cX8_readLandsAndDays 85 = .ok (.aload_n 0, 1) := by decide +kernel
theorem dX8_readLandsAndDays_86 : decode cX8_readLandsAndDays 86 = .ok (.bipush 45, 2) := by decide +kernel
theorem dX8_readLandsAndDays_88 : decode cX8_readLandsAndDays 88 = .ok (.invokevirtual 64, 3) := by decide +kernel
theorem dX8_readLandsAndDays_91 : decode cX8_readLandsAndDays 91 = .ok (.ifCond .eq 17, 3) := by decide +kernel
theorem dX8_readLandsAndDays_94 : decode cX8_readLandsAndDays 94 = .ok (.aload_n 0, 1) := by decide +kernel
theorem dX8_readLandsAndDays_95 : decode cX8_readLandsAndDays 95 = .ok (.aload_n 1, 1) := by decide +kernel
theorem dX8_readLandsAndDays_96 : decode cX8_readLandsAndDays 96 = .ok (.getfield 78, 3) := by decide +kernel
theorem dX8_readLandsAndDays_99 : decode cX8_readLandsAndDays 99 = .ok (.sipush 999, 3) := by decide +kernel
theorem dX8_readLandsAndDays_102 : decode cX8_readLandsAndDays 102 = .ok (.invokevirtual 68, 3) := by decide +kernel
theorem dX8_readLandsAndDays_105 : decode cX8_readLandsAndDays 105 = .ok (.ifCond .ne 5, 3) := by decide +kernel
theorem dX8_readLandsAndDays_108 : decode cX8_readLandsAndDays 108 = .ok (.iconst 0, 1) := by decide +kernel
theorem dX8_readLandsAndDays_109 : decode cX8_readLandsAndDays 109 = .ok (.ireturn, 1) := by decide +kernel
theorem dX8_readLandsAndDays_110 : decode cX8_readLandsAndDays 110 = .ok (.aload_n 1, 1) := by decide +kernel
theorem dX8_readLandsAndDays_111 : decode cX8_readLandsAndDays 111 = .ok (.aload_n 0, 1) := by decide +kernel
theorem dX8_readLandsAndDays_112 : decode cX8_readLandsAndDays 112 = .ok (.getfield 31, 3) := by decide +kernel
theorem dX8_readLandsAndDays_115 : decode cX8_readLandsAndDays 115 = .ok (.putfield 81, 3) := by decide +kernel
theorem dX8_readLandsAndDays_118 : decode cX8_readLandsAndDays 118 = .ok (.iconst 1, 1) := by decide +kernel
theorem dX8_readLandsAndDays_119 : decode cX8_readLandsAndDays 119 = .ok (.ireturn, 1) := by decide +kernel
theorem dX8_readSums_0 : decode cX8_readSums 0 = .ok (.aload_n 0, 1) := by decide +kernel
theorem dX8_readSums_1 : decode cX8_readSums 1 = .ok (.bipush 58, 2) := by decide +kernel
theorem dX8_readSums_3 : decode cX8_readSums 3 = .ok (.invokevirtual 64, 3) := by decide +kernel
theorem dX8_readSums_6 : decode cX8_readSums 6 = .ok (.ifCond .eq 14, 3) := by decide +kernel
theorem dX8_readSums_9 : decode cX8_readSums 9 = .ok (.aload_n 0, 1) := by decide +kernel
theorem dX8_readSums_10 : decode cX8_readSums 10 = .ok (.iconst 0, 1) := by decide +kernel
theorem dX8_readSums_11 : decode cX8_readSums 11 = .ok (.sipush 999, 3) := by decide +kernel
theorem dX8_readSums_14 : decode cX8_readSums 14 = .ok (.invokevirtual 68, 3) := by decide +kernel
theorem dX8_readSums_17 : decode cX8_readSums 17 = .ok (.ifCond .ne 5, 3) := by decide +kernel
theorem dX8_readSums_20 : decode cX8_readSums 20 = .ok (.iconst 0, 1) := by decide +kernel
theorem dX8_readSums_21 : decode cX8_readSums 21 = .ok (.ireturn, 1) := by decide +kernel
theorem dX8_readSums_22 : decode cX8_readSums 22 = .ok (.aload_n 1, 1) := by decide +kernel
theorem dX8_readSums_23 : decode cX8_readSums 23 = .ok (.aload_n 0, 1) := by decide +kernel
theorem dX8_readSums_24 : decode cX8_readSums 24 = .ok (.getfield 31, 3) := by decide +kernel
theorem dX8_readSums_27 : decode cX8_readSums 27 = .ok (.putfield 84, 3) := by decide +kernel
theorem dX8_readSums_30 : decode cX8_readSums 30 = .ok (.aload_n 0, 1) := by decide +kernel
theorem dX8_readSums_31 : decode cX8_readSums 31 = .ok (.iconst 4, 1) := by decide +kernel
theorem dX8_readSums_32 : decode cX8_readSums 32 = .ok (.invokevirtual 64, 3) := by decide +kernel
theorem dX8_readSums_35 : decode cX8_readSums 35 = .ok (.ifCond .eq 14, 3) := by decide +kernel
theorem dX8_readSums_38 : decode cX8_readSums 38 = .ok (.aload_n 0, 1) := by decide +kernel
theorem dX8_readSums_39 : decode cX8_readSums 39 = .ok (.iconst 1, 1) := by decide +kernel
theorem dX8_readSums_40 : decode cX8_readSums 40 = .ok (.sipush 500, 3) := by decide +kernel
theorem dX8_readSums_43 : decode cX8_readSums 43 = .ok (.invokevirtual 68, 3) := by decide +kernel
theorem dX8_readSums_46 : decode cX8_readSums 46 = .ok (.ifCond .ne 5, 3) := by decide +kernel
theorem dX8_readSums_49 : decode cX8_readSums 49 = .ok (.iconst 0, 1) := by decide +kernel
theorem dX8_readSums_50 : decode cX8_readSums 50 = .ok (.ireturn, 1) := by decide +kernel
theorem dX8_readSums_51 : decode cX8_readSums 51 = .ok (.aload_n 1, 1) := by decide +kernel
theorem dX8_readSums_52 : decode cX8_readSums 52 = .ok (.aload_n 0, 1) := by decide +kernel
theorem dX8_readSums_53 : decode cX8_readSums 53 = .ok (.getfield 31, 3) := by decide +kernel
theorem dX8_readSums_56 : decode cX8_readSums 56 = .ok (.putfield 87, 3) := by decide +kernel
theorem dX8_readSums_59 : decode cX8_readSums 59 = .ok (.aload_n 0, 1) := by decide +kernel
theorem dX8_readSums_60 : decode cX8_readSums 60 = .ok (.bipush 43, 2) := by decide +kernel
theorem dX8_readSums_62 : decode cX8_readSums 62 = .ok (.invokevirtual 64, 3) := by decide +kernel
theorem dX8_readSums_65 : decode cX8_readSums 65 = .ok (.ifCond .ne 5, 3) := by decide +kernel
theorem dX8_readSums_68 : decode cX8_readSums 68 = .ok (.iconst 1, 1) := by decide +kernel
theorem dX8_readSums_69 : decode cX8_readSums 69 = .ok (.ireturn, 1) := by decide +kernel
theorem dX8_readSums_70 : decode cX8_readSums 70 = .ok (.aload_n 0, 1) := by decide +kernel
theorem dX8_readSums_71 : decode cX8_readSums 71 = .ok (.iconst 0, 1) := by decide +kernel
theorem dX8_readSums_72 : decode cX8_readSums 72 = .ok (.sipush 999, 3) := by decide +kernel
theorem dX8_readSums_75 : decode cX8_readSums 75 = .ok (.invokevirtual 68, 3) := by decide +kernel
theorem dX8_readSums_78 : decode cX8_readSums 78 = .ok (.ifCond .ne 5, 3) := by decide +kernel
theorem dX8_readSums_81 : decode cX8_readSums 81 = .ok (.iconst 0, 1) := by decide +kernel
theorem dX8_readSums_82 : decode cX8_readSums 82 = .ok (.ireturn, 1) := by decide +kernel
theorem dX8_readSums_83 : decode cX8_readSums 83 = .ok (.aload_n 1, 1) := by decide +kernel
theorem dX8_readSums_84 : decode cX8_readSums 84 = .ok (.aload_n 0, 1) := by decide +kernel
theorem dX8_readSums_85 : decode cX8_readSums 85 = .ok (.getfield 31, 3) := by decide +kernel
theorem dX8_readSums_88 : decode cX8_readSums 88 = .ok (.putfield 90, 3) := by decide +kernel
theorem dX8_readSums_91 : decode cX8_readSums 91 = .ok (.iconst 1, 1) := by decide +kernel
theorem dX8_readSums_92 : decode cX8_readSums 92 = .ok (.ireturn, 1) := by decide +kernel
theorem dX8_readPart_0 : decode cX8_readPart 0 = .ok (.aload_n 0, 1) := by decide +kernel
theorem dX8_readPart_1 : decode cX8_readPart 1 = .ok (.iconst 5, 1) := by decide +kernel
theorem dX8_readPart_2 : decode cX8_readPart 2 = .ok (.invokevirtual 64, 3) := by decide +kernel
theorem dX8_readPart_5 : decode cX8_readPart 5 = .ok (.ifCond .ne 5, 3) := by decide +kernel
theorem dX8_readPart_8 : decode cX8_readPart 8 = .ok (.iconst 1, 1) := by decide +kernel
theorem dX8_readPart_9 : decode cX8_readPart 9 = .ok (.ireturn, 1) := by decide +kernel
theorem dX8_readPart_10 : decode cX8_readPart 10 = .ok (.aload_n 0, 1) := by decide +kernel
theorem dX8_readPart_11 : decode cX8_readPart 11 = .ok (.iconst 0, 1) := by decide +kernel
theorem dX8_readPart_12 : decode cX8_readPart 12 = .ok (.bipush 99, 2) := by decide +kernel
theorem dX8_readPart_14 : decode cX8_readPart 14 = .ok (.invokevirtual 68, 3) := by decide +kernel
theorem dX8_readPart_17 : decode cX8_readPart 17 = .ok (.ifCond .ne 5, 3) := by decide +kernel
theorem dX8_readPart_20 : decode cX8_readPart 20 = .ok (.iconst 0, 1) := by decide +kernel
theorem dX8_readPart_21 : decode cX8_readPart 21 = .ok (.ireturn, 1) := by decide +kernel
theorem dX8_readPart_22 : decode cX8_readPart 22 = .ok (.aload_n 1, 1) := by decide +kernel
theorem dX8_readPart_23 : decode cX8_readPart 23 = .ok (.aload_n 0, 1) := by decide +kernel
theorem dX8_readPart_24 : decode cX8_readPart 24 = .ok (.getfield 31, 3) := by decide +kernel
theorem dX8_readPart_27 : decode cX8_readPart 27 = .ok (.putfield 93, 3) := by decide +kernel
theorem dX8_readPart_30 : decode cX8_readPart 30 = .ok (.aload_n 0, 1) := by decide +kernel
theorem dX8_readPart_31 : decode cX8_readPart 31 = .ok (.bipush 47, 2) := by decide +kernel
theorem dX8_readPart_33 : decode cX8_readPart 33 = .ok (.invokevirtual 64, 3) := by decide +kernel
theorem dX8_readPart_36 : decode cX8_readPart 36 = .ok (.ifCond .eq 20, 3) := by decide +kernel
theorem dX8_readPart_39 : decode cX8_readPart 39 = .ok (.aload_n 0, 1) := by decide +kernel
theorem dX8_readPart_40 : decode cX8_readPart 40 = .ok (.iconst 1, 1) := by decide +kernel
theorem dX8_readPart_41 : decode cX8_readPart 41 = .ok (.aload_n 1, 1) := by decide +kernel
theorem dX8_readPart_42 : decode cX8_readPart 42 = .ok (.getfield 93, 3) := by decide +kernel
theorem dX8_readPart_45 : decode cX8_readPart 45 = .ok (.invokestatic 96, 3) := by decide +kernel
theorem dX8_readPart_48 : decode cX8_readPart 48 = .ok (.bipush 99, 2) := by decide +kernel
theorem dX8_readPart_50 : decode cX8_readPart 50 = .ok (.invokevirtual 68, 3) := by decide +kernel
theorem dX8_readPart_53 : decode cX8_readPart 53 = .ok (.ifCond .ne 5, 3) := by decide +kernel
theorem dX8_readPart_56 : decode cX8_readPart 56 = .ok (.iconst 0, 1) := by decide +kernel
theorem dX8_readPart_57 : decode cX8_readPart 57 = .ok (.ireturn, 1) := by decide +kernel
theorem dX8_readPart_58 : decode cX8_readPart 58 = .ok (.aload_n 1, 1) := by decide +kernel
theorem dX8_readPart_59 : decode cX8_readPart 59 = .ok (.aload_n 0, 1) := by decide +kernel
theorem dX8_readPart_60 : decode cX8_readPart 60 = .ok (.getfield 31, 3) := by decide +kernel
theorem dX8_readPart_63 : decode cX8_readPart 63 = .ok (.putfield 102, 3) := by decide +kernel
theorem dX8_readPart_66 : decode cX8_readPart 66 = .ok (.iconst 1, 1) := by decide +kernel
theorem dX8_readPart_67 : decode cX8_readPart 67 = .ok (.ireturn, 1) := by decide +kernel
theorem dX8_readEnd_0 : decode cX8_readEnd 0 = .ok (.aload_n 1, 1) := by decide +kernel
theorem dX8_readEnd_1 : decode cX8_readEnd 1 = .ok (.aload_n 0, 1) := by decide +kernel
theorem dX8_readEnd_2 : decode cX8_readEnd 2 = .ok (.bipush 6, 2) := by decide +kernel
theorem dX8_readEnd_4 : decode cX8_readEnd 4 = .ok (.invokevirtual 64, 3) := by decide +kernel
theorem dX8_readEnd_7 : decode cX8_readEnd 7 = .ok (.putfield 105, 3) := by decide +kernel
theorem dX8_readEnd_10 : decode cX8_readEnd 10 = .ok (.aload_n 0, 1) := by decide +kernel
theorem dX8_readEnd_11 : decode cX8_readEnd 11 = .ok (.bipush 59, 2) := by decide +kernel
theorem dX8_readEnd_13 : decode cX8_readEnd 13 = .ok (.invokevirtual 64, 3) := by decide +kernel
theorem dX8_readEnd_16 : decode cX8_readEnd 16 = .ok (.ireturn, 1) := by decide +kernel
theorem dX8_take_0 : decode cX8_take 0 = .ok (.aload_n 0, 1) := by decide +kernel
theorem dX8_take_1 : decode cX8_take 1 = .ok (.getfield 25, 3) := by decide +kernel
theorem dX8_take_4 : decode cX8_take 4 = .ok (.iload_n 1, 1) := by decide +kernel
theorem dX8_take_5 : decode cX8_take 5 = .ok (.if_icmp .eq 5, 3) := by decide +kernel
theorem dX8_take_8 : decode cX8_take 8 = .ok (.iconst 0, 1) := by decide +kernel
theorem dX8_take_9 : decode cX8_take 9 = .ok (.ireturn, 1) := by decide +kernel
theorem dX8_take_10 : decode cX8_take 10 = .ok (.aload_n 0, 1) := by decide +kernel
theorem dX8_take_11 : decode cX8_take 11 = .ok (.invokevirtual 39, 3) := by decide +kernel
theorem dX8_take_14 : decode cX8_take 14 = .ok (.iconst 1, 1) := by decide +kernel
theorem dX8_take_15 : decode cX8_take 15 = .ok (.ireturn, 1) := by decide +kernel
theorem dX8_takeNumber_0 : decode cX8_takeNumber 0 = .ok (.aload_n 0, 1) := by decide +kernel
theorem dX8_takeNumber_1 : decode cX8_takeNumber 1 = .ok (.getfield 25, 3) := by decide +kernel
theorem dX8_takeNumber_4 : decode cX8_takeNumber 4 = .ok (.iconst 2, 1) := by decide +kernel
theorem dX8_takeNumber_5 : decode cX8_takeNumber 5 = .ok (.if_icmp .ne 15, 3) := by decide +kernel
theorem dX8_takeNumber_8 : decode cX8_takeNumber 8 = .ok (.aload_n 0, 1) := by decide +kernel
theorem dX8_takeNumber_9 : decode cX8_takeNumber 9 = .ok (.getfield 28, 3) := by decide +kernel
theorem dX8_takeNumber_12 : decode cX8_takeNumber 12 = .ok (.iload_n 1, 1) := by decide +kernel
theorem dX8_takeNumber_13 : decode cX8_takeNumber 13 = .ok (.iload_n 2, 1) := by decide +kernel
theorem dX8_takeNumber_14 : decode cX8_takeNumber 14 = .ok (.invokestatic 109, 3) := by decide +kernel
theorem dX8_takeNumber_17 : decode cX8_takeNumber 17 = .ok (.ifCond .ne 5, 3) := by decide +kernel
theorem dX8_takeNumber_20 : decode cX8_takeNumber 20 = .ok (.iconst 0, 1) := by decide +kernel
theorem dX8_takeNumber_21 : decode cX8_takeNumber 21 = .ok (.ireturn, 1) := by decide +kernel
theorem dX8_takeNumber_22 : decode cX8_takeNumber 22 = .ok (.aload_n 0, 1) := by decide +kernel
theorem dX8_takeNumber_23 : decode cX8_takeNumber 23 = .ok (.aload_n 0, 1) := by decide +kernel
theorem dX8_takeNumber_24 : decode cX8_takeNumber 24 = .ok (.getfield 28, 3) := by decide +kernel
theorem dX8_takeNumber_27 : decode cX8_takeNumber 27 = .ok (.putfield 31, 3) := by decide +kernel
theorem dX8_takeNumber_30 : decode cX8_takeNumber 30 = .ok (.aload_n 0, 1) := by decide +kernel
theorem dX8_takeNumber_31 : decode cX8_takeNumber 31 = .ok (.invokevirtual 39, 3) := by decide +kernel
theorem dX8_takeNumber_34 : decode cX8_takeNumber 34 = .ok (.iconst 1, 1) := by decide +kernel
theorem dX8_takeNumber_35 : decode cX8_takeNumber 35 = .ok (.ireturn, 1) := by decide +kernel
theorem dX8_step_0 : decode cX8_step 0 = .ok (.aload_n 0, 1) := by decide +kernel
theorem dX8_step_1 : decode cX8_step 1 = .ok (.getfield 19, 3) := by decide +kernel
theorem dX8_step_4 : decode cX8_step 4 = .ok (.aload_n 0, 1) := by decide +kernel
theorem dX8_step_5 : decode cX8_step 5 = .ok (.getfield 15, 3) := by decide +kernel
theorem dX8_step_8 : decode cX8_step 8 = .ok (.if_icmp .ge 30, 3) := by decide +kernel
theorem dX8_step_11 : decode cX8_step 11 = .ok (.aload_n 0, 1) := by decide +kernel
theorem dX8_step_12 : decode cX8_step 12 = .ok (.getfield 9, 3) := by decide +kernel
theorem dX8_step_15 : decode cX8_step 15 = .ok (.aload_n 0, 1) := by decide +kernel
theorem dX8_step_16 : decode cX8_step 16 = .ok (.getfield 19, 3) := by decide +kernel
theorem dX8_step_19 : decode cX8_step 19 = .ok (.baload, 1) := by decide +kernel
theorem dX8_step_20 : decode cX8_step 20 = .ok (.bipush 32, 2) := by decide +kernel
theorem dX8_step_22 : decode cX8_step 22 = .ok (.if_icmp .ne 16, 3) := by decide +kernel
theorem dX8_step_25 : decode cX8_step 25 = .ok (.aload_n 0, 1) := by decide +kernel
theorem dX8_step_26 : decode cX8_step 26 = .ok (.dup, 1) := by decide +kernel
theorem dX8_step_27 : decode cX8_step 27 = .ok (.getfield 19, 3) := by decide +kernel
theorem dX8_step_30 : decode cX8_step 30 = .ok (.iconst 1, 1) := by decide +kernel
theorem dX8_step_31 : decode cX8_step 31 = .ok (.iadd, 1) := by decide +kernel
theorem dX8_step_32 : decode cX8_step 32 = .ok (.putfield 19, 3) := by decide +kernel
theorem dX8_step_35 : decode cX8_step 35 = .ok (.goto (-35), 3) := by decide +kernel
theorem dX8_step_38 : decode cX8_step 38 = .ok (.aload_n 0, 1) := by decide +kernel
theorem dX8_step_39 : decode cX8_step 39 = .ok (.aload_n 0, 1) := by decide +kernel
theorem dX8_step_40 : decode cX8_step 40 = .ok (.getfield 19, 3) := by decide +kernel
theorem dX8_step_43 : decode cX8_step 43 = .ok (.putfield 22, 3) := by decide +kernel
theorem dX8_step_46 : decode cX8_step 46 = .ok (.aload_n 0, 1) := by decide +kernel
theorem dX8_step_47 : decode cX8_step 47 = .ok (.getfield 19, 3) := by decide +kernel
theorem dX8_step_50 : decode cX8_step 50 = .ok (.aload_n 0, 1) := by decide +kernel
theorem dX8_step_51 : decode cX8_step 51 = .ok (.getfield 15, 3) := by decide +kernel
theorem dX8_step_54 : decode cX8_step 54 = .ok (.if_icmp .lt 11, 3) := by decide +kernel
theorem dX8_step_57 : decode cX8_step 57 = .ok (.aload_n 0, 1) := by decide +kernel
theorem dX8_step_58 : decode cX8_step 58 = .ok (.iconst 1, 1) := by decide +kernel
theorem dX8_step_59 : decode cX8_step 59 = .ok (.putfield 25, 3) := by decide +kernel
theorem dX8_step_62 : decode cX8_step 62 = .ok (.goto 97, 3) := by decide +kernel
theorem dX8_step_65 : decode cX8_step 65 = .ok (.aload_n 0, 1) := by decide +kernel
theorem dX8_step_66 : decode cX8_step 66 = .ok (.getfield 9, 3) := by decide +kernel
theorem dX8_step_69 : decode cX8_step 69 = .ok (.aload_n 0, 1) := by decide +kernel
theorem dX8_step_70 : decode cX8_step 70 = .ok (.getfield 19, 3) := by decide +kernel
theorem dX8_step_73 : decode cX8_step 73 = .ok (.baload, 1) := by decide +kernel
theorem dX8_step_74 : decode cX8_step 74 = .ok (.invokestatic 113, 3) := by decide +kernel
theorem dX8_step_77 : decode cX8_step 77 = .ok (.ifCond .eq 14, 3) := by decide +kernel
theorem dX8_step_80 : decode cX8_step 80 = .ok (.aload_n 0, 1) := by decide +kernel
theorem dX8_step_81 : decode cX8_step 81 = .ok (.aload_n 0, 1) := by decide +kernel
theorem dX8_step_82 : decode cX8_step 82 = .ok (.invokevirtual 116, 3) := by decide +kernel
theorem dX8_step_85 : decode cX8_step 85 = .ok (.putfield 25, 3) := by decide +kernel
theorem dX8_step_88 : decode cX8_step 88 = .ok (.goto 71, 3) := by decide +kernel
theorem dX8_step_91 : decode cX8_step 91 = .ok (.aload_n 0, 1) := by decide +kernel
theorem dX8_step_92 : decode cX8_step 92 = .ok (.getfield 9, 3) := by decide +kernel
theorem dX8_step_95 : decode cX8_step 95 = .ok (.aload_n 0, 1) := by decide +kernel
theorem dX8_step_96 : decode cX8_step 96 = .ok (.getfield 19, 3) := by decide +kernel
theorem dX8_step_99 : decode cX8_step 99 = .ok (.baload, 1) := by decide +kernel
theorem dX8_step_100 : decode cX8_step 100 = .ok (.invokestatic 120, 3) := by decide +kernel
theorem dX8_step_103 : decode cX8_step 103 = .ok (.ifCond .eq 14, 3) := by decide +kernel
theorem dX8_step_106 : decode cX8_step 106 = .ok (.aload_n 0, 1) := by decide +kernel
theorem dX8_step_107 : decode cX8_step 107 = .ok (.aload_n 0, 1) := by decide +kernel
theorem dX8_step_108 : decode cX8_step 108 = .ok (.invokevirtual 123, 3) := by decide +kernel
theorem dX8_step_111 : decode cX8_step 111 = .ok (.putfield 25, 3) := by decide +kernel
theorem dX8_step_114 : decode cX8_step 114 = .ok (.goto 45, 3) := by decide +kernel
theorem dX8_step_117 : decode cX8_step 117 = .ok (.aload_n 0, 1) := by decide +kernel
theorem dX8_step_118 : decode cX8_step 118 = .ok (.aload_n 0, 1) := by decide +kernel
theorem dX8_step_119 : decode cX8_step 119 = .ok (.getfield 9, 3) := by decide +kernel
theorem dX8_step_122 : decode cX8_step 122 = .ok (.aload_n 0, 1) := by decide +kernel
theorem dX8_step_123 : decode cX8_step 123 = .ok (.getfield 19, 3) := by decide +kernel
theorem dX8_step_126 : decode cX8_step 126 = .ok (.baload, 1) := by decide +kernel
theorem dX8_step_127 : decode cX8_step 127 = .ok (.invokestatic 126, 3) := by decide +kernel
theorem dX8_step_130 : decode cX8_step 130 = .ok (.ifCond .eq 15, 3) := by decide +kernel
theorem dX8_step_133 : decode cX8_step 133 = .ok (.aload_n 0, 1) := by decide +kernel
theorem dX8_step_134 : decode cX8_step 134 = .ok (.getfield 9, 3) := by decide +kernel
theorem dX8_step_137 : decode cX8_step 137 = .ok (.aload_n 0, 1) := by decide +kernel
theorem dX8_step_138 : decode cX8_step 138 = .ok (.getfield 19, 3) := by decide +kernel
theorem dX8_step_141 : decode cX8_step 141 = .ok (.baload, 1) := by decide +kernel
theorem dX8_step_142 : decode cX8_step 142 = .ok (.goto 4, 3) := by decide +kernel
theorem dX8_step_145 : decode cX8_step 145 = .ok (.iconst 0, 1) := by decide +kernel
theorem dX8_step_146 : decode cX8_step 146 = .ok (.putfield 25, 3) := by decide +kernel
theorem dX8_step_149 : decode cX8_step 149 = .ok (.aload_n 0, 1) := by decide +kernel
theorem dX8_step_150 : decode cX8_step 150 = .ok (.dup, 1) := by decide +kernel
theorem dX8_step_151 : decode cX8_step 151 = .ok (.getfield 19, 3) := by decide +kernel
theorem dX8_step_154 : decode cX8_step 154 = .ok (.iconst 1, 1) := by decide +kernel
theorem dX8_step_155 : decode cX8_step 155 = .ok (.iadd, 1) := by decide +kernel
theorem dX8_step_156 : decode cX8_step 156 = .ok (.putfield 19, 3) := by decide +kernel
theorem dX8_step_159 : decode cX8_step 159 = .ok (.return_, 1) := by decide +kernel
theorem dX8_stepNumber_0 : decode cX8_stepNumber 0 = .ok (.aload_n 0, 1) := by decide +kernel
theorem dX8_stepNumber_1 : decode cX8_stepNumber 1 = .ok (.iconst 0, 1) := by decide +kernel
theorem dX8_stepNumber_2 : decode cX8_stepNumber 2 = .ok (.putfield 28, 3) := by decide +kernel
theorem dX8_stepNumber_5 : decode cX8_stepNumber 5 = .ok (.aload_n 0, 1) := by decide +kernel
theorem dX8_stepNumber_6 : decode cX8_stepNumber 6 = .ok (.getfield 19, 3) := by decide +kernel
theorem dX8_stepNumber_9 : decode cX8_stepNumber 9 = .ok (.aload_n 0, 1) := by decide +kernel
theorem dX8_stepNumber_10 : decode cX8_stepNumber 10 = .ok (.getfield 15, 3) := by decide +kernel
theorem dX8_stepNumber_13 : decode cX8_stepNumber 13 = .ok (.if_icmp .ge 61, 3) := by decide +kernel
theorem dX8_stepNumber_16 : decode cX8_stepNumber 16 = .ok (.aload_n 0, 1) := by decide +kernel
theorem dX8_stepNumber_17 : decode cX8_stepNumber 17 = .ok (.getfield 9, 3) := by decide +kernel
theorem dX8_stepNumber_20 : decode cX8_stepNumber 20 = .ok (.aload_n 0, 1) := by decide +kernel
theorem dX8_stepNumber_21 : decode cX8_stepNumber 21 = .ok (.getfield 19, 3) := by decide +kernel
theorem dX8_stepNumber_24 : decode cX8_stepNumber 24 = .ok (.baload, 1) := by decide +kernel
theorem dX8_stepNumber_25 : decode cX8_stepNumber 25 = .ok (.invokestatic 113, 3) := by decide +kernel
theorem dX8_stepNumber_28 : decode cX8_stepNumber 28 = .ok (.ifCond .eq 46, 3) := by decide +kernel
theorem dX8_stepNumber_31 : decode cX8_stepNumber 31 = .ok (.aload_n 0, 1) := by decide +kernel
theorem dX8_stepNumber_32 : decode cX8_stepNumber 32 = .ok (.bipush 10, 2) := by decide +kernel
theorem dX8_stepNumber_34 : decode cX8_stepNumber 34 = .ok (.aload_n 0, 1) := by decide +kernel
theorem dX8_stepNumber_35 : decode cX8_stepNumber 35 = .ok (.getfield 28, 3) := by decide +kernel
theorem dX8_stepNumber_38 : decode cX8_stepNumber 38 = .ok (.imul, 1) := by decide +kernel
theorem dX8_stepNumber_39 : decode cX8_stepNumber 39 = .ok (.aload_n 0, 1) := by decide +kernel
theorem dX8_stepNumber_40 : decode cX8_stepNumber 40 = .ok (.getfield 9, 3) := by decide +kernel
theorem dX8_stepNumber_43 : decode cX8_stepNumber 43 = .ok (.aload_n 0, 1) := by decide +kernel
theorem dX8_stepNumber_44 : decode cX8_stepNumber 44 = .ok (.getfield 19, 3) := by decide +kernel
theorem dX8_stepNumber_47 : decode cX8_stepNumber 47 = .ok (.baload, 1) := by decide +kernel
theorem dX8_stepNumber_48 : decode cX8_stepNumber 48 = .ok (.iadd, 1) := by decide +kernel
theorem dX8_stepNumber_49 : decode cX8_stepNumber 49 = .ok (.bipush 48, 2) := by decide +kernel
theorem dX8_stepNumber_51 : decode cX8_stepNumber 51 = .ok (.isub, 1) := by decide +kernel
theorem dX8_stepNumber_52 : decode cX8_stepNumber 52 = .ok (.sipush 10000, 3) := by decide +kernel
theorem dX8_stepNumber_55 : decode cX8_stepNumber 55 = .ok (.invokestatic 129, 3) := by decide +kernel
theorem dX8_stepNumber_58 : decode cX8_stepNumber 58 = .ok (.putfield 28, 3) := by decide +kernel
theorem dX8_stepNumber_61 : decode cX8_stepNumber 61 = .ok (.aload_n 0, 1) := by decide +kernel
theorem dX8_stepNumber_62 : decode cX8_stepNumber 62 = .ok (.dup, 1) := by decide +kernel
theorem dX8_stepNumber_63 : decode cX8_stepNumber 63 = .ok (.getfield 19, 3) := by decide +kernel
theorem dX8_stepNumber_66 : decode cX8_stepNumber 66 = .ok (.iconst 1, 1) := by decide +kernel
theorem dX8_stepNumber_67 : decode cX8_stepNumber 67 = .ok (.iadd, 1) := by decide +kernel
theorem dX8_stepNumber_68 : decode cX8_stepNumber 68 = .ok (.putfield 19, 3) := by decide +kernel
theorem dX8_stepNumber_71 : decode cX8_stepNumber 71 = .ok (.goto (-66), 3) := by decide +kernel
theorem dX8_stepNumber_74 : decode cX8_stepNumber 74 = .ok (.aload_n 0, 1) := by decide +kernel
theorem dX8_stepNumber_75 : decode cX8_stepNumber 75 = .ok (.getfield 9, 3) := by decide +kernel
theorem dX8_stepNumber_78 : decode cX8_stepNumber 78 = .ok (.aload_n 0, 1) := by decide +kernel
theorem dX8_stepNumber_79 : decode cX8_stepNumber 79 = .ok (.getfield 22, 3) := by decide +kernel
theorem dX8_stepNumber_82 : decode cX8_stepNumber 82 = .ok (.baload, 1) := by decide +kernel
theorem dX8_stepNumber_83 : decode cX8_stepNumber 83 = .ok (.bipush 48, 2) := by decide +kernel
theorem dX8_stepNumber_85 : decode cX8_stepNumber 85 = .ok (.if_icmp .ne 20, 3) := by decide +kernel
theorem dX8_stepNumber_88 : decode cX8_stepNumber 88 = .ok (.aload_n 0, 1) := by decide +kernel
theorem dX8_stepNumber_89 : decode cX8_stepNumber 89 = .ok (.getfield 19, 3) := by decide +kernel
theorem dX8_stepNumber_92 : decode cX8_stepNumber 92 = .ok (.aload_n 0, 1) := by decide +kernel
theorem dX8_stepNumber_93 : decode cX8_stepNumber 93 = .ok (.getfield 22, 3) := by decide +kernel
theorem dX8_stepNumber_96 : decode cX8_stepNumber 96 = .ok (.isub, 1) := by decide +kernel
theorem dX8_stepNumber_97 : decode cX8_stepNumber 97 = .ok (.iconst 1, 1) := by decide +kernel
theorem dX8_stepNumber_98 : decode cX8_stepNumber 98 = .ok (.if_icmp .le 7, 3) := by decide +kernel
theorem dX8_stepNumber_101 : decode cX8_stepNumber 101 = .ok (.iconst 1, 1) := by decide +kernel
theorem dX8_stepNumber_102 : decode cX8_stepNumber 102 = .ok (.goto 4, 3) := by decide +kernel
theorem dX8_stepNumber_105 : decode cX8_stepNumber 105 = .ok (.iconst 0, 1) := by decide +kernel
theorem dX8_stepNumber_106 : decode cX8_stepNumber 106 = .ok (.istore_n 1, 1) := by decide +kernel
theorem dX8_stepNumber_107 : decode cX8_stepNumber 107 = .ok (.iload_n 1, 1) := by decide +kernel
theorem dX8_stepNumber_108 : decode cX8_stepNumber 108 = .ok (.ifCond .ne 13, 3) := by decide +kernel
theorem dX8_stepNumber_111 : decode cX8_stepNumber 111 = .ok (.aload_n 0, 1) := by decide +kernel
theorem dX8_stepNumber_112 : decode cX8_stepNumber 112 = .ok (.getfield 28, 3) := by decide +kernel
theorem dX8_stepNumber_115 : decode cX8_stepNumber 115 = .ok (.sipush 9999, 3) := by decide +kernel
theorem dX8_stepNumber_118 : decode cX8_stepNumber 118 = .ok (.if_icmp .le 7, 3) := by decide +kernel
theorem dX8_stepNumber_121 : decode cX8_stepNumber 121 = .ok (.iconst 0, 1) := by decide +kernel
theorem dX8_stepNumber_122 : decode cX8_stepNumber 122 = .ok (.goto 4, 3) := by decide +kernel
theorem dX8_stepNumber_125 : decode cX8_stepNumber 125 = .ok (.iconst 2, 1) := by decide +kernel
theorem dX8_stepNumber_126 : decode cX8_stepNumber 126 = .ok (.ireturn, 1) := by decide +kernel
theorem dX8_stepWord_0 : decode cX8_stepWord 0 = .ok (.aload_n 0, 1) := by decide +kernel
theorem dX8_stepWord_1 : decode cX8_stepWord 1 = .ok (.getfield 19, 3) := by decide +kernel
theorem dX8_stepWord_4 : decode cX8_stepWord 4 = .ok (.aload_n 0, 1) := by decide +kernel
theorem dX8_stepWord_5 : decode cX8_stepWord 5 = .ok (.getfield 15, 3) := by decide +kernel
theorem dX8_stepWord_8 : decode cX8_stepWord 8 = .ok (.if_icmp .ge 31, 3) := by decide +kernel
theorem dX8_stepWord_11 : decode cX8_stepWord 11 = .ok (.aload_n 0, 1) := by decide +kernel
theorem dX8_stepWord_12 : decode cX8_stepWord 12 = .ok (.getfield 9, 3) := by decide +kernel
theorem dX8_stepWord_15 : decode cX8_stepWord 15 = .ok (.aload_n 0, 1) := by decide +kernel
theorem dX8_stepWord_16 : decode cX8_stepWord 16 = .ok (.getfield 19, 3) := by decide +kernel
theorem dX8_stepWord_19 : decode cX8_stepWord 19 = .ok (.baload, 1) := by decide +kernel
theorem dX8_stepWord_20 : decode cX8_stepWord 20 = .ok (.invokestatic 120, 3) := by decide +kernel
theorem dX8_stepWord_23 : decode cX8_stepWord 23 = .ok (.ifCond .eq 16, 3) := by decide +kernel
theorem dX8_stepWord_26 : decode cX8_stepWord 26 = .ok (.aload_n 0, 1) := by decide +kernel
theorem dX8_stepWord_27 : decode cX8_stepWord 27 = .ok (.dup, 1) := by decide +kernel
theorem dX8_stepWord_28 : decode cX8_stepWord 28 = .ok (.getfield 19, 3) := by decide +kernel
theorem dX8_stepWord_31 : decode cX8_stepWord 31 = .ok (.iconst 1, 1) := by decide +kernel
theorem dX8_stepWord_32 : decode cX8_stepWord 32 = .ok (.iadd, 1) := by decide +kernel
theorem dX8_stepWord_33 : decode cX8_stepWord 33 = .ok (.putfield 19, 3) := by decide +kernel
theorem dX8_stepWord_36 : decode cX8_stepWord 36 = .ok (.goto (-36), 3) := by decide +kernel
theorem dX8_stepWord_39 : decode cX8_stepWord 39 = .ok (.aload_n 0, 1) := by decide +kernel
theorem dX8_stepWord_40 : decode cX8_stepWord 40 = .ok (.ldc 132, 2) := by decide +kernel
theorem dX8_stepWord_42 : decode cX8_stepWord 42 = .ok (.invokevirtual 134, 3) := by decide +kernel
theorem dX8_stepWord_45 : decode cX8_stepWord 45 = .ok (.ifCond .eq 5, 3) := by decide +kernel
theorem dX8_stepWord_48 : decode cX8_stepWord 48 = .ok (.iconst 3, 1) := by decide +kernel
theorem dX8_stepWord_49 : decode cX8_stepWord 49 = .ok (.ireturn, 1) := by decide +kernel
theorem dX8_stepWord_50 : decode cX8_stepWord 50 = .ok (.aload_n 0, 1) := by decide +kernel
theorem dX8_stepWord_51 : decode cX8_stepWord 51 = .ok (.ldc 138, 2) := by decide +kernel
theorem dX8_stepWord_53 : decode cX8_stepWord 53 = .ok (.invokevirtual 134, 3) := by decide +kernel
theorem dX8_stepWord_56 : decode cX8_stepWord 56 = .ok (.ifCond .eq 5, 3) := by decide +kernel
theorem dX8_stepWord_59 : decode cX8_stepWord 59 = .ok (.iconst 4, 1) := by decide +kernel
theorem dX8_stepWord_60 : decode cX8_stepWord 60 = .ok (.ireturn, 1) := by decide +kernel
theorem dX8_stepWord_61 : decode cX8_stepWord 61 = .ok (.aload_n 0, 1) := by decide +kernel
theorem dX8_stepWord_62 : decode cX8_stepWord 62 = .ok (.ldc 140, 2) := by decide +kernel
theorem dX8_stepWord_64 : decode cX8_stepWord 64 = .ok (.invokevirtual 134, 3) := by decide +kernel
theorem dX8_stepWord_67 : decode cX8_stepWord 67 = .ok (.ifCond .eq 5, 3) := by decide +kernel
theorem dX8_stepWord_70 : decode cX8_stepWord 70 = .ok (.iconst 5, 1) := by decide +kernel
theorem dX8_stepWord_71 : decode cX8_stepWord 71 = .ok (.ireturn, 1) := by decide +kernel
theorem dX8_stepWord_72 : decode cX8_stepWord 72 = .ok (.aload_n 0, 1) := by decide +kernel
theorem dX8_stepWord_73 : decode cX8_stepWord 73 = .ok (.ldc 142, 2) := by decide +kernel
theorem dX8_stepWord_75 : decode cX8_stepWord 75 = .ok (.invokevirtual 134, 3) := by decide +kernel
theorem dX8_stepWord_78 : decode cX8_stepWord 78 = .ok (.ifCond .eq 8, 3) := by decide +kernel
theorem dX8_stepWord_81 : decode cX8_stepWord 81 = .ok (.bipush 6, 2) := by decide +kernel
theorem dX8_stepWord_83 : decode cX8_stepWord 83 = .ok (.goto 4, 3) := by decide +kernel
theorem dX8_stepWord_86 : decode cX8_stepWord 86 = .ok (.iconst 0, 1) := by decide +kernel
theorem dX8_stepWord_87 : decode cX8_stepWord 87 = .ok (.ireturn, 1) := by decide +kernel
theorem dX8_spells_0 : decode cX8_spells 0 = .ok (.aload_n 0, 1) := by decide +kernel
theorem dX8_spells_1 : decode cX8_spells 1 = .ok (.getfield 19, 3) := by decide +kernel
theorem dX8_spells_4 : decode cX8_spells 4 = .ok (.aload_n 0, 1) := by decide +kernel
theorem dX8_spells_5 : decode cX8_spells 5 = .ok (.getfield 22, 3) := by decide +kernel
theorem dX8_spells_8 : decode cX8_spells 8 = .ok (.isub, 1) := by decide +kernel
theorem dX8_spells_9 : decode cX8_spells 9 = .ok (.aload_n 1, 1) := by decide +kernel
theorem dX8_spells_10 : decode cX8_spells 10 = .ok (.invokevirtual 143, 3) := by decide +kernel
theorem dX8_spells_13 : decode cX8_spells 13 = .ok (.if_icmp .eq 5, 3) := by decide +kernel
theorem dX8_spells_16 : decode cX8_spells 16 = .ok (.iconst 0, 1) := by decide +kernel
theorem dX8_spells_17 : decode cX8_spells 17 = .ok (.ireturn, 1) := by decide +kernel
theorem dX8_spells_18 : decode cX8_spells 18 = .ok (.aload_n 0, 1) := by decide +kernel
theorem dX8_spells_19 : decode cX8_spells 19 = .ok (.getfield 22, 3) := by decide +kernel
theorem dX8_spells_22 : decode cX8_spells 22 = .ok (.istore_n 2, 1) := by decide +kernel
theorem dX8_spells_23 : decode cX8_spells 23 = .ok (.iload_n 2, 1) := by decide +kernel
theorem dX8_spells_24 : decode cX8_spells 24 = .ok (.aload_n 0, 1) := by decide +kernel
theorem dX8_spells_25 : decode cX8_spells 25 = .ok (.getfield 19, 3) := by decide +kernel
theorem dX8_spells_28 : decode cX8_spells 28 = .ok (.if_icmp .ge 30, 3) := by decide +kernel
theorem dX8_spells_31 : decode cX8_spells 31 = .ok (.aload_n 0, 1) := by decide +kernel
theorem dX8_spells_32 : decode cX8_spells 32 = .ok (.getfield 9, 3) := by decide +kernel
theorem dX8_spells_35 : decode cX8_spells 35 = .ok (.iload_n 2, 1) := by decide +kernel
theorem dX8_spells_36 : decode cX8_spells 36 = .ok (.baload, 1) := by decide +kernel
theorem dX8_spells_37 : decode cX8_spells 37 = .ok (.aload_n 1, 1) := by decide +kernel
theorem dX8_spells_38 : decode cX8_spells 38 = .ok (.iload_n 2, 1) := by decide +kernel
theorem dX8_spells_39 : decode cX8_spells 39 = .ok (.aload_n 0, 1) := by decide +kernel
theorem dX8_spells_40 : decode cX8_spells 40 = .ok (.getfield 22, 3) := by decide +kernel
theorem dX8_spells_43 : decode cX8_spells 43 = .ok (.isub, 1) := by decide +kernel
theorem dX8_spells_44 : decode cX8_spells 44 = .ok (.invokevirtual 147, 3) := by decide +kernel
theorem dX8_spells_47 : decode cX8_spells 47 = .ok (.if_icmp .eq 5, 3) := by decide +kernel
theorem dX8_spells_50 : decode cX8_spells 50 = .ok (.iconst 0, 1) := by decide +kernel
theorem dX8_spells_51 : decode cX8_spells 51 = .ok (.ireturn, 1) := by decide +kernel
theorem dX8_spells_52 : decode cX8_spells 52 = .ok (.iinc 2 1, 3) := by decide +kernel
theorem dX8_spells_55 : decode cX8_spells 55 = .ok (.goto (-32), 3) := by decide +kernel
theorem dX8_spells_58 : decode cX8_spells 58 = .ok (.iconst 1, 1) := by decide +kernel
theorem dX8_spells_59 : decode cX8_spells 59 = .ok (.ireturn, 1) := by decide +kernel
theorem dX8_isDigit_0 : decode cX8_isDigit 0 = .ok (.iload_n 0, 1) := by decide +kernel
theorem dX8_isDigit_1 : decode cX8_isDigit 1 = .ok (.bipush 48, 2) := by decide +kernel
theorem dX8_isDigit_3 : decode cX8_isDigit 3 = .ok (.if_icmp .lt 13, 3) := by decide +kernel
theorem dX8_isDigit_6 : decode cX8_isDigit 6 = .ok (.iload_n 0, 1) := by decide +kernel
theorem dX8_isDigit_7 : decode cX8_isDigit 7 = .ok (.bipush 57, 2) := by decide +kernel
theorem dX8_isDigit_9 : decode cX8_isDigit 9 = .ok (.if_icmp .gt 7, 3) := by decide +kernel
theorem dX8_isDigit_12 : decode cX8_isDigit 12 = .ok (.iconst 1, 1) := by decide +kernel
theorem dX8_isDigit_13 : decode cX8_isDigit 13 = .ok (.goto 4, 3) := by decide +kernel
theorem dX8_isDigit_16 : decode cX8_isDigit 16 = .ok (.iconst 0, 1) := by decide +kernel
theorem dX8_isDigit_17 : decode cX8_isDigit 17 = .ok (.ireturn, 1) := by decide +kernel
theorem dX8_isLetter_0 : decode cX8_isLetter 0 = .ok (.iload_n 0, 1) := by decide +kernel
theorem dX8_isLetter_1 : decode cX8_isLetter 1 = .ok (.bipush 97, 2) := by decide +kernel
theorem dX8_isLetter_3 : decode cX8_isLetter 3 = .ok (.if_icmp .lt 13, 3) := by decide +kernel
theorem dX8_isLetter_6 : decode cX8_isLetter 6 = .ok (.iload_n 0, 1) := by decide +kernel
theorem dX8_isLetter_7 : decode cX8_isLetter 7 = .ok (.bipush 122, 2) := by decide +kernel
theorem dX8_isLetter_9 : decode cX8_isLetter 9 = .ok (.if_icmp .gt 7, 3) := by decide +kernel
theorem dX8_isLetter_12 : decode cX8_isLetter 12 = .ok (.iconst 1, 1) := by decide +kernel
theorem dX8_isLetter_13 : decode cX8_isLetter 13 = .ok (.goto 4, 3) := by decide +kernel
theorem dX8_isLetter_16 : decode cX8_isLetter 16 = .ok (.iconst 0, 1) := by decide +kernel
theorem dX8_isLetter_17 : decode cX8_isLetter 17 = .ok (.ireturn, 1) := by decide +kernel
theorem dX8_isSign_0 : decode cX8_isSign 0 = .ok (.iconst 0, 1) := by decide +kernel
theorem dX8_isSign_1 : decode cX8_isSign 1 = .ok (.istore_n 1, 1) := by decide +kernel
theorem dX8_isSign_2 : decode cX8_isSign 2 = .ok (.iload_n 1, 1) := by decide +kernel
theorem dX8_isSign_3 : decode cX8_isSign 3 = .ok (.ldc 151, 2) := by decide +kernel
theorem dX8_isSign_5 : decode cX8_isSign 5 = .ok (.invokevirtual 143, 3) := by decide +kernel
theorem dX8_isSign_8 : decode cX8_isSign 8 = .ok (.if_icmp .ge 21, 3) := by decide +kernel
theorem dX8_isSign_11 : decode cX8_isSign 11 = .ok (.ldc 151, 2) := by decide +kernel
theorem dX8_isSign_13 : decode cX8_isSign 13 = .ok (.iload_n 1, 1) := by decide +kernel
theorem dX8_isSign_14 : decode cX8_isSign 14 = .ok (.invokevirtual 147, 3) := by decide +kernel
theorem dX8_isSign_17 : decode cX8_isSign 17 = .ok (.iload_n 0, 1) := by decide +kernel
theorem dX8_isSign_18 : decode cX8_isSign 18 = .ok (.if_icmp .ne 5, 3) := by decide +kernel
theorem dX8_isSign_21 : decode cX8_isSign 21 = .ok (.iconst 1, 1) := by decide +kernel
theorem dX8_isSign_22 : decode cX8_isSign 22 = .ok (.ireturn, 1) := by decide +kernel
theorem dX8_isSign_23 : decode cX8_isSign 23 = .ok (.iinc 1 1, 3) := by decide +kernel
theorem dX8_isSign_26 : decode cX8_isSign 26 = .ok (.goto (-24), 3) := by decide +kernel
theorem dX8_isSign_29 : decode cX8_isSign 29 = .ok (.iconst 0, 1) := by decide +kernel
theorem dX8_isSign_30 : decode cX8_isSign 30 = .ok (.ireturn, 1) := by decide +kernel
theorem dX9_init_0 : decode cX9_init 0 = .ok (.aload_n 0, 1) := by decide +kernel
theorem dX9_init_1 : decode cX9_init 1 = .ok (.invokespecial 1, 3) := by decide +kernel
theorem dX9_init_4 : decode cX9_init 4 = .ok (.aload_n 0, 1) := by decide +kernel
theorem dX9_init_5 : decode cX9_init 5 = .ok (.iconst 1, 1) := by decide +kernel
theorem dX9_init_6 : decode cX9_init 6 = .ok (.putfield 7, 3) := by decide +kernel
theorem dX9_init_9 : decode cX9_init 9 = .ok (.aload_n 0, 1) := by decide +kernel
theorem dX9_init_10 : decode cX9_init 10 = .ok (.iconst 1, 1) := by decide +kernel
theorem dX9_init_11 : decode cX9_init 11 = .ok (.putfield 13, 3) := by decide +kernel
theorem dX9_init_14 : decode cX9_init 14 = .ok (.aload_n 0, 1) := by decide +kernel
theorem dX9_init_15 : decode cX9_init 15 = .ok (.iconst 1, 1) := by decide +kernel
theorem dX9_init_16 : decode cX9_init 16 = .ok (.putfield 16, 3) := by decide +kernel
theorem dX9_init_19 : decode cX9_init 19 = .ok (.return_, 1) := by decide +kernel
theorem dX9_forgetChoices_0 : decode cX9_forgetChoices 0 = .ok (.aload_n 0, 1) := by decide +kernel
theorem dX9_forgetChoices_1 : decode cX9_forgetChoices 1 = .ok (.iconst 0, 1) := by decide +kernel
theorem dX9_forgetChoices_2 : decode cX9_forgetChoices 2 = .ok (.putfield 19, 3) := by decide +kernel
theorem dX9_forgetChoices_5 : decode cX9_forgetChoices 5 = .ok (.aload_n 0, 1) := by decide +kernel
theorem dX9_forgetChoices_6 : decode cX9_forgetChoices 6 = .ok (.iconst 1, 1) := by decide +kernel
theorem dX9_forgetChoices_7 : decode cX9_forgetChoices 7 = .ok (.putfield 13, 3) := by decide +kernel
theorem dX9_forgetChoices_10 : decode cX9_forgetChoices 10 = .ok (.aload_n 0, 1) := by decide +kernel
theorem dX9_forgetChoices_11 : decode cX9_forgetChoices 11 = .ok (.iconst 1, 1) := by decide +kernel
theorem dX9_forgetChoices_12 : decode cX9_forgetChoices 12 = .ok (.putfield 16, 3) := by decide +kernel
theorem dX9_forgetChoices_15 : decode cX9_forgetChoices 15 = .ok (.return_, 1) := by decide +kernel
theorem dX9_holds_0 : decode cX9_holds 0 = .ok (.aload_n 0, 1) := by decide +kernel
theorem dX9_holds_1 : decode cX9_holds 1 = .ok (.getfield 22, 3) := by decide +kernel
theorem dX9_holds_4 : decode cX9_holds 4 = .ok (.iload_n 1, 1) := by decide +kernel
theorem dX9_holds_5 : decode cX9_holds 5 = .ok (.if_icmp .ne 30, 3) := by decide +kernel
theorem dX9_holds_8 : decode cX9_holds 8 = .ok (.aload_n 0, 1) := by decide +kernel
theorem dX9_holds_9 : decode cX9_holds 9 = .ok (.getfield 25, 3) := by decide +kernel
theorem dX9_holds_12 : decode cX9_holds 12 = .ok (.iload_n 2, 1) := by decide +kernel
theorem dX9_holds_13 : decode cX9_holds 13 = .ok (.if_icmp .ne 22, 3) := by decide +kernel
theorem dX9_holds_16 : decode cX9_holds 16 = .ok (.iload_n 3, 1) := by decide +kernel
theorem dX9_holds_17 : decode cX9_holds 17 = .ok (.aload_n 0, 1) := by decide +kernel
theorem dX9_holds_18 : decode cX9_holds 18 = .ok (.getfield 28, 3) := by decide +kernel
theorem dX9_holds_21 : decode cX9_holds 21 = .ok (.aload_n 0, 1) := by decide +kernel
theorem dX9_holds_22 : decode cX9_holds 22 = .ok (.getfield 31, 3) := by decide +kernel
theorem dX9_holds_25 : decode cX9_holds 25 = .ok (.invokestatic 34, 3) := by decide +kernel
theorem dX9_holds_28 : decode cX9_holds 28 = .ok (.ifCond .eq 7, 3) := by decide +kernel
theorem dX9_holds_31 : decode cX9_holds 31 = .ok (.iconst 1, 1) := by decide +kernel
theorem dX9_holds_32 : decode cX9_holds 32 = .ok (.goto 4, 3) := by decide +kernel
theorem dX9_holds_35 : decode cX9_holds 35 = .ok (.iconst 0, 1) := by decide +kernel
theorem dX9_holds_36 : decode cX9_holds 36 = .ok (.ireturn, 1) := by decide +kernel
theorem dX9_sumFor_0 : decode cX9_sumFor 0 = .ok (.aload_n 0, 1) := by decide +kernel
theorem dX9_sumFor_1 : decode cX9_sumFor 1 = .ok (.getfield 7, 3) := by decide +kernel
theorem dX9_sumFor_4 : decode cX9_sumFor 4 = .ok (.ifCond .le 14, 3) := by decide +kernel
theorem dX9_sumFor_7 : decode cX9_sumFor 7 = .ok (.iload_n 1, 1) := by decide +kernel
theorem dX9_sumFor_8 : decode cX9_sumFor 8 = .ok (.iconst 1, 1) := by decide +kernel
theorem dX9_sumFor_9 : decode cX9_sumFor 9 = .ok (.isub, 1) := by decide +kernel
theorem dX9_sumFor_10 : decode cX9_sumFor 10 = .ok (.aload_n 0, 1) := by decide +kernel
theorem dX9_sumFor_11 : decode cX9_sumFor 11 = .ok (.getfield 7, 3) := by decide +kernel
theorem dX9_sumFor_14 : decode cX9_sumFor 14 = .ok (.idiv, 1) := by decide +kernel
theorem dX9_sumFor_15 : decode cX9_sumFor 15 = .ok (.goto 4, 3) := by decide +kernel
theorem dX9_sumFor_18 : decode cX9_sumFor 18 = .ok (.iconst 0, 1) := by decide +kernel
theorem dX9_sumFor_19 : decode cX9_sumFor 19 = .ok (.istore_n 2, 1) := by decide +kernel
theorem dX9_sumFor_20 : decode cX9_sumFor 20 = .ok (.aload_n 0, 1) := by decide +kernel
theorem dX9_sumFor_21 : decode cX9_sumFor 21 = .ok (.getfield 40, 3) := by decide +kernel
theorem dX9_sumFor_24 : decode cX9_sumFor 24 = .ok (.aload_n 0, 1) := by decide +kernel
theorem dX9_sumFor_25 : decode cX9_sumFor 25 = .ok (.getfield 19, 3) := by decide +kernel
theorem dX9_sumFor_28 : decode cX9_sumFor 28 = .ok (.iload_n 2, 1) := by decide +kernel
theorem dX9_sumFor_29 : decode cX9_sumFor 29 = .ok (.imul, 1) := by decide +kernel
theorem dX9_sumFor_30 : decode cX9_sumFor 30 = .ok (.iadd, 1) := by decide +kernel
theorem dX9_sumFor_31 : decode cX9_sumFor 31 = .ok (.ireturn, 1) := by decide +kernel
theorem dX9_partOf_0 : decode cX9_partOf 0 = .ok (.aload_n 0, 1) := by decide +kernel
theorem dX9_partOf_1 : decode cX9_partOf 1 = .ok (.getfield 16, 3) := by decide +kernel
theorem dX9_partOf_4 : decode cX9_partOf 4 = .ok (.ifCond .le 17, 3) := by decide +kernel
theorem dX9_partOf_7 : decode cX9_partOf 7 = .ok (.iload_n 1, 1) := by decide +kernel
theorem dX9_partOf_8 : decode cX9_partOf 8 = .ok (.aload_n 0, 1) := by decide +kernel
theorem dX9_partOf_9 : decode cX9_partOf 9 = .ok (.getfield 13, 3) := by decide +kernel
theorem dX9_partOf_12 : decode cX9_partOf 12 = .ok (.imul, 1) := by decide +kernel
theorem dX9_partOf_13 : decode cX9_partOf 13 = .ok (.aload_n 0, 1) := by decide +kernel
theorem dX9_partOf_14 : decode cX9_partOf 14 = .ok (.getfield 16, 3) := by decide +kernel
theorem dX9_partOf_17 : decode cX9_partOf 17 = .ok (.idiv, 1) := by decide +kernel
theorem dX9_partOf_18 : decode cX9_partOf 18 = .ok (.goto 4, 3) := by decide +kernel
theorem dX9_partOf_21 : decode cX9_partOf 21 = .ok (.iload_n 1, 1) := by decide +kernel
theorem dX9_partOf_22 : decode cX9_partOf 22 = .ok (.ireturn, 1) := by decide +kernel
theorem dX10_init_0 : decode cX10_init 0 = .ok (.aload_n 0, 1) := by decide +kernel
theorem dX10_init_1 : decode cX10_init 1 = .ok (.invokespecial 3, 3) := by decide +kernel
theorem dX10_init_4 : decode cX10_init 4 = .ok (.aload_n 0, 1) := by decide +kernel
theorem dX10_init_5 : decode cX10_init 5 = .ok (.bipush 20, 2) := by decide +kernel
theorem dX10_init_7 : decode cX10_init 7 = .ok (.newarray .int, 2) := by decide +kernel
theorem dX10_init_9 : decode cX10_init 9 = .ok (.putfield 9, 3) := by decide +kernel
theorem dX10_init_12 : decode cX10_init 12 = .ok (.aload_n 0, 1) := by decide +kernel
theorem dX10_init_13 : decode cX10_init 13 = .ok (.bipush 20, 2) := by decide +kernel
theorem dX10_init_15 : decode cX10_init 15 = .ok (.newarray .int, 2) := by decide +kernel
theorem dX10_init_17 : decode cX10_init 17 = .ok (.putfield 15, 3) := by decide +kernel
theorem dX10_init_20 : decode cX10_init 20 = .ok (.aload_n 0, 1) := by decide +kernel
theorem dX10_init_21 : decode cX10_init 21 = .ok (.bipush 20, 2) := by decide +kernel
theorem dX10_init_23 : decode cX10_init 23 = .ok (.newarray .int, 2) := by decide +kernel
theorem dX10_init_25 : decode cX10_init 25 = .ok (.putfield 18, 3) := by decide +kernel
theorem dX10_init_28 : decode cX10_init 28 = .ok (.aload_n 0, 1) := by decide +kernel
theorem dX10_init_29 : decode cX10_init 29 = .ok (.bipush 20, 2) := by decide +kernel
theorem dX10_init_31 : decode cX10_init 31 = .ok (.newarray .int, 2) := by decide +kernel
theorem dX10_init_33 : decode cX10_init 33 = .ok (.putfield 21, 3) := by decide +kernel
theorem dX10_init_36 : decode cX10_init 36 = .ok (.aload_n 0, 1) := by decide +kernel
theorem dX10_init_37 : decode cX10_init 37 = .ok (.bipush 6, 2) := by decide +kernel
theorem dX10_init_39 : decode cX10_init 39 = .ok (.bipush 6, 2) := by decide +kernel
theorem dX10_init_41 : decode cX10_init 41 = .ok (.multianewarray 24 2, 4) := by decide +kernel
theorem dX10_init_45 : decode cX10_init 45 = .ok (.putfield 26, 3) := by decide +kernel
theorem dX10_init_48 : decode cX10_init 48 = .ok (.aload_n 0, 1) := by decide +kernel
theorem dX10_init_49 : decode cX10_init 49 = .ok (.bipush 6, 2) := by decide +kernel
theorem dX10_init_51 : decode cX10_init 51 = .ok (.newarray .int, 2) := by decide +kernel
theorem dX10_init_53 : decode cX10_init 53 = .ok (.putfield 29, 3) := by decide +kernel
theorem dX10_init_56 : decode cX10_init 56 = .ok (.aload_n 0, 1) := by decide +kernel
theorem dX10_init_57 : decode cX10_init 57 = .ok (.bipush 6, 2) := by decide +kernel
theorem dX10_init_59 : decode cX10_init 59 = .ok (.newarray .int, 2) := by decide +kernel
theorem dX10_init_61 : decode cX10_init 61 = .ok (.putfield 32, 3) := by decide +kernel
theorem dX10_init_64 : decode cX10_init 64 = .ok (.aload_n 0, 1) := by decide +kernel
theorem dX10_init_65 : decode cX10_init 65 = .ok (.iconst 0, 1) := by decide +kernel
theorem dX10_init_66 : decode cX10_init 66 = .ok (.putfield 35, 3) := by decide +kernel
theorem dX10_init_69 : decode cX10_init 69 = .ok (.iconst 0, 1) := by decide +kernel
theorem dX10_init_70 : decode cX10_init 70 = .ok (.istore_n 1, 1) := by decide +kernel
theorem dX10_init_71 : decode cX10_init 71 = .ok (.iload_n 1, 1) := by decide +kernel
theorem dX10_init_72 : decode cX10_init 72 = .ok (.bipush 6, 2) := by decide +kernel
theorem dX10_init_74 : decode cX10_init 74 = .ok (.if_icmp .ge 20, 3) := by decide +kernel
theorem dX10_init_77 : decode cX10_init 77 = .ok (.aload_n 0, 1) := by decide +kernel
theorem dX10_init_78 : decode cX10_init 78 = .ok (.getfield 26, 3) := by decide +kernel
theorem dX10_init_81 : decode cX10_init 81 = .ok (.iload_n 1, 1) := by decide +kernel
theorem dX10_init_82 : decode cX10_init 82 = .ok (.aaload, 1) := by decide +kernel
theorem dX10_init_83 : decode cX10_init 83 = .ok (.bipush (-9), 2) := by decide +kernel
theorem dX10_init_85 : decode cX10_init 85 = .ok (.invokestatic 39, 3) := by decide +kernel
theorem dX10_init_88 : decode cX10_init 88 = .ok (.iinc 1 1, 3) := by decide +kernel
theorem dX10_init_91 : decode cX10_init 91 = .ok (.goto (-20), 3) := by decide +kernel
theorem dX10_init_94 : decode cX10_init 94 = .ok (.return_, 1) := by decide +kernel
theorem dX10_addSailing_0 : decode cX10_addSailing 0 = .ok (.aload_n 0, 1) := by decide +kernel
theorem dX10_addSailing_1 : decode cX10_addSailing 1 = .ok (.getfield 9, 3) := by decide +kernel
theorem dX10_addSailing_4 : decode cX10_addSailing 4 = .ok (.aload_n 0, 1) := by decide +kernel
theorem dX10_addSailing_5 : decode cX10_addSailing 5 = .ok (.getfield 35, 3) := by decide +kernel
theorem dX10_addSailing_8 : decode cX10_addSailing 8 = .ok (.iload_n 1, 1) := by decide +kernel
theorem dX10_addSailing_9 : decode cX10_addSailing 9 = .ok (.iastore, 1) := by decide +kernel
theorem dX10_addSailing_10 : decode cX10_addSailing 10 = .ok (.aload_n 0, 1) := by decide +kernel
theorem dX10_addSailing_11 : decode cX10_addSailing 11 = .ok (.getfield 15, 3) := by decide +kernel
theorem dX10_addSailing_14 : decode cX10_addSailing 14 = .ok (.aload_n 0, 1) := by decide +kernel
theorem dX10_addSailing_15 : decode cX10_addSailing 15 = .ok (.getfield 35, 3) := by decide +kernel
theorem dX10_addSailing_18 : decode cX10_addSailing 18 = .ok (.iload_n 2, 1) := by decide +kernel
theorem dX10_addSailing_19 : decode cX10_addSailing 19 = .ok (.iastore, 1) := by decide +kernel
theorem dX10_addSailing_20 : decode cX10_addSailing 20 = .ok (.aload_n 0, 1) := by decide +kernel
theorem dX10_addSailing_21 : decode cX10_addSailing 21 = .ok (.getfield 18, 3) := by decide +kernel
theorem dX10_addSailing_24 : decode cX10_addSailing 24 = .ok (.aload_n 0, 1) := by decide +kernel
theorem dX10_addSailing_25 : decode cX10_addSailing 25 = .ok (.getfield 35, 3) := by decide +kernel
theorem dX10_addSailing_28 : decode cX10_addSailing 28 = .ok (.iload_n 3, 1) := by decide +kernel
theorem dX10_addSailing_29 : decode cX10_addSailing 29 = .ok (.iastore, 1) := by decide +kernel
theorem dX10_addSailing_30 : decode cX10_addSailing 30 = .ok (.aload_n 0, 1) := by decide +kernel
theorem dX10_addSailing_31 : decode cX10_addSailing 31 = .ok (.getfield 21, 3) := by decide +kernel
theorem dX10_addSailing_34 : decode cX10_addSailing 34 = .ok (.aload_n 0, 1) := by decide +kernel
theorem dX10_addSailing_35 : decode cX10_addSailing 35 = .ok (.getfield 35, 3) := by decide +kernel
theorem dX10_addSailing_38 : decode cX10_addSailing 38 = .ok (.iload 4, 2) := by decide +kernel
theorem dX10_addSailing_40 : decode cX10_addSailing 40 = .ok (.iastore, 1) := by decide +kernel
theorem dX10_addSailing_41 : decode cX10_addSailing 41 = .ok (.aload_n 0, 1) := by decide +kernel
theorem dX10_addSailing_42 : decode cX10_addSailing 42 = .ok (.dup, 1) := by decide +kernel
theorem dX10_addSailing_43 : decode cX10_addSailing 43 = .ok (.getfield 35, 3) := by decide +kernel
theorem dX10_addSailing_46 : decode cX10_addSailing 46 = .ok (.dup_x1, 1) := by decide +kernel
theorem dX10_addSailing_47 : decode cX10_addSailing 47 = .ok (.iconst 1, 1) := by decide +kernel
theorem dX10_addSailing_48 : decode cX10_addSailing 48 = .ok (.iadd, 1) := by decide +kernel
theorem dX10_addSailing_49 : decode cX10_addSailing 49 = .ok (.putfield 35, 3) := by decide +kernel
theorem dX10_addSailing_52 : decode cX10_addSailing 52 = .ok (.ireturn, 1) := by decide +kernel
theorem dX10_lostSailings_0 : decode cX10_lostSailings 0 = .ok (.iconst 0, 1) := by decide +kernel
theorem dX10_lostSailings_1 : decode cX10_lostSailings 1 = .ok (.istore_n 1, 1) := by decide +kernel
theorem dX10_lostSailings_2 : decode cX10_lostSailings 2 = .ok (.iconst 0, 1) := by decide +kernel
theorem dX10_lostSailings_3 : decode cX10_lostSailings 3 = .ok (.istore_n 2, 1) := by decide +kernel
theorem dX10_lostSailings_4 : decode cX10_lostSailings 4 = .ok (.iload_n 2, 1) := by decide +kernel
theorem dX10_lostSailings_5 : decode cX10_lostSailings 5 = .ok (.aload_n 0, 1) := by decide +kernel
theorem dX10_lostSailings_6 : decode cX10_lostSailings 6 = .ok (.getfield 35, 3) := by decide +kernel
theorem dX10_lostSailings_9 : decode cX10_lostSailings 9 = .ok (.if_icmp .ge 28, 3) := by decide +kernel
theorem dX10_lostSailings_12 : decode cX10_lostSailings 12 = .ok (.iload_n 1, 1) := by decide +kernel
theorem dX10_lostSailings_13 : decode cX10_lostSailings 13 = .ok (.aload_n 0, 1) := by decide +kernel
theorem dX10_lostSailings_14 : decode cX10_lostSailings 14 = .ok (.getfield 21, 3) := by decide +kernel
theorem dX10_lostSailings_17 : decode cX10_lostSailings 17 = .ok (.iload_n 2, 1) := by decide +kernel
theorem dX10_lostSailings_18 : decode cX10_lostSailings 18 = .ok (.iaload, 1) := by decide +kernel
theorem dX10_lostSailings_19 : decode cX10_lostSailings 19 = .ok (.bipush (-9), 2) := by decide +kernel
theorem dX10_lostSailings_21 : decode cX10_lostSailings 21 = .ok (.if_icmp .ne 7, 3) := by decide +kernel
theorem dX10_lostSailings_24 : decode cX10_lostSailings 24 = .ok (.iconst 1, 1) := by decide +kernel
theorem dX10_lostSailings_25 : decode cX10_lostSailings 25 = .ok (.goto 4, 3) := by decide +kernel
theorem dX10_lostSailings_28 : decode cX10_lostSailings 28 = .ok (.iconst 0, 1) := by decide +kernel
theorem dX10_lostSailings_29 : decode cX10_lostSailings 29 = .ok (.iadd, 1) := by decide +kernel
theorem dX10_lostSailings_30 : decode cX10_lostSailings 30 = .ok (.istore_n 1, 1) := by decide +kernel
theorem dX10_lostSailings_31 : decode cX10_lostSailings 31 = .ok (.iinc 2 1, 3) := by decide +kernel
theorem dX10_lostSailings_34 : decode cX10_lostSailings 34 = .ok (.goto (-30), 3) := by decide +kernel
theorem dX10_lostSailings_37 : decode cX10_lostSailings 37 = .ok (.iload_n 1, 1) := by decide +kernel
theorem dX10_lostSailings_38 : decode cX10_lostSailings 38 = .ok (.ireturn, 1) := by decide +kernel
theorem dX10_spreadFrom_0 : decode cX10_spreadFrom 0 = .ok (.aload_n 0, 1) := by decide +kernel
theorem dX10_spreadFrom_1 : decode cX10_spreadFrom 1 = .ok (.getfield 29, 3) := by decide +kernel
theorem dX10_spreadFrom_4 : decode cX10_spreadFrom 4 = .ok (.sipush 1000, 3) := by decide +kernel
theorem dX10_spreadFrom_7 : decode cX10_spreadFrom 7 = .ok (.invokestatic 39, 3) := by decide +kernel
theorem dX10_spreadFrom_10 : decode cX10_spreadFrom 10 = .ok (.aload_n 0, 1) := by decide +kernel
theorem dX10_spreadFrom_11 : decode cX10_spreadFrom 11 = .ok (.getfield 29, 3) := by decide +kernel
theorem dX10_spreadFrom_14 : decode cX10_spreadFrom 14 = .ok (.iload_n 1, 1) := by decide +kernel
theorem dX10_spreadFrom_15 : decode cX10_spreadFrom 15 = .ok (.iload_n 2, 1) := by decide +kernel
theorem dX10_spreadFrom_16 : decode cX10_spreadFrom 16 = .ok (.iastore, 1) := by decide +kernel
theorem dX10_spreadFrom_17 : decode cX10_spreadFrom 17 = .ok (.iconst 1, 1) := by decide +kernel
theorem dX10_spreadFrom_18 : decode cX10_spreadFrom 18 = .ok (.istore_n 3, 1) := by decide +kernel
theorem dX10_spreadFrom_19 : decode cX10_spreadFrom 19 = .ok (.iconst 0, 1) := by decide +kernel
theorem dX10_spreadFrom_20 : decode cX10_spreadFrom 20 = .ok (.istore 4, 2) := by decide +kernel
theorem dX10_spreadFrom_22 : decode cX10_spreadFrom 22 = .ok (.iload 4, 2) := by decide +kernel
theorem dX10_spreadFrom_24 : decode cX10_spreadFrom 24 = .ok (.bipush 6, 2) := by decide +kernel
theorem dX10_spreadFrom_26 : decode cX10_spreadFrom 26 = .ok (.if_icmp .ge 35, 3) := by decide +kernel
theorem dX10_spreadFrom_29 : decode cX10_spreadFrom 29 = .ok (.iload_n 3, 1) := by decide +kernel
theorem dX10_spreadFrom_30 : decode cX10_spreadFrom 30 = .ok (.ifCond .eq 31, 3) := by decide +kernel
theorem dX10_spreadFrom_33 : decode cX10_spreadFrom 33 = .ok (.aload_n 0, 1) := by decide +kernel
theorem dX10_spreadFrom_34 : decode cX10_spreadFrom 34 = .ok (.invokevirtual 45, 3) := by decide +kernel
theorem dX10_spreadFrom_37 : decode cX10_spreadFrom 37 = .ok (.istore_n 3, 1) := by decide +kernel
theorem dX10_spreadFrom_38 : decode cX10_spreadFrom 38 = .ok (.aload_n 0, 1) := by decide +kernel
theorem dX10_spreadFrom_39 : decode cX10_spreadFrom 39 = .ok (.invokevirtual 49, 3) := by decide +kernel
theorem dX10_spreadFrom_42 : decode cX10_spreadFrom 42 = .ok (.ifCond .ne 7, 3) := by decide +kernel
theorem dX10_spreadFrom_45 : decode cX10_spreadFrom 45 = .ok (.iload_n 3, 1) := by decide +kernel
theorem dX10_spreadFrom_46 : decode cX10_spreadFrom 46 = .ok (.ifCond .eq 7, 3) := by decide +kernel
theorem dX10_spreadFrom_49 : decode cX10_spreadFrom 49 = .ok (.iconst 1, 1) := by decide +kernel
theorem dX10_spreadFrom_50 : decode cX10_spreadFrom 50 = .ok (.goto 4, 3) := by decide +kernel
theorem dX10_spreadFrom_53 : decode cX10_spreadFrom 53 = .ok (.iconst 0, 1) := by decide +kernel
theorem dX10_spreadFrom_54 : decode cX10_spreadFrom 54 = .ok (.istore_n 3, 1) := by decide +kernel
theorem dX10_spreadFrom_55 : decode cX10_spreadFrom 55 = .ok (.iinc 4 1, 3) := by decide +kernel
theorem dX10_spreadFrom_58 : decode cX10_spreadFrom 58 = .ok (.goto (-36), 3) := by decide +kernel
theorem dX10_spreadFrom_61 : decode cX10_spreadFrom 61 = .ok (.return_, 1) := by decide +kernel
theorem dX10_spreadBySailings_0 : decode cX10_spreadBySailings 0 = .ok (.iconst 0, 1) := by decide +kernel
theorem dX10_spreadBySailings_1 : decode cX10_spreadBySailings 1 = .ok (.istore_n 1, 1) := by decide +kernel
theorem dX10_spreadBySailings_2 : decode cX10_spreadBySailings 2 = .ok (.iconst 0, 1) := by decide +kernel
theorem dX10_spreadBySailings_3 : decode cX10_spreadBySailings 3 = .ok (.istore_n 2, 1) := by decide +kernel
theorem dX10_spreadBySailings_4 : decode cX10_spreadBySailings 4 = .ok (.iload_n 2, 1) := by decide +kernel
theorem dX10_spreadBySailings_5 : decode cX10_spreadBySailings 5 = .ok (.aload_n 0, 1) := by decide +kernel
theorem dX10_spreadBySailings_6 : decode cX10_spreadBySailings 6 = .ok (.getfield 35, 3) := by decide +kernel
theorem dX10_spreadBySailings_9 : decode cX10_spreadBySailings 9 = .ok (.if_icmp .ge 79, 3) := by decide +kernel
theorem dX10_spreadBySailings_12 : decode cX10_spreadBySailings 12 = .ok (.aload_n 0, 1) := by decide +kernel
theorem dX10_spreadBySailings_13 : decode cX10_spreadBySailings 13 = .ok (.getfield 21, 3) := by decide +kernel
theorem dX10_spreadBySailings_16 : decode cX10_spreadBySailings 16 = .ok (.iload_n 2, 1) := by decide +kernel
theorem dX10_spreadBySailings_17 : decode cX10_spreadBySailings 17 = .ok (.iaload, 1) := by decide +kernel
theorem dX10_spreadBySailings_18 : decode cX10_spreadBySailings 18 = .ok (.bipush (-9), 2) := by decide +kernel
theorem dX10_spreadBySailings_20 : decode cX10_spreadBySailings 20 = .ok (.if_icmp .eq 62, 3) := by decide +kernel
theorem dX10_spreadBySailings_23 : decode cX10_spreadBySailings 23 = .ok (.aload_n 0, 1) := by decide +kernel
theorem dX10_spreadBySailings_24 : decode cX10_spreadBySailings 24 = .ok (.getfield 29, 3) := by decide +kernel
theorem dX10_spreadBySailings_27 : decode cX10_spreadBySailings 27 = .ok (.aload_n 0, 1) := by decide +kernel
theorem dX10_spreadBySailings_28 : decode cX10_spreadBySailings 28 = .ok (.getfield 9, 3) := by decide +kernel
theorem dX10_spreadBySailings_31 : decode cX10_spreadBySailings 31 = .ok (.iload_n 2, 1) := by decide +kernel
theorem dX10_spreadBySailings_32 : decode cX10_spreadBySailings 32 = .ok (.iaload, 1) := by decide +kernel
theorem dX10_spreadBySailings_33 : decode cX10_spreadBySailings 33 = .ok (.iaload, 1) := by decide +kernel
theorem dX10_spreadBySailings_34 : decode cX10_spreadBySailings 34 = .ok (.aload_n 0, 1) := by decide +kernel
theorem dX10_spreadBySailings_35 : decode cX10_spreadBySailings 35 = .ok (.getfield 18, 3) := by decide +kernel
theorem dX10_spreadBySailings_38 : decode cX10_spreadBySailings 38 = .ok (.iload_n 2, 1) := by decide +kernel
theorem dX10_spreadBySailings_39 : decode cX10_spreadBySailings 39 = .ok (.iaload, 1) := by decide +kernel
theorem dX10_spreadBySailings_40 : decode cX10_spreadBySailings 40 = .ok (.if_icmp .gt 42, 3) := by decide +kernel
theorem dX10_spreadBySailings_43 : decode cX10_spreadBySailings 43 = .ok (.aload_n 0, 1) := by decide +kernel
theorem dX10_spreadBySailings_44 : decode cX10_spreadBySailings 44 = .ok (.getfield 21, 3) := by decide +kernel
theorem dX10_spreadBySailings_47 : decode cX10_spreadBySailings 47 = .ok (.iload_n 2, 1) := by decide +kernel
theorem dX10_spreadBySailings_48 : decode cX10_spreadBySailings 48 = .ok (.iaload, 1) := by decide +kernel
theorem dX10_spreadBySailings_49 : decode cX10_spreadBySailings 49 = .ok (.aload_n 0, 1) := by decide +kernel
theorem dX10_spreadBySailings_50 : decode cX10_spreadBySailings 50 = .ok (.getfield 29, 3) := by decide +kernel
theorem dX10_spreadBySailings_53 : decode cX10_spreadBySailings 53 = .ok (.aload_n 0, 1) := by decide +kernel
theorem dX10_spreadBySailings_54 : decode cX10_spreadBySailings 54 = .ok (.getfield 15, 3) := by decide +kernel
theorem dX10_spreadBySailings_57 : decode cX10_spreadBySailings 57 = .ok (.iload_n 2, 1) := by decide +kernel
theorem dX10_spreadBySailings_58 : decode cX10_spreadBySailings 58 = .ok (.iaload, 1) := by decide +kernel
theorem dX10_spreadBySailings_59 : decode cX10_spreadBySailings 59 = .ok (.iaload, 1) := by decide +kernel
theorem dX10_spreadBySailings_60 : decode cX10_spreadBySailings 60 = .ok (.if_icmp .ge 22, 3) := by decide +kernel
theorem dX10_spreadBySailings_63 : decode cX10_spreadBySailings 63 = .ok (.aload_n 0, 1) := by decide +kernel
theorem dX10_spreadBySailings_64 : decode cX10_spreadBySailings 64 = .ok (.getfield 29, 3) := by decide +kernel
theorem dX10_spreadBySailings_67 : decode cX10_spreadBySailings 67 = .ok (.aload_n 0, 1) := by decide +kernel
theorem dX10_spreadBySailings_68 : decode cX10_spreadBySailings 68 = .ok (.getfield 15, 3) := by decide +kernel
theorem dX10_spreadBySailings_71 : decode cX10_spreadBySailings 71 = .ok (.iload_n 2, 1) := by decide +kernel
theorem dX10_spreadBySailings_72 : decode cX10_spreadBySailings 72 = .ok (.iaload, 1) := by decide +kernel
theorem dX10_spreadBySailings_73 : decode cX10_spreadBySailings 73 = .ok (.aload_n 0, 1) := by decide +kernel
theorem dX10_spreadBySailings_74 : decode cX10_spreadBySailings 74 = .ok (.getfield 21, 3) := by decide +kernel
theorem dX10_spreadBySailings_77 : decode cX10_spreadBySailings 77 = .ok (.iload_n 2, 1) := by decide +kernel
theorem dX10_spreadBySailings_78 : decode cX10_spreadBySailings 78 = .ok (.iaload, 1) := by decide +kernel
theorem dX10_spreadBySailings_79 : decode cX10_spreadBySailings 79 = .ok (.iastore, 1) := by decide +kernel
theorem dX10_spreadBySailings_80 : decode cX10_spreadBySailings 80 = .ok (.iconst 1, 1) := by decide +kernel
theorem dX10_spreadBySailings_81 : decode cX10_spreadBySailings 81 = .ok (.istore_n 1, 1) := by decide +kernel
theorem dX10_spreadBySailings_82 : decode cX10_spreadBySailings 82 = .ok (.iinc 2 1, 3) := by decide +kernel
theorem dX10_spreadBySailings_85 : decode cX10_spreadBySailings 85 = .ok (.goto (-81), 3) := by decide +kernel
theorem dX10_spreadBySailings_88 : decode cX10_spreadBySailings 88 = .ok (.iload_n 1, 1) := by decide +kernel
theorem dX10_spreadBySailings_89 : decode cX10_spreadBySailings 89 = .ok (.ireturn, 1) := by decide +kernel
theorem dX10_spreadByRoads_0 : decode cX10_spreadByRoads 0 = .ok (.iconst 0, 1) := by decide +kernel
theorem dX10_spreadByRoads_1 : decode cX10_spreadByRoads 1 = .ok (.istore_n 1, 1) := by decide +kernel
theorem dX10_spreadByRoads_2 : decode cX10_spreadByRoads 2 = .ok (.iconst 0, 1) := by decide +kernel
theorem dX10_spreadByRoads_3 : decode cX10_spreadByRoads 3 = .ok (.istore_n 2, 1) := by decide +kernel
theorem dX10_spreadByRoads_4 : decode cX10_spreadByRoads 4 = .ok (.iload_n 2, 1) := by decide +kernel
theorem dX10_spreadByRoads_5 : decode cX10_spreadByRoads 5 = .ok (.bipush 6, 2) := by decide +kernel
theorem dX10_spreadByRoads_7 : decode cX10_spreadByRoads 7 = .ok (.if_icmp .ge 83, 3) := by decide +kernel
theorem dX10_spreadByRoads_10 : decode cX10_spreadByRoads 10 = .ok (.iconst 0, 1) := by decide +kernel
theorem dX10_spreadByRoads_11 : decode cX10_spreadByRoads 11 = .ok (.istore_n 3, 1) := by decide +kernel
theorem dX10_spreadByRoads_12 : decode cX10_spreadByRoads 12 = .ok (.iload_n 3, 1) := by decide +kernel
theorem dX10_spreadByRoads_13 : decode cX10_spreadByRoads 13 = .ok (.bipush 6, 2) := by decide +kernel
theorem dX10_spreadByRoads_15 : decode cX10_spreadByRoads 15 = .ok (.if_icmp .ge 69, 3) := by decide +kernel
theorem dX10_spreadByRoads_18 : decode cX10_spreadByRoads 18 = .ok (.aload_n 0, 1) := by decide +kernel
theorem dX10_spreadByRoads_19 : decode cX10_spreadByRoads 19 = .ok (.getfield 26, 3) := by decide +kernel
theorem dX10_spreadByRoads_22 : decode cX10_spreadByRoads 22 = .ok (.iload_n 2, 1) := by decide +kernel
theorem dX10_spreadByRoads_23 : decode cX10_spreadByRoads 23 = .ok (.aaload, 1) := by decide +kernel
theorem dX10_spreadByRoads_24 : decode cX10_spreadByRoads 24 = .ok (.iload_n 3, 1) := by decide +kernel
theorem dX10_spreadByRoads_25 : decode cX10_spreadByRoads 25 = .ok (.iaload, 1) := by decide +kernel
theorem dX10_spreadByRoads_26 : decode cX10_spreadByRoads 26 = .ok (.bipush (-9), 2) := by decide +kernel
theorem dX10_spreadByRoads_28 : decode cX10_spreadByRoads 28 = .ok (.if_icmp .eq 50, 3) := by decide +kernel
theorem dX10_spreadByRoads_31 : decode cX10_spreadByRoads 31 = .ok (.aload_n 0, 1) := by decide +kernel
theorem dX10_spreadByRoads_32 : decode cX10_spreadByRoads 32 = .ok (.getfield 29, 3) := by decide +kernel
theorem dX10_spreadByRoads_35 : decode cX10_spreadByRoads 35 = .ok (.iload_n 2, 1) := by decide +kernel
theorem dX10_spreadByRoads_36 : decode cX10_spreadByRoads 36 = .ok (.iaload, 1) := by decide +kernel
theorem dX10_spreadByRoads_37 : decode cX10_spreadByRoads 37 = .ok (.aload_n 0, 1) := by decide +kernel
theorem dX10_spreadByRoads_38 : decode cX10_spreadByRoads 38 = .ok (.getfield 26, 3) := by decide +kernel
theorem dX10_spreadByRoads_41 : decode cX10_spreadByRoads 41 = .ok (.iload_n 2, 1) := by decide +kernel
theorem dX10_spreadByRoads_42 : decode cX10_spreadByRoads 42 = .ok (.aaload, 1) := by decide +kernel
theorem dX10_spreadByRoads_43 : decode cX10_spreadByRoads 43 = .ok (.iload_n 3, 1) := by decide +kernel
theorem dX10_spreadByRoads_44 : decode cX10_spreadByRoads 44 = .ok (.iaload, 1) := by decide +kernel
theorem dX10_spreadByRoads_45 : decode cX10_spreadByRoads 45 = .ok (.iadd, 1) := by decide +kernel
theorem dX10_spreadByRoads_46 : decode cX10_spreadByRoads 46 = .ok (.aload_n 0, 1) := by decide +kernel
theorem dX10_spreadByRoads_47 : decode cX10_spreadByRoads 47 = .ok (.getfield 29, 3) := by decide +kernel
theorem dX10_spreadByRoads_50 : decode cX10_spreadByRoads 50 = .ok (.iload_n 3, 1) := by decide +kernel
theorem dX10_spreadByRoads_51 : decode cX10_spreadByRoads 51 = .ok (.iaload, 1) := by decide +kernel
theorem dX10_spreadByRoads_52 : decode cX10_spreadByRoads 52 = .ok (.if_icmp .ge 26, 3) := by decide +kernel
theorem dX10_spreadByRoads_55 : decode cX10_spreadByRoads 55 = .ok (.aload_n 0, 1) := by decide +kernel
theorem dX10_spreadByRoads_56 : decode cX10_spreadByRoads 56 = .ok (.getfield 29, 3) := by decide +kernel
theorem dX10_spreadByRoads_59 : decode cX10_spreadByRoads 59 = .ok (.iload_n 3, 1) := by decide +kernel
theorem dX10_spreadByRoads_60 : decode cX10_spreadByRoads 60 = .ok (.aload_n 0, 1) := by decide +kernel
theorem dX10_spreadByRoads_61 : decode cX10_spreadByRoads 61 = .ok (.getfield 29, 3) := by decide +kernel
theorem dX10_spreadByRoads_64 : decode cX10_spreadByRoads 64 = .ok (.iload_n 2, 1) := by decide +kernel
theorem dX10_spreadByRoads_65 : decode cX10_spreadByRoads 65 = .ok (.iaload, 1) := by decide +kernel
theorem dX10_spreadByRoads_66 : decode cX10_spreadByRoads 66 = .ok (.aload_n 0, 1) := by decide +kernel
theorem dX10_spreadByRoads_67 : decode cX10_spreadByRoads 67 = .ok (.getfield 26, 3) := by decide +kernel
theorem dX10_spreadByRoads_70 : decode cX10_spreadByRoads 70 = .ok (.iload_n 2, 1) := by decide +kernel
theorem dX10_spreadByRoads_71 : decode cX10_spreadByRoads 71 = .ok (.aaload, 1) := by decide +kernel
theorem dX10_spreadByRoads_72 : decode cX10_spreadByRoads 72 = .ok (.iload_n 3, 1) := by decide +kernel
theorem dX10_spreadByRoads_73 : decode cX10_spreadByRoads 73 = .ok (.iaload, 1) := by decide +kernel
theorem dX10_spreadByRoads_74 : decode cX10_spreadByRoads 74 = .ok (.iadd, 1) := by decide +kernel
theorem dX10_spreadByRoads_75 : decode cX10_spreadByRoads 75 = .ok (.iastore, 1) := by decide +kernel
theorem dX10_spreadByRoads_76 : decode cX10_spreadByRoads 76 = .ok (.iconst 1, 1) := by decide +kernel
theorem dX10_spreadByRoads_77 : decode cX10_spreadByRoads 77 = .ok (.istore_n 1, 1) := by decide +kernel
theorem dX10_spreadByRoads_78 : decode cX10_spreadByRoads 78 = .ok (.iinc 3 1, 3) := by decide +kernel
theorem dX10_spreadByRoads_81 : decode cX10_spreadByRoads 81 = .ok (.goto (-69), 3) := by decide +kernel
theorem dX10_spreadByRoads_84 : decode cX10_spreadByRoads 84 = .ok (.iinc 2 1, 3) := by decide +kernel
theorem dX10_spreadByRoads_87 : decode cX10_spreadByRoads 87 = .ok (.goto (-83), 3) := by decide +kernel
theorem dX10_spreadByRoads_90 : decode cX10_spreadByRoads 90 = .ok (.iload_n 1, 1) := by decide +kernel
theorem dX10_spreadByRoads_91 : decode cX10_spreadByRoads 91 = .ok (.ireturn, 1) := by decide +kernel
theorem dX10_drawBackFrom_0 : decode cX10_drawBackFrom 0 = .ok (.aload_n 0, 1) := by decide +kernel
theorem dX10_drawBackFrom_1 : decode cX10_drawBackFrom 1 = .ok (.getfield 32, 3) := by decide +kernel
theorem dX10_drawBackFrom_4 : decode cX10_drawBackFrom 4 = .ok (.iconst (-1), 1) := by decide +kernel
theorem dX10_drawBackFrom_5 : decode cX10_drawBackFrom 5 = .ok (.invokestatic 39, 3) := by decide +kernel
theorem dX10_drawBackFrom_8 : decode cX10_drawBackFrom 8 = .ok (.aload_n 0, 1) := by decide +kernel
theorem dX10_drawBackFrom_9 : decode cX10_drawBackFrom 9 = .ok (.getfield 32, 3) := by decide +kernel
theorem dX10_drawBackFrom_12 : decode cX10_drawBackFrom 12 = .ok (.iload_n 1, 1) := by decide +kernel
theorem dX10_drawBackFrom_13 : decode cX10_drawBackFrom 13 = .ok (.iload_n 2, 1) := by decide +kernel
theorem dX10_drawBackFrom_14 : decode cX10_drawBackFrom 14 = .ok (.iastore, 1) := by decide +kernel
theorem dX10_drawBackFrom_15 : decode cX10_drawBackFrom 15 = .ok (.iconst 1, 1) := by decide +kernel
theorem dX10_drawBackFrom_16 : decode cX10_drawBackFrom 16 = .ok (.istore_n 3, 1) := by decide +kernel
theorem dX10_drawBackFrom_17 : decode cX10_drawBackFrom 17 = .ok (.iconst 0, 1) := by decide +kernel
theorem dX10_drawBackFrom_18 : decode cX10_drawBackFrom 18 = .ok (.istore 4, 2) := by decide +kernel
theorem dX10_drawBackFrom_20 : decode cX10_drawBackFrom 20 = .ok (.iload 4, 2) := by decide +kernel
theorem dX10_drawBackFrom_22 : decode cX10_drawBackFrom 22 = .ok (.bipush 6, 2) := by decide +kernel
theorem dX10_drawBackFrom_24 : decode cX10_drawBackFrom 24 = .ok (.if_icmp .ge 35, 3) := by decide +kernel
theorem dX10_drawBackFrom_27 : decode cX10_drawBackFrom 27 = .ok (.iload_n 3, 1) := by decide +kernel
theorem dX10_drawBackFrom_28 : decode cX10_drawBackFrom 28 = .ok (.ifCond .eq 31, 3) := by decide +kernel
theorem dX10_drawBackFrom_31 : decode cX10_drawBackFrom 31 = .ok (.aload_n 0, 1) := by decide +kernel
theorem dX10_drawBackFrom_32 : decode cX10_drawBackFrom 32 = .ok (.invokevirtual 52, 3) := by decide +kernel
theorem dX10_drawBackFrom_35 : decode cX10_drawBackFrom 35 = .ok (.istore_n 3, 1) := by decide +kernel
theorem dX10_drawBackFrom_36 : decode cX10_drawBackFrom 36 = .ok (.aload_n 0, 1) := by decide +kernel
theorem dX10_drawBackFrom_37 : decode cX10_drawBackFrom 37 = .ok (.invokevirtual 55, 3) := by decide +kernel
theorem dX10_drawBackFrom_40 : decode cX10_drawBackFrom 40 = .ok (.ifCond .ne 7, 3) := by decide +kernel
theorem dX10_drawBackFrom_43 : decode cX10_drawBackFrom 43 = .ok (.iload_n 3, 1) := by decide +kernel
theorem dX10_drawBackFrom_44 : decode cX10_drawBackFrom 44 = .ok (.ifCond .eq 7, 3) := by decide +kernel
theorem dX10_drawBackFrom_47 : decode cX10_drawBackFrom 47 = .ok (.iconst 1, 1) := by decide +kernel
theorem dX10_drawBackFrom_48 : decode cX10_drawBackFrom 48 = .ok (.goto 4, 3) := by decide +kernel
theorem dX10_drawBackFrom_51 : decode cX10_drawBackFrom 51 = .ok (.iconst 0, 1) := by decide +kernel
theorem dX10_drawBackFrom_52 : decode cX10_drawBackFrom 52 = .ok (.istore_n 3, 1) := by decide +kernel
theorem dX10_drawBackFrom_53 : decode cX10_drawBackFrom 53 = .ok (.iinc 4 1, 3) := by decide +kernel
theorem dX10_drawBackFrom_56 : decode cX10_drawBackFrom 56 = .ok (.goto (-36), 3) := by decide +kernel
theorem dX10_drawBackFrom_59 : decode cX10_drawBackFrom 59 = .ok (.return_, 1) := by decide +kernel
theorem dX10_drawBackBySailings_0 : decode cX10_drawBackBySailings 0 = .ok (.iconst 0, 1) := by decide +kernel
theorem dX10_drawBackBySailings_1 : decode cX10_drawBackBySailings 1 = .ok (.istore_n 1, 1) := by decide +kernel
theorem dX10_drawBackBySailings_2 : decode cX10_drawBackBySailings 2 = .ok (.iconst 0, 1) := by decide +kernel
theorem dX10_drawBackBySailings_3 : decode cX10_drawBackBySailings 3 = .ok (.istore_n 2, 1) := by decide +kernel
theorem dX10_drawBackBySailings_4 : decode cX10_drawBackBySailings 4 = .ok (.iload_n 2, 1) := by decide +kernel
theorem dX10_drawBackBySailings_5 : decode cX10_drawBackBySailings 5 = .ok (.aload_n 0, 1) := by decide +kernel
theorem dX10_drawBackBySailings_6 : decode cX10_drawBackBySailings 6 = .ok (.getfield 35, 3) := by decide +kernel
theorem dX10_drawBackBySailings_9 : decode cX10_drawBackBySailings 9 = .ok (.if_icmp .ge 79, 3) := by decide +kernel
theorem dX10_drawBackBySailings_12 : decode cX10_drawBackBySailings 12 = .ok (.aload_n 0, 1) := by decide +kernel
theorem dX10_drawBackBySailings_13 : decode cX10_drawBackBySailings 13 = .ok (.getfield 21, 3) := by decide +kernel
theorem dX10_drawBackBySailings_16 : decode cX10_drawBackBySailings 16 = .ok (.iload_n 2, 1) := by decide +kernel
theorem dX10_drawBackBySailings_17 : decode cX10_drawBackBySailings 17 = .ok (.iaload, 1) := by decide +kernel
theorem dX10_drawBackBySailings_18 : decode cX10_drawBackBySailings 18 = .ok (.bipush (-9), 2) := by decide +kernel
theorem dX10_drawBackBySailings_20 : decode cX10_drawBackBySailings 20 = .ok (.if_icmp .eq 62, 3) := by decide +kernel
theorem dX10_drawBackBySailings_23 : decode cX10_drawBackBySailings 23 = .ok (.aload_n 0, 1) := by decide +kernel
theorem dX10_drawBackBySailings_24 : decode cX10_drawBackBySailings 24 = .ok (.getfield 21, 3) := by decide +kernel
theorem dX10_drawBackBySailings_27 : decode cX10_drawBackBySailings 27 = .ok (.iload_n 2, 1) := by decide +kernel
theorem dX10_drawBackBySailings_28 : decode cX10_drawBackBySailings 28 = .ok (.iaload, 1) := by decide +kernel
theorem dX10_drawBackBySailings_29 : decode cX10_drawBackBySailings 29 = .ok (.aload_n 0, 1) := by decide +kernel
theorem dX10_drawBackBySailings_30 : decode cX10_drawBackBySailings 30 = .ok (.getfield 32, 3) := by decide +kernel
theorem dX10_drawBackBySailings_33 : decode cX10_drawBackBySailings 33 = .ok (.aload_n 0, 1) := by decide +kernel
theorem dX10_drawBackBySailings_34 : decode cX10_drawBackBySailings 34 = .ok (.getfield 15, 3) := by decide +kernel
theorem dX10_drawBackBySailings_37 : decode cX10_drawBackBySailings 37 = .ok (.iload_n 2, 1) := by decide +kernel
theorem dX10_drawBackBySailings_38 : decode cX10_drawBackBySailings 38 = .ok (.iaload, 1) := by decide +kernel
theorem dX10_drawBackBySailings_39 : decode cX10_drawBackBySailings 39 = .ok (.iaload, 1) := by decide +kernel
theorem dX10_drawBackBySailings_40 : decode cX10_drawBackBySailings 40 = .ok (.if_icmp .gt 42, 3) := by decide +kernel
theorem dX10_drawBackBySailings_43 : decode cX10_drawBackBySailings 43 = .ok (.aload_n 0, 1) := by decide +kernel
theorem dX10_drawBackBySailings_44 : decode cX10_drawBackBySailings 44 = .ok (.getfield 18, 3) := by decide +kernel
theorem dX10_drawBackBySailings_47 : decode cX10_drawBackBySailings 47 = .ok (.iload_n 2, 1) := by decide +kernel
theorem dX10_drawBackBySailings_48 : decode cX10_drawBackBySailings 48 = .ok (.iaload, 1) := by decide +kernel
theorem dX10_drawBackBySailings_49 : decode cX10_drawBackBySailings 49 = .ok (.aload_n 0, 1) := by decide +kernel
theorem dX10_drawBackBySailings_50 : decode cX10_drawBackBySailings 50 = .ok (.getfield 32, 3) := by decide +kernel
theorem dX10_drawBackBySailings_53 : decode cX10_drawBackBySailings 53 = .ok (.aload_n 0, 1) := by decide +kernel
theorem dX10_drawBackBySailings_54 : decode cX10_drawBackBySailings 54 = .ok (.getfield 9, 3) := by decide +kernel
theorem dX10_drawBackBySailings_57 : decode cX10_drawBackBySailings 57 = .ok (.iload_n 2, 1) := by decide +kernel
theorem dX10_drawBackBySailings_58 : decode cX10_drawBackBySailings 58 = .ok (.iaload, 1) := by decide +kernel
theorem dX10_drawBackBySailings_59 : decode cX10_drawBackBySailings 59 = .ok (.iaload, 1) := by decide +kernel
theorem dX10_drawBackBySailings_60 : decode cX10_drawBackBySailings 60 = .ok (.if_icmp .le 22, 3) := by decide +kernel
theorem dX10_drawBackBySailings_63 : decode cX10_drawBackBySailings 63 = .ok (.aload_n 0, 1) := by decide +kernel
theorem dX10_drawBackBySailings_64 : decode cX10_drawBackBySailings 64 = .ok (.getfield 32, 3) := by decide +kernel
theorem dX10_drawBackBySailings_67 : decode cX10_drawBackBySailings 67 = .ok (.aload_n 0, 1) := by decide +kernel
theorem dX10_drawBackBySailings_68 : decode cX10_drawBackBySailings 68 = .ok (.getfield 9, 3) := by decide +kernel
theorem dX10_drawBackBySailings_71 : decode cX10_drawBackBySailings 71 = .ok (.iload_n 2, 1) := by decide +kernel
theorem dX10_drawBackBySailings_72 : decode cX10_drawBackBySailings 72 = .ok (.iaload, 1) := by decide +kernel
theorem dX10_drawBackBySailings_73 : decode cX10_drawBackBySailings 73 = .ok (.aload_n 0, 1) := by decide +kernel
theorem dX10_drawBackBySailings_74 : decode cX10_drawBackBySailings 74 = .ok (.getfield 18, 3) := by decide +kernel
theorem dX10_drawBackBySailings_77 : decode cX10_drawBackBySailings 77 = .ok (.iload_n 2, 1) := by decide +kernel
theorem dX10_drawBackBySailings_78 : decode cX10_drawBackBySailings 78 = .ok (.iaload, 1) := by decide +kernel
theorem dX10_drawBackBySailings_79 : decode cX10_drawBackBySailings 79 = .ok (.iastore, 1) := by decide +kernel
theorem dX10_drawBackBySailings_80 : decode cX10_drawBackBySailings 80 = .ok (.iconst 1, 1) := by decide +kernel
theorem dX10_drawBackBySailings_81 : decode cX10_drawBackBySailings 81 = .ok (.istore_n 1, 1) := by decide +kernel
theorem dX10_drawBackBySailings_82 : decode cX10_drawBackBySailings 82 = .ok (.iinc 2 1, 3) := by decide +kernel
theorem dX10_drawBackBySailings_85 : decode cX10_drawBackBySailings 85 = .ok (.goto (-81), 3) := by decide +kernel
theorem dX10_drawBackBySailings_88 : decode cX10_drawBackBySailings 88 = .ok (.iload_n 1, 1) := by decide +kernel
theorem dX10_drawBackBySailings_89 : decode cX10_drawBackBySailings 89 = .ok (.ireturn, 1) := by decide +kernel
theorem dX10_drawBackByRoads_0 : decode cX10_drawBackByRoads 0 = .ok (.iconst 0, 1) := by decide +kernel
theorem dX10_drawBackByRoads_1 : decode cX10_drawBackByRoads 1 = .ok (.istore_n 1, 1) := by decide +kernel
theorem dX10_drawBackByRoads_2 : decode cX10_drawBackByRoads 2 = .ok (.iconst 0, 1) := by decide +kernel
theorem dX10_drawBackByRoads_3 : decode cX10_drawBackByRoads 3 = .ok (.istore_n 2, 1) := by decide +kernel
theorem dX10_drawBackByRoads_4 : decode cX10_drawBackByRoads 4 = .ok (.iload_n 2, 1) := by decide +kernel
theorem dX10_drawBackByRoads_5 : decode cX10_drawBackByRoads 5 = .ok (.bipush 6, 2) := by decide +kernel
theorem dX10_drawBackByRoads_7 : decode cX10_drawBackByRoads 7 = .ok (.if_icmp .ge 83, 3) := by decide +kernel
theorem dX10_drawBackByRoads_10 : decode cX10_drawBackByRoads 10 = .ok (.iconst 0, 1) := by decide +kernel
theorem dX10_drawBackByRoads_11 : decode cX10_drawBackByRoads 11 = .ok (.istore_n 3, 1) := by decide +kernel
theorem dX10_drawBackByRoads_12 : decode cX10_drawBackByRoads 12 = .ok (.iload_n 3, 1) := by decide +kernel
theorem dX10_drawBackByRoads_13 : decode cX10_drawBackByRoads 13 = .ok (.bipush 6, 2) := by decide +kernel
theorem dX10_drawBackByRoads_15 : decode cX10_drawBackByRoads 15 = .ok (.if_icmp .ge 69, 3) := by decide +kernel
theorem dX10_drawBackByRoads_18 : decode cX10_drawBackByRoads 18 = .ok (.aload_n 0, 1) := by decide +kernel
theorem dX10_drawBackByRoads_19 : decode cX10_drawBackByRoads 19 = .ok (.getfield 26, 3) := by decide +kernel
theorem dX10_drawBackByRoads_22 : decode cX10_drawBackByRoads 22 = .ok (.iload_n 2, 1) := by decide +kernel
theorem dX10_drawBackByRoads_23 : decode cX10_drawBackByRoads 23 = .ok (.aaload, 1) := by decide +kernel
theorem dX10_drawBackByRoads_24 : decode cX10_drawBackByRoads 24 = .ok (.iload_n 3, 1) := by decide +kernel
theorem dX10_drawBackByRoads_25 : decode cX10_drawBackByRoads 25 = .ok (.iaload, 1) := by decide +kernel
theorem dX10_drawBackByRoads_26 : decode cX10_drawBackByRoads 26 = .ok (.bipush (-9), 2) := by decide +kernel
theorem dX10_drawBackByRoads_28 : decode cX10_drawBackByRoads 28 = .ok (.if_icmp .eq 50, 3) := by decide +kernel
theorem dX10_drawBackByRoads_31 : decode cX10_drawBackByRoads 31 = .ok (.aload_n 0, 1) := by decide +kernel
theorem dX10_drawBackByRoads_32 : decode cX10_drawBackByRoads 32 = .ok (.getfield 32, 3) := by decide +kernel
theorem dX10_drawBackByRoads_35 : decode cX10_drawBackByRoads 35 = .ok (.iload_n 3, 1) := by decide +kernel
theorem dX10_drawBackByRoads_36 : decode cX10_drawBackByRoads 36 = .ok (.iaload, 1) := by decide +kernel
theorem dX10_drawBackByRoads_37 : decode cX10_drawBackByRoads 37 = .ok (.aload_n 0, 1) := by decide +kernel
theorem dX10_drawBackByRoads_38 : decode cX10_drawBackByRoads 38 = .ok (.getfield 26, 3) := by decide +kernel
theorem dX10_drawBackByRoads_41 : decode cX10_drawBackByRoads 41 = .ok (.iload_n 2, 1) := by decide +kernel
theorem dX10_drawBackByRoads_42 : decode cX10_drawBackByRoads 42 = .ok (.aaload, 1) := by decide +kernel
theorem dX10_drawBackByRoads_43 : decode cX10_drawBackByRoads 43 = .ok (.iload_n 3, 1) := by decide +kernel
theorem dX10_drawBackByRoads_44 : decode cX10_drawBackByRoads 44 = .ok (.iaload, 1) := by decide +kernel
theorem dX10_drawBackByRoads_45 : decode cX10_drawBackByRoads 45 = .ok (.isub, 1) := by decide +kernel
theorem dX10_drawBackByRoads_46 : decode cX10_drawBackByRoads 46 = .ok (.aload_n 0, 1) := by decide +kernel
theorem dX10_drawBackByRoads_47 : decode cX10_drawBackByRoads 47 = .ok (.getfield 32, 3) := by decide +kernel
theorem dX10_drawBackByRoads_50 : decode cX10_drawBackByRoads 50 = .ok (.iload_n 2, 1) := by decide +kernel
theorem dX10_drawBackByRoads_51 : decode cX10_drawBackByRoads 51 = .ok (.iaload, 1) := by decide +kernel
theorem dX10_drawBackByRoads_52 : decode cX10_drawBackByRoads 52 = .ok (.if_icmp .le 26, 3) := by decide +kernel
theorem dX10_drawBackByRoads_55 : decode cX10_drawBackByRoads 55 = .ok (.aload_n 0, 1) := by decide +kernel
theorem dX10_drawBackByRoads_56 : decode cX10_drawBackByRoads 56 = .ok (.getfield 32, 3) := by decide +kernel
theorem dX10_drawBackByRoads_59 : decode cX10_drawBackByRoads 59 = .ok (.iload_n 2, 1) := by decide +kernel
theorem dX10_drawBackByRoads_60 : decode cX10_drawBackByRoads 60 = .ok (.aload_n 0, 1) := by decide +kernel
theorem dX10_drawBackByRoads_61 : decode cX10_drawBackByRoads 61 = .ok (.getfield 32, 3) := by decide +kernel
theorem dX10_drawBackByRoads_64 : decode cX10_drawBackByRoads 64 = .ok (.iload_n 3, 1) := by decide +kernel
theorem dX10_drawBackByRoads_65 : decode cX10_drawBackByRoads 65 = .ok (.iaload, 1) := by decide +kernel
theorem dX10_drawBackByRoads_66 : decode cX10_drawBackByRoads 66 = .ok (.aload_n 0, 1) := by decide +kernel
theorem dX10_drawBackByRoads_67 : decode cX10_drawBackByRoads 67 = .ok (.getfield 26, 3) := by decide +kernel
theorem dX10_drawBackByRoads_70 : decode cX10_drawBackByRoads 70 = .ok (.iload_n 2, 1) := by decide +kernel
theorem dX10_drawBackByRoads_71 : decode cX10_drawBackByRoads 71 = .ok (.aaload, 1) := by decide +kernel
theorem dX10_drawBackByRoads_72 : decode cX10_drawBackByRoads 72 = .ok (.iload_n 3, 1) := by decide +kernel
theorem dX10_drawBackByRoads_73 : decode cX10_drawBackByRoads 73 = .ok (.iaload, 1) := by decide +kernel
theorem dX10_drawBackByRoads_74 : decode cX10_drawBackByRoads 74 = .ok (.isub, 1) := by decide +kernel
theorem dX10_drawBackByRoads_75 : decode cX10_drawBackByRoads 75 = .ok (.iastore, 1) := by decide +kernel
theorem dX10_drawBackByRoads_76 : decode cX10_drawBackByRoads 76 = .ok (.iconst 1, 1) := by decide +kernel
theorem dX10_drawBackByRoads_77 : decode cX10_drawBackByRoads 77 = .ok (.istore_n 1, 1) := by decide +kernel
theorem dX10_drawBackByRoads_78 : decode cX10_drawBackByRoads 78 = .ok (.iinc 3 1, 3) := by decide +kernel
theorem dX10_drawBackByRoads_81 : decode cX10_drawBackByRoads 81 = .ok (.goto (-69), 3) := by decide +kernel
theorem dX10_drawBackByRoads_84 : decode cX10_drawBackByRoads 84 = .ok (.iinc 2 1, 3) := by decide +kernel
theorem dX10_drawBackByRoads_87 : decode cX10_drawBackByRoads 87 = .ok (.goto (-83), 3) := by decide +kernel
theorem dX10_drawBackByRoads_90 : decode cX10_drawBackByRoads 90 = .ok (.iload_n 1, 1) := by decide +kernel
theorem dX10_drawBackByRoads_91 : decode cX10_drawBackByRoads 91 = .ok (.ireturn, 1) := by decide +kernel
