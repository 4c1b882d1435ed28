theorem dX11_init_0 : decode cX11_init 0 = .ok (.aload_n 0, 1) := by decide +kernel
theorem dX11_init_1 : decode cX11_init 1 = .ok (.invokespecial 1, 3) := by decide +kernel
theorem dX11_init_4 : decode cX11_init 4 = .ok (.aload_n 0, 1) := by decide +kernel
theorem dX11_init_5 : decode cX11_init 5 = .ok (.bipush 6, 2) := by decide +kernel
theorem dX11_init_7 : decode cX11_init 7 = .ok (.newarray .int, 2) := by decide +kernel
theorem dX11_init_9 : decode cX11_init 9 = .ok (.putfield 9, 3) := by decide +kernel
theorem dX11_init_12 : decode cX11_init 12 = .ok (.aload_n 0, 1) := by decide +kernel
theorem dX11_init_13 : decode cX11_init 13 = .ok (.bipush 8, 2) := by decide +kernel
theorem dX11_init_15 : decode cX11_init 15 = .ok (.anewarray 13, 3) := by decide +kernel
theorem dX11_init_18 : decode cX11_init 18 = .ok (.putfield 15, 3) := by decide +kernel
theorem dX11_init_21 : decode cX11_init 21 = .ok (.aload_n 0, 1) := by decide +kernel
theorem dX11_init_22 : decode cX11_init 22 = .ok (.bipush 12, 2) := by decide +kernel
theorem dX11_init_24 : decode cX11_init 24 = .ok (.anewarray 19, 3) := by decide +kernel
theorem dX11_init_27 : decode cX11_init 27 = .ok (.putfield 21, 3) := by decide +kernel
theorem dX11_init_30 : decode cX11_init 30 = .ok (.aload_n 0, 1) := by decide +kernel
theorem dX11_init_31 : decode cX11_init 31 = .ok (.new 25, 3) := by decide +kernel
theorem dX11_init_34 : decode cX11_init 34 = .ok (.dup, 1) := by decide +kernel
theorem dX11_init_35 : decode cX11_init 35 = .ok (.invokespecial 27, 3) := by decide +kernel
theorem dX11_init_38 : decode cX11_init 38 = .ok (.putfield 28, 3) := by decide +kernel
theorem dX11_init_41 : decode cX11_init 41 = .ok (.aload_n 0, 1) := by decide +kernel
theorem dX11_init_42 : decode cX11_init 42 = .ok (.new 32, 3) := by decide +kernel
theorem dX11_init_45 : decode cX11_init 45 = .ok (.dup, 1) := by decide +kernel
theorem dX11_init_46 : decode cX11_init 46 = .ok (.invokespecial 34, 3) := by decide +kernel
theorem dX11_init_49 : decode cX11_init 49 = .ok (.putfield 35, 3) := by decide +kernel
theorem dX11_init_52 : decode cX11_init 52 = .ok (.aload_n 0, 1) := by decide +kernel
theorem dX11_init_53 : decode cX11_init 53 = .ok (.new 39, 3) := by decide +kernel
theorem dX11_init_56 : decode cX11_init 56 = .ok (.dup, 1) := by decide +kernel
theorem dX11_init_57 : decode cX11_init 57 = .ok (.invokespecial 41, 3) := by decide +kernel
theorem dX11_init_60 : decode cX11_init 60 = .ok (.putfield 42, 3) := by decide +kernel
theorem dX11_init_63 : decode cX11_init 63 = .ok (.aload_n 0, 1) := by decide +kernel
theorem dX11_init_64 : decode cX11_init 64 = .ok (.new 46, 3) := by decide +kernel
theorem dX11_init_67 : decode cX11_init 67 = .ok (.dup, 1) := by decide +kernel
theorem dX11_init_68 : decode cX11_init 68 = .ok (.aload_n 0, 1) := by decide +kernel
theorem dX11_init_69 : decode cX11_init 69 = .ok (.getfield 42, 3) := by decide +kernel
theorem dX11_init_72 : decode cX11_init 72 = .ok (.invokespecial 48, 3) := by decide +kernel
theorem dX11_init_75 : decode cX11_init 75 = .ok (.putfield 51, 3) := by decide +kernel
theorem dX11_init_78 : decode cX11_init 78 = .ok (.aload_n 0, 1) := by decide +kernel
theorem dX11_init_79 : decode cX11_init 79 = .ok (.new 55, 3) := by decide +kernel
theorem dX11_init_82 : decode cX11_init 82 = .ok (.dup, 1) := by decide +kernel
theorem dX11_init_83 : decode cX11_init 83 = .ok (.invokespecial 57, 3) := by decide +kernel
theorem dX11_init_86 : decode cX11_init 86 = .ok (.putfield 58, 3) := by decide +kernel
theorem dX11_init_89 : decode cX11_init 89 = .ok (.aload_n 0, 1) := by decide +kernel
theorem dX11_init_90 : decode cX11_init 90 = .ok (.new 62, 3) := by decide +kernel
theorem dX11_init_93 : decode cX11_init 93 = .ok (.dup, 1) := by decide +kernel
theorem dX11_init_94 : decode cX11_init 94 = .ok (.invokespecial 64, 3) := by decide +kernel
theorem dX11_init_97 : decode cX11_init 97 = .ok (.putfield 65, 3) := by decide +kernel
theorem dX11_init_100 : decode cX11_init 100 = .ok (.aload_n 0, 1) := by decide +kernel
theorem dX11_init_101 : decode cX11_init 101 = .ok (.new 62, 3) := by decide +kernel
theorem dX11_init_104 : decode cX11_init 104 = .ok (.dup, 1) := by decide +kernel
theorem dX11_init_105 : decode cX11_init 105 = .ok (.invokespecial 64, 3) := by decide +kernel
theorem dX11_init_108 : decode cX11_init 108 = .ok (.putfield 69, 3) := by decide +kernel
theorem dX11_init_111 : decode cX11_init 111 = .ok (.aload_n 0, 1) := by decide +kernel
theorem dX11_init_112 : decode cX11_init 112 = .ok (.iconst 0, 1) := by decide +kernel
theorem dX11_init_113 : decode cX11_init 113 = .ok (.putfield 72, 3) := by decide +kernel
theorem dX11_init_116 : decode cX11_init 116 = .ok (.aload_n 0, 1) := by decide +kernel
theorem dX11_init_117 : decode cX11_init 117 = .ok (.iconst 0, 1) := by decide +kernel
theorem dX11_init_118 : decode cX11_init 118 = .ok (.putfield 76, 3) := by decide +kernel
theorem dX11_init_121 : decode cX11_init 121 = .ok (.return_, 1) := by decide +kernel
theorem dX11_town_0 : decode cX11_town 0 = .ok (.iload_n 1, 1) := by decide +kernel
theorem dX11_town_1 : decode cX11_town 1 = .ok (.iconst 0, 1) := by decide +kernel
theorem dX11_town_2 : decode cX11_town 2 = .ok (.iconst 5, 1) := by decide +kernel
theorem dX11_town_3 : decode cX11_town 3 = .ok (.invokestatic 79, 3) := by decide +kernel
theorem dX11_town_6 : decode cX11_town 6 = .ok (.ifCond .eq 12, 3) := by decide +kernel
theorem dX11_town_9 : decode cX11_town 9 = .ok (.iload_n 2, 1) := by decide +kernel
theorem dX11_town_10 : decode cX11_town 10 = .ok (.iconst 0, 1) := by decide +kernel
theorem dX11_town_11 : decode cX11_town 11 = .ok (.iconst 2, 1) := by decide +kernel
theorem dX11_town_12 : decode cX11_town 12 = .ok (.invokestatic 79, 3) := by decide +kernel
theorem dX11_town_15 : decode cX11_town 15 = .ok (.ifCond .ne 5, 3) := by decide +kernel
theorem dX11_town_18 : decode cX11_town 18 = .ok (.iconst (-1), 1) := by decide +kernel
theorem dX11_town_19 : decode cX11_town 19 = .ok (.ireturn, 1) := by decide +kernel
theorem dX11_town_20 : decode cX11_town 20 = .ok (.aload_n 0, 1) := by decide +kernel
theorem dX11_town_21 : decode cX11_town 21 = .ok (.getfield 9, 3) := by decide +kernel
theorem dX11_town_24 : decode cX11_town 24 = .ok (.iload_n 1, 1) := by decide +kernel
theorem dX11_town_25 : decode cX11_town 25 = .ok (.iaload, 1) := by decide +kernel
theorem dX11_town_26 : decode cX11_town 26 = .ok (.istore_n 3, 1) := by decide +kernel
theorem dX11_town_27 : decode cX11_town 27 = .ok (.aload_n 0, 1) := by decide +kernel
theorem dX11_town_28 : decode cX11_town 28 = .ok (.getfield 9, 3) := by decide +kernel
theorem dX11_town_31 : decode cX11_town 31 = .ok (.iload_n 1, 1) := by decide +kernel
theorem dX11_town_32 : decode cX11_town 32 = .ok (.iload_n 2, 1) := by decide +kernel
theorem dX11_town_33 : decode cX11_town 33 = .ok (.iastore, 1) := by decide +kernel
theorem dX11_town_34 : decode cX11_town 34 = .ok (.iload_n 3, 1) := by decide +kernel
theorem dX11_town_35 : decode cX11_town 35 = .ok (.ireturn, 1) := by decide +kernel
theorem dX11_office_0 : decode cX11_office 0 = .ok (.iload_n 1, 1) := by decide +kernel
theorem dX11_office_1 : decode cX11_office 1 = .ok (.iconst 0, 1) := by decide +kernel
theorem dX11_office_2 : decode cX11_office 2 = .ok (.iconst 5, 1) := by decide +kernel
theorem dX11_office_3 : decode cX11_office 3 = .ok (.invokestatic 79, 3) := by decide +kernel
theorem dX11_office_6 : decode cX11_office 6 = .ok (.ifCond .eq 11, 3) := by decide +kernel
theorem dX11_office_9 : decode cX11_office 9 = .ok (.iload_n 2, 1) := by decide +kernel
theorem dX11_office_10 : decode cX11_office 10 = .ok (.iload_n 3, 1) := by decide +kernel
theorem dX11_office_11 : decode cX11_office 11 = .ok (.invokestatic 83, 3) := by decide +kernel
theorem dX11_office_14 : decode cX11_office 14 = .ok (.ifCond .ne 5, 3) := by decide +kernel
theorem dX11_office_17 : decode cX11_office 17 = .ok (.iconst (-1), 1) := by decide +kernel
theorem dX11_office_18 : decode cX11_office 18 = .ok (.ireturn, 1) := by decide +kernel
theorem dX11_office_19 : decode cX11_office 19 = .ok (.aload_n 0, 1) := by decide +kernel
theorem dX11_office_20 : decode cX11_office 20 = .ok (.getfield 72, 3) := by decide +kernel
theorem dX11_office_23 : decode cX11_office 23 = .ok (.bipush 8, 2) := by decide +kernel
theorem dX11_office_25 : decode cX11_office 25 = .ok (.if_icmp .lt 6, 3) := by decide +kernel
theorem dX11_office_28 : decode cX11_office 28 = .ok (.bipush (-3), 2) := by decide +kernel
theorem dX11_office_30 : decode cX11_office 30 = .ok (.ireturn, 1) := by decide +kernel
theorem dX11_office_31 : decode cX11_office 31 = .ok (.aload_n 0, 1) := by decide +kernel
theorem dX11_office_32 : decode cX11_office 32 = .ok (.getfield 15, 3) := by decide +kernel
theorem dX11_office_35 : decode cX11_office 35 = .ok (.aload_n 0, 1) := by decide +kernel
theorem dX11_office_36 : decode cX11_office 36 = .ok (.getfield 72, 3) := by decide +kernel
theorem dX11_office_39 : decode cX11_office 39 = .ok (.new 13, 3) := by decide +kernel
theorem dX11_office_42 : decode cX11_office 42 = .ok (.dup, 1) := by decide +kernel
theorem dX11_office_43 : decode cX11_office 43 = .ok (.iload_n 1, 1) := by decide +kernel
theorem dX11_office_44 : decode cX11_office 44 = .ok (.iload_n 2, 1) := by decide +kernel
theorem dX11_office_45 : decode cX11_office 45 = .ok (.iload_n 3, 1) := by decide +kernel
theorem dX11_office_46 : decode cX11_office 46 = .ok (.invokespecial 87, 3) := by decide +kernel
theorem dX11_office_49 : decode cX11_office 49 = .ok (.aastore, 1) := by decide +kernel
theorem dX11_office_50 : decode cX11_office 50 = .ok (.aload_n 0, 1) := by decide +kernel
theorem dX11_office_51 : decode cX11_office 51 = .ok (.dup, 1) := by decide +kernel
theorem dX11_office_52 : decode cX11_office 52 = .ok (.getfield 72, 3) := by decide +kernel
theorem dX11_office_55 : decode cX11_office 55 = .ok (.dup_x1, 1) := by decide +kernel
theorem dX11_office_56 : decode cX11_office 56 = .ok (.iconst 1, 1) := by decide +kernel
theorem dX11_office_57 : decode cX11_office 57 = .ok (.iadd, 1) := by decide +kernel
theorem dX11_office_58 : decode cX11_office 58 = .ok (.putfield 72, 3) := by decide +kernel
theorem dX11_office_61 : decode cX11_office 61 = .ok (.ireturn, 1) := by decide +kernel
theorem dX11_die_0 : decode cX11_die 0 = .ok (.iload_n 1, 1) := by decide +kernel
theorem dX11_die_1 : decode cX11_die 1 = .ok (.iconst 0, 1) := by decide +kernel
theorem dX11_die_2 : decode cX11_die 2 = .ok (.aload_n 0, 1) := by decide +kernel
theorem dX11_die_3 : decode cX11_die 3 = .ok (.getfield 72, 3) := by decide +kernel
theorem dX11_die_6 : decode cX11_die 6 = .ok (.iconst 1, 1) := by decide +kernel
theorem dX11_die_7 : decode cX11_die 7 = .ok (.isub, 1) := by decide +kernel
theorem dX11_die_8 : decode cX11_die 8 = .ok (.invokestatic 79, 3) := by decide +kernel
theorem dX11_die_11 : decode cX11_die 11 = .ok (.ifCond .eq 13, 3) := by decide +kernel
theorem dX11_die_14 : decode cX11_die 14 = .ok (.iload_n 2, 1) := by decide +kernel
theorem dX11_die_15 : decode cX11_die 15 = .ok (.iconst 0, 1) := by decide +kernel
theorem dX11_die_16 : decode cX11_die 16 = .ok (.bipush 15, 2) := by decide +kernel
theorem dX11_die_18 : decode cX11_die 18 = .ok (.invokestatic 79, 3) := by decide +kernel
theorem dX11_die_21 : decode cX11_die 21 = .ok (.ifCond .ne 5, 3) := by decide +kernel
theorem dX11_die_24 : decode cX11_die 24 = .ok (.iconst (-1), 1) := by decide +kernel
theorem dX11_die_25 : decode cX11_die 25 = .ok (.ireturn, 1) := by decide +kernel
theorem dX11_die_26 : decode cX11_die 26 = .ok (.iload_n 3, 1) := by decide +kernel
theorem dX11_die_27 : decode cX11_die 27 = .ok (.iload 4, 2) := by decide +kernel
theorem dX11_die_29 : decode cX11_die 29 = .ok (.invokestatic 83, 3) := by decide +kernel
theorem dX11_die_32 : decode cX11_die 32 = .ok (.ifCond .eq 11, 3) := by decide +kernel
theorem dX11_die_35 : decode cX11_die 35 = .ok (.iload 5, 2) := by decide +kernel
theorem dX11_die_37 : decode cX11_die 37 = .ok (.invokestatic 90, 3) := by decide +kernel
theorem dX11_die_40 : decode cX11_die 40 = .ok (.ifCond .ne 5, 3) := by decide +kernel
theorem dX11_die_43 : decode cX11_die 43 = .ok (.iconst (-1), 1) := by decide +kernel
theorem dX11_die_44 : decode cX11_die 44 = .ok (.ireturn, 1) := by decide +kernel
theorem dX11_die_45 : decode cX11_die 45 = .ok (.aload_n 0, 1) := by decide +kernel
theorem dX11_die_46 : decode cX11_die 46 = .ok (.getfield 76, 3) := by decide +kernel
theorem dX11_die_49 : decode cX11_die 49 = .ok (.bipush 12, 2) := by decide +kernel
theorem dX11_die_51 : decode cX11_die 51 = .ok (.if_icmp .lt 6, 3) := by decide +kernel
theorem dX11_die_54 : decode cX11_die 54 = .ok (.bipush (-3), 2) := by decide +kernel
theorem dX11_die_56 : decode cX11_die 56 = .ok (.ireturn, 1) := by decide +kernel
theorem dX11_die_57 : decode cX11_die 57 = .ok (.aload_n 0, 1) := by decide +kernel
theorem dX11_die_58 : decode cX11_die 58 = .ok (.getfield 21, 3) := by decide +kernel
theorem dX11_die_61 : decode cX11_die 61 = .ok (.aload_n 0, 1) := by decide +kernel
theorem dX11_die_62 : decode cX11_die 62 = .ok (.getfield 76, 3) := by decide +kernel
theorem dX11_die_65 : decode cX11_die 65 = .ok (.new 19, 3) := by decide +kernel
theorem dX11_die_68 : decode cX11_die 68 = .ok (.dup, 1) := by decide +kernel
theorem dX11_die_69 : decode cX11_die 69 = .ok (.aload_n 0, 1) := by decide +kernel
theorem dX11_die_70 : decode cX11_die 70 = .ok (.getfield 15, 3) := by decide +kernel
theorem dX11_die_73 : decode cX11_die 73 = .ok (.iload_n 1, 1) := by decide +kernel
theorem dX11_die_74 : decode cX11_die 74 = .ok (.aaload, 1) := by decide +kernel
theorem dX11_die_75 : decode cX11_die 75 = .ok (.iload_n 2, 1) := by decide +kernel
theorem dX11_die_76 : decode cX11_die 76 = .ok (.iload_n 3, 1) := by decide +kernel
theorem dX11_die_77 : decode cX11_die 77 = .ok (.iload 4, 2) := by decide +kernel
theorem dX11_die_79 : decode cX11_die 79 = .ok (.iload 5, 2) := by decide +kernel
theorem dX11_die_81 : decode cX11_die 81 = .ok (.invokespecial 94, 3) := by decide +kernel
theorem dX11_die_84 : decode cX11_die 84 = .ok (.aastore, 1) := by decide +kernel
theorem dX11_die_85 : decode cX11_die 85 = .ok (.aload_n 0, 1) := by decide +kernel
theorem dX11_die_86 : decode cX11_die 86 = .ok (.dup, 1) := by decide +kernel
theorem dX11_die_87 : decode cX11_die 87 = .ok (.getfield 76, 3) := by decide +kernel
theorem dX11_die_90 : decode cX11_die 90 = .ok (.dup_x1, 1) := by decide +kernel
theorem dX11_die_91 : decode cX11_die 91 = .ok (.iconst 1, 1) := by decide +kernel
theorem dX11_die_92 : decode cX11_die 92 = .ok (.iadd, 1) := by decide +kernel
theorem dX11_die_93 : decode cX11_die 93 = .ok (.putfield 76, 3) := by decide +kernel
theorem dX11_die_96 : decode cX11_die 96 = .ok (.ireturn, 1) := by decide +kernel
theorem dX11_mark_0 : decode cX11_mark 0 = .ok (.iload_n 1, 1) := by decide +kernel
theorem dX11_mark_1 : decode cX11_mark 1 = .ok (.invokestatic 97, 3) := by decide +kernel
theorem dX11_mark_4 : decode cX11_mark 4 = .ok (.ifCond .eq 20, 3) := by decide +kernel
theorem dX11_mark_7 : decode cX11_mark 7 = .ok (.iload_n 2, 1) := by decide +kernel
theorem dX11_mark_8 : decode cX11_mark 8 = .ok (.iconst 0, 1) := by decide +kernel
theorem dX11_mark_9 : decode cX11_mark 9 = .ok (.iconst 5, 1) := by decide +kernel
theorem dX11_mark_10 : decode cX11_mark 10 = .ok (.invokestatic 79, 3) := by decide +kernel
theorem dX11_mark_13 : decode cX11_mark 13 = .ok (.ifCond .eq 11, 3) := by decide +kernel
theorem dX11_mark_16 : decode cX11_mark 16 = .ok (.iload 8, 2) := by decide +kernel
theorem dX11_mark_18 : decode cX11_mark 18 = .ok (.invokestatic 100, 3) := by decide +kernel
theorem dX11_mark_21 : decode cX11_mark 21 = .ok (.ifCond .ne 5, 3) := by decide +kernel
theorem dX11_mark_24 : decode cX11_mark 24 = .ok (.iconst (-1), 1) := by decide +kernel
theorem dX11_mark_25 : decode cX11_mark 25 = .ok (.ireturn, 1) := by decide +kernel
theorem dX11_mark_26 : decode cX11_mark 26 = .ok (.iload_n 3, 1) := by decide +kernel
theorem dX11_mark_27 : decode cX11_mark 27 = .ok (.bipush (-9), 2) := by decide +kernel
theorem dX11_mark_29 : decode cX11_mark 29 = .ok (.if_icmp .eq 19, 3) := by decide +kernel
theorem dX11_mark_32 : decode cX11_mark 32 = .ok (.iload_n 3, 1) := by decide +kernel
theorem dX11_mark_33 : decode cX11_mark 33 = .ok (.iconst 0, 1) := by decide +kernel
theorem dX11_mark_34 : decode cX11_mark 34 = .ok (.aload_n 0, 1) := by decide +kernel
theorem dX11_mark_35 : decode cX11_mark 35 = .ok (.getfield 76, 3) := by decide +kernel
theorem dX11_mark_38 : decode cX11_mark 38 = .ok (.iconst 1, 1) := by decide +kernel
theorem dX11_mark_39 : decode cX11_mark 39 = .ok (.isub, 1) := by decide +kernel
theorem dX11_mark_40 : decode cX11_mark 40 = .ok (.invokestatic 79, 3) := by decide +kernel
theorem dX11_mark_43 : decode cX11_mark 43 = .ok (.ifCond .ne 5, 3) := by decide +kernel
theorem dX11_mark_46 : decode cX11_mark 46 = .ok (.iconst (-1), 1) := by decide +kernel
theorem dX11_mark_47 : decode cX11_mark 47 = .ok (.ireturn, 1) := by decide +kernel
theorem dX11_mark_48 : decode cX11_mark 48 = .ok (.iload 4, 2) := by decide +kernel
theorem dX11_mark_50 : decode cX11_mark 50 = .ok (.iconst 0, 1) := by decide +kernel
theorem dX11_mark_51 : decode cX11_mark 51 = .ok (.iconst 3, 1) := by decide +kernel
theorem dX11_mark_52 : decode cX11_mark 52 = .ok (.invokestatic 79, 3) := by decide +kernel
theorem dX11_mark_55 : decode cX11_mark 55 = .ok (.ifCond .eq 20, 3) := by decide +kernel
theorem dX11_mark_58 : decode cX11_mark 58 = .ok (.iload 5, 2) := by decide +kernel
theorem dX11_mark_60 : decode cX11_mark 60 = .ok (.bipush (-9), 2) := by decide +kernel
theorem dX11_mark_62 : decode cX11_mark 62 = .ok (.if_icmp .eq 15, 3) := by decide +kernel
theorem dX11_mark_65 : decode cX11_mark 65 = .ok (.iload 5, 2) := by decide +kernel
theorem dX11_mark_67 : decode cX11_mark 67 = .ok (.iconst 0, 1) := by decide +kernel
theorem dX11_mark_68 : decode cX11_mark 68 = .ok (.iconst 1, 1) := by decide +kernel
theorem dX11_mark_69 : decode cX11_mark 69 = .ok (.invokestatic 79, 3) := by decide +kernel
theorem dX11_mark_72 : decode cX11_mark 72 = .ok (.ifCond .ne 5, 3) := by decide +kernel
theorem dX11_mark_75 : decode cX11_mark 75 = .ok (.iconst (-1), 1) := by decide +kernel
theorem dX11_mark_76 : decode cX11_mark 76 = .ok (.ireturn, 1) := by decide +kernel
theorem dX11_mark_77 : decode cX11_mark 77 = .ok (.iload 6, 2) := by decide +kernel
theorem dX11_mark_79 : decode cX11_mark 79 = .ok (.invokestatic 103, 3) := by decide +kernel
theorem dX11_mark_82 : decode cX11_mark 82 = .ok (.ifCond .eq 22, 3) := by decide +kernel
theorem dX11_mark_85 : decode cX11_mark 85 = .ok (.iload 7, 2) := by decide +kernel
theorem dX11_mark_87 : decode cX11_mark 87 = .ok (.bipush (-9), 2) := by decide +kernel
theorem dX11_mark_89 : decode cX11_mark 89 = .ok (.if_icmp .eq 17, 3) := by decide +kernel
theorem dX11_mark_92 : decode cX11_mark 92 = .ok (.iload 7, 2) := by decide +kernel
theorem dX11_mark_94 : decode cX11_mark 94 = .ok (.iconst 0, 1) := by decide +kernel
theorem dX11_mark_95 : decode cX11_mark 95 = .ok (.sipush 999, 3) := by decide +kernel
theorem dX11_mark_98 : decode cX11_mark 98 = .ok (.invokestatic 79, 3) := by decide +kernel
theorem dX11_mark_101 : decode cX11_mark 101 = .ok (.ifCond .ne 5, 3) := by decide +kernel
theorem dX11_mark_104 : decode cX11_mark 104 = .ok (.iconst (-1), 1) := by decide +kernel
theorem dX11_mark_105 : decode cX11_mark 105 = .ok (.ireturn, 1) := by decide +kernel
theorem dX11_mark_106 : decode cX11_mark 106 = .ok (.aload_n 0, 1) := by decide +kernel
theorem dX11_mark_107 : decode cX11_mark 107 = .ok (.getfield 28, 3) := by decide +kernel
theorem dX11_mark_110 : decode cX11_mark 110 = .ok (.getfield 106, 3) := by decide +kernel
theorem dX11_mark_113 : decode cX11_mark 113 = .ok (.bipush 40, 2) := by decide +kernel
theorem dX11_mark_115 : decode cX11_mark 115 = .ok (.if_icmp .lt 6, 3) := by decide +kernel
theorem dX11_mark_118 : decode cX11_mark 118 = .ok (.bipush (-3), 2) := by decide +kernel
theorem dX11_mark_120 : decode cX11_mark 120 = .ok (.ireturn, 1) := by decide +kernel
theorem dX11_mark_121 : decode cX11_mark 121 = .ok (.new 109, 3) := by decide +kernel
theorem dX11_mark_124 : decode cX11_mark 124 = .ok (.dup, 1) := by decide +kernel
theorem dX11_mark_125 : decode cX11_mark 125 = .ok (.iload_n 1, 1) := by decide +kernel
theorem dX11_mark_126 : decode cX11_mark 126 = .ok (.iload_n 2, 1) := by decide +kernel
theorem dX11_mark_127 : decode cX11_mark 127 = .ok (.iload 8, 2) := by decide +kernel
theorem dX11_mark_129 : decode cX11_mark 129 = .ok (.invokespecial 111, 3) := by decide +kernel
theorem dX11_mark_132 : decode cX11_mark 132 = .ok (.astore 9, 2) := by decide +kernel
theorem dX11_mark_134 : decode cX11_mark 134 = .ok (.aload 9, 2) := by decide +kernel
theorem dX11_mark_136 : decode cX11_mark 136 = .ok (.iload 6, 2) := by decide +kernel
theorem dX11_mark_138 : decode cX11_mark 138 = .ok (.iload 7, 2) := by decide +kernel
theorem dX11_mark_140 : decode cX11_mark 140 = .ok (.invokevirtual 112, 3) := by decide +kernel
theorem dX11_mark_143 : decode cX11_mark 143 = .ok (.aload 9, 2) := by decide +kernel
theorem dX11_mark_145 : decode cX11_mark 145 = .ok (.iload_n 3, 1) := by decide +kernel
theorem dX11_mark_146 : decode cX11_mark 146 = .ok (.iload_n 3, 1) := by decide +kernel
theorem dX11_mark_147 : decode cX11_mark 147 = .ok (.bipush (-9), 2) := by decide +kernel
theorem dX11_mark_149 : decode cX11_mark 149 = .ok (.if_icmp .ne 7, 3) := by decide +kernel
theorem dX11_mark_152 : decode cX11_mark 152 = .ok (.aconst_null, 1) := by decide +kernel
theorem dX11_mark_153 : decode cX11_mark 153 = .ok (.goto 9, 3) := by decide +kernel
theorem dX11_mark_156 : decode cX11_mark 156 = .ok (.aload_n 0, 1) := by decide +kernel
theorem dX11_mark_157 : decode cX11_mark 157 = .ok (.getfield 21, 3) := by decide +kernel
theorem dX11_mark_160 : decode cX11_mark 160 = .ok (.iload_n 3, 1) := by decide +kernel
theorem dX11_mark_161 : decode cX11_mark 161 = .ok (.aaload, 1) := by decide +kernel
theorem dX11_mark_162 : decode cX11_mark 162 = .ok (.iload 4, 2) := by decide +kernel
theorem dX11_mark_164 : decode cX11_mark 164 = .ok (.iload 5, 2) := by decide +kernel
theorem dX11_mark_166 : decode cX11_mark 166 = .ok (.invokevirtual 116, 3) := by decide +kernel
theorem dX11_mark_169 : decode cX11_mark 169 = .ok (.aload 9, 2) := by decide +kernel
theorem dX11_mark_171 : decode cX11_mark 171 = .ok (.invokevirtual 120, 3) := by decide +kernel
theorem dX11_mark_174 : decode cX11_mark 174 = .ok (.aload_n 0, 1) := by decide +kernel
theorem dX11_mark_175 : decode cX11_mark 175 = .ok (.getfield 28, 3) := by decide +kernel
theorem dX11_mark_178 : decode cX11_mark 178 = .ok (.aload 9, 2) := by decide +kernel
theorem dX11_mark_180 : decode cX11_mark 180 = .ok (.invokevirtual 123, 3) := by decide +kernel
theorem dX11_mark_183 : decode cX11_mark 183 = .ok (.ireturn, 1) := by decide +kernel
theorem dX11_lean_0 : decode cX11_lean 0 = .ok (.iload_n 1, 1) := by decide +kernel
theorem dX11_lean_1 : decode cX11_lean 1 = .ok (.iconst 0, 1) := by decide +kernel
theorem dX11_lean_2 : decode cX11_lean 2 = .ok (.iconst 5, 1) := by decide +kernel
theorem dX11_lean_3 : decode cX11_lean 3 = .ok (.invokestatic 79, 3) := by decide +kernel
theorem dX11_lean_6 : decode cX11_lean 6 = .ok (.ifCond .eq 11, 3) := by decide +kernel
theorem dX11_lean_9 : decode cX11_lean 9 = .ok (.aload_n 0, 1) := by decide +kernel
theorem dX11_lean_10 : decode cX11_lean 10 = .ok (.iload_n 2, 1) := by decide +kernel
theorem dX11_lean_11 : decode cX11_lean 11 = .ok (.invokevirtual 127, 3) := by decide +kernel
theorem dX11_lean_14 : decode cX11_lean 14 = .ok (.ifCond .ne 5, 3) := by decide +kernel
theorem dX11_lean_17 : decode cX11_lean 17 = .ok (.iconst (-1), 1) := by decide +kernel
theorem dX11_lean_18 : decode cX11_lean 18 = .ok (.ireturn, 1) := by decide +kernel
theorem dX11_lean_19 : decode cX11_lean 19 = .ok (.aload_n 0, 1) := by decide +kernel
theorem dX11_lean_20 : decode cX11_lean 20 = .ok (.getfield 35, 3) := by decide +kernel
theorem dX11_lean_23 : decode cX11_lean 23 = .ok (.iload_n 1, 1) := by decide +kernel
theorem dX11_lean_24 : decode cX11_lean 24 = .ok (.aload_n 0, 1) := by decide +kernel
theorem dX11_lean_25 : decode cX11_lean 25 = .ok (.getfield 28, 3) := by decide +kernel
theorem dX11_lean_28 : decode cX11_lean 28 = .ok (.getfield 130, 3) := by decide +kernel
theorem dX11_lean_31 : decode cX11_lean 31 = .ok (.iload_n 2, 1) := by decide +kernel
theorem dX11_lean_32 : decode cX11_lean 32 = .ok (.aaload, 1) := by decide +kernel
theorem dX11_lean_33 : decode cX11_lean 33 = .ok (.invokevirtual 134, 3) := by decide +kernel
theorem dX11_lean_36 : decode cX11_lean 36 = .ok (.ireturn, 1) := by decide +kernel
theorem dX11_about_0 : decode cX11_about 0 = .ok (.aload_n 0, 1) := by decide +kernel
theorem dX11_about_1 : decode cX11_about 1 = .ok (.iload_n 1, 1) := by decide +kernel
theorem dX11_about_2 : decode cX11_about 2 = .ok (.invokevirtual 127, 3) := by decide +kernel
theorem dX11_about_5 : decode cX11_about 5 = .ok (.ifCond .eq 12, 3) := by decide +kernel
theorem dX11_about_8 : decode cX11_about 8 = .ok (.iload_n 2, 1) := by decide +kernel
theorem dX11_about_9 : decode cX11_about 9 = .ok (.iconst 0, 1) := by decide +kernel
theorem dX11_about_10 : decode cX11_about 10 = .ok (.iconst 4, 1) := by decide +kernel
theorem dX11_about_11 : decode cX11_about 11 = .ok (.invokestatic 79, 3) := by decide +kernel
theorem dX11_about_14 : decode cX11_about 14 = .ok (.ifCond .ne 5, 3) := by decide +kernel
theorem dX11_about_17 : decode cX11_about 17 = .ok (.iconst (-1), 1) := by decide +kernel
theorem dX11_about_18 : decode cX11_about 18 = .ok (.ireturn, 1) := by decide +kernel
theorem dX11_about_19 : decode cX11_about 19 = .ok (.aload_n 0, 1) := by decide +kernel
theorem dX11_about_20 : decode cX11_about 20 = .ok (.getfield 28, 3) := by decide +kernel
theorem dX11_about_23 : decode cX11_about 23 = .ok (.getfield 130, 3) := by decide +kernel
theorem dX11_about_26 : decode cX11_about 26 = .ok (.iload_n 1, 1) := by decide +kernel
theorem dX11_about_27 : decode cX11_about 27 = .ok (.aaload, 1) := by decide +kernel
theorem dX11_about_28 : decode cX11_about 28 = .ok (.astore_n 3, 1) := by decide +kernel
theorem dX11_about_29 : decode cX11_about 29 = .ok (.iload_n 2, 1) := by decide +kernel
theorem dX11_about_30 : decode cX11_about 30 = .ok (.tableswitch 50 0 3 #[30, 35, 40, 45], 30) := by decide +kernel
theorem dX11_about_60 : decode cX11_about 60 = .ok (.aload_n 3, 1) := by decide +kernel
theorem dX11_about_61 : decode cX11_about 61 = .ok (.getfield 138, 3) := by decide +kernel
theorem dX11_about_64 : decode cX11_about 64 = .ok (.ireturn, 1) := by decide +kernel
theorem dX11_about_65 : decode cX11_about 65 = .ok (.aload_n 3, 1) := by decide +kernel
theorem dX11_about_66 : decode cX11_about 66 = .ok (.getfield 141, 3) := by decide +kernel
theorem dX11_about_69 : decode cX11_about 69 = .ok (.ireturn, 1) := by decide +kernel
theorem dX11_about_70 : decode cX11_about 70 = .ok (.aload_n 3, 1) := by decide +kernel
theorem dX11_about_71 : decode cX11_about 71 = .ok (.getfield 144, 3) := by decide +kernel
theorem dX11_about_74 : decode cX11_about 74 = .ok (.ireturn, 1) := by decide +kernel
theorem dX11_about_75 : decode cX11_about 75 = .ok (.aload_n 3, 1) := by decide +kernel
theorem dX11_about_76 : decode cX11_about 76 = .ok (.getfield 147, 3) := by decide +kernel
theorem dX11_about_79 : decode cX11_about 79 = .ok (.ireturn, 1) := by decide +kernel
theorem dX11_about_80 : decode cX11_about 80 = .ok (.aload_n 3, 1) := by decide +kernel
theorem dX11_about_81 : decode cX11_about 81 = .ok (.getfield 150, 3) := by decide +kernel
theorem dX11_about_84 : decode cX11_about 84 = .ok (.ireturn, 1) := by decide +kernel
theorem dX11_span_0 : decode cX11_span 0 = .ok (.aload_n 0, 1) := by decide +kernel
theorem dX11_span_1 : decode cX11_span 1 = .ok (.iload_n 1, 1) := by decide +kernel
theorem dX11_span_2 : decode cX11_span 2 = .ok (.invokevirtual 127, 3) := by decide +kernel
theorem dX11_span_5 : decode cX11_span 5 = .ok (.ifCond .eq 12, 3) := by decide +kernel
theorem dX11_span_8 : decode cX11_span 8 = .ok (.iload_n 2, 1) := by decide +kernel
theorem dX11_span_9 : decode cX11_span 9 = .ok (.iconst 0, 1) := by decide +kernel
theorem dX11_span_10 : decode cX11_span 10 = .ok (.iconst 2, 1) := by decide +kernel
theorem dX11_span_11 : decode cX11_span 11 = .ok (.invokestatic 79, 3) := by decide +kernel
theorem dX11_span_14 : decode cX11_span 14 = .ok (.ifCond .ne 5, 3) := by decide +kernel
theorem dX11_span_17 : decode cX11_span 17 = .ok (.iconst (-1), 1) := by decide +kernel
theorem dX11_span_18 : decode cX11_span 18 = .ok (.ireturn, 1) := by decide +kernel
theorem dX11_span_19 : decode cX11_span 19 = .ok (.aload_n 0, 1) := by decide +kernel
theorem dX11_span_20 : decode cX11_span 20 = .ok (.getfield 28, 3) := by decide +kernel
theorem dX11_span_23 : decode cX11_span 23 = .ok (.getfield 130, 3) := by decide +kernel
theorem dX11_span_26 : decode cX11_span 26 = .ok (.iload_n 1, 1) := by decide +kernel
theorem dX11_span_27 : decode cX11_span 27 = .ok (.aaload, 1) := by decide +kernel
theorem dX11_span_28 : decode cX11_span 28 = .ok (.getfield 153, 3) := by decide +kernel
theorem dX11_span_31 : decode cX11_span 31 = .ok (.astore_n 3, 1) := by decide +kernel
theorem dX11_span_32 : decode cX11_span 32 = .ok (.iload_n 2, 1) := by decide +kernel
theorem dX11_span_33 : decode cX11_span 33 = .ok (.lookupswitch 38 #[(0, 27), (1, 32)], 27) := by decide +kernel
theorem dX11_span_60 : decode cX11_span 60 = .ok (.aload_n 3, 1) := by decide +kernel
theorem dX11_span_61 : decode cX11_span 61 = .ok (.invokevirtual 157, 3) := by decide +kernel
theorem dX11_span_64 : decode cX11_span 64 = .ok (.ireturn, 1) := by decide +kernel
theorem dX11_span_65 : decode cX11_span 65 = .ok (.aload_n 3, 1) := by decide +kernel
theorem dX11_span_66 : decode cX11_span 66 = .ok (.iconst 0, 1) := by decide +kernel
theorem dX11_span_67 : decode cX11_span 67 = .ok (.invokevirtual 163, 3) := by decide +kernel
theorem dX11_span_70 : decode cX11_span 70 = .ok (.ireturn, 1) := by decide +kernel
theorem dX11_span_71 : decode cX11_span 71 = .ok (.aload_n 3, 1) := by decide +kernel
theorem dX11_span_72 : decode cX11_span 72 = .ok (.sipush 999, 3) := by decide +kernel
theorem dX11_span_75 : decode cX11_span 75 = .ok (.invokevirtual 167, 3) := by decide +kernel
theorem dX11_span_78 : decode cX11_span 78 = .ok (.ireturn, 1) := by decide +kernel
theorem dX11_can_0 : decode cX11_can 0 = .ok (.aload_n 0, 1) := by decide +kernel
theorem dX11_can_1 : decode cX11_can 1 = .ok (.iload_n 1, 1) := by decide +kernel
theorem dX11_can_2 : decode cX11_can 2 = .ok (.invokevirtual 127, 3) := by decide +kernel
theorem dX11_can_5 : decode cX11_can 5 = .ok (.ifCond .eq 10, 3) := by decide +kernel
theorem dX11_can_8 : decode cX11_can 8 = .ok (.iload_n 2, 1) := by decide +kernel
theorem dX11_can_9 : decode cX11_can 9 = .ok (.invokestatic 100, 3) := by decide +kernel
theorem dX11_can_12 : decode cX11_can 12 = .ok (.ifCond .ne 5, 3) := by decide +kernel
theorem dX11_can_15 : decode cX11_can 15 = .ok (.iconst (-1), 1) := by decide +kernel
theorem dX11_can_16 : decode cX11_can 16 = .ok (.ireturn, 1) := by decide +kernel
theorem dX11_can_17 : decode cX11_can 17 = .ok (.aload_n 0, 1) := by decide +kernel
theorem dX11_can_18 : decode cX11_can 18 = .ok (.getfield 28, 3) := by decide +kernel
theorem dX11_can_21 : decode cX11_can 21 = .ok (.getfield 130, 3) := by decide +kernel
theorem dX11_can_24 : decode cX11_can 24 = .ok (.iload_n 1, 1) := by decide +kernel
theorem dX11_can_25 : decode cX11_can 25 = .ok (.aaload, 1) := by decide +kernel
theorem dX11_can_26 : decode cX11_can 26 = .ok (.getfield 153, 3) := by decide +kernel
theorem dX11_can_29 : decode cX11_can 29 = .ok (.iload_n 2, 1) := by decide +kernel
theorem dX11_can_30 : decode cX11_can 30 = .ok (.invokevirtual 170, 3) := by decide +kernel
theorem dX11_can_33 : decode cX11_can 33 = .ok (.ifCond .eq 7, 3) := by decide +kernel
theorem dX11_can_36 : decode cX11_can 36 = .ok (.iconst 1, 1) := by decide +kernel
theorem dX11_can_37 : decode cX11_can 37 = .ok (.goto 4, 3) := by decide +kernel
theorem dX11_can_40 : decode cX11_can 40 = .ok (.iconst 0, 1) := by decide +kernel
theorem dX11_can_41 : decode cX11_can 41 = .ok (.ireturn, 1) := by decide +kernel
theorem dX11_marks_0 : decode cX11_marks 0 = .ok (.iload_n 1, 1) := by decide +kernel
theorem dX11_marks_1 : decode cX11_marks 1 = .ok (.invokestatic 97, 3) := by decide +kernel
theorem dX11_marks_4 : decode cX11_marks 4 = .ok (.ifCond .eq 10, 3) := by decide +kernel
theorem dX11_marks_7 : decode cX11_marks 7 = .ok (.iload_n 2, 1) := by decide +kernel
theorem dX11_marks_8 : decode cX11_marks 8 = .ok (.invokestatic 100, 3) := by decide +kernel
theorem dX11_marks_11 : decode cX11_marks 11 = .ok (.ifCond .ne 5, 3) := by decide +kernel
theorem dX11_marks_14 : decode cX11_marks 14 = .ok (.iconst (-1), 1) := by decide +kernel
theorem dX11_marks_15 : decode cX11_marks 15 = .ok (.ireturn, 1) := by decide +kernel
theorem dX11_marks_16 : decode cX11_marks 16 = .ok (.aload_n 0, 1) := by decide +kernel
theorem dX11_marks_17 : decode cX11_marks 17 = .ok (.getfield 28, 3) := by decide +kernel
theorem dX11_marks_20 : decode cX11_marks 20 = .ok (.iload_n 1, 1) := by decide +kernel
theorem dX11_marks_21 : decode cX11_marks 21 = .ok (.iload_n 2, 1) := by decide +kernel
theorem dX11_marks_22 : decode cX11_marks 22 = .ok (.invokevirtual 173, 3) := by decide +kernel
theorem dX11_marks_25 : decode cX11_marks 25 = .ok (.ireturn, 1) := by decide +kernel
theorem dX11_sail_0 : decode cX11_sail 0 = .ok (.iload_n 1, 1) := by decide +kernel
theorem dX11_sail_1 : decode cX11_sail 1 = .ok (.iload_n 2, 1) := by decide +kernel
theorem dX11_sail_2 : decode cX11_sail 2 = .ok (.invokestatic 177, 3) := by decide +kernel
theorem dX11_sail_5 : decode cX11_sail 5 = .ok (.ifCond .eq 12, 3) := by decide +kernel
theorem dX11_sail_8 : decode cX11_sail 8 = .ok (.iload_n 3, 1) := by decide +kernel
theorem dX11_sail_9 : decode cX11_sail 9 = .ok (.iload 4, 2) := by decide +kernel
theorem dX11_sail_11 : decode cX11_sail 11 = .ok (.invokestatic 83, 3) := by decide +kernel
theorem dX11_sail_14 : decode cX11_sail 14 = .ok (.ifCond .ne 5, 3) := by decide +kernel
theorem dX11_sail_17 : decode cX11_sail 17 = .ok (.iconst (-1), 1) := by decide +kernel
theorem dX11_sail_18 : decode cX11_sail 18 = .ok (.ireturn, 1) := by decide +kernel
theorem dX11_sail_19 : decode cX11_sail 19 = .ok (.aload_n 0, 1) := by decide +kernel
theorem dX11_sail_20 : decode cX11_sail 20 = .ok (.getfield 42, 3) := by decide +kernel
theorem dX11_sail_23 : decode cX11_sail 23 = .ok (.getfield 180, 3) := by decide +kernel
theorem dX11_sail_26 : decode cX11_sail 26 = .ok (.bipush 20, 2) := by decide +kernel
theorem dX11_sail_28 : decode cX11_sail 28 = .ok (.if_icmp .lt 6, 3) := by decide +kernel
theorem dX11_sail_31 : decode cX11_sail 31 = .ok (.bipush (-3), 2) := by decide +kernel
theorem dX11_sail_33 : decode cX11_sail 33 = .ok (.ireturn, 1) := by decide +kernel
theorem dX11_sail_34 : decode cX11_sail 34 = .ok (.aload_n 0, 1) := by decide +kernel
theorem dX11_sail_35 : decode cX11_sail 35 = .ok (.getfield 42, 3) := by decide +kernel
theorem dX11_sail_38 : decode cX11_sail 38 = .ok (.iload_n 1, 1) := by decide +kernel
theorem dX11_sail_39 : decode cX11_sail 39 = .ok (.iload_n 2, 1) := by decide +kernel
theorem dX11_sail_40 : decode cX11_sail 40 = .ok (.iload_n 3, 1) := by decide +kernel
theorem dX11_sail_41 : decode cX11_sail 41 = .ok (.iload 4, 2) := by decide +kernel
theorem dX11_sail_43 : decode cX11_sail 43 = .ok (.invokevirtual 183, 3) := by decide +kernel
theorem dX11_sail_46 : decode cX11_sail 46 = .ok (.ireturn, 1) := by decide +kernel
theorem dX11_late_0 : decode cX11_late 0 = .ok (.iload_n 1, 1) := by decide +kernel
theorem dX11_late_1 : decode cX11_late 1 = .ok (.iconst 0, 1) := by decide +kernel
theorem dX11_late_2 : decode cX11_late 2 = .ok (.aload_n 0, 1) := by decide +kernel
theorem dX11_late_3 : decode cX11_late 3 = .ok (.getfield 42, 3) := by decide +kernel
theorem dX11_late_6 : decode cX11_late 6 = .ok (.getfield 180, 3) := by decide +kernel
theorem dX11_late_9 : decode cX11_late 9 = .ok (.iconst 1, 1) := by decide +kernel
theorem dX11_late_10 : decode cX11_late 10 = .ok (.isub, 1) := by decide +kernel
theorem dX11_late_11 : decode cX11_late 11 = .ok (.invokestatic 79, 3) := by decide +kernel
theorem dX11_late_14 : decode cX11_late 14 = .ok (.ifCond .ne 5, 3) := by decide +kernel
theorem dX11_late_17 : decode cX11_late 17 = .ok (.iconst (-1), 1) := by decide +kernel
theorem dX11_late_18 : decode cX11_late 18 = .ok (.ireturn, 1) := by decide +kernel
theorem dX11_late_19 : decode cX11_late 19 = .ok (.iload_n 2, 1) := by decide +kernel
theorem dX11_late_20 : decode cX11_late 20 = .ok (.bipush (-9), 2) := by decide +kernel
theorem dX11_late_22 : decode cX11_late 22 = .ok (.if_icmp .eq 21, 3) := by decide +kernel
theorem dX11_late_25 : decode cX11_late 25 = .ok (.aload_n 0, 1) := by decide +kernel
theorem dX11_late_26 : decode cX11_late 26 = .ok (.getfield 42, 3) := by decide +kernel
theorem dX11_late_29 : decode cX11_late 29 = .ok (.getfield 187, 3) := by decide +kernel
theorem dX11_late_32 : decode cX11_late 32 = .ok (.iload_n 1, 1) := by decide +kernel
theorem dX11_late_33 : decode cX11_late 33 = .ok (.iaload, 1) := by decide +kernel
theorem dX11_late_34 : decode cX11_late 34 = .ok (.iload_n 2, 1) := by decide +kernel
theorem dX11_late_35 : decode cX11_late 35 = .ok (.invokestatic 83, 3) := by decide +kernel
theorem dX11_late_38 : decode cX11_late 38 = .ok (.ifCond .ne 5, 3) := by decide +kernel
theorem dX11_late_41 : decode cX11_late 41 = .ok (.iconst (-1), 1) := by decide +kernel
theorem dX11_late_42 : decode cX11_late 42 = .ok (.ireturn, 1) := by decide +kernel
theorem dX11_late_43 : decode cX11_late 43 = .ok (.aload_n 0, 1) := by decide +kernel
theorem dX11_late_44 : decode cX11_late 44 = .ok (.getfield 42, 3) := by decide +kernel
theorem dX11_late_47 : decode cX11_late 47 = .ok (.getfield 190, 3) := by decide +kernel
theorem dX11_late_50 : decode cX11_late 50 = .ok (.iload_n 1, 1) := by decide +kernel
theorem dX11_late_51 : decode cX11_late 51 = .ok (.iaload, 1) := by decide +kernel
theorem dX11_late_52 : decode cX11_late 52 = .ok (.istore_n 3, 1) := by decide +kernel
theorem dX11_late_53 : decode cX11_late 53 = .ok (.aload_n 0, 1) := by decide +kernel
theorem dX11_late_54 : decode cX11_late 54 = .ok (.getfield 42, 3) := by decide +kernel
theorem dX11_late_57 : decode cX11_late 57 = .ok (.getfield 190, 3) := by decide +kernel
theorem dX11_late_60 : decode cX11_late 60 = .ok (.iload_n 1, 1) := by decide +kernel
theorem dX11_late_61 : decode cX11_late 61 = .ok (.iload_n 2, 1) := by decide +kernel
theorem dX11_late_62 : decode cX11_late 62 = .ok (.iastore, 1) := by decide +kernel
theorem dX11_late_63 : decode cX11_late 63 = .ok (.iload_n 3, 1) := by decide +kernel
theorem dX11_late_64 : decode cX11_late 64 = .ok (.ireturn, 1) := by decide +kernel
theorem dX11_road_0 : decode cX11_road 0 = .ok (.iload_n 1, 1) := by decide +kernel
theorem dX11_road_1 : decode cX11_road 1 = .ok (.iload_n 2, 1) := by decide +kernel
theorem dX11_road_2 : decode cX11_road 2 = .ok (.invokestatic 177, 3) := by decide +kernel
theorem dX11_road_5 : decode cX11_road 5 = .ok (.ifCond .eq 19, 3) := by decide +kernel
theorem dX11_road_8 : decode cX11_road 8 = .ok (.iload_n 3, 1) := by decide +kernel
theorem dX11_road_9 : decode cX11_road 9 = .ok (.bipush (-9), 2) := by decide +kernel
theorem dX11_road_11 : decode cX11_road 11 = .ok (.if_icmp .eq 15, 3) := by decide +kernel
theorem dX11_road_14 : decode cX11_road 14 = .ok (.iload_n 3, 1) := by decide +kernel
theorem dX11_road_15 : decode cX11_road 15 = .ok (.iconst 1, 1) := by decide +kernel
theorem dX11_road_16 : decode cX11_road 16 = .ok (.bipush 30, 2) := by decide +kernel
theorem dX11_road_18 : decode cX11_road 18 = .ok (.invokestatic 79, 3) := by decide +kernel
theorem dX11_road_21 : decode cX11_road 21 = .ok (.ifCond .ne 5, 3) := by decide +kernel
theorem dX11_road_24 : decode cX11_road 24 = .ok (.iconst (-1), 1) := by decide +kernel
theorem dX11_road_25 : decode cX11_road 25 = .ok (.ireturn, 1) := by decide +kernel
theorem dX11_road_26 : decode cX11_road 26 = .ok (.aload_n 0, 1) := by decide +kernel
theorem dX11_road_27 : decode cX11_road 27 = .ok (.getfield 42, 3) := by decide +kernel
theorem dX11_road_30 : decode cX11_road 30 = .ok (.getfield 193, 3) := by decide +kernel
theorem dX11_road_33 : decode cX11_road 33 = .ok (.iload_n 1, 1) := by decide +kernel
theorem dX11_road_34 : decode cX11_road 34 = .ok (.aaload, 1) := by decide +kernel
theorem dX11_road_35 : decode cX11_road 35 = .ok (.iload_n 2, 1) := by decide +kernel
theorem dX11_road_36 : decode cX11_road 36 = .ok (.iaload, 1) := by decide +kernel
theorem dX11_road_37 : decode cX11_road 37 = .ok (.istore 4, 2) := by decide +kernel
theorem dX11_road_39 : decode cX11_road 39 = .ok (.aload_n 0, 1) := by decide +kernel
theorem dX11_road_40 : decode cX11_road 40 = .ok (.getfield 42, 3) := by decide +kernel
theorem dX11_road_43 : decode cX11_road 43 = .ok (.getfield 193, 3) := by decide +kernel
theorem dX11_road_46 : decode cX11_road 46 = .ok (.iload_n 1, 1) := by decide +kernel
theorem dX11_road_47 : decode cX11_road 47 = .ok (.aaload, 1) := by decide +kernel
theorem dX11_road_48 : decode cX11_road 48 = .ok (.iload_n 2, 1) := by decide +kernel
theorem dX11_road_49 : decode cX11_road 49 = .ok (.iload_n 3, 1) := by decide +kernel
theorem dX11_road_50 : decode cX11_road 50 = .ok (.iastore, 1) := by decide +kernel
theorem dX11_road_51 : decode cX11_road 51 = .ok (.aload_n 0, 1) := by decide +kernel
theorem dX11_road_52 : decode cX11_road 52 = .ok (.getfield 42, 3) := by decide +kernel
theorem dX11_road_55 : decode cX11_road 55 = .ok (.getfield 193, 3) := by decide +kernel
theorem dX11_road_58 : decode cX11_road 58 = .ok (.iload_n 2, 1) := by decide +kernel
theorem dX11_road_59 : decode cX11_road 59 = .ok (.aaload, 1) := by decide +kernel
theorem dX11_road_60 : decode cX11_road 60 = .ok (.iload_n 1, 1) := by decide +kernel
theorem dX11_road_61 : decode cX11_road 61 = .ok (.iload_n 3, 1) := by decide +kernel
theorem dX11_road_62 : decode cX11_road 62 = .ok (.iastore, 1) := by decide +kernel
theorem dX11_road_63 : decode cX11_road 63 = .ok (.iload 4, 2) := by decide +kernel
theorem dX11_road_65 : decode cX11_road 65 = .ok (.ireturn, 1) := by decide +kernel
theorem dX11_soonest_0 : decode cX11_soonest 0 = .ok (.iload_n 1, 1) := by decide +kernel
theorem dX11_soonest_1 : decode cX11_soonest 1 = .ok (.iconst 0, 1) := by decide +kernel
theorem dX11_soonest_2 : decode cX11_soonest 2 = .ok (.iconst 5, 1) := by decide +kernel
theorem dX11_soonest_3 : decode cX11_soonest 3 = .ok (.invokestatic 79, 3) := by decide +kernel
theorem dX11_soonest_6 : decode cX11_soonest 6 = .ok (.ifCond .eq 19, 3) := by decide +kernel
theorem dX11_soonest_9 : decode cX11_soonest 9 = .ok (.iload_n 2, 1) := by decide +kernel
theorem dX11_soonest_10 : decode cX11_soonest 10 = .ok (.invokestatic 100, 3) := by decide +kernel
theorem dX11_soonest_13 : decode cX11_soonest 13 = .ok (.ifCond .eq 12, 3) := by decide +kernel
theorem dX11_soonest_16 : decode cX11_soonest 16 = .ok (.iload_n 3, 1) := by decide +kernel
theorem dX11_soonest_17 : decode cX11_soonest 17 = .ok (.iconst 0, 1) := by decide +kernel
theorem dX11_soonest_18 : decode cX11_soonest 18 = .ok (.iconst 5, 1) := by decide +kernel
theorem dX11_soonest_19 : decode cX11_soonest 19 = .ok (.invokestatic 79, 3) := by decide +kernel
theorem dX11_soonest_22 : decode cX11_soonest 22 = .ok (.ifCond .ne 5, 3) := by decide +kernel
theorem dX11_soonest_25 : decode cX11_soonest 25 = .ok (.iconst (-1), 1) := by decide +kernel
theorem dX11_soonest_26 : decode cX11_soonest 26 = .ok (.ireturn, 1) := by decide +kernel
theorem dX11_soonest_27 : decode cX11_soonest 27 = .ok (.aload_n 0, 1) := by decide +kernel
theorem dX11_soonest_28 : decode cX11_soonest 28 = .ok (.getfield 42, 3) := by decide +kernel
theorem dX11_soonest_31 : decode cX11_soonest 31 = .ok (.iload_n 1, 1) := by decide +kernel
theorem dX11_soonest_32 : decode cX11_soonest 32 = .ok (.iload_n 2, 1) := by decide +kernel
theorem dX11_soonest_33 : decode cX11_soonest 33 = .ok (.invokevirtual 197, 3) := by decide +kernel
theorem dX11_soonest_36 : decode cX11_soonest 36 = .ok (.aload_n 0, 1) := by decide +kernel
theorem dX11_soonest_37 : decode cX11_soonest 37 = .ok (.getfield 42, 3) := by decide +kernel
theorem dX11_soonest_40 : decode cX11_soonest 40 = .ok (.getfield 200, 3) := by decide +kernel
theorem dX11_soonest_43 : decode cX11_soonest 43 = .ok (.iload_n 3, 1) := by decide +kernel
theorem dX11_soonest_44 : decode cX11_soonest 44 = .ok (.iaload, 1) := by decide +kernel
theorem dX11_soonest_45 : decode cX11_soonest 45 = .ok (.sipush 1000, 3) := by decide +kernel
theorem dX11_soonest_48 : decode cX11_soonest 48 = .ok (.if_icmp .ge 15, 3) := by decide +kernel
theorem dX11_soonest_51 : decode cX11_soonest 51 = .ok (.aload_n 0, 1) := by decide +kernel
theorem dX11_soonest_52 : decode cX11_soonest 52 = .ok (.getfield 42, 3) := by decide +kernel
theorem dX11_soonest_55 : decode cX11_soonest 55 = .ok (.getfield 200, 3) := by decide +kernel
theorem dX11_soonest_58 : decode cX11_soonest 58 = .ok (.iload_n 3, 1) := by decide +kernel
theorem dX11_soonest_59 : decode cX11_soonest 59 = .ok (.iaload, 1) := by decide +kernel
theorem dX11_soonest_60 : decode cX11_soonest 60 = .ok (.goto 5, 3) := by decide +kernel
theorem dX11_soonest_63 : decode cX11_soonest 63 = .ok (.bipush (-9), 2) := by decide +kernel
theorem dX11_soonest_65 : decode cX11_soonest 65 = .ok (.ireturn, 1) := by decide +kernel
theorem dX11_goes_0 : decode cX11_goes 0 = .ok (.iload_n 1, 1) := by decide +kernel
theorem dX11_goes_1 : decode cX11_goes 1 = .ok (.invokestatic 97, 3) := by decide +kernel
theorem dX11_goes_4 : decode cX11_goes 4 = .ok (.ifCond .eq 10, 3) := by decide +kernel
theorem dX11_goes_7 : decode cX11_goes 7 = .ok (.iload_n 2, 1) := by decide +kernel
theorem dX11_goes_8 : decode cX11_goes 8 = .ok (.invokestatic 100, 3) := by decide +kernel
theorem dX11_goes_11 : decode cX11_goes 11 = .ok (.ifCond .ne 5, 3) := by decide +kernel
theorem dX11_goes_14 : decode cX11_goes 14 = .ok (.iconst (-1), 1) := by decide +kernel
theorem dX11_goes_15 : decode cX11_goes 15 = .ok (.ireturn, 1) := by decide +kernel
theorem dX11_goes_16 : decode cX11_goes 16 = .ok (.aload_n 0, 1) := by decide +kernel
theorem dX11_goes_17 : decode cX11_goes 17 = .ok (.getfield 51, 3) := by decide +kernel
theorem dX11_goes_20 : decode cX11_goes 20 = .ok (.aload_n 0, 1) := by decide +kernel
theorem dX11_goes_21 : decode cX11_goes 21 = .ok (.getfield 28, 3) := by decide +kernel
theorem dX11_goes_24 : decode cX11_goes 24 = .ok (.iload_n 1, 1) := by decide +kernel
theorem dX11_goes_25 : decode cX11_goes 25 = .ok (.iload_n 2, 1) := by decide +kernel
theorem dX11_goes_26 : decode cX11_goes 26 = .ok (.invokevirtual 203, 3) := by decide +kernel
theorem dX11_goes_29 : decode cX11_goes 29 = .ok (.ifCond .ne 6, 3) := by decide +kernel
theorem dX11_goes_32 : decode cX11_goes 32 = .ok (.bipush (-2), 2) := by decide +kernel
theorem dX11_goes_34 : decode cX11_goes 34 = .ok (.ireturn, 1) := by decide +kernel
theorem dX11_goes_35 : decode cX11_goes 35 = .ok (.iload_n 3, 1) := by decide +kernel
theorem dX11_goes_36 : decode cX11_goes 36 = .ok (.iconst 0, 1) := by decide +kernel
theorem dX11_goes_37 : decode cX11_goes 37 = .ok (.iconst 1, 1) := by decide +kernel
theorem dX11_goes_38 : decode cX11_goes 38 = .ok (.aload_n 0, 1) := by decide +kernel
theorem dX11_goes_39 : decode cX11_goes 39 = .ok (.getfield 51, 3) := by decide +kernel
theorem dX11_goes_42 : decode cX11_goes 42 = .ok (.getfield 207, 3) := by decide +kernel
theorem dX11_goes_45 : decode cX11_goes 45 = .ok (.ishl, 1) := by decide +kernel
theorem dX11_goes_46 : decode cX11_goes 46 = .ok (.iconst 1, 1) := by decide +kernel
theorem dX11_goes_47 : decode cX11_goes 47 = .ok (.isub, 1) := by decide +kernel
theorem dX11_goes_48 : decode cX11_goes 48 = .ok (.invokestatic 79, 3) := by decide +kernel
theorem dX11_goes_51 : decode cX11_goes 51 = .ok (.ifCond .ne 5, 3) := by decide +kernel
theorem dX11_goes_54 : decode cX11_goes 54 = .ok (.iconst (-1), 1) := by decide +kernel
theorem dX11_goes_55 : decode cX11_goes 55 = .ok (.ireturn, 1) := by decide +kernel
theorem dX11_goes_56 : decode cX11_goes 56 = .ok (.aload_n 0, 1) := by decide +kernel
theorem dX11_goes_57 : decode cX11_goes 57 = .ok (.getfield 51, 3) := by decide +kernel
theorem dX11_goes_60 : decode cX11_goes 60 = .ok (.iload_n 3, 1) := by decide +kernel
theorem dX11_goes_61 : decode cX11_goes 61 = .ok (.invokevirtual 210, 3) := by decide +kernel
theorem dX11_goes_64 : decode cX11_goes 64 = .ok (.bipush (-9), 2) := by decide +kernel
theorem dX11_goes_66 : decode cX11_goes 66 = .ok (.if_icmp .ne 7, 3) := by decide +kernel
theorem dX11_goes_69 : decode cX11_goes 69 = .ok (.iconst 1, 1) := by decide +kernel
theorem dX11_goes_70 : decode cX11_goes 70 = .ok (.goto 4, 3) := by decide +kernel
theorem dX11_goes_73 : decode cX11_goes 73 = .ok (.iconst 0, 1) := by decide +kernel
theorem dX11_goes_74 : decode cX11_goes 74 = .ok (.ireturn, 1) := by decide +kernel
theorem dX11_when_0 : decode cX11_when 0 = .ok (.iload_n 1, 1) := by decide +kernel
theorem dX11_when_1 : decode cX11_when 1 = .ok (.invokestatic 97, 3) := by decide +kernel
theorem dX11_when_4 : decode cX11_when 4 = .ok (.ifCond .eq 20, 3) := by decide +kernel
theorem dX11_when_7 : decode cX11_when 7 = .ok (.iload_n 2, 1) := by decide +kernel
theorem dX11_when_8 : decode cX11_when 8 = .ok (.invokestatic 100, 3) := by decide +kernel
theorem dX11_when_11 : decode cX11_when 11 = .ok (.ifCond .eq 13, 3) := by decide +kernel
theorem dX11_when_14 : decode cX11_when 14 = .ok (.iload 4, 2) := by decide +kernel
theorem dX11_when_16 : decode cX11_when 16 = .ok (.iconst 0, 1) := by decide +kernel
theorem dX11_when_17 : decode cX11_when 17 = .ok (.iconst 1, 1) := by decide +kernel
theorem dX11_when_18 : decode cX11_when 18 = .ok (.invokestatic 79, 3) := by decide +kernel
theorem dX11_when_21 : decode cX11_when 21 = .ok (.ifCond .ne 5, 3) := by decide +kernel
theorem dX11_when_24 : decode cX11_when 24 = .ok (.iconst (-1), 1) := by decide +kernel
theorem dX11_when_25 : decode cX11_when 25 = .ok (.ireturn, 1) := by decide +kernel
theorem dX11_when_26 : decode cX11_when 26 = .ok (.aload_n 0, 1) := by decide +kernel
theorem dX11_when_27 : decode cX11_when 27 = .ok (.getfield 51, 3) := by decide +kernel
theorem dX11_when_30 : decode cX11_when 30 = .ok (.aload_n 0, 1) := by decide +kernel
theorem dX11_when_31 : decode cX11_when 31 = .ok (.getfield 28, 3) := by decide +kernel
theorem dX11_when_34 : decode cX11_when 34 = .ok (.iload_n 1, 1) := by decide +kernel
theorem dX11_when_35 : decode cX11_when 35 = .ok (.iload_n 2, 1) := by decide +kernel
theorem dX11_when_36 : decode cX11_when 36 = .ok (.invokevirtual 203, 3) := by decide +kernel
theorem dX11_when_39 : decode cX11_when 39 = .ok (.ifCond .ne 6, 3) := by decide +kernel
theorem dX11_when_42 : decode cX11_when 42 = .ok (.bipush (-2), 2) := by decide +kernel
theorem dX11_when_44 : decode cX11_when 44 = .ok (.ireturn, 1) := by decide +kernel
theorem dX11_when_45 : decode cX11_when 45 = .ok (.iload_n 3, 1) := by decide +kernel
theorem dX11_when_46 : decode cX11_when 46 = .ok (.iconst 0, 1) := by decide +kernel
theorem dX11_when_47 : decode cX11_when 47 = .ok (.aload_n 0, 1) := by decide +kernel
theorem dX11_when_48 : decode cX11_when 48 = .ok (.getfield 51, 3) := by decide +kernel
theorem dX11_when_51 : decode cX11_when 51 = .ok (.getfield 207, 3) := by decide +kernel
theorem dX11_when_54 : decode cX11_when 54 = .ok (.iconst 1, 1) := by decide +kernel
theorem dX11_when_55 : decode cX11_when 55 = .ok (.isub, 1) := by decide +kernel
theorem dX11_when_56 : decode cX11_when 56 = .ok (.invokestatic 79, 3) := by decide +kernel
theorem dX11_when_59 : decode cX11_when 59 = .ok (.ifCond .ne 5, 3) := by decide +kernel
theorem dX11_when_62 : decode cX11_when 62 = .ok (.iconst (-1), 1) := by decide +kernel
theorem dX11_when_63 : decode cX11_when 63 = .ok (.ireturn, 1) := by decide +kernel
theorem dX11_when_64 : decode cX11_when 64 = .ok (.aload_n 0, 1) := by decide +kernel
theorem dX11_when_65 : decode cX11_when 65 = .ok (.getfield 51, 3) := by decide +kernel
theorem dX11_when_68 : decode cX11_when 68 = .ok (.iconst 0, 1) := by decide +kernel
theorem dX11_when_69 : decode cX11_when 69 = .ok (.invokevirtual 210, 3) := by decide +kernel
theorem dX11_when_72 : decode cX11_when 72 = .ok (.bipush (-9), 2) := by decide +kernel
theorem dX11_when_74 : decode cX11_when 74 = .ok (.if_icmp .eq 6, 3) := by decide +kernel
theorem dX11_when_77 : decode cX11_when 77 = .ok (.bipush (-9), 2) := by decide +kernel
theorem dX11_when_79 : decode cX11_when 79 = .ok (.ireturn, 1) := by decide +kernel
theorem dX11_when_80 : decode cX11_when 80 = .ok (.iload 4, 2) := by decide +kernel
theorem dX11_when_82 : decode cX11_when 82 = .ok (.ifCond .ne 15, 3) := by decide +kernel
theorem dX11_when_85 : decode cX11_when 85 = .ok (.aload_n 0, 1) := by decide +kernel
theorem dX11_when_86 : decode cX11_when 86 = .ok (.getfield 51, 3) := by decide +kernel
theorem dX11_when_89 : decode cX11_when 89 = .ok (.getfield 213, 3) := by decide +kernel
theorem dX11_when_92 : decode cX11_when 92 = .ok (.iload_n 3, 1) := by decide +kernel
theorem dX11_when_93 : decode cX11_when 93 = .ok (.iaload, 1) := by decide +kernel
theorem dX11_when_94 : decode cX11_when 94 = .ok (.goto 11, 3) := by decide +kernel
theorem dX11_when_97 : decode cX11_when 97 = .ok (.aload_n 0, 1) := by decide +kernel
theorem dX11_when_98 : decode cX11_when 98 = .ok (.getfield 51, 3) := by decide +kernel
theorem dX11_when_101 : decode cX11_when 101 = .ok (.iload_n 3, 1) := by decide +kernel
theorem dX11_when_102 : decode cX11_when 102 = .ok (.invokevirtual 216, 3) := by decide +kernel
theorem dX11_when_105 : decode cX11_when 105 = .ok (.ireturn, 1) := by decide +kernel
theorem dX11_bars_0 : decode cX11_bars 0 = .ok (.iload_n 1, 1) := by decide +kernel
theorem dX11_bars_1 : decode cX11_bars 1 = .ok (.invokestatic 97, 3) := by decide +kernel
theorem dX11_bars_4 : decode cX11_bars 4 = .ok (.ifCond .eq 10, 3) := by decide +kernel
theorem dX11_bars_7 : decode cX11_bars 7 = .ok (.iload_n 2, 1) := by decide +kernel
theorem dX11_bars_8 : decode cX11_bars 8 = .ok (.invokestatic 100, 3) := by decide +kernel
theorem dX11_bars_11 : decode cX11_bars 11 = .ok (.ifCond .ne 5, 3) := by decide +kernel
theorem dX11_bars_14 : decode cX11_bars 14 = .ok (.iconst (-1), 1) := by decide +kernel
theorem dX11_bars_15 : decode cX11_bars 15 = .ok (.ireturn, 1) := by decide +kernel
theorem dX11_bars_16 : decode cX11_bars 16 = .ok (.aload_n 0, 1) := by decide +kernel
theorem dX11_bars_17 : decode cX11_bars 17 = .ok (.getfield 51, 3) := by decide +kernel
theorem dX11_bars_20 : decode cX11_bars 20 = .ok (.aload_n 0, 1) := by decide +kernel
theorem dX11_bars_21 : decode cX11_bars 21 = .ok (.getfield 28, 3) := by decide +kernel
theorem dX11_bars_24 : decode cX11_bars 24 = .ok (.iload_n 1, 1) := by decide +kernel
theorem dX11_bars_25 : decode cX11_bars 25 = .ok (.iload_n 2, 1) := by decide +kernel
theorem dX11_bars_26 : decode cX11_bars 26 = .ok (.invokevirtual 203, 3) := by decide +kernel
theorem dX11_bars_29 : decode cX11_bars 29 = .ok (.ifCond .ne 6, 3) := by decide +kernel
theorem dX11_bars_32 : decode cX11_bars 32 = .ok (.bipush (-2), 2) := by decide +kernel
theorem dX11_bars_34 : decode cX11_bars 34 = .ok (.ireturn, 1) := by decide +kernel
theorem dX11_bars_35 : decode cX11_bars 35 = .ok (.aload_n 0, 1) := by decide +kernel
theorem dX11_bars_36 : decode cX11_bars 36 = .ok (.getfield 51, 3) := by decide +kernel
theorem dX11_bars_39 : decode cX11_bars 39 = .ok (.iconst 0, 1) := by decide +kernel
theorem dX11_bars_40 : decode cX11_bars 40 = .ok (.invokevirtual 210, 3) := by decide +kernel
theorem dX11_bars_43 : decode cX11_bars 43 = .ok (.ireturn, 1) := by decide +kernel
theorem dX11_fewest_0 : decode cX11_fewest 0 = .ok (.iload_n 1, 1) := by decide +kernel
theorem dX11_fewest_1 : decode cX11_fewest 1 = .ok (.invokestatic 97, 3) := by decide +kernel
theorem dX11_fewest_4 : decode cX11_fewest 4 = .ok (.ifCond .eq 19, 3) := by decide +kernel
theorem dX11_fewest_7 : decode cX11_fewest 7 = .ok (.iload_n 2, 1) := by decide +kernel
theorem dX11_fewest_8 : decode cX11_fewest 8 = .ok (.invokestatic 100, 3) := by decide +kernel
theorem dX11_fewest_11 : decode cX11_fewest 11 = .ok (.ifCond .eq 12, 3) := by decide +kernel
theorem dX11_fewest_14 : decode cX11_fewest 14 = .ok (.iload_n 3, 1) := by decide +kernel
theorem dX11_fewest_15 : decode cX11_fewest 15 = .ok (.iconst 0, 1) := by decide +kernel
theorem dX11_fewest_16 : decode cX11_fewest 16 = .ok (.iconst 2, 1) := by decide +kernel
theorem dX11_fewest_17 : decode cX11_fewest 17 = .ok (.invokestatic 79, 3) := by decide +kernel
theorem dX11_fewest_20 : decode cX11_fewest 20 = .ok (.ifCond .ne 5, 3) := by decide +kernel
theorem dX11_fewest_23 : decode cX11_fewest 23 = .ok (.iconst (-1), 1) := by decide +kernel
theorem dX11_fewest_24 : decode cX11_fewest 24 = .ok (.ireturn, 1) := by decide +kernel
theorem dX11_fewest_25 : decode cX11_fewest 25 = .ok (.aload_n 0, 1) := by decide +kernel
theorem dX11_fewest_26 : decode cX11_fewest 26 = .ok (.getfield 51, 3) := by decide +kernel
theorem dX11_fewest_29 : decode cX11_fewest 29 = .ok (.aload_n 0, 1) := by decide +kernel
theorem dX11_fewest_30 : decode cX11_fewest 30 = .ok (.getfield 28, 3) := by decide +kernel
theorem dX11_fewest_33 : decode cX11_fewest 33 = .ok (.iload_n 1, 1) := by decide +kernel
theorem dX11_fewest_34 : decode cX11_fewest 34 = .ok (.iload_n 2, 1) := by decide +kernel
theorem dX11_fewest_35 : decode cX11_fewest 35 = .ok (.invokevirtual 203, 3) := by decide +kernel
theorem dX11_fewest_38 : decode cX11_fewest 38 = .ok (.ifCond .ne 6, 3) := by decide +kernel
theorem dX11_fewest_41 : decode cX11_fewest 41 = .ok (.bipush (-2), 2) := by decide +kernel
theorem dX11_fewest_43 : decode cX11_fewest 43 = .ok (.ireturn, 1) := by decide +kernel
theorem dX11_fewest_44 : decode cX11_fewest 44 = .ok (.aload_n 0, 1) := by decide +kernel
theorem dX11_fewest_45 : decode cX11_fewest 45 = .ok (.getfield 51, 3) := by decide +kernel
theorem dX11_fewest_48 : decode cX11_fewest 48 = .ok (.invokevirtual 219, 3) := by decide +kernel
theorem dX11_fewest_51 : decode cX11_fewest 51 = .ok (.iload_n 3, 1) := by decide +kernel
theorem dX11_fewest_52 : decode cX11_fewest 52 = .ok (.lookupswitch 44 #[(0, 28), (1, 36)], 28) := by decide +kernel
theorem dX11_fewest_80 : decode cX11_fewest 80 = .ok (.aload_n 0, 1) := by decide +kernel
theorem dX11_fewest_81 : decode cX11_fewest 81 = .ok (.getfield 51, 3) := by decide +kernel
theorem dX11_fewest_84 : decode cX11_fewest 84 = .ok (.getfield 222, 3) := by decide +kernel
theorem dX11_fewest_87 : decode cX11_fewest 87 = .ok (.ireturn, 1) := by decide +kernel
theorem dX11_fewest_88 : decode cX11_fewest 88 = .ok (.aload_n 0, 1) := by decide +kernel
theorem dX11_fewest_89 : decode cX11_fewest 89 = .ok (.getfield 51, 3) := by decide +kernel
theorem dX11_fewest_92 : decode cX11_fewest 92 = .ok (.getfield 225, 3) := by decide +kernel
theorem dX11_fewest_95 : decode cX11_fewest 95 = .ok (.ireturn, 1) := by decide +kernel
theorem dX11_fewest_96 : decode cX11_fewest 96 = .ok (.aload_n 0, 1) := by decide +kernel
theorem dX11_fewest_97 : decode cX11_fewest 97 = .ok (.getfield 51, 3) := by decide +kernel
theorem dX11_fewest_100 : decode cX11_fewest 100 = .ok (.getfield 228, 3) := by decide +kernel
theorem dX11_fewest_103 : decode cX11_fewest 103 = .ok (.ireturn, 1) := by decide +kernel
theorem dX11_type_0 : decode cX11_type 0 = .ok (.iload_n 3, 1) := by decide +kernel
theorem dX11_type_1 : decode cX11_type 1 = .ok (.iconst 1, 1) := by decide +kernel
theorem dX11_type_2 : decode cX11_type 2 = .ok (.bipush 8, 2) := by decide +kernel
theorem dX11_type_4 : decode cX11_type 4 = .ok (.invokestatic 79, 3) := by decide +kernel
theorem dX11_type_7 : decode cX11_type 7 = .ok (.ifCond .ne 5, 3) := by decide +kernel
theorem dX11_type_10 : decode cX11_type 10 = .ok (.iconst (-1), 1) := by decide +kernel
theorem dX11_type_11 : decode cX11_type 11 = .ok (.ireturn, 1) := by decide +kernel
theorem dX11_type_12 : decode cX11_type 12 = .ok (.aload_n 0, 1) := by decide +kernel
theorem dX11_type_13 : decode cX11_type 13 = .ok (.getfield 58, 3) := by decide +kernel
theorem dX11_type_16 : decode cX11_type 16 = .ok (.getfield 231, 3) := by decide +kernel
theorem dX11_type_19 : decode cX11_type 19 = .ok (.iload_n 3, 1) := by decide +kernel
theorem dX11_type_20 : decode cX11_type 20 = .ok (.iadd, 1) := by decide +kernel
theorem dX11_type_21 : decode cX11_type 21 = .ok (.sipush 600, 3) := by decide +kernel
theorem dX11_type_24 : decode cX11_type 24 = .ok (.if_icmp .le 6, 3) := by decide +kernel
theorem dX11_type_27 : decode cX11_type 27 = .ok (.bipush (-3), 2) := by decide +kernel
theorem dX11_type_29 : decode cX11_type 29 = .ok (.ireturn, 1) := by decide +kernel
theorem dX11_type_30 : decode cX11_type 30 = .ok (.aload_n 0, 1) := by decide +kernel
theorem dX11_type_31 : decode cX11_type 31 = .ok (.getfield 58, 3) := by decide +kernel
theorem dX11_type_34 : decode cX11_type 34 = .ok (.lload_n 1, 1) := by decide +kernel
theorem dX11_type_35 : decode cX11_type 35 = .ok (.iload_n 3, 1) := by decide +kernel
theorem dX11_type_36 : decode cX11_type 36 = .ok (.invokevirtual 232, 3) := by decide +kernel
theorem dX11_type_39 : decode cX11_type 39 = .ok (.aload_n 0, 1) := by decide +kernel
theorem dX11_type_40 : decode cX11_type 40 = .ok (.getfield 58, 3) := by decide +kernel
theorem dX11_type_43 : decode cX11_type 43 = .ok (.getfield 231, 3) := by decide +kernel
theorem dX11_type_46 : decode cX11_type 46 = .ok (.ireturn, 1) := by decide +kernel
theorem dX11_clear_0 : decode cX11_clear 0 = .ok (.aload_n 0, 1) := by decide +kernel
theorem dX11_clear_1 : decode cX11_clear 1 = .ok (.getfield 58, 3) := by decide +kernel
theorem dX11_clear_4 : decode cX11_clear 4 = .ok (.getfield 231, 3) := by decide +kernel
theorem dX11_clear_7 : decode cX11_clear 7 = .ok (.istore_n 1, 1) := by decide +kernel
theorem dX11_clear_8 : decode cX11_clear 8 = .ok (.aload_n 0, 1) := by decide +kernel
theorem dX11_clear_9 : decode cX11_clear 9 = .ok (.getfield 58, 3) := by decide +kernel
theorem dX11_clear_12 : decode cX11_clear 12 = .ok (.iconst 0, 1) := by decide +kernel
theorem dX11_clear_13 : decode cX11_clear 13 = .ok (.putfield 231, 3) := by decide +kernel
theorem dX11_clear_16 : decode cX11_clear 16 = .ok (.iload_n 1, 1) := by decide +kernel
theorem dX11_clear_17 : decode cX11_clear 17 = .ok (.ireturn, 1) := by decide +kernel
theorem dX11_rates_0 : decode cX11_rates 0 = .ok (.aload_n 0, 1) := by decide +kernel
theorem dX11_rates_1 : decode cX11_rates 1 = .ok (.getfield 58, 3) := by decide +kernel
theorem dX11_rates_4 : decode cX11_rates 4 = .ok (.aload_n 0, 1) := by decide +kernel
theorem dX11_rates_5 : decode cX11_rates 5 = .ok (.getfield 69, 3) := by decide +kernel
theorem dX11_rates_8 : decode cX11_rates 8 = .ok (.invokevirtual 236, 3) := by decide +kernel
theorem dX11_rates_11 : decode cX11_rates 11 = .ok (.istore_n 1, 1) := by decide +kernel
theorem dX11_rates_12 : decode cX11_rates 12 = .ok (.iload_n 1, 1) := by decide +kernel
theorem dX11_rates_13 : decode cX11_rates 13 = .ok (.bipush (-9), 2) := by decide +kernel
theorem dX11_rates_15 : decode cX11_rates 15 = .ok (.if_icmp .eq 8, 3) := by decide +kernel
theorem dX11_rates_18 : decode cX11_rates 18 = .ok (.bipush (-10), 2) := by decide +kernel
theorem dX11_rates_20 : decode cX11_rates 20 = .ok (.iload_n 1, 1) := by decide +kernel
theorem dX11_rates_21 : decode cX11_rates 21 = .ok (.isub, 1) := by decide +kernel
theorem dX11_rates_22 : decode cX11_rates 22 = .ok (.ireturn, 1) := by decide +kernel
theorem dX11_rates_23 : decode cX11_rates 23 = .ok (.aload_n 0, 1) := by decide +kernel
theorem dX11_rates_24 : decode cX11_rates 24 = .ok (.getfield 69, 3) := by decide +kernel
theorem dX11_rates_27 : decode cX11_rates 27 = .ok (.astore_n 2, 1) := by decide +kernel
theorem dX11_rates_28 : decode cX11_rates 28 = .ok (.aload_n 0, 1) := by decide +kernel
theorem dX11_rates_29 : decode cX11_rates 29 = .ok (.aload_n 0, 1) := by decide +kernel
theorem dX11_rates_30 : decode cX11_rates 30 = .ok (.getfield 65, 3) := by decide +kernel
theorem dX11_rates_33 : decode cX11_rates 33 = .ok (.putfield 69, 3) := by decide +kernel
theorem dX11_rates_36 : decode cX11_rates 36 = .ok (.aload_n 0, 1) := by decide +kernel
theorem dX11_rates_37 : decode cX11_rates 37 = .ok (.aload_n 2, 1) := by decide +kernel
theorem dX11_rates_38 : decode cX11_rates 38 = .ok (.putfield 65, 3) := by decide +kernel
theorem dX11_rates_41 : decode cX11_rates 41 = .ok (.aload_n 0, 1) := by decide +kernel
theorem dX11_rates_42 : decode cX11_rates 42 = .ok (.getfield 58, 3) := by decide +kernel
theorem dX11_rates_45 : decode cX11_rates 45 = .ok (.iconst 0, 1) := by decide +kernel
theorem dX11_rates_46 : decode cX11_rates 46 = .ok (.putfield 231, 3) := by decide +kernel
theorem dX11_rates_49 : decode cX11_rates 49 = .ok (.aload_n 0, 1) := by decide +kernel
theorem dX11_rates_50 : decode cX11_rates 50 = .ok (.getfield 65, 3) := by decide +kernel
theorem dX11_rates_53 : decode cX11_rates 53 = .ok (.getfield 240, 3) := by decide +kernel
theorem dX11_rates_56 : decode cX11_rates 56 = .ok (.ireturn, 1) := by decide +kernel
theorem dX11_owed_0 : decode cX11_owed 0 = .ok (.iload_n 1, 1) := by decide +kernel
theorem dX11_owed_1 : decode cX11_owed 1 = .ok (.iload_n 2, 1) := by decide +kernel
theorem dX11_owed_2 : decode cX11_owed 2 = .ok (.iload_n 3, 1) := by decide +kernel
theorem dX11_owed_3 : decode cX11_owed 3 = .ok (.invokestatic 241, 3) := by decide +kernel
theorem dX11_owed_6 : decode cX11_owed 6 = .ok (.ifCond .eq 25, 3) := by decide +kernel
theorem dX11_owed_9 : decode cX11_owed 9 = .ok (.iload 4, 2) := by decide +kernel
theorem dX11_owed_11 : decode cX11_owed 11 = .ok (.iconst 1, 1) := by decide +kernel
theorem dX11_owed_12 : decode cX11_owed 12 = .ok (.sipush 2000, 3) := by decide +kernel
theorem dX11_owed_15 : decode cX11_owed 15 = .ok (.invokestatic 79, 3) := by decide +kernel
theorem dX11_owed_18 : decode cX11_owed 18 = .ok (.ifCond .eq 13, 3) := by decide +kernel
theorem dX11_owed_21 : decode cX11_owed 21 = .ok (.iload 5, 2) := by decide +kernel
theorem dX11_owed_23 : decode cX11_owed 23 = .ok (.iconst 0, 1) := by decide +kernel
theorem dX11_owed_24 : decode cX11_owed 24 = .ok (.iconst 3, 1) := by decide +kernel
theorem dX11_owed_25 : decode cX11_owed 25 = .ok (.invokestatic 79, 3) := by decide +kernel
theorem dX11_owed_28 : decode cX11_owed 28 = .ok (.ifCond .ne 5, 3) := by decide +kernel
theorem dX11_owed_31 : decode cX11_owed 31 = .ok (.iconst (-1), 1) := by decide +kernel
theorem dX11_owed_32 : decode cX11_owed 32 = .ok (.ireturn, 1) := by decide +kernel
theorem dX11_owed_33 : decode cX11_owed 33 = .ok (.aload_n 0, 1) := by decide +kernel
theorem dX11_owed_34 : decode cX11_owed 34 = .ok (.getfield 65, 3) := by decide +kernel
theorem dX11_owed_37 : decode cX11_owed 37 = .ok (.iload_n 1, 1) := by decide +kernel
theorem dX11_owed_38 : decode cX11_owed 38 = .ok (.iload_n 2, 1) := by decide +kernel
theorem dX11_owed_39 : decode cX11_owed 39 = .ok (.iload_n 3, 1) := by decide +kernel
theorem dX11_owed_40 : decode cX11_owed 40 = .ok (.invokevirtual 244, 3) := by decide +kernel
theorem dX11_owed_43 : decode cX11_owed 43 = .ok (.istore 6, 2) := by decide +kernel
theorem dX11_owed_45 : decode cX11_owed 45 = .ok (.iload 6, 2) := by decide +kernel
theorem dX11_owed_47 : decode cX11_owed 47 = .ok (.bipush (-9), 2) := by decide +kernel
theorem dX11_owed_49 : decode cX11_owed 49 = .ok (.if_icmp .ne 6, 3) := by decide +kernel
theorem dX11_owed_52 : decode cX11_owed 52 = .ok (.bipush (-9), 2) := by decide +kernel
theorem dX11_owed_54 : decode cX11_owed 54 = .ok (.ireturn, 1) := by decide +kernel
theorem dX11_owed_55 : decode cX11_owed 55 = .ok (.aload_n 0, 1) := by decide +kernel
theorem dX11_owed_56 : decode cX11_owed 56 = .ok (.getfield 65, 3) := by decide +kernel
theorem dX11_owed_59 : decode cX11_owed 59 = .ok (.getfield 248, 3) := by decide +kernel
theorem dX11_owed_62 : decode cX11_owed 62 = .ok (.iload 6, 2) := by decide +kernel
theorem dX11_owed_64 : decode cX11_owed 64 = .ok (.aaload, 1) := by decide +kernel
theorem dX11_owed_65 : decode cX11_owed 65 = .ok (.astore 7, 2) := by decide +kernel
theorem dX11_owed_67 : decode cX11_owed 67 = .ok (.iload 5, 2) := by decide +kernel
theorem dX11_owed_69 : decode cX11_owed 69 = .ok (.tableswitch 62 0 2 #[27, 35, 48], 27) := by decide +kernel
theorem dX11_owed_96 : decode cX11_owed 96 = .ok (.aload 7, 2) := by decide +kernel
theorem dX11_owed_98 : decode cX11_owed 98 = .ok (.iload 4, 2) := by decide +kernel
theorem dX11_owed_100 : decode cX11_owed 100 = .ok (.invokevirtual 252, 3) := by decide +kernel
theorem dX11_owed_103 : decode cX11_owed 103 = .ok (.ireturn, 1) := by decide +kernel
theorem dX11_owed_104 : decode cX11_owed 104 = .ok (.aload 7, 2) := by decide +kernel
theorem dX11_owed_106 : decode cX11_owed 106 = .ok (.aload 7, 2) := by decide +kernel
theorem dX11_owed_108 : decode cX11_owed 108 = .ok (.iload 4, 2) := by decide +kernel
theorem dX11_owed_110 : decode cX11_owed 110 = .ok (.invokevirtual 252, 3) := by decide +kernel
theorem dX11_owed_113 : decode cX11_owed 113 = .ok (.invokevirtual 257, 3) := by decide +kernel
theorem dX11_owed_116 : decode cX11_owed 116 = .ok (.ireturn, 1) := by decide +kernel
theorem dX11_owed_117 : decode cX11_owed 117 = .ok (.aload 7, 2) := by decide +kernel
theorem dX11_owed_119 : decode cX11_owed 119 = .ok (.getfield 260, 3) := by decide +kernel
theorem dX11_owed_122 : decode cX11_owed 122 = .ok (.ifCond .eq 7, 3) := by decide +kernel
theorem dX11_owed_125 : decode cX11_owed 125 = .ok (.iconst 1, 1) := by decide +kernel
theorem dX11_owed_126 : decode cX11_owed 126 = .ok (.goto 4, 3) := by decide +kernel
theorem dX11_owed_129 : decode cX11_owed 129 = .ok (.iconst 0, 1) := by decide +kernel
theorem dX11_owed_130 : decode cX11_owed 130 = .ok (.ireturn, 1) := by decide +kernel
theorem dX11_owed_131 : decode cX11_owed 131 = .ok (.iload 6, 2) := by decide +kernel
theorem dX11_owed_133 : decode cX11_owed 133 = .ok (.ireturn, 1) := by decide +kernel
theorem dX11_weights_0 : decode cX11_weights 0 = .ok (.iload_n 1, 1) := by decide +kernel
theorem dX11_weights_1 : decode cX11_weights 1 = .ok (.iload_n 2, 1) := by decide +kernel
theorem dX11_weights_2 : decode cX11_weights 2 = .ok (.iload_n 3, 1) := by decide +kernel
theorem dX11_weights_3 : decode cX11_weights 3 = .ok (.invokestatic 241, 3) := by decide +kernel
theorem dX11_weights_6 : decode cX11_weights 6 = .ok (.ifCond .eq 25, 3) := by decide +kernel
theorem dX11_weights_9 : decode cX11_weights 9 = .ok (.iload 4, 2) := by decide +kernel
theorem dX11_weights_11 : decode cX11_weights 11 = .ok (.iconst 0, 1) := by decide +kernel
theorem dX11_weights_12 : decode cX11_weights 12 = .ok (.ldc_w 264, 3) := by decide +kernel
theorem dX11_weights_15 : decode cX11_weights 15 = .ok (.invokestatic 79, 3) := by decide +kernel
theorem dX11_weights_18 : decode cX11_weights 18 = .ok (.ifCond .eq 13, 3) := by decide +kernel
theorem dX11_weights_21 : decode cX11_weights 21 = .ok (.iload 5, 2) := by decide +kernel
theorem dX11_weights_23 : decode cX11_weights 23 = .ok (.iconst 0, 1) := by decide +kernel
theorem dX11_weights_24 : decode cX11_weights 24 = .ok (.iconst 2, 1) := by decide +kernel
theorem dX11_weights_25 : decode cX11_weights 25 = .ok (.invokestatic 79, 3) := by decide +kernel
theorem dX11_weights_28 : decode cX11_weights 28 = .ok (.ifCond .ne 5, 3) := by decide +kernel
theorem dX11_weights_31 : decode cX11_weights 31 = .ok (.iconst (-1), 1) := by decide +kernel
theorem dX11_weights_32 : decode cX11_weights 32 = .ok (.ireturn, 1) := by decide +kernel
theorem dX11_weights_33 : decode cX11_weights 33 = .ok (.aload_n 0, 1) := by decide +kernel
theorem dX11_weights_34 : decode cX11_weights 34 = .ok (.getfield 65, 3) := by decide +kernel
theorem dX11_weights_37 : decode cX11_weights 37 = .ok (.iload_n 1, 1) := by decide +kernel
theorem dX11_weights_38 : decode cX11_weights 38 = .ok (.iload_n 2, 1) := by decide +kernel
theorem dX11_weights_39 : decode cX11_weights 39 = .ok (.iload_n 3, 1) := by decide +kernel
theorem dX11_weights_40 : decode cX11_weights 40 = .ok (.invokevirtual 244, 3) := by decide +kernel
theorem dX11_weights_43 : decode cX11_weights 43 = .ok (.istore 6, 2) := by decide +kernel
theorem dX11_weights_45 : decode cX11_weights 45 = .ok (.iconst 0, 1) := by decide +kernel
theorem dX11_weights_46 : decode cX11_weights 46 = .ok (.istore 7, 2) := by decide +kernel
theorem dX11_weights_48 : decode cX11_weights 48 = .ok (.bipush (-9), 2) := by decide +kernel
theorem dX11_weights_50 : decode cX11_weights 50 = .ok (.istore 8, 2) := by decide +kernel
theorem dX11_weights_52 : decode cX11_weights 52 = .ok (.bipush (-9), 2) := by decide +kernel
theorem dX11_weights_54 : decode cX11_weights 54 = .ok (.istore 9, 2) := by decide +kernel
theorem dX11_weights_56 : decode cX11_weights 56 = .ok (.iconst 1, 1) := by decide +kernel
theorem dX11_weights_57 : decode cX11_weights 57 = .ok (.istore 10, 2) := by decide +kernel
theorem dX11_weights_59 : decode cX11_weights 59 = .ok (.iload 10, 2) := by decide +kernel
theorem dX11_weights_61 : decode cX11_weights 61 = .ok (.sipush 2000, 3) := by decide +kernel
theorem dX11_weights_64 : decode cX11_weights 64 = .ok (.if_icmp .gt 59, 3) := by decide +kernel
theorem dX11_weights_67 : decode cX11_weights 67 = .ok (.iload 6, 2) := by decide +kernel
theorem dX11_weights_69 : decode cX11_weights 69 = .ok (.bipush (-9), 2) := by decide +kernel
theorem dX11_weights_71 : decode cX11_weights 71 = .ok (.if_icmp .eq 52, 3) := by decide +kernel
theorem dX11_weights_74 : decode cX11_weights 74 = .ok (.aload_n 0, 1) := by decide +kernel
theorem dX11_weights_75 : decode cX11_weights 75 = .ok (.getfield 65, 3) := by decide +kernel
theorem dX11_weights_78 : decode cX11_weights 78 = .ok (.getfield 248, 3) := by decide +kernel
theorem dX11_weights_81 : decode cX11_weights 81 = .ok (.iload 6, 2) := by decide +kernel
theorem dX11_weights_83 : decode cX11_weights 83 = .ok (.aaload, 1) := by decide +kernel
theorem dX11_weights_84 : decode cX11_weights 84 = .ok (.iload 10, 2) := by decide +kernel
theorem dX11_weights_86 : decode cX11_weights 86 = .ok (.invokevirtual 252, 3) := by decide +kernel
theorem dX11_weights_89 : decode cX11_weights 89 = .ok (.iload 4, 2) := by decide +kernel
theorem dX11_weights_91 : decode cX11_weights 91 = .ok (.if_icmp .ne 26, 3) := by decide +kernel
theorem dX11_weights_94 : decode cX11_weights 94 = .ok (.iinc 7 1, 3) := by decide +kernel
theorem dX11_weights_97 : decode cX11_weights 97 = .ok (.iload 8, 2) := by decide +kernel
theorem dX11_weights_99 : decode cX11_weights 99 = .ok (.bipush (-9), 2) := by decide +kernel
theorem dX11_weights_101 : decode cX11_weights 101 = .ok (.if_icmp .ne 8, 3) := by decide +kernel
theorem dX11_weights_104 : decode cX11_weights 104 = .ok (.iload 10, 2) := by decide +kernel
theorem dX11_weights_106 : decode cX11_weights 106 = .ok (.goto 5, 3) := by decide +kernel
theorem dX11_weights_109 : decode cX11_weights 109 = .ok (.iload 8, 2) := by decide +kernel
theorem dX11_weights_111 : decode cX11_weights 111 = .ok (.istore 8, 2) := by decide +kernel
theorem dX11_weights_113 : decode cX11_weights 113 = .ok (.iload 10, 2) := by decide +kernel
theorem dX11_weights_115 : decode cX11_weights 115 = .ok (.istore 9, 2) := by decide +kernel
theorem dX11_weights_117 : decode cX11_weights 117 = .ok (.iinc 10 1, 3) := by decide +kernel
theorem dX11_weights_120 : decode cX11_weights 120 = .ok (.goto (-61), 3) := by decide +kernel
theorem dX11_weights_123 : decode cX11_weights 123 = .ok (.iload 5, 2) := by decide +kernel
theorem dX11_weights_125 : decode cX11_weights 125 = .ok (.lookupswitch 33 #[(0, 27), (1, 30)], 27) := by decide +kernel
theorem dX11_weights_152 : decode cX11_weights 152 = .ok (.iload 7, 2) := by decide +kernel
theorem dX11_weights_154 : decode cX11_weights 154 = .ok (.ireturn, 1) := by decide +kernel
theorem dX11_weights_155 : decode cX11_weights 155 = .ok (.iload 8, 2) := by decide +kernel
theorem dX11_weights_157 : decode cX11_weights 157 = .ok (.ireturn, 1) := by decide +kernel
theorem dX11_weights_158 : decode cX11_weights 158 = .ok (.iload 9, 2) := by decide +kernel
theorem dX11_weights_160 : decode cX11_weights 160 = .ok (.ireturn, 1) := by decide +kernel
theorem dX11_mail_0 : decode cX11_mail 0 = .ok (.iload_n 1, 1) := by decide +kernel
theorem dX11_mail_1 : decode cX11_mail 1 = .ok (.invokestatic 97, 3) := by decide +kernel
theorem dX11_mail_4 : decode cX11_mail 4 = .ok (.ifCond .eq 22, 3) := by decide +kernel
theorem dX11_mail_7 : decode cX11_mail 7 = .ok (.iload_n 2, 1) := by decide +kernel
theorem dX11_mail_8 : decode cX11_mail 8 = .ok (.invokestatic 97, 3) := by decide +kernel
theorem dX11_mail_11 : decode cX11_mail 11 = .ok (.ifCond .eq 15, 3) := by decide +kernel
theorem dX11_mail_14 : decode cX11_mail 14 = .ok (.iload_n 1, 1) := by decide +kernel
theorem dX11_mail_15 : decode cX11_mail 15 = .ok (.iload_n 2, 1) := by decide +kernel
theorem dX11_mail_16 : decode cX11_mail 16 = .ok (.if_icmp .eq 10, 3) := by decide +kernel
theorem dX11_mail_19 : decode cX11_mail 19 = .ok (.iload_n 3, 1) := by decide +kernel
theorem dX11_mail_20 : decode cX11_mail 20 = .ok (.invokestatic 100, 3) := by decide +kernel
theorem dX11_mail_23 : decode cX11_mail 23 = .ok (.ifCond .ne 5, 3) := by decide +kernel
theorem dX11_mail_26 : decode cX11_mail 26 = .ok (.iconst (-1), 1) := by decide +kernel
theorem dX11_mail_27 : decode cX11_mail 27 = .ok (.ireturn, 1) := by decide +kernel
theorem dX11_mail_28 : decode cX11_mail 28 = .ok (.aload_n 0, 1) := by decide +kernel
theorem dX11_mail_29 : decode cX11_mail 29 = .ok (.getfield 28, 3) := by decide +kernel
theorem dX11_mail_32 : decode cX11_mail 32 = .ok (.iload_n 1, 1) := by decide +kernel
theorem dX11_mail_33 : decode cX11_mail 33 = .ok (.iload_n 2, 1) := by decide +kernel
theorem dX11_mail_34 : decode cX11_mail 34 = .ok (.iload_n 3, 1) := by decide +kernel
theorem dX11_mail_35 : decode cX11_mail 35 = .ok (.invokevirtual 265, 3) := by decide +kernel
theorem dX11_mail_38 : decode cX11_mail 38 = .ok (.ifCond .eq 7, 3) := by decide +kernel
theorem dX11_mail_41 : decode cX11_mail 41 = .ok (.iconst 1, 1) := by decide +kernel
theorem dX11_mail_42 : decode cX11_mail 42 = .ok (.goto 4, 3) := by decide +kernel
theorem dX11_mail_45 : decode cX11_mail 45 = .ok (.iconst 0, 1) := by decide +kernel
theorem dX11_mail_46 : decode cX11_mail 46 = .ok (.ireturn, 1) := by decide +kernel
theorem dX11_heap_0 : decode cX11_heap 0 = .ok (.iload_n 1, 1) := by decide +kernel
theorem dX11_heap_1 : decode cX11_heap 1 = .ok (.invokestatic 97, 3) := by decide +kernel
theorem dX11_heap_4 : decode cX11_heap 4 = .ok (.ifCond .eq 10, 3) := by decide +kernel
theorem dX11_heap_7 : decode cX11_heap 7 = .ok (.iload_n 2, 1) := by decide +kernel
theorem dX11_heap_8 : decode cX11_heap 8 = .ok (.invokestatic 100, 3) := by decide +kernel
theorem dX11_heap_11 : decode cX11_heap 11 = .ok (.ifCond .ne 5, 3) := by decide +kernel
theorem dX11_heap_14 : decode cX11_heap 14 = .ok (.iconst (-1), 1) := by decide +kernel
theorem dX11_heap_15 : decode cX11_heap 15 = .ok (.ireturn, 1) := by decide +kernel
theorem dX11_heap_16 : decode cX11_heap 16 = .ok (.aload_n 0, 1) := by decide +kernel
theorem dX11_heap_17 : decode cX11_heap 17 = .ok (.getfield 28, 3) := by decide +kernel
theorem dX11_heap_20 : decode cX11_heap 20 = .ok (.iload_n 1, 1) := by decide +kernel
theorem dX11_heap_21 : decode cX11_heap 21 = .ok (.iload_n 2, 1) := by decide +kernel
theorem dX11_heap_22 : decode cX11_heap 22 = .ok (.invokevirtual 268, 3) := by decide +kernel
theorem dX11_heap_25 : decode cX11_heap 25 = .ok (.ireturn, 1) := by decide +kernel
theorem dX11_many_0 : decode cX11_many 0 = .ok (.iload_n 1, 1) := by decide +kernel
theorem dX11_many_1 : decode cX11_many 1 = .ok (.iconst 0, 1) := by decide +kernel
theorem dX11_many_2 : decode cX11_many 2 = .ok (.aload_n 0, 1) := by decide +kernel
theorem dX11_many_3 : decode cX11_many 3 = .ok (.getfield 76, 3) := by decide +kernel
theorem dX11_many_6 : decode cX11_many 6 = .ok (.iconst 1, 1) := by decide +kernel
theorem dX11_many_7 : decode cX11_many 7 = .ok (.isub, 1) := by decide +kernel
theorem dX11_many_8 : decode cX11_many 8 = .ok (.invokestatic 79, 3) := by decide +kernel
theorem dX11_many_11 : decode cX11_many 11 = .ok (.ifCond .eq 10, 3) := by decide +kernel
theorem dX11_many_14 : decode cX11_many 14 = .ok (.iload_n 2, 1) := by decide +kernel
theorem dX11_many_15 : decode cX11_many 15 = .ok (.invokestatic 100, 3) := by decide +kernel
theorem dX11_many_18 : decode cX11_many 18 = .ok (.ifCond .ne 5, 3) := by decide +kernel
theorem dX11_many_21 : decode cX11_many 21 = .ok (.iconst (-1), 1) := by decide +kernel
theorem dX11_many_22 : decode cX11_many 22 = .ok (.ireturn, 1) := by decide +kernel
theorem dX11_many_23 : decode cX11_many 23 = .ok (.aload_n 0, 1) := by decide +kernel
theorem dX11_many_24 : decode cX11_many 24 = .ok (.getfield 28, 3) := by decide +kernel
theorem dX11_many_27 : decode cX11_many 27 = .ok (.iload_n 1, 1) := by decide +kernel
theorem dX11_many_28 : decode cX11_many 28 = .ok (.iload_n 2, 1) := by decide +kernel
theorem dX11_many_29 : decode cX11_many 29 = .ok (.invokevirtual 271, 3) := by decide +kernel
theorem dX11_many_32 : decode cX11_many 32 = .ok (.ireturn, 1) := by decide +kernel
theorem dX11_look_0 : decode cX11_look 0 = .ok (.iload_n 1, 1) := by decide +kernel
theorem dX11_look_1 : decode cX11_look 1 = .ok (.invokestatic 97, 3) := by decide +kernel
theorem dX11_look_4 : decode cX11_look 4 = .ok (.ifCond .eq 10, 3) := by decide +kernel
theorem dX11_look_7 : decode cX11_look 7 = .ok (.iload_n 2, 1) := by decide +kernel
theorem dX11_look_8 : decode cX11_look 8 = .ok (.invokestatic 100, 3) := by decide +kernel
theorem dX11_look_11 : decode cX11_look 11 = .ok (.ifCond .ne 5, 3) := by decide +kernel
theorem dX11_look_14 : decode cX11_look 14 = .ok (.iconst (-1), 1) := by decide +kernel
theorem dX11_look_15 : decode cX11_look 15 = .ok (.ireturn, 1) := by decide +kernel
theorem dX11_look_16 : decode cX11_look 16 = .ok (.aload_n 0, 1) := by decide +kernel
theorem dX11_look_17 : decode cX11_look 17 = .ok (.getfield 28, 3) := by decide +kernel
theorem dX11_look_20 : decode cX11_look 20 = .ok (.iload_n 1, 1) := by decide +kernel
theorem dX11_look_21 : decode cX11_look 21 = .ok (.iload_n 2, 1) := by decide +kernel
theorem dX11_look_22 : decode cX11_look 22 = .ok (.invokevirtual 274, 3) := by decide +kernel
theorem dX11_look_25 : decode cX11_look 25 = .ok (.ireturn, 1) := by decide +kernel
theorem dX11_count_0 : decode cX11_count 0 = .ok (.iload_n 1, 1) := by decide +kernel
theorem dX11_count_1 : decode cX11_count 1 = .ok (.tableswitch 93 0 6 #[43, 48, 53, 61, 69, 77, 85], 43) := by decide +kernel
theorem dX11_count_44 : decode cX11_count 44 = .ok (.aload_n 0, 1) := by decide +kernel
theorem dX11_count_45 : decode cX11_count 45 = .ok (.getfield 72, 3) := by decide +kernel
theorem dX11_count_48 : decode cX11_count 48 = .ok (.ireturn, 1) := by decide +kernel
theorem dX11_count_49 : decode cX11_count 49 = .ok (.aload_n 0, 1) := by decide +kernel
theorem dX11_count_50 : decode cX11_count 50 = .ok (.getfield 76, 3) := by decide +kernel
theorem dX11_count_53 : decode cX11_count 53 = .ok (.ireturn, 1) := by decide +kernel
theorem dX11_count_54 : decode cX11_count 54 = .ok (.aload_n 0, 1) := by decide +kernel
theorem dX11_count_55 : decode cX11_count 55 = .ok (.getfield 28, 3) := by decide +kernel
theorem dX11_count_58 : decode cX11_count 58 = .ok (.getfield 106, 3) := by decide +kernel
theorem dX11_count_61 : decode cX11_count 61 = .ok (.ireturn, 1) := by decide +kernel
theorem dX11_count_62 : decode cX11_count 62 = .ok (.aload_n 0, 1) := by decide +kernel
theorem dX11_count_63 : decode cX11_count 63 = .ok (.getfield 42, 3) := by decide +kernel
theorem dX11_count_66 : decode cX11_count 66 = .ok (.getfield 180, 3) := by decide +kernel
theorem dX11_count_69 : decode cX11_count 69 = .ok (.ireturn, 1) := by decide +kernel
theorem dX11_count_70 : decode cX11_count 70 = .ok (.aload_n 0, 1) := by decide +kernel
theorem dX11_count_71 : decode cX11_count 71 = .ok (.getfield 65, 3) := by decide +kernel
theorem dX11_count_74 : decode cX11_count 74 = .ok (.getfield 240, 3) := by decide +kernel
theorem dX11_count_77 : decode cX11_count 77 = .ok (.ireturn, 1) := by decide +kernel
theorem dX11_count_78 : decode cX11_count 78 = .ok (.aload_n 0, 1) := by decide +kernel
theorem dX11_count_79 : decode cX11_count 79 = .ok (.getfield 58, 3) := by decide +kernel
theorem dX11_count_82 : decode cX11_count 82 = .ok (.getfield 231, 3) := by decide +kernel
theorem dX11_count_85 : decode cX11_count 85 = .ok (.ireturn, 1) := by decide +kernel
theorem dX11_count_86 : decode cX11_count 86 = .ok (.aload_n 0, 1) := by decide +kernel
theorem dX11_count_87 : decode cX11_count 87 = .ok (.getfield 42, 3) := by decide +kernel
theorem dX11_count_90 : decode cX11_count 90 = .ok (.invokevirtual 277, 3) := by decide +kernel
theorem dX11_count_93 : decode cX11_count 93 = .ok (.ireturn, 1) := by decide +kernel
theorem dX11_count_94 : decode cX11_count 94 = .ok (.iconst (-1), 1) := by decide +kernel
theorem dX11_count_95 : decode cX11_count 95 = .ok (.ireturn, 1) := by decide +kernel
theorem dX11_trace_0 : decode cX11_trace 0 = .ok (.aload_n 0, 1) := by decide +kernel
theorem dX11_trace_1 : decode cX11_trace 1 = .ok (.getfield 35, 3) := by decide +kernel
theorem dX11_trace_4 : decode cX11_trace 4 = .ok (.getfield 280, 3) := by decide +kernel
theorem dX11_trace_7 : decode cX11_trace 7 = .ok (.lreturn, 1) := by decide +kernel
theorem dX11_within_0 : decode cX11_within 0 = .ok (.iload_n 0, 1) := by decide +kernel
theorem dX11_within_1 : decode cX11_within 1 = .ok (.iload_n 1, 1) := by decide +kernel
theorem dX11_within_2 : decode cX11_within 2 = .ok (.if_icmp .lt 12, 3) := by decide +kernel
theorem dX11_within_5 : decode cX11_within 5 = .ok (.iload_n 0, 1) := by decide +kernel
theorem dX11_within_6 : decode cX11_within 6 = .ok (.iload_n 2, 1) := by decide +kernel
theorem dX11_within_7 : decode cX11_within 7 = .ok (.if_icmp .gt 7, 3) := by decide +kernel
theorem dX11_within_10 : decode cX11_within 10 = .ok (.iconst 1, 1) := by decide +kernel
theorem dX11_within_11 : decode cX11_within 11 = .ok (.goto 4, 3) := by decide +kernel
theorem dX11_within_14 : decode cX11_within 14 = .ok (.iconst 0, 1) := by decide +kernel
theorem dX11_within_15 : decode cX11_within 15 = .ok (.ireturn, 1) := by decide +kernel
theorem dX11_isDay_0 : decode cX11_isDay 0 = .ok (.iload_n 0, 1) := by decide +kernel
theorem dX11_isDay_1 : decode cX11_isDay 1 = .ok (.iconst 0, 1) := by decide +kernel
theorem dX11_isDay_2 : decode cX11_isDay 2 = .ok (.sipush 999, 3) := by decide +kernel
theorem dX11_isDay_5 : decode cX11_isDay 5 = .ok (.invokestatic 79, 3) := by decide +kernel
theorem dX11_isDay_8 : decode cX11_isDay 8 = .ok (.ireturn, 1) := by decide +kernel
theorem dX11_isDayOrNone_0 : decode cX11_isDayOrNone 0 = .ok (.iload_n 0, 1) := by decide +kernel
theorem dX11_isDayOrNone_1 : decode cX11_isDayOrNone 1 = .ok (.bipush (-9), 2) := by decide +kernel
theorem dX11_isDayOrNone_3 : decode cX11_isDayOrNone 3 = .ok (.if_icmp .eq 10, 3) := by decide +kernel
theorem dX11_isDayOrNone_6 : decode cX11_isDayOrNone 6 = .ok (.iload_n 0, 1) := by decide +kernel
theorem dX11_isDayOrNone_7 : decode cX11_isDayOrNone 7 = .ok (.invokestatic 100, 3) := by decide +kernel
theorem dX11_isDayOrNone_10 : decode cX11_isDayOrNone 10 = .ok (.ifCond .eq 7, 3) := by decide +kernel
theorem dX11_isDayOrNone_13 : decode cX11_isDayOrNone 13 = .ok (.iconst 1, 1) := by decide +kernel
theorem dX11_isDayOrNone_14 : decode cX11_isDayOrNone 14 = .ok (.goto 4, 3) := by decide +kernel
theorem dX11_isDayOrNone_17 : decode cX11_isDayOrNone 17 = .ok (.iconst 0, 1) := by decide +kernel
theorem dX11_isDayOrNone_18 : decode cX11_isDayOrNone 18 = .ok (.ireturn, 1) := by decide +kernel
theorem dX11_isStretch_0 : decode cX11_isStretch 0 = .ok (.iload_n 0, 1) := by decide +kernel
theorem dX11_isStretch_1 : decode cX11_isStretch 1 = .ok (.invokestatic 100, 3) := by decide +kernel
theorem dX11_isStretch_4 : decode cX11_isStretch 4 = .ok (.ifCond .eq 19, 3) := by decide +kernel
theorem dX11_isStretch_7 : decode cX11_isStretch 7 = .ok (.iload_n 1, 1) := by decide +kernel
theorem dX11_isStretch_8 : decode cX11_isStretch 8 = .ok (.invokestatic 100, 3) := by decide +kernel
theorem dX11_isStretch_11 : decode cX11_isStretch 11 = .ok (.ifCond .eq 12, 3) := by decide +kernel
theorem dX11_isStretch_14 : decode cX11_isStretch 14 = .ok (.iload_n 0, 1) := by decide +kernel
theorem dX11_isStretch_15 : decode cX11_isStretch 15 = .ok (.iload_n 1, 1) := by decide +kernel
theorem dX11_isStretch_16 : decode cX11_isStretch 16 = .ok (.if_icmp .gt 7, 3) := by decide +kernel
theorem dX11_isStretch_19 : decode cX11_isStretch 19 = .ok (.iconst 1, 1) := by decide +kernel
theorem dX11_isStretch_20 : decode cX11_isStretch 20 = .ok (.goto 4, 3) := by decide +kernel
theorem dX11_isStretch_23 : decode cX11_isStretch 23 = .ok (.iconst 0, 1) := by decide +kernel
theorem dX11_isStretch_24 : decode cX11_isStretch 24 = .ok (.ireturn, 1) := by decide +kernel
theorem dX11_isCover_0 : decode cX11_isCover 0 = .ok (.iload_n 0, 1) := by decide +kernel
theorem dX11_isCover_1 : decode cX11_isCover 1 = .ok (.iconst 0, 1) := by decide +kernel
theorem dX11_isCover_2 : decode cX11_isCover 2 = .ok (.bipush 7, 2) := by decide +kernel
theorem dX11_isCover_4 : decode cX11_isCover 4 = .ok (.invokestatic 79, 3) := by decide +kernel
theorem dX11_isCover_7 : decode cX11_isCover 7 = .ok (.ireturn, 1) := by decide +kernel
theorem dX11_isMark_0 : decode cX11_isMark 0 = .ok (.iload_n 1, 1) := by decide +kernel
theorem dX11_isMark_1 : decode cX11_isMark 1 = .ok (.iconst 0, 1) := by decide +kernel
theorem dX11_isMark_2 : decode cX11_isMark 2 = .ok (.aload_n 0, 1) := by decide +kernel
theorem dX11_isMark_3 : decode cX11_isMark 3 = .ok (.getfield 28, 3) := by decide +kernel
theorem dX11_isMark_6 : decode cX11_isMark 6 = .ok (.getfield 106, 3) := by decide +kernel
theorem dX11_isMark_9 : decode cX11_isMark 9 = .ok (.iconst 1, 1) := by decide +kernel
theorem dX11_isMark_10 : decode cX11_isMark 10 = .ok (.isub, 1) := by decide +kernel
theorem dX11_isMark_11 : decode cX11_isMark 11 = .ok (.invokestatic 79, 3) := by decide +kernel
theorem dX11_isMark_14 : decode cX11_isMark 14 = .ok (.ireturn, 1) := by decide +kernel
theorem dX11_areTwoTowns_0 : decode cX11_areTwoTowns 0 = .ok (.iload_n 0, 1) := by decide +kernel
theorem dX11_areTwoTowns_1 : decode cX11_areTwoTowns 1 = .ok (.iconst 0, 1) := by decide +kernel
theorem dX11_areTwoTowns_2 : decode cX11_areTwoTowns 2 = .ok (.iconst 5, 1) := by decide +kernel
theorem dX11_areTwoTowns_3 : decode cX11_areTwoTowns 3 = .ok (.invokestatic 79, 3) := by decide +kernel
theorem dX11_areTwoTowns_6 : decode cX11_areTwoTowns 6 = .ok (.ifCond .eq 21, 3) := by decide +kernel
theorem dX11_areTwoTowns_9 : decode cX11_areTwoTowns 9 = .ok (.iload_n 1, 1) := by decide +kernel
theorem dX11_areTwoTowns_10 : decode cX11_areTwoTowns 10 = .ok (.iconst 0, 1) := by decide +kernel
theorem dX11_areTwoTowns_11 : decode cX11_areTwoTowns 11 = .ok (.iconst 5, 1) := by decide +kernel
theorem dX11_areTwoTowns_12 : decode cX11_areTwoTowns 12 = .ok (.invokestatic 79, 3) := by decide +kernel
theorem dX11_areTwoTowns_15 : decode cX11_areTwoTowns 15 = .ok (.ifCond .eq 12, 3) := by decide +kernel
theorem dX11_areTwoTowns_18 : decode cX11_areTwoTowns 18 = .ok (.iload_n 0, 1) := by decide +kernel
theorem dX11_areTwoTowns_19 : decode cX11_areTwoTowns 19 = .ok (.iload_n 1, 1) := by decide +kernel
theorem dX11_areTwoTowns_20 : decode cX11_areTwoTowns 20 = .ok (.if_icmp .eq 7, 3) := by decide +kernel
theorem dX11_areTwoTowns_23 : decode cX11_areTwoTowns 23 = .ok (.iconst 1, 1) := by decide +kernel
theorem dX11_areTwoTowns_24 : decode cX11_areTwoTowns 24 = .ok (.goto 4, 3) := by decide +kernel
theorem dX11_areTwoTowns_27 : decode cX11_areTwoTowns 27 = .ok (.iconst 0, 1) := by decide +kernel
theorem dX11_areTwoTowns_28 : decode cX11_areTwoTowns 28 = .ok (.ireturn, 1) := by decide +kernel
theorem dX11_areLandsAndDay_0 : decode cX11_areLandsAndDay 0 = .ok (.iload_n 0, 1) := by decide +kernel
theorem dX11_areLandsAndDay_1 : decode cX11_areLandsAndDay 1 = .ok (.iconst 0, 1) := by decide +kernel
theorem dX11_areLandsAndDay_2 : decode cX11_areLandsAndDay 2 = .ok (.iconst 2, 1) := by decide +kernel
theorem dX11_areLandsAndDay_3 : decode cX11_areLandsAndDay 3 = .ok (.invokestatic 79, 3) := by decide +kernel
theorem dX11_areLandsAndDay_6 : decode cX11_areLandsAndDay 6 = .ok (.ifCond .eq 23, 3) := by decide +kernel
theorem dX11_areLandsAndDay_9 : decode cX11_areLandsAndDay 9 = .ok (.iload_n 1, 1) := by decide +kernel
theorem dX11_areLandsAndDay_10 : decode cX11_areLandsAndDay 10 = .ok (.iconst 0, 1) := by decide +kernel
theorem dX11_areLandsAndDay_11 : decode cX11_areLandsAndDay 11 = .ok (.iconst 2, 1) := by decide +kernel
theorem dX11_areLandsAndDay_12 : decode cX11_areLandsAndDay 12 = .ok (.invokestatic 79, 3) := by decide +kernel
theorem dX11_areLandsAndDay_15 : decode cX11_areLandsAndDay 15 = .ok (.ifCond .eq 14, 3) := by decide +kernel
theorem dX11_areLandsAndDay_18 : decode cX11_areLandsAndDay 18 = .ok (.iload_n 2, 1) := by decide +kernel
theorem dX11_areLandsAndDay_19 : decode cX11_areLandsAndDay 19 = .ok (.invokestatic 100, 3) := by decide +kernel
theorem dX11_areLandsAndDay_22 : decode cX11_areLandsAndDay 22 = .ok (.ifCond .eq 7, 3) := by decide +kernel
theorem dX11_areLandsAndDay_25 : decode cX11_areLandsAndDay 25 = .ok (.iconst 1, 1) := by decide +kernel
theorem dX11_areLandsAndDay_26 : decode cX11_areLandsAndDay 26 = .ok (.goto 4, 3) := by decide +kernel
theorem dX11_areLandsAndDay_29 : decode cX11_areLandsAndDay 29 = .ok (.iconst 0, 1) := by decide +kernel
theorem dX11_areLandsAndDay_30 : decode cX11_areLandsAndDay 30 = .ok (.ireturn, 1) := by decide +kernel
theorem dX11_isDate_0 : decode cX11_isDate 0 = .ok (.iload_n 0, 1) := by decide +kernel
theorem dX11_isDate_1 : decode cX11_isDate 1 = .ok (.iconst 0, 1) := by decide +kernel
theorem dX11_isDate_2 : decode cX11_isDate 2 = .ok (.ldc_w 284, 3) := by decide +kernel
theorem dX11_isDate_5 : decode cX11_isDate 5 = .ok (.invokestatic 79, 3) := by decide +kernel
theorem dX11_isDate_8 : decode cX11_isDate 8 = .ok (.ifCond .ne 5, 3) := by decide +kernel
theorem dX11_isDate_11 : decode cX11_isDate 11 = .ok (.iconst 0, 1) := by decide +kernel
theorem dX11_isDate_12 : decode cX11_isDate 12 = .ok (.ireturn, 1) := by decide +kernel
theorem dX11_isDate_13 : decode cX11_isDate 13 = .ok (.iconst 0, 1) := by decide +kernel
theorem dX11_isDate_14 : decode cX11_isDate 14 = .ok (.istore_n 1, 1) := by decide +kernel
theorem dX11_isDate_15 : decode cX11_isDate 15 = .ok (.iload_n 1, 1) := by decide +kernel
theorem dX11_isDate_16 : decode cX11_isDate 16 = .ok (.iconst 3, 1) := by decide +kernel
theorem dX11_isDate_17 : decode cX11_isDate 17 = .ok (.if_icmp .ge 34, 3) := by decide +kernel
theorem dX11_isDate_20 : decode cX11_isDate 20 = .ok (.iload_n 0, 1) := by decide +kernel
theorem dX11_isDate_21 : decode cX11_isDate 21 = .ok (.iload_n 1, 1) := by decide +kernel
theorem dX11_isDate_22 : decode cX11_isDate 22 = .ok (.invokestatic 285, 3) := by decide +kernel
theorem dX11_isDate_25 : decode cX11_isDate 25 = .ok (.istore_n 2, 1) := by decide +kernel
theorem dX11_isDate_26 : decode cX11_isDate 26 = .ok (.iload_n 2, 1) := by decide +kernel
theorem dX11_isDate_27 : decode cX11_isDate 27 = .ok (.bipush 63, 2) := by decide +kernel
theorem dX11_isDate_29 : decode cX11_isDate 29 = .ok (.if_icmp .eq 16, 3) := by decide +kernel
theorem dX11_isDate_32 : decode cX11_isDate 32 = .ok (.iload_n 2, 1) := by decide +kernel
theorem dX11_isDate_33 : decode cX11_isDate 33 = .ok (.bipush 48, 2) := by decide +kernel
theorem dX11_isDate_35 : decode cX11_isDate 35 = .ok (.bipush 57, 2) := by decide +kernel
theorem dX11_isDate_37 : decode cX11_isDate 37 = .ok (.invokestatic 79, 3) := by decide +kernel
theorem dX11_isDate_40 : decode cX11_isDate 40 = .ok (.ifCond .ne 5, 3) := by decide +kernel
theorem dX11_isDate_43 : decode cX11_isDate 43 = .ok (.iconst 0, 1) := by decide +kernel
theorem dX11_isDate_44 : decode cX11_isDate 44 = .ok (.ireturn, 1) := by decide +kernel
theorem dX11_isDate_45 : decode cX11_isDate 45 = .ok (.iinc 1 1, 3) := by decide +kernel
theorem dX11_isDate_48 : decode cX11_isDate 48 = .ok (.goto (-33), 3) := by decide +kernel
theorem dX11_isDate_51 : decode cX11_isDate 51 = .ok (.iconst 1, 1) := by decide +kernel
theorem dX11_isDate_52 : decode cX11_isDate 52 = .ok (.ireturn, 1) := by decide +kernel
theorem dX11_byteOf_0 : decode cX11_byteOf 0 = .ok (.iload_n 0, 1) := by decide +kernel
theorem dX11_byteOf_1 : decode cX11_byteOf 1 = .ok (.bipush 8, 2) := by decide +kernel
theorem dX11_byteOf_3 : decode cX11_byteOf 3 = .ok (.iconst 2, 1) := by decide +kernel
theorem dX11_byteOf_4 : decode cX11_byteOf 4 = .ok (.iload_n 1, 1) := by decide +kernel
theorem dX11_byteOf_5 : decode cX11_byteOf 5 = .ok (.isub, 1) := by decide +kernel
theorem dX11_byteOf_6 : decode cX11_byteOf 6 = .ok (.imul, 1) := by decide +kernel
theorem dX11_byteOf_7 : decode cX11_byteOf 7 = .ok (.ishr, 1) := by decide +kernel
theorem dX11_byteOf_8 : decode cX11_byteOf 8 = .ok (.sipush 255, 3) := by decide +kernel
theorem dX11_byteOf_11 : decode cX11_byteOf 11 = .ok (.iand, 1) := by decide +kernel
theorem dX11_byteOf_12 : decode cX11_byteOf 12 = .ok (.ireturn, 1) := by decide +kernel
theorem dX11_figureOf_0 : decode cX11_figureOf 0 = .ok (.iload_n 1, 1) := by decide +kernel
theorem dX11_figureOf_1 : decode cX11_figureOf 1 = .ok (.lookupswitch 40 #[(0, 27), (1, 32)], 27) := by decide +kernel
theorem dX11_figureOf_28 : decode cX11_figureOf 28 = .ok (.iload_n 0, 1) := by decide +kernel
theorem dX11_figureOf_29 : decode cX11_figureOf 29 = .ok (.bipush 100, 2) := by decide +kernel
theorem dX11_figureOf_31 : decode cX11_figureOf 31 = .ok (.idiv, 1) := by decide +kernel
theorem dX11_figureOf_32 : decode cX11_figureOf 32 = .ok (.ireturn, 1) := by decide +kernel
theorem dX11_figureOf_33 : decode cX11_figureOf 33 = .ok (.iload_n 0, 1) := by decide +kernel
theorem dX11_figureOf_34 : decode cX11_figureOf 34 = .ok (.bipush 10, 2) := by decide +kernel
theorem dX11_figureOf_36 : decode cX11_figureOf 36 = .ok (.idiv, 1) := by decide +kernel
theorem dX11_figureOf_37 : decode cX11_figureOf 37 = .ok (.bipush 10, 2) := by decide +kernel
theorem dX11_figureOf_39 : decode cX11_figureOf 39 = .ok (.irem, 1) := by decide +kernel
theorem dX11_figureOf_40 : decode cX11_figureOf 40 = .ok (.ireturn, 1) := by decide +kernel
theorem dX11_figureOf_41 : decode cX11_figureOf 41 = .ok (.iload_n 0, 1) := by decide +kernel
theorem dX11_figureOf_42 : decode cX11_figureOf 42 = .ok (.bipush 10, 2) := by decide +kernel
theorem dX11_figureOf_44 : decode cX11_figureOf 44 = .ok (.irem, 1) := by decide +kernel
theorem dX11_figureOf_45 : decode cX11_figureOf 45 = .ok (.ireturn, 1) := by decide +kernel
theorem dJ6_bitCount_0f7a4_0 : decode cJ6_bitCount_0f7a4 0 = .ok (.iload_n 0, 1) := by decide +kernel
theorem dJ6_bitCount_0f7a4_1 : decode cJ6_bitCount_0f7a4 1 = .ok (.iload_n 0, 1) := by decide +kernel
theorem dJ6_bitCount_0f7a4_2 : decode cJ6_bitCount_0f7a4 2 = .ok (.iconst 1, 1) := by decide +kernel
theorem dJ6_bitCount_0f7a4_3 : decode cJ6_bitCount_0f7a4 3 = .ok (.iushr, 1) := by decide +kernel
theorem dJ6_bitCount_0f7a4_4 : decode cJ6_bitCount_0f7a4 4 = .ok (.ldc_w 265, 3) := by decide +kernel
theorem dJ6_bitCount_0f7a4_7 : decode cJ6_bitCount_0f7a4 7 = .ok (.iand, 1) := by decide +kernel
theorem dJ6_bitCount_0f7a4_8 : decode cJ6_bitCount_0f7a4 8 = .ok (.isub, 1) := by decide +kernel
theorem dJ6_bitCount_0f7a4_9 : decode cJ6_bitCount_0f7a4 9 = .ok (.istore_n 0, 1) := by decide +kernel
theorem dJ6_bitCount_0f7a4_10 : decode cJ6_bitCount_0f7a4 10 = .ok (.iload_n 0, 1) := by decide +kernel
theorem dJ6_bitCount_0f7a4_11 : decode cJ6_bitCount_0f7a4 11 = .ok (.ldc_w 266, 3) := by decide +kernel
theorem dJ6_bitCount_0f7a4_14 : decode cJ6_bitCount_0f7a4 14 = .ok (.iand, 1) := by decide +kernel
theorem dJ6_bitCount_0f7a4_15 : decode cJ6_bitCount_0f7a4 15 = .ok (.iload_n 0, 1) := by decide +kernel
theorem dJ6_bitCount_0f7a4_16 : decode cJ6_bitCount_0f7a4 16 = .ok (.iconst 2, 1) := by decide +kernel
theorem dJ6_bitCount_0f7a4_17 : decode cJ6_bitCount_0f7a4 17 = .ok (.iushr, 1) := by decide +kernel
theorem dJ6_bitCount_0f7a4_18 : decode cJ6_bitCount_0f7a4 18 = .ok (.ldc_w 266, 3) := by decide +kernel
theorem dJ6_bitCount_0f7a4_21 : decode cJ6_bitCount_0f7a4 21 = .ok (.iand, 1) := by decide +kernel
theorem dJ6_bitCount_0f7a4_22 : decode cJ6_bitCount_0f7a4 22 = .ok (.iadd, 1) := by decide +kernel
theorem dJ6_bitCount_0f7a4_23 : decode cJ6_bitCount_0f7a4 23 = .ok (.istore_n 0, 1) := by decide +kernel
theorem dJ6_bitCount_0f7a4_24 : decode cJ6_bitCount_0f7a4 24 = .ok (.iload_n 0, 1) := by decide +kernel
theorem dJ6_bitCount_0f7a4_25 : decode cJ6_bitCount_0f7a4 25 = .ok (.iload_n 0, 1) := by decide +kernel
theorem dJ6_bitCount_0f7a4_26 : decode cJ6_bitCount_0f7a4 26 = .ok (.iconst 4, 1) := by decide +kernel
theorem dJ6_bitCount_0f7a4_27 : decode cJ6_bitCount_0f7a4 27 = .ok (.iushr, 1) := by decide +kernel
theorem dJ6_bitCount_0f7a4_28 : decode cJ6_bitCount_0f7a4 28 = .ok (.iadd, 1) := by decide +kernel
theorem dJ6_bitCount_0f7a4_29 : decode cJ6_bitCount_0f7a4 29 = .ok (.ldc_w 267, 3) := by decide +kernel
theorem dJ6_bitCount_0f7a4_32 : decode cJ6_bitCount_0f7a4 32 = .ok (.iand, 1) := by decide +kernel
theorem dJ6_bitCount_0f7a4_33 : decode cJ6_bitCount_0f7a4 33 = .ok (.istore_n 0, 1) := by decide +kernel
theorem dJ6_bitCount_0f7a4_34 : decode cJ6_bitCount_0f7a4 34 = .ok (.iload_n 0, 1) := by decide +kernel
theorem dJ6_bitCount_0f7a4_35 : decode cJ6_bitCount_0f7a4 35 = .ok (.iload_n 0, 1) := by decide +kernel
theorem dJ6_bitCount_0f7a4_36 : decode cJ6_bitCount_0f7a4 36 = .ok (.bipush 8, 2) := by decide +kernel
theorem dJ6_bitCount_0f7a4_38 : decode cJ6_bitCount_0f7a4 38 = .ok (.iushr, 1) := by decide +kernel
theorem dJ6_bitCount_0f7a4_39 : decode cJ6_bitCount_0f7a4 39 = .ok (.iadd, 1) := by decide +kernel
theorem dJ6_bitCount_0f7a4_40 : decode cJ6_bitCount_0f7a4 40 = .ok (.istore_n 0, 1) := by decide +kernel
theorem dJ6_bitCount_0f7a4_41 : decode cJ6_bitCount_0f7a4 41 = .ok (.iload_n 0, 1) := by decide +kernel
theorem dJ6_bitCount_0f7a4_42 : decode cJ6_bitCount_0f7a4 42 = .ok (.iload_n 0, 1) := by decide +kernel
theorem dJ6_bitCount_0f7a4_43 : decode cJ6_bitCount_0f7a4 43 = .ok (.bipush 16, 2) := by decide +kernel
theorem dJ6_bitCount_0f7a4_45 : decode cJ6_bitCount_0f7a4 45 = .ok (.iushr, 1) := by decide +kernel
theorem dJ6_bitCount_0f7a4_46 : decode cJ6_bitCount_0f7a4 46 = .ok (.iadd, 1) := by decide +kernel
theorem dJ6_bitCount_0f7a4_47 : decode cJ6_bitCount_0f7a4 47 = .ok (.istore_n 0, 1) := by decide +kernel
theorem dJ6_bitCount_0f7a4_48 : decode cJ6_bitCount_0f7a4 48 = .ok (.iload_n 0, 1) := by decide +kernel
theorem dJ6_bitCount_0f7a4_49 : decode cJ6_bitCount_0f7a4 49 = .ok (.bipush 63, 2) := by decide +kernel
theorem dJ6_bitCount_0f7a4_51 : decode cJ6_bitCount_0f7a4 51 = .ok (.iand, 1) := by decide +kernel
theorem dJ6_bitCount_0f7a4_52 : decode cJ6_bitCount_0f7a4 52 = .ok (.ireturn, 1) := by decide +kernel
theorem dJ13_bitCount_95d88_0 : decode cJ13_bitCount_95d88 0 = .ok (.lload_n 0, 1) := by decide +kernel
theorem dJ13_bitCount_95d88_1 : decode cJ13_bitCount_95d88 1 = .ok (.lload_n 0, 1) := by decide +kernel
theorem dJ13_bitCount_95d88_2 : decode cJ13_bitCount_95d88 2 = .ok (.iconst 1, 1) := by decide +kernel
theorem dJ13_bitCount_95d88_3 : decode cJ13_bitCount_95d88 3 = .ok (.lushr, 1) := by decide +kernel
theorem dJ13_bitCount_95d88_4 : decode cJ13_bitCount_95d88 4 = .ok (.ldc2_w 314, 3) := by decide +kernel
theorem dJ13_bitCount_95d88_7 : decode cJ13_bitCount_95d88 7 = .ok (.land, 1) := by decide +kernel
theorem dJ13_bitCount_95d88_8 : decode cJ13_bitCount_95d88 8 = .ok (.lsub, 1) := by decide +kernel
theorem dJ13_bitCount_95d88_9 : decode cJ13_bitCount_95d88 9 = .ok (.lstore_n 0, 1) := by decide +kernel
theorem dJ13_bitCount_95d88_10 : decode cJ13_bitCount_95d88 10 = .ok (.lload_n 0, 1) := by decide +kernel
theorem dJ13_bitCount_95d88_11 : decode cJ13_bitCount_95d88 11 = .ok (.ldc2_w 316, 3) := by decide +kernel
theorem dJ13_bitCount_95d88_14 : decode cJ13_bitCount_95d88 14 = .ok (.land, 1) := by decide +kernel
theorem dJ13_bitCount_95d88_15 : decode cJ13_bitCount_95d88 15 = .ok (.lload_n 0, 1) := by decide +kernel
theorem dJ13_bitCount_95d88_16 : decode cJ13_bitCount_95d88 16 = .ok (.iconst 2, 1) := by decide +kernel
theorem dJ13_bitCount_95d88_17 : decode cJ13_bitCount_95d88 17 = .ok (.lushr, 1) := by decide +kernel
theorem dJ13_bitCount_95d88_18 : decode cJ13_bitCount_95d88 18 = .ok (.ldc2_w 316, 3) := by decide +kernel
theorem dJ13_bitCount_95d88_21 : decode cJ13_bitCount_95d88 21 = .ok (.land, 1) := by decide +kernel
theorem dJ13_bitCount_95d88_22 : decode cJ13_bitCount_95d88 22 = .ok (.ladd, 1) := by decide +kernel
theorem dJ13_bitCount_95d88_23 : decode cJ13_bitCount_95d88 23 = .ok (.lstore_n 0, 1) := by decide +kernel
theorem dJ13_bitCount_95d88_24 : decode cJ13_bitCount_95d88 24 = .ok (.lload_n 0, 1) := by decide +kernel
theorem dJ13_bitCount_95d88_25 : decode cJ13_bitCount_95d88 25 = .ok (.lload_n 0, 1) := by decide +kernel
theorem dJ13_bitCount_95d88_26 : decode cJ13_bitCount_95d88 26 = .ok (.iconst 4, 1) := by decide +kernel
theorem dJ13_bitCount_95d88_27 : decode cJ13_bitCount_95d88 27 = .ok (.lushr, 1) := by decide +kernel
theorem dJ13_bitCount_95d88_28 : decode cJ13_bitCount_95d88 28 = .ok (.ladd, 1) := by decide +kernel
theorem dJ13_bitCount_95d88_29 : decode cJ13_bitCount_95d88 29 = .ok (.ldc2_w 318, 3) := by decide +kernel
theorem dJ13_bitCount_95d88_32 : decode cJ13_bitCount_95d88 32 = .ok (.land, 1) := by decide +kernel
theorem dJ13_bitCount_95d88_33 : decode cJ13_bitCount_95d88 33 = .ok (.lstore_n 0, 1) := by decide +kernel
theorem dJ13_bitCount_95d88_34 : decode cJ13_bitCount_95d88 34 = .ok (.lload_n 0, 1) := by decide +kernel
theorem dJ13_bitCount_95d88_35 : decode cJ13_bitCount_95d88 35 = .ok (.lload_n 0, 1) := by decide +kernel
theorem dJ13_bitCount_95d88_36 : decode cJ13_bitCount_95d88 36 = .ok (.bipush 8, 2) := by decide +kernel
theorem dJ13_bitCount_95d88_38 : decode cJ13_bitCount_95d88 38 = .ok (.lushr, 1) := by decide +kernel
theorem dJ13_bitCount_95d88_39 : decode cJ13_bitCount_95d88 39 = .ok (.ladd, 1) := by decide +kernel
theorem dJ13_bitCount_95d88_40 : decode cJ13_bitCount_95d88 40 = .ok (.lstore_n 0, 1) := by decide +kernel
theorem dJ13_bitCount_95d88_41 : decode cJ13_bitCount_95d88 41 = .ok (.lload_n 0, 1) := by decide +kernel
theorem dJ13_bitCount_95d88_42 : decode cJ13_bitCount_95d88 42 = .ok (.lload_n 0, 1) := by decide +kernel
theorem dJ13_bitCount_95d88_43 : decode cJ13_bitCount_95d88 43 = .ok (.bipush 16, 2) := by decide +kernel
theorem dJ13_bitCount_95d88_45 : decode cJ13_bitCount_95d88 45 = .ok (.lushr, 1) := by decide +kernel
theorem dJ13_bitCount_95d88_46 : decode cJ13_bitCount_95d88 46 = .ok (.ladd, 1) := by decide +kernel
theorem dJ13_bitCount_95d88_47 : decode cJ13_bitCount_95d88 47 = .ok (.lstore_n 0, 1) := by decide +kernel
theorem dJ13_bitCount_95d88_48 : decode cJ13_bitCount_95d88 48 = .ok (.lload_n 0, 1) := by decide +kernel
theorem dJ13_bitCount_95d88_49 : decode cJ13_bitCount_95d88 49 = .ok (.lload_n 0, 1) := by decide +kernel
theorem dJ13_bitCount_95d88_50 : decode cJ13_bitCount_95d88 50 = .ok (.bipush 32, 2) := by decide +kernel
theorem dJ13_bitCount_95d88_52 : decode cJ13_bitCount_95d88 52 = .ok (.lushr, 1) := by decide +kernel
theorem dJ13_bitCount_95d88_53 : decode cJ13_bitCount_95d88 53 = .ok (.ladd, 1) := by decide +kernel
theorem dJ13_bitCount_95d88_54 : decode cJ13_bitCount_95d88 54 = .ok (.lstore_n 0, 1) := by decide +kernel
theorem dJ13_bitCount_95d88_55 : decode cJ13_bitCount_95d88 55 = .ok (.lload_n 0, 1) := by decide +kernel
theorem dJ13_bitCount_95d88_56 : decode cJ13_bitCount_95d88 56 = .ok (.l2i, 1) := by decide +kernel
theorem dJ13_bitCount_95d88_57 : decode cJ13_bitCount_95d88 57 = .ok (.bipush 127, 2) := by decide +kernel
theorem dJ13_bitCount_95d88_59 : decode cJ13_bitCount_95d88 59 = .ok (.iand, 1) := by decide +kernel
theorem dJ13_bitCount_95d88_60 : decode cJ13_bitCount_95d88 60 = .ok (.ireturn, 1) := by decide +kernel
theorem dJ9_max_7cf53_0 : decode cJ9_max_7cf53 0 = .ok (.iload_n 0, 1) := by decide +kernel
theorem dJ9_max_7cf53_1 : decode cJ9_max_7cf53 1 = .ok (.iload_n 1, 1) := by decide +kernel
theorem dJ9_max_7cf53_2 : decode cJ9_max_7cf53 2 = .ok (.if_icmp .lt 7, 3) := by decide +kernel
theorem dJ9_max_7cf53_5 : decode cJ9_max_7cf53 5 = .ok (.iload_n 0, 1) := by decide +kernel
theorem dJ9_max_7cf53_6 : decode cJ9_max_7cf53 6 = .ok (.goto 4, 3) := by decide +kernel
theorem dJ9_max_7cf53_9 : decode cJ9_max_7cf53 9 = .ok (.iload_n 1, 1) := by decide +kernel
theorem dJ9_max_7cf53_10 : decode cJ9_max_7cf53 10 = .ok (.ireturn, 1) := by decide +kernel
theorem dJ9_min_7cf53_0 : decode cJ9_min_7cf53 0 = .ok (.iload_n 0, 1) := by decide +kernel
theorem dJ9_min_7cf53_1 : decode cJ9_min_7cf53 1 = .ok (.iload_n 1, 1) := by decide +kernel
theorem dJ9_min_7cf53_2 : decode cJ9_min_7cf53 2 = .ok (.if_icmp .gt 7, 3) := by decide +kernel
theorem dJ9_min_7cf53_5 : decode cJ9_min_7cf53 5 = .ok (.iload_n 0, 1) := by decide +kernel
theorem dJ9_min_7cf53_6 : decode cJ9_min_7cf53 6 = .ok (.goto 4, 3) := by decide +kernel
theorem dJ9_min_7cf53_9 : decode cJ9_min_7cf53 9 = .ok (.iload_n 1, 1) := by decide +kernel
theorem dJ9_min_7cf53_10 : decode cJ9_min_7cf53 10 = .ok (.ireturn, 1) := by decide +kernel
theorem dJ0_length_8abf5_0 : decode cJ0_length_8abf5 0 = .ok (.aload_n 0, 1) := by decide +kernel
theorem dJ0_length_8abf5_1 : decode cJ0_length_8abf5 1 = .ok (.getfield 9, 3) := by decide +kernel
theorem dJ0_length_8abf5_4 : decode cJ0_length_8abf5 4 = .ok (.arraylength, 1) := by decide +kernel
theorem dJ0_length_8abf5_5 : decode cJ0_length_8abf5 5 = .ok (.aload_n 0, 1) := by decide +kernel
theorem dJ0_length_8abf5_6 : decode cJ0_length_8abf5 6 = .ok (.invokevirtual 335, 3) := by decide +kernel
theorem dJ0_length_8abf5_9 : decode cJ0_length_8abf5 9 = .ok (.ishr, 1) := by decide +kernel
theorem dJ0_length_8abf5_10 : decode cJ0_length_8abf5 10 = .ok (.ireturn, 1) := by decide +kernel
theorem dJ0_charAt_5068e_0 : decode cJ0_charAt_5068e 0 = .ok (.aload_n 0, 1) := by decide +kernel
theorem dJ0_charAt_5068e_1 : decode cJ0_charAt_5068e 1 = .ok (.invokevirtual 492, 3) := by decide +kernel
theorem dJ0_charAt_5068e_4 : decode cJ0_charAt_5068e 4 = .ok (.ifCond .eq 12, 3) := by decide +kernel
theorem dJ0_charAt_5068e_7 : decode cJ0_charAt_5068e 7 = .ok (.aload_n 0, 1) := by decide +kernel
theorem dJ0_charAt_5068e_8 : decode cJ0_charAt_5068e 8 = .ok (.getfield 9, 3) := by decide +kernel
theorem dJ0_charAt_5068e_11 : decode cJ0_charAt_5068e 11 = .ok (.iload_n 1, 1) := by decide +kernel
theorem dJ0_charAt_5068e_12 : decode cJ0_charAt_5068e 12 = .ok (.invokestatic 495, 3) := by decide +kernel
theorem dJ0_charAt_5068e_15 : decode cJ0_charAt_5068e 15 = .ok (.ireturn, 1) := by decide +kernel
theorem dJ0_charAt_5068e_16 : decode cJ0_charAt_5068e 16 = .ok (.aload_n 0, 1) := by decide +kernel
theorem dJ0_charAt_5068e_17 : decode cJ0_charAt_5068e 17 = .ok (.getfield 9, 3) := by decide +kernel
theorem dJ0_charAt_5068e_20 : decode cJ0_charAt_5068e 20 = .ok (.iload_n 1, 1) := by decide +kernel
theorem dJ0_charAt_5068e_21 : decode cJ0_charAt_5068e 21 = .ok (.invokestatic 498, 3) := by decide +kernel
theorem dJ0_charAt_5068e_24 : decode cJ0_charAt_5068e 24 = .ok (.ireturn, 1) := by decide +kernel
theorem dJ0_coder_7d493_0 : decode cJ0_coder_7d493 0 = .ok (.getstatic 38, 3) := by decide +kernel
theorem dJ0_coder_7d493_3 : decode cJ0_coder_7d493 3 = .ok (.ifCond .eq 10, 3) := by decide +kernel
theorem dJ0_coder_7d493_6 : decode cJ0_coder_7d493 6 = .ok (.aload_n 0, 1) := by decide +kernel
theorem dJ0_coder_7d493_7 : decode cJ0_coder_7d493 7 = .ok (.getfield 15, 3) := by decide +kernel
theorem dJ0_coder_7d493_10 : decode cJ0_coder_7d493 10 = .ok (.goto 4, 3) := by decide +kernel
theorem dJ0_coder_7d493_13 : decode cJ0_coder_7d493 13 = .ok (.iconst 1, 1) := by decide +kernel
theorem dJ0_coder_7d493_14 : decode cJ0_coder_7d493 14 = .ok (.ireturn, 1) := by decide +kernel
theorem dJ0_isLatin1_aae02_0 : decode cJ0_isLatin1_aae02 0 = .ok (.getstatic 38, 3) := by decide +kernel
theorem dJ0_isLatin1_aae02_3 : decode cJ0_isLatin1_aae02 3 = .ok (.ifCond .eq 14, 3) := by decide +kernel
theorem dJ0_isLatin1_aae02_6 : decode cJ0_isLatin1_aae02 6 = .ok (.aload_n 0, 1) := by decide +kernel
theorem dJ0_isLatin1_aae02_7 : decode cJ0_isLatin1_aae02 7 = .ok (.getfield 15, 3) := by decide +kernel
theorem dJ0_isLatin1_aae02_10 : decode cJ0_isLatin1_aae02 10 = .ok (.ifCond .ne 7, 3) := by decide +kernel
theorem dJ0_isLatin1_aae02_13 : decode cJ0_isLatin1_aae02 13 = .ok (.iconst 1, 1) := by decide +kernel
theorem dJ0_isLatin1_aae02_14 : decode cJ0_isLatin1_aae02 14 = .ok (.goto 4, 3) := by decide +kernel
theorem dJ0_isLatin1_aae02_17 : decode cJ0_isLatin1_aae02 17 = .ok (.iconst 0, 1) := by decide +kernel
theorem dJ0_isLatin1_aae02_18 : decode cJ0_isLatin1_aae02 18 = .ok (.ireturn, 1) := by decide +kernel
theorem dJ0_checkIndex_df160_0 : decode cJ0_checkIndex_df160 0 = .ok (.iload_n 0, 1) := by decide +kernel
theorem dJ0_checkIndex_df160_1 : decode cJ0_checkIndex_df160 1 = .ok (.iload_n 1, 1) := by decide +kernel
theorem dJ0_checkIndex_df160_2 : decode cJ0_checkIndex_df160 2 = .ok (.getstatic 1053, 3) := by decide +kernel
theorem dJ0_checkIndex_df160_5 : decode cJ0_checkIndex_df160 5 = .ok (.invokestatic 1059, 3) := by decide +kernel
theorem dJ0_checkIndex_df160_8 : decode cJ0_checkIndex_df160 8 = .ok (.pop, 1) := by decide +kernel
theorem dJ0_checkIndex_df160_9 : decode cJ0_checkIndex_df160 9 = .ok (.return_, 1) := by decide +kernel
theorem dJ1_charAt_3b067_0 : decode cJ1_charAt_3b067 0 = .ok (.iload_n 1, 1) := by decide +kernel
theorem dJ1_charAt_3b067_1 : decode cJ1_charAt_3b067 1 = .ok (.aload_n 0, 1) := by decide +kernel
theorem dJ1_charAt_3b067_2 : decode cJ1_charAt_3b067 2 = .ok (.arraylength, 1) := by decide +kernel
theorem dJ1_charAt_3b067_3 : decode cJ1_charAt_3b067 3 = .ok (.invokestatic 9, 3) := by decide +kernel
theorem dJ1_charAt_3b067_6 : decode cJ1_charAt_3b067 6 = .ok (.aload_n 0, 1) := by decide +kernel
theorem dJ1_charAt_3b067_7 : decode cJ1_charAt_3b067 7 = .ok (.iload_n 1, 1) := by decide +kernel
theorem dJ1_charAt_3b067_8 : decode cJ1_charAt_3b067 8 = .ok (.baload, 1) := by decide +kernel
theorem dJ1_charAt_3b067_9 : decode cJ1_charAt_3b067 9 = .ok (.sipush 255, 3) := by decide +kernel
theorem dJ1_charAt_3b067_12 : decode cJ1_charAt_3b067 12 = .ok (.iand, 1) := by decide +kernel
theorem dJ1_charAt_3b067_13 : decode cJ1_charAt_3b067 13 = .ok (.i2c, 1) := by decide +kernel
theorem dJ1_charAt_3b067_14 : decode cJ1_charAt_3b067 14 = .ok (.ireturn, 1) := by decide +kernel
theorem dJ2_getChar_3b067_0 : decode cJ2_getChar_3b067 0 = .ok (.getstatic 44, 3) := by decide +kernel
theorem dJ2_getChar_3b067_3 : decode cJ2_getChar_3b067 3 = .ok (.ifCond .ne 25, 3) := by decide +kernel
theorem dJ2_getChar_3b067_6 : decode cJ2_getChar_3b067 6 = .ok (.iload_n 1, 1) := by decide +kernel
theorem dJ2_getChar_3b067_7 : decode cJ2_getChar_3b067 7 = .ok (.ifCond .lt 11, 3) := by decide +kernel
theorem dJ2_getChar_3b067_10 : decode cJ2_getChar_3b067 10 = .ok (.iload_n 1, 1) := by decide +kernel
theorem dJ2_getChar_3b067_11 : decode cJ2_getChar_3b067 11 = .ok (.aload_n 0, 1) := by decide +kernel
theorem dJ2_getChar_3b067_12 : decode cJ2_getChar_3b067 12 = .ok (.invokestatic 48, 3) := by decide +kernel
theorem dJ2_getChar_3b067_15 : decode cJ2_getChar_3b067 15 = .ok (.if_icmp .lt 13, 3) := by decide +kernel
theorem dJ2_getChar_3b067_18 : decode cJ2_getChar_3b067 18 = .ok (.new 52, 3) := by decide +kernel
theorem dJ2_getChar_3b067_21 : decode cJ2_getChar_3b067 21 = .ok (.dup, 1) := by decide +kernel
theorem dJ2_getChar_3b067_22 : decode cJ2_getChar_3b067 22 = .ok (.ldc 54, 2) := by decide +kernel
theorem dJ2_getChar_3b067_24 : decode cJ2_getChar_3b067 24 = .ok (.invokespecial 56, 3) := by decide +kernel
theorem dJ2_getChar_3b067_27 : decode cJ2_getChar_3b067 27 = .ok (.athrow, 1) := by decide +kernel
theorem dJ2_getChar_3b067_28 : decode cJ2_getChar_3b067 28 = .ok (.iload_n 1, 1) := by decide +kernel
theorem dJ2_getChar_3b067_29 : decode cJ2_getChar_3b067 29 = .ok (.iconst 1, 1) := by decide +kernel
theorem dJ2_getChar_3b067_30 : decode cJ2_getChar_3b067 30 = .ok (.ishl, 1) := by decide +kernel
theorem dJ2_getChar_3b067_31 : decode cJ2_getChar_3b067 31 = .ok (.istore_n 1, 1) := by decide +kernel
theorem dJ2_getChar_3b067_32 : decode cJ2_getChar_3b067 32 = .ok (.aload_n 0, 1) := by decide +kernel
theorem dJ2_getChar_3b067_33 : decode cJ2_getChar_3b067 33 = .ok (.iload_n 1, 1) := by decide +kernel
theorem dJ2_getChar_3b067_34 : decode cJ2_getChar_3b067 34 = .ok (.iinc 1 1, 3) := by decide +kernel
theorem dJ2_getChar_3b067_37 : decode cJ2_getChar_3b067 37 = .ok (.baload, 1) := by decide +kernel
theorem dJ2_getChar_3b067_38 : decode cJ2_getChar_3b067 38 = .ok (.sipush 255, 3) := by decide +kernel
theorem dJ2_getChar_3b067_41 : decode cJ2_getChar_3b067 41 = .ok (.iand, 1) := by decide +kernel
theorem dJ2_getChar_3b067_42 : decode cJ2_getChar_3b067 42 = .ok (.getstatic 59, 3) := by decide +kernel
theorem dJ2_getChar_3b067_45 : decode cJ2_getChar_3b067 45 = .ok (.ishl, 1) := by decide +kernel
theorem dJ2_getChar_3b067_46 : decode cJ2_getChar_3b067 46 = .ok (.aload_n 0, 1) := by decide +kernel
theorem dJ2_getChar_3b067_47 : decode cJ2_getChar_3b067 47 = .ok (.iload_n 1, 1) := by decide +kernel
theorem dJ2_getChar_3b067_48 : decode cJ2_getChar_3b067 48 = .ok (.baload, 1) := by decide +kernel
theorem dJ2_getChar_3b067_49 : decode cJ2_getChar_3b067 49 = .ok (.sipush 255, 3) := by decide +kernel
theorem dJ2_getChar_3b067_52 : decode cJ2_getChar_3b067 52 = .ok (.iand, 1) := by decide +kernel
theorem dJ2_getChar_3b067_53 : decode cJ2_getChar_3b067 53 = .ok (.getstatic 63, 3) := by decide +kernel
theorem dJ2_getChar_3b067_56 : decode cJ2_getChar_3b067 56 = .ok (.ishl, 1) := by decide +kernel
theorem dJ2_getChar_3b067_57 : decode cJ2_getChar_3b067 57 = .ok (.ior, 1) := by decide +kernel
theorem dJ2_getChar_3b067_58 : decode cJ2_getChar_3b067 58 = .ok (.i2c, 1) := by decide +kernel
theorem dJ2_getChar_3b067_59 : decode cJ2_getChar_3b067 59 = .ok (.ireturn, 1) := by decide +kernel
theorem dJ2_length_9d52b_0 : decode cJ2_length_9d52b 0 = .ok (.aload_n 0, 1) := by decide +kernel
theorem dJ2_length_9d52b_1 : decode cJ2_length_9d52b 1 = .ok (.arraylength, 1) := by decide +kernel
theorem dJ2_length_9d52b_2 : decode cJ2_length_9d52b 2 = .ok (.iconst 1, 1) := by decide +kernel
theorem dJ2_length_9d52b_3 : decode cJ2_length_9d52b 3 = .ok (.ishr, 1) := by decide +kernel
theorem dJ2_length_9d52b_4 : decode cJ2_length_9d52b 4 = .ok (.ireturn, 1) := by decide +kernel
theorem dJ2_charAt_3b067_0 : decode cJ2_charAt_3b067 0 = .ok (.iload_n 1, 1) := by decide +kernel
theorem dJ2_charAt_3b067_1 : decode cJ2_charAt_3b067 1 = .ok (.aload_n 0, 1) := by decide +kernel
theorem dJ2_charAt_3b067_2 : decode cJ2_charAt_3b067 2 = .ok (.invokestatic 67, 3) := by decide +kernel
theorem dJ2_charAt_3b067_5 : decode cJ2_charAt_3b067 5 = .ok (.aload_n 0, 1) := by decide +kernel
theorem dJ2_charAt_3b067_6 : decode cJ2_charAt_3b067 6 = .ok (.iload_n 1, 1) := by decide +kernel
theorem dJ2_charAt_3b067_7 : decode cJ2_charAt_3b067 7 = .ok (.invokestatic 71, 3) := by decide +kernel
theorem dJ2_charAt_3b067_10 : decode cJ2_charAt_3b067 10 = .ok (.ireturn, 1) := by decide +kernel
theorem dJ2_checkIndex_2214a_0 : decode cJ2_checkIndex_2214a 0 = .ok (.iload_n 0, 1) := by decide +kernel
theorem dJ2_checkIndex_2214a_1 : decode cJ2_checkIndex_2214a 1 = .ok (.aload_n 1, 1) := by decide +kernel
theorem dJ2_checkIndex_2214a_2 : decode cJ2_checkIndex_2214a 2 = .ok (.invokestatic 48, 3) := by decide +kernel
theorem dJ2_checkIndex_2214a_5 : decode cJ2_checkIndex_2214a 5 = .ok (.invokestatic 414, 3) := by decide +kernel
theorem dJ2_checkIndex_2214a_8 : decode cJ2_checkIndex_2214a 8 = .ok (.return_, 1) := by decide +kernel
theorem dJ7_fill_53178_0 : decode cJ7_fill_53178 0 = .ok (.iconst 0, 1) := by decide +kernel
theorem dJ7_fill_53178_1 : decode cJ7_fill_53178 1 = .ok (.istore_n 2, 1) := by decide +kernel
theorem dJ7_fill_53178_2 : decode cJ7_fill_53178 2 = .ok (.aload_n 0, 1) := by decide +kernel
theorem dJ7_fill_53178_3 : decode cJ7_fill_53178 3 = .ok (.arraylength, 1) := by decide +kernel
theorem dJ7_fill_53178_4 : decode cJ7_fill_53178 4 = .ok (.istore_n 3, 1) := by decide +kernel
theorem dJ7_fill_53178_5 : decode cJ7_fill_53178 5 = .ok (.iload_n 2, 1) := by decide +kernel
theorem dJ7_fill_53178_6 : decode cJ7_fill_53178 6 = .ok (.iload_n 3, 1) := by decide +kernel
theorem dJ7_fill_53178_7 : decode cJ7_fill_53178 7 = .ok (.if_icmp .ge 13, 3) := by decide +kernel
theorem dJ7_fill_53178_10 : decode cJ7_fill_53178 10 = .ok (.aload_n 0, 1) := by decide +kernel
theorem dJ7_fill_53178_11 : decode cJ7_fill_53178 11 = .ok (.iload_n 2, 1) := by decide +kernel
theorem dJ7_fill_53178_12 : decode cJ7_fill_53178 12 = .ok (.iload_n 1, 1) := by decide +kernel
theorem dJ7_fill_53178_13 : decode cJ7_fill_53178 13 = .ok (.iastore, 1) := by decide +kernel
theorem dJ7_fill_53178_14 : decode cJ7_fill_53178 14 = .ok (.iinc 2 1, 3) := by decide +kernel
theorem dJ7_fill_53178_17 : decode cJ7_fill_53178 17 = .ok (.goto (-12), 3) := by decide +kernel
theorem dJ7_fill_53178_20 : decode cJ7_fill_53178 20 = .ok (.return_, 1) := by decide +kernel
theorem dJ3_checkIndex_8e157_0 : decode cJ3_checkIndex_8e157 0 = .ok (.iload_n 0, 1) := by decide +kernel
theorem dJ3_checkIndex_8e157_1 : decode cJ3_checkIndex_8e157 1 = .ok (.ifCond .lt 8, 3) := by decide +kernel
theorem dJ3_checkIndex_8e157_4 : decode cJ3_checkIndex_8e157 4 = .ok (.iload_n 0, 1) := by decide +kernel
theorem dJ3_checkIndex_8e157_5 : decode cJ3_checkIndex_8e157 5 = .ok (.iload_n 1, 1) := by decide +kernel
theorem dJ3_checkIndex_8e157_6 : decode cJ3_checkIndex_8e157 6 = .ok (.if_icmp .lt 10, 3) := by decide +kernel
theorem dJ3_checkIndex_8e157_9 : decode cJ3_checkIndex_8e157 9 = .ok (.aload_n 2, 1) := by decide +kernel
theorem dJ3_checkIndex_8e157_10 : decode cJ3_checkIndex_8e157 10 = .ok (.iload_n 0, 1) := by decide +kernel
theorem dJ3_checkIndex_8e157_11 : decode cJ3_checkIndex_8e157 11 = .ok (.iload_n 1, 1) := by decide +kernel
theorem dJ3_checkIndex_8e157_12 : decode cJ3_checkIndex_8e157 12 = .ok (.invokestatic 95, 3) := by decide +kernel
theorem dJ3_checkIndex_8e157_15 : decode cJ3_checkIndex_8e157 15 = .ok (.athrow, 1) := by decide +kernel
theorem dJ3_checkIndex_8e157_16 : decode cJ3_checkIndex_8e157 16 = .ok (.iload_n 0, 1) := by decide +kernel
theorem dJ3_checkIndex_8e157_17 : decode cJ3_checkIndex_8e157 17 = .ok (.ireturn, 1) := by decide +kernel
