theorem dX12_init_0 : decode cX12_init 0 = .ok (.aload_n 0, 1) := by decide +kernel
theorem dX12_init_1 : decode cX12_init 1 = .ok (.invokespecial 1, 3) := by decide +kernel
theorem dX12_init_4 : decode cX12_init 4 = .ok (.aload_n 0, 1) := by decide +kernel
theorem dX12_init_5 : decode cX12_init 5 = .ok (.bipush 6, 2) := by decide +kernel
theorem dX12_init_7 : decode cX12_init 7 = .ok (.newarray .int, 2) := by decide +kernel
theorem dX12_init_9 : decode cX12_init 9 = .ok (.putfield 7, 3) := by decide +kernel
theorem dX12_init_12 : decode cX12_init 12 = .ok (.aload_n 0, 1) := by decide +kernel
theorem dX12_init_13 : decode cX12_init 13 = .ok (.bipush 8, 2) := by decide +kernel
theorem dX12_init_15 : decode cX12_init 15 = .ok (.newarray .int, 2) := by decide +kernel
theorem dX12_init_17 : decode cX12_init 17 = .ok (.putfield 13, 3) := by decide +kernel
theorem dX12_init_20 : decode cX12_init 20 = .ok (.aload_n 0, 1) := by decide +kernel
theorem dX12_init_21 : decode cX12_init 21 = .ok (.bipush 8, 2) := by decide +kernel
theorem dX12_init_23 : decode cX12_init 23 = .ok (.newarray .int, 2) := by decide +kernel
theorem dX12_init_25 : decode cX12_init 25 = .ok (.putfield 16, 3) := by decide +kernel
theorem dX12_init_28 : decode cX12_init 28 = .ok (.aload_n 0, 1) := by decide +kernel
theorem dX12_init_29 : decode cX12_init 29 = .ok (.bipush 8, 2) := by decide +kernel
theorem dX12_init_31 : decode cX12_init 31 = .ok (.newarray .int, 2) := by decide +kernel
theorem dX12_init_33 : decode cX12_init 33 = .ok (.putfield 19, 3) := by decide +kernel
theorem dX12_init_36 : decode cX12_init 36 = .ok (.aload_n 0, 1) := by decide +kernel
theorem dX12_init_37 : decode cX12_init 37 = .ok (.bipush 12, 2) := by decide +kernel
theorem dX12_init_39 : decode cX12_init 39 = .ok (.newarray .int, 2) := by decide +kernel
theorem dX12_init_41 : decode cX12_init 41 = .ok (.putfield 22, 3) := by decide +kernel
theorem dX12_init_44 : decode cX12_init 44 = .ok (.aload_n 0, 1) := by decide +kernel
theorem dX12_init_45 : decode cX12_init 45 = .ok (.bipush 12, 2) := by decide +kernel
theorem dX12_init_47 : decode cX12_init 47 = .ok (.newarray .int, 2) := by decide +kernel
theorem dX12_init_49 : decode cX12_init 49 = .ok (.putfield 25, 3) := by decide +kernel
theorem dX12_init_52 : decode cX12_init 52 = .ok (.aload_n 0, 1) := by decide +kernel
theorem dX12_init_53 : decode cX12_init 53 = .ok (.bipush 12, 2) := by decide +kernel
theorem dX12_init_55 : decode cX12_init 55 = .ok (.newarray .int, 2) := by decide +kernel
theorem dX12_init_57 : decode cX12_init 57 = .ok (.putfield 28, 3) := by decide +kernel
theorem dX12_init_60 : decode cX12_init 60 = .ok (.aload_n 0, 1) := by decide +kernel
theorem dX12_init_61 : decode cX12_init 61 = .ok (.bipush 12, 2) := by decide +kernel
theorem dX12_init_63 : decode cX12_init 63 = .ok (.newarray .int, 2) := by decide +kernel
theorem dX12_init_65 : decode cX12_init 65 = .ok (.putfield 31, 3) := by decide +kernel
theorem dX12_init_68 : decode cX12_init 68 = .ok (.aload_n 0, 1) := by decide +kernel
theorem dX12_init_69 : decode cX12_init 69 = .ok (.bipush 12, 2) := by decide +kernel
theorem dX12_init_71 : decode cX12_init 71 = .ok (.newarray .int, 2) := by decide +kernel
theorem dX12_init_73 : decode cX12_init 73 = .ok (.putfield 34, 3) := by decide +kernel
theorem dX12_init_76 : decode cX12_init 76 = .ok (.aload_n 0, 1) := by decide +kernel
theorem dX12_init_77 : decode cX12_init 77 = .ok (.sipush 400, 3) := by decide +kernel
theorem dX12_init_80 : decode cX12_init 80 = .ok (.newarray .int, 2) := by decide +kernel
theorem dX12_init_82 : decode cX12_init 82 = .ok (.putfield 37, 3) := by decide +kernel
theorem dX12_init_85 : decode cX12_init 85 = .ok (.aload_n 0, 1) := by decide +kernel
theorem dX12_init_86 : decode cX12_init 86 = .ok (.bipush 20, 2) := by decide +kernel
theorem dX12_init_88 : decode cX12_init 88 = .ok (.newarray .int, 2) := by decide +kernel
theorem dX12_init_90 : decode cX12_init 90 = .ok (.putfield 40, 3) := by decide +kernel
theorem dX12_init_93 : decode cX12_init 93 = .ok (.aload_n 0, 1) := by decide +kernel
theorem dX12_init_94 : decode cX12_init 94 = .ok (.bipush 20, 2) := by decide +kernel
theorem dX12_init_96 : decode cX12_init 96 = .ok (.newarray .int, 2) := by decide +kernel
theorem dX12_init_98 : decode cX12_init 98 = .ok (.putfield 43, 3) := by decide +kernel
theorem dX12_init_101 : decode cX12_init 101 = .ok (.aload_n 0, 1) := by decide +kernel
theorem dX12_init_102 : decode cX12_init 102 = .ok (.bipush 20, 2) := by decide +kernel
theorem dX12_init_104 : decode cX12_init 104 = .ok (.newarray .int, 2) := by decide +kernel
theorem dX12_init_106 : decode cX12_init 106 = .ok (.putfield 46, 3) := by decide +kernel
theorem dX12_init_109 : decode cX12_init 109 = .ok (.aload_n 0, 1) := by decide +kernel
theorem dX12_init_110 : decode cX12_init 110 = .ok (.bipush 20, 2) := by decide +kernel
theorem dX12_init_112 : decode cX12_init 112 = .ok (.newarray .int, 2) := by decide +kernel
theorem dX12_init_114 : decode cX12_init 114 = .ok (.putfield 49, 3) := by decide +kernel
theorem dX12_init_117 : decode cX12_init 117 = .ok (.aload_n 0, 1) := by decide +kernel
theorem dX12_init_118 : decode cX12_init 118 = .ok (.bipush 36, 2) := by decide +kernel
theorem dX12_init_120 : decode cX12_init 120 = .ok (.newarray .int, 2) := by decide +kernel
theorem dX12_init_122 : decode cX12_init 122 = .ok (.putfield 52, 3) := by decide +kernel
theorem dX12_init_125 : decode cX12_init 125 = .ok (.aload_n 0, 1) := by decide +kernel
theorem dX12_init_126 : decode cX12_init 126 = .ok (.bipush 6, 2) := by decide +kernel
theorem dX12_init_128 : decode cX12_init 128 = .ok (.newarray .int, 2) := by decide +kernel
theorem dX12_init_130 : decode cX12_init 130 = .ok (.putfield 55, 3) := by decide +kernel
theorem dX12_init_133 : decode cX12_init 133 = .ok (.aload_n 0, 1) := by decide +kernel
theorem dX12_init_134 : decode cX12_init 134 = .ok (.bipush 6, 2) := by decide +kernel
theorem dX12_init_136 : decode cX12_init 136 = .ok (.newarray .boolean, 2) := by decide +kernel
theorem dX12_init_138 : decode cX12_init 138 = .ok (.putfield 58, 3) := by decide +kernel
theorem dX12_init_141 : decode cX12_init 141 = .ok (.aload_n 0, 1) := by decide +kernel
theorem dX12_init_142 : decode cX12_init 142 = .ok (.bipush 40, 2) := by decide +kernel
theorem dX12_init_144 : decode cX12_init 144 = .ok (.newarray .int, 2) := by decide +kernel
theorem dX12_init_146 : decode cX12_init 146 = .ok (.putfield 62, 3) := by decide +kernel
theorem dX12_init_149 : decode cX12_init 149 = .ok (.aload_n 0, 1) := by decide +kernel
theorem dX12_init_150 : decode cX12_init 150 = .ok (.bipush 40, 2) := by decide +kernel
theorem dX12_init_152 : decode cX12_init 152 = .ok (.newarray .int, 2) := by decide +kernel
theorem dX12_init_154 : decode cX12_init 154 = .ok (.putfield 65, 3) := by decide +kernel
theorem dX12_init_157 : decode cX12_init 157 = .ok (.aload_n 0, 1) := by decide +kernel
theorem dX12_init_158 : decode cX12_init 158 = .ok (.bipush 40, 2) := by decide +kernel
theorem dX12_init_160 : decode cX12_init 160 = .ok (.newarray .int, 2) := by decide +kernel
theorem dX12_init_162 : decode cX12_init 162 = .ok (.putfield 68, 3) := by decide +kernel
theorem dX12_init_165 : decode cX12_init 165 = .ok (.aload_n 0, 1) := by decide +kernel
theorem dX12_init_166 : decode cX12_init 166 = .ok (.sipush 600, 3) := by decide +kernel
theorem dX12_init_169 : decode cX12_init 169 = .ok (.newarray .int, 2) := by decide +kernel
theorem dX12_init_171 : decode cX12_init 171 = .ok (.putfield 71, 3) := by decide +kernel
theorem dX12_init_174 : decode cX12_init 174 = .ok (.aload_n 0, 1) := by decide +kernel
theorem dX12_init_175 : decode cX12_init 175 = .ok (.sipush 240, 3) := by decide +kernel
theorem dX12_init_178 : decode cX12_init 178 = .ok (.newarray .int, 2) := by decide +kernel
theorem dX12_init_180 : decode cX12_init 180 = .ok (.putfield 74, 3) := by decide +kernel
theorem dX12_init_183 : decode cX12_init 183 = .ok (.aload_n 0, 1) := by decide +kernel
theorem dX12_init_184 : decode cX12_init 184 = .ok (.sipush 1000, 3) := by decide +kernel
theorem dX12_init_187 : decode cX12_init 187 = .ok (.newarray .int, 2) := by decide +kernel
theorem dX12_init_189 : decode cX12_init 189 = .ok (.putfield 77, 3) := by decide +kernel
theorem dX12_init_192 : decode cX12_init 192 = .ok (.iconst 0, 1) := by decide +kernel
theorem dX12_init_193 : decode cX12_init 193 = .ok (.istore_n 1, 1) := by decide +kernel
theorem dX12_init_194 : decode cX12_init 194 = .ok (.iload_n 1, 1) := by decide +kernel
theorem dX12_init_195 : decode cX12_init 195 = .ok (.bipush 36, 2) := by decide +kernel
theorem dX12_init_197 : decode cX12_init 197 = .ok (.if_icmp .ge 17, 3) := by decide +kernel
theorem dX12_init_200 : decode cX12_init 200 = .ok (.aload_n 0, 1) := by decide +kernel
theorem dX12_init_201 : decode cX12_init 201 = .ok (.getfield 52, 3) := by decide +kernel
theorem dX12_init_204 : decode cX12_init 204 = .ok (.iload_n 1, 1) := by decide +kernel
theorem dX12_init_205 : decode cX12_init 205 = .ok (.bipush (-9), 2) := by decide +kernel
theorem dX12_init_207 : decode cX12_init 207 = .ok (.iastore, 1) := by decide +kernel
theorem dX12_init_208 : decode cX12_init 208 = .ok (.iinc 1 1, 3) := by decide +kernel
theorem dX12_init_211 : decode cX12_init 211 = .ok (.goto (-17), 3) := by decide +kernel
theorem dX12_init_214 : decode cX12_init 214 = .ok (.return_, 1) := by decide +kernel
theorem dX12_in_0 : decode cX12_in 0 = .ok (.iload_n 0, 1) := by decide +kernel
theorem dX12_in_1 : decode cX12_in 1 = .ok (.iload_n 1, 1) := by decide +kernel
theorem dX12_in_2 : decode cX12_in 2 = .ok (.if_icmp .lt 12, 3) := by decide +kernel
theorem dX12_in_5 : decode cX12_in 5 = .ok (.iload_n 0, 1) := by decide +kernel
theorem dX12_in_6 : decode cX12_in 6 = .ok (.iload_n 2, 1) := by decide +kernel
theorem dX12_in_7 : decode cX12_in 7 = .ok (.if_icmp .gt 7, 3) := by decide +kernel
theorem dX12_in_10 : decode cX12_in 10 = .ok (.iconst 1, 1) := by decide +kernel
theorem dX12_in_11 : decode cX12_in 11 = .ok (.goto 4, 3) := by decide +kernel
theorem dX12_in_14 : decode cX12_in 14 = .ok (.iconst 0, 1) := by decide +kernel
theorem dX12_in_15 : decode cX12_in 15 = .ok (.ireturn, 1) := by decide +kernel
theorem dX12_isDay_0 : decode cX12_isDay 0 = .ok (.iload_n 0, 1) := by decide +kernel
theorem dX12_isDay_1 : decode cX12_isDay 1 = .ok (.iconst 0, 1) := by decide +kernel
theorem dX12_isDay_2 : decode cX12_isDay 2 = .ok (.sipush 999, 3) := by decide +kernel
theorem dX12_isDay_5 : decode cX12_isDay 5 = .ok (.invokestatic 84, 3) := by decide +kernel
theorem dX12_isDay_8 : decode cX12_isDay 8 = .ok (.ireturn, 1) := by decide +kernel
theorem dX12_isTown_0 : decode cX12_isTown 0 = .ok (.iload_n 0, 1) := by decide +kernel
theorem dX12_isTown_1 : decode cX12_isTown 1 = .ok (.iconst 0, 1) := by decide +kernel
theorem dX12_isTown_2 : decode cX12_isTown 2 = .ok (.iconst 5, 1) := by decide +kernel
theorem dX12_isTown_3 : decode cX12_isTown 3 = .ok (.invokestatic 84, 3) := by decide +kernel
theorem dX12_isTown_6 : decode cX12_isTown 6 = .ok (.ireturn, 1) := by decide +kernel
theorem dX12_isCover_0 : decode cX12_isCover 0 = .ok (.iload_n 0, 1) := by decide +kernel
theorem dX12_isCover_1 : decode cX12_isCover 1 = .ok (.iconst 0, 1) := by decide +kernel
theorem dX12_isCover_2 : decode cX12_isCover 2 = .ok (.bipush 7, 2) := by decide +kernel
theorem dX12_isCover_4 : decode cX12_isCover 4 = .ok (.invokestatic 84, 3) := by decide +kernel
theorem dX12_isCover_7 : decode cX12_isCover 7 = .ok (.ireturn, 1) := by decide +kernel
theorem dX12_isMark_0 : decode cX12_isMark 0 = .ok (.iload_n 1, 1) := by decide +kernel
theorem dX12_isMark_1 : decode cX12_isMark 1 = .ok (.iconst 0, 1) := by decide +kernel
theorem dX12_isMark_2 : decode cX12_isMark 2 = .ok (.aload_n 0, 1) := by decide +kernel
theorem dX12_isMark_3 : decode cX12_isMark 3 = .ok (.getfield 88, 3) := by decide +kernel
theorem dX12_isMark_6 : decode cX12_isMark 6 = .ok (.iconst 1, 1) := by decide +kernel
theorem dX12_isMark_7 : decode cX12_isMark 7 = .ok (.isub, 1) := by decide +kernel
theorem dX12_isMark_8 : decode cX12_isMark 8 = .ok (.invokestatic 84, 3) := by decide +kernel
theorem dX12_isMark_11 : decode cX12_isMark 11 = .ok (.ireturn, 1) := by decide +kernel
theorem dX12_town_0 : decode cX12_town 0 = .ok (.aload_n 0, 1) := by decide +kernel
theorem dX12_town_1 : decode cX12_town 1 = .ok (.iconst 0, 1) := by decide +kernel
theorem dX12_town_2 : decode cX12_town 2 = .ok (.putfield 80, 3) := by decide +kernel
theorem dX12_town_5 : decode cX12_town 5 = .ok (.iload_n 1, 1) := by decide +kernel
theorem dX12_town_6 : decode cX12_town 6 = .ok (.invokestatic 91, 3) := by decide +kernel
theorem dX12_town_9 : decode cX12_town 9 = .ok (.ifCond .eq 12, 3) := by decide +kernel
theorem dX12_town_12 : decode cX12_town 12 = .ok (.iload_n 2, 1) := by decide +kernel
theorem dX12_town_13 : decode cX12_town 13 = .ok (.iconst 0, 1) := by decide +kernel
theorem dX12_town_14 : decode cX12_town 14 = .ok (.iconst 2, 1) := by decide +kernel
theorem dX12_town_15 : decode cX12_town 15 = .ok (.invokestatic 84, 3) := by decide +kernel
theorem dX12_town_18 : decode cX12_town 18 = .ok (.ifCond .ne 5, 3) := by decide +kernel
theorem dX12_town_21 : decode cX12_town 21 = .ok (.iconst (-1), 1) := by decide +kernel
theorem dX12_town_22 : decode cX12_town 22 = .ok (.ireturn, 1) := by decide +kernel
theorem dX12_town_23 : decode cX12_town 23 = .ok (.aload_n 0, 1) := by decide +kernel
theorem dX12_town_24 : decode cX12_town 24 = .ok (.getfield 7, 3) := by decide +kernel
theorem dX12_town_27 : decode cX12_town 27 = .ok (.iload_n 1, 1) := by decide +kernel
theorem dX12_town_28 : decode cX12_town 28 = .ok (.iaload, 1) := by decide +kernel
theorem dX12_town_29 : decode cX12_town 29 = .ok (.istore_n 3, 1) := by decide +kernel
theorem dX12_town_30 : decode cX12_town 30 = .ok (.aload_n 0, 1) := by decide +kernel
theorem dX12_town_31 : decode cX12_town 31 = .ok (.getfield 7, 3) := by decide +kernel
theorem dX12_town_34 : decode cX12_town 34 = .ok (.iload_n 1, 1) := by decide +kernel
theorem dX12_town_35 : decode cX12_town 35 = .ok (.iload_n 2, 1) := by decide +kernel
theorem dX12_town_36 : decode cX12_town 36 = .ok (.iastore, 1) := by decide +kernel
theorem dX12_town_37 : decode cX12_town 37 = .ok (.iload_n 3, 1) := by decide +kernel
theorem dX12_town_38 : decode cX12_town 38 = .ok (.ireturn, 1) := by decide +kernel
theorem dX12_office_0 : decode cX12_office 0 = .ok (.aload_n 0, 1) := by decide +kernel
theorem dX12_office_1 : decode cX12_office 1 = .ok (.iconst 0, 1) := by decide +kernel
theorem dX12_office_2 : decode cX12_office 2 = .ok (.putfield 80, 3) := by decide +kernel
theorem dX12_office_5 : decode cX12_office 5 = .ok (.iload_n 1, 1) := by decide +kernel
theorem dX12_office_6 : decode cX12_office 6 = .ok (.invokestatic 91, 3) := by decide +kernel
theorem dX12_office_9 : decode cX12_office 9 = .ok (.ifCond .eq 21, 3) := by decide +kernel
theorem dX12_office_12 : decode cX12_office 12 = .ok (.iload_n 2, 1) := by decide +kernel
theorem dX12_office_13 : decode cX12_office 13 = .ok (.invokestatic 95, 3) := by decide +kernel
theorem dX12_office_16 : decode cX12_office 16 = .ok (.ifCond .eq 14, 3) := by decide +kernel
theorem dX12_office_19 : decode cX12_office 19 = .ok (.iload_n 3, 1) := by decide +kernel
theorem dX12_office_20 : decode cX12_office 20 = .ok (.iload_n 2, 1) := by decide +kernel
theorem dX12_office_21 : decode cX12_office 21 = .ok (.sipush 999, 3) := by decide +kernel
theorem dX12_office_24 : decode cX12_office 24 = .ok (.invokestatic 84, 3) := by decide +kernel
theorem dX12_office_27 : decode cX12_office 27 = .ok (.ifCond .ne 5, 3) := by decide +kernel
theorem dX12_office_30 : decode cX12_office 30 = .ok (.iconst (-1), 1) := by decide +kernel
theorem dX12_office_31 : decode cX12_office 31 = .ok (.ireturn, 1) := by decide +kernel
theorem dX12_office_32 : decode cX12_office 32 = .ok (.aload_n 0, 1) := by decide +kernel
theorem dX12_office_33 : decode cX12_office 33 = .ok (.getfield 98, 3) := by decide +kernel
theorem dX12_office_36 : decode cX12_office 36 = .ok (.bipush 8, 2) := by decide +kernel
theorem dX12_office_38 : decode cX12_office 38 = .ok (.if_icmp .ne 6, 3) := by decide +kernel
theorem dX12_office_41 : decode cX12_office 41 = .ok (.bipush (-3), 2) := by decide +kernel
theorem dX12_office_43 : decode cX12_office 43 = .ok (.ireturn, 1) := by decide +kernel
theorem dX12_office_44 : decode cX12_office 44 = .ok (.aload_n 0, 1) := by decide +kernel
theorem dX12_office_45 : decode cX12_office 45 = .ok (.getfield 13, 3) := by decide +kernel
theorem dX12_office_48 : decode cX12_office 48 = .ok (.aload_n 0, 1) := by decide +kernel
theorem dX12_office_49 : decode cX12_office 49 = .ok (.getfield 98, 3) := by decide +kernel
theorem dX12_office_52 : decode cX12_office 52 = .ok (.iload_n 1, 1) := by decide +kernel
theorem dX12_office_53 : decode cX12_office 53 = .ok (.iastore, 1) := by decide +kernel
theorem dX12_office_54 : decode cX12_office 54 = .ok (.aload_n 0, 1) := by decide +kernel
theorem dX12_office_55 : decode cX12_office 55 = .ok (.getfield 16, 3) := by decide +kernel
theorem dX12_office_58 : decode cX12_office 58 = .ok (.aload_n 0, 1) := by decide +kernel
theorem dX12_office_59 : decode cX12_office 59 = .ok (.getfield 98, 3) := by decide +kernel
theorem dX12_office_62 : decode cX12_office 62 = .ok (.iload_n 2, 1) := by decide +kernel
theorem dX12_office_63 : decode cX12_office 63 = .ok (.iastore, 1) := by decide +kernel
theorem dX12_office_64 : decode cX12_office 64 = .ok (.aload_n 0, 1) := by decide +kernel
theorem dX12_office_65 : decode cX12_office 65 = .ok (.getfield 19, 3) := by decide +kernel
theorem dX12_office_68 : decode cX12_office 68 = .ok (.aload_n 0, 1) := by decide +kernel
theorem dX12_office_69 : decode cX12_office 69 = .ok (.getfield 98, 3) := by decide +kernel
theorem dX12_office_72 : decode cX12_office 72 = .ok (.iload_n 3, 1) := by decide +kernel
theorem dX12_office_73 : decode cX12_office 73 = .ok (.iastore, 1) := by decide +kernel
theorem dX12_office_74 : decode cX12_office 74 = .ok (.aload_n 0, 1) := by decide +kernel
theorem dX12_office_75 : decode cX12_office 75 = .ok (.dup, 1) := by decide +kernel
theorem dX12_office_76 : decode cX12_office 76 = .ok (.getfield 98, 3) := by decide +kernel
theorem dX12_office_79 : decode cX12_office 79 = .ok (.iconst 1, 1) := by decide +kernel
theorem dX12_office_80 : decode cX12_office 80 = .ok (.iadd, 1) := by decide +kernel
theorem dX12_office_81 : decode cX12_office 81 = .ok (.putfield 98, 3) := by decide +kernel
theorem dX12_office_84 : decode cX12_office 84 = .ok (.aload_n 0, 1) := by decide +kernel
theorem dX12_office_85 : decode cX12_office 85 = .ok (.getfield 98, 3) := by decide +kernel
theorem dX12_office_88 : decode cX12_office 88 = .ok (.iconst 1, 1) := by decide +kernel
theorem dX12_office_89 : decode cX12_office 89 = .ok (.isub, 1) := by decide +kernel
theorem dX12_office_90 : decode cX12_office 90 = .ok (.ireturn, 1) := by decide +kernel
theorem dX12_die_0 : decode cX12_die 0 = .ok (.aload_n 0, 1) := by decide +kernel
theorem dX12_die_1 : decode cX12_die 1 = .ok (.iconst 0, 1) := by decide +kernel
theorem dX12_die_2 : decode cX12_die 2 = .ok (.putfield 80, 3) := by decide +kernel
theorem dX12_die_5 : decode cX12_die 5 = .ok (.iload_n 1, 1) := by decide +kernel
theorem dX12_die_6 : decode cX12_die 6 = .ok (.iconst 0, 1) := by decide +kernel
theorem dX12_die_7 : decode cX12_die 7 = .ok (.aload_n 0, 1) := by decide +kernel
theorem dX12_die_8 : decode cX12_die 8 = .ok (.getfield 98, 3) := by decide +kernel
theorem dX12_die_11 : decode cX12_die 11 = .ok (.iconst 1, 1) := by decide +kernel
theorem dX12_die_12 : decode cX12_die 12 = .ok (.isub, 1) := by decide +kernel
theorem dX12_die_13 : decode cX12_die 13 = .ok (.invokestatic 84, 3) := by decide +kernel
theorem dX12_die_16 : decode cX12_die 16 = .ok (.ifCond .eq 47, 3) := by decide +kernel
theorem dX12_die_19 : decode cX12_die 19 = .ok (.iload_n 2, 1) := by decide +kernel
theorem dX12_die_20 : decode cX12_die 20 = .ok (.iconst 0, 1) := by decide +kernel
theorem dX12_die_21 : decode cX12_die 21 = .ok (.bipush 15, 2) := by decide +kernel
theorem dX12_die_23 : decode cX12_die 23 = .ok (.invokestatic 84, 3) := by decide +kernel
theorem dX12_die_26 : decode cX12_die 26 = .ok (.ifCond .eq 37, 3) := by decide +kernel
theorem dX12_die_29 : decode cX12_die 29 = .ok (.iload_n 3, 1) := by decide +kernel
theorem dX12_die_30 : decode cX12_die 30 = .ok (.invokestatic 95, 3) := by decide +kernel
theorem dX12_die_33 : decode cX12_die 33 = .ok (.ifCond .eq 30, 3) := by decide +kernel
theorem dX12_die_36 : decode cX12_die 36 = .ok (.iload 4, 2) := by decide +kernel
theorem dX12_die_38 : decode cX12_die 38 = .ok (.iload_n 3, 1) := by decide +kernel
theorem dX12_die_39 : decode cX12_die 39 = .ok (.sipush 999, 3) := by decide +kernel
theorem dX12_die_42 : decode cX12_die 42 = .ok (.invokestatic 84, 3) := by decide +kernel
theorem dX12_die_45 : decode cX12_die 45 = .ok (.ifCond .eq 18, 3) := by decide +kernel
theorem dX12_die_48 : decode cX12_die 48 = .ok (.iload 5, 2) := by decide +kernel
theorem dX12_die_50 : decode cX12_die 50 = .ok (.bipush (-9), 2) := by decide +kernel
theorem dX12_die_52 : decode cX12_die 52 = .ok (.if_icmp .eq 13, 3) := by decide +kernel
theorem dX12_die_55 : decode cX12_die 55 = .ok (.iload 5, 2) := by decide +kernel
theorem dX12_die_57 : decode cX12_die 57 = .ok (.invokestatic 95, 3) := by decide +kernel
theorem dX12_die_60 : decode cX12_die 60 = .ok (.ifCond .ne 5, 3) := by decide +kernel
theorem dX12_die_63 : decode cX12_die 63 = .ok (.iconst (-1), 1) := by decide +kernel
theorem dX12_die_64 : decode cX12_die 64 = .ok (.ireturn, 1) := by decide +kernel
theorem dX12_die_65 : decode cX12_die 65 = .ok (.aload_n 0, 1) := by decide +kernel
theorem dX12_die_66 : decode cX12_die 66 = .ok (.getfield 101, 3) := by decide +kernel
theorem dX12_die_69 : decode cX12_die 69 = .ok (.bipush 12, 2) := by decide +kernel
theorem dX12_die_71 : decode cX12_die 71 = .ok (.if_icmp .ne 6, 3) := by decide +kernel
theorem dX12_die_74 : decode cX12_die 74 = .ok (.bipush (-3), 2) := by decide +kernel
theorem dX12_die_76 : decode cX12_die 76 = .ok (.ireturn, 1) := by decide +kernel
theorem dX12_die_77 : decode cX12_die 77 = .ok (.aload_n 0, 1) := by decide +kernel
theorem dX12_die_78 : decode cX12_die 78 = .ok (.getfield 22, 3) := by decide +kernel
theorem dX12_die_81 : decode cX12_die 81 = .ok (.aload_n 0, 1) := by decide +kernel
theorem dX12_die_82 : decode cX12_die 82 = .ok (.getfield 101, 3) := by decide +kernel
theorem dX12_die_85 : decode cX12_die 85 = .ok (.iload_n 1, 1) := by decide +kernel
theorem dX12_die_86 : decode cX12_die 86 = .ok (.iastore, 1) := by decide +kernel
theorem dX12_die_87 : decode cX12_die 87 = .ok (.aload_n 0, 1) := by decide +kernel
theorem dX12_die_88 : decode cX12_die 88 = .ok (.getfield 25, 3) := by decide +kernel
theorem dX12_die_91 : decode cX12_die 91 = .ok (.aload_n 0, 1) := by decide +kernel
theorem dX12_die_92 : decode cX12_die 92 = .ok (.getfield 101, 3) := by decide +kernel
theorem dX12_die_95 : decode cX12_die 95 = .ok (.iload_n 2, 1) := by decide +kernel
theorem dX12_die_96 : decode cX12_die 96 = .ok (.iastore, 1) := by decide +kernel
theorem dX12_die_97 : decode cX12_die 97 = .ok (.aload_n 0, 1) := by decide +kernel
theorem dX12_die_98 : decode cX12_die 98 = .ok (.getfield 28, 3) := by decide +kernel
theorem dX12_die_101 : decode cX12_die 101 = .ok (.aload_n 0, 1) := by decide +kernel
theorem dX12_die_102 : decode cX12_die 102 = .ok (.getfield 101, 3) := by decide +kernel
theorem dX12_die_105 : decode cX12_die 105 = .ok (.iload_n 3, 1) := by decide +kernel
theorem dX12_die_106 : decode cX12_die 106 = .ok (.iastore, 1) := by decide +kernel
theorem dX12_die_107 : decode cX12_die 107 = .ok (.aload_n 0, 1) := by decide +kernel
theorem dX12_die_108 : decode cX12_die 108 = .ok (.getfield 31, 3) := by decide +kernel
theorem dX12_die_111 : decode cX12_die 111 = .ok (.aload_n 0, 1) := by decide +kernel
theorem dX12_die_112 : decode cX12_die 112 = .ok (.getfield 101, 3) := by decide +kernel
theorem dX12_die_115 : decode cX12_die 115 = .ok (.iload 4, 2) := by decide +kernel
theorem dX12_die_117 : decode cX12_die 117 = .ok (.iastore, 1) := by decide +kernel
theorem dX12_die_118 : decode cX12_die 118 = .ok (.aload_n 0, 1) := by decide +kernel
theorem dX12_die_119 : decode cX12_die 119 = .ok (.getfield 34, 3) := by decide +kernel
theorem dX12_die_122 : decode cX12_die 122 = .ok (.aload_n 0, 1) := by decide +kernel
theorem dX12_die_123 : decode cX12_die 123 = .ok (.getfield 101, 3) := by decide +kernel
theorem dX12_die_126 : decode cX12_die 126 = .ok (.iload 5, 2) := by decide +kernel
theorem dX12_die_128 : decode cX12_die 128 = .ok (.iastore, 1) := by decide +kernel
theorem dX12_die_129 : decode cX12_die 129 = .ok (.aload_n 0, 1) := by decide +kernel
theorem dX12_die_130 : decode cX12_die 130 = .ok (.dup, 1) := by decide +kernel
theorem dX12_die_131 : decode cX12_die 131 = .ok (.getfield 101, 3) := by decide +kernel
theorem dX12_die_134 : decode cX12_die 134 = .ok (.iconst 1, 1) := by decide +kernel
theorem dX12_die_135 : decode cX12_die 135 = .ok (.iadd, 1) := by decide +kernel
theorem dX12_die_136 : decode cX12_die 136 = .ok (.putfield 101, 3) := by decide +kernel
theorem dX12_die_139 : decode cX12_die 139 = .ok (.aload_n 0, 1) := by decide +kernel
theorem dX12_die_140 : decode cX12_die 140 = .ok (.getfield 101, 3) := by decide +kernel
theorem dX12_die_143 : decode cX12_die 143 = .ok (.iconst 1, 1) := by decide +kernel
theorem dX12_die_144 : decode cX12_die 144 = .ok (.isub, 1) := by decide +kernel
theorem dX12_die_145 : decode cX12_die 145 = .ok (.ireturn, 1) := by decide +kernel
theorem dX12_isFigure_0 : decode cX12_isFigure 0 = .ok (.iload_n 0, 1) := by decide +kernel
theorem dX12_isFigure_1 : decode cX12_isFigure 1 = .ok (.bipush 63, 2) := by decide +kernel
theorem dX12_isFigure_3 : decode cX12_isFigure 3 = .ok (.if_icmp .eq 14, 3) := by decide +kernel
theorem dX12_isFigure_6 : decode cX12_isFigure 6 = .ok (.iload_n 0, 1) := by decide +kernel
theorem dX12_isFigure_7 : decode cX12_isFigure 7 = .ok (.bipush 48, 2) := by decide +kernel
theorem dX12_isFigure_9 : decode cX12_isFigure 9 = .ok (.bipush 57, 2) := by decide +kernel
theorem dX12_isFigure_11 : decode cX12_isFigure 11 = .ok (.invokestatic 84, 3) := by decide +kernel
theorem dX12_isFigure_14 : decode cX12_isFigure 14 = .ok (.ifCond .eq 7, 3) := by decide +kernel
theorem dX12_isFigure_17 : decode cX12_isFigure 17 = .ok (.iconst 1, 1) := by decide +kernel
theorem dX12_isFigure_18 : decode cX12_isFigure 18 = .ok (.goto 4, 3) := by decide +kernel
theorem dX12_isFigure_21 : decode cX12_isFigure 21 = .ok (.iconst 0, 1) := by decide +kernel
theorem dX12_isFigure_22 : decode cX12_isFigure 22 = .ok (.ireturn, 1) := by decide +kernel
theorem dX12_mark_0 : decode cX12_mark 0 = .ok (.aload_n 0, 1) := by decide +kernel
theorem dX12_mark_1 : decode cX12_mark 1 = .ok (.iconst 0, 1) := by decide +kernel
theorem dX12_mark_2 : decode cX12_mark 2 = .ok (.putfield 80, 3) := by decide +kernel
theorem dX12_mark_5 : decode cX12_mark 5 = .ok (.iload_n 1, 1) := by decide +kernel
theorem dX12_mark_6 : decode cX12_mark 6 = .ok (.invokestatic 104, 3) := by decide +kernel
theorem dX12_mark_9 : decode cX12_mark 9 = .ok (.ifCond .eq 135, 3) := by decide +kernel
theorem dX12_mark_12 : decode cX12_mark 12 = .ok (.iload_n 2, 1) := by decide +kernel
theorem dX12_mark_13 : decode cX12_mark 13 = .ok (.iconst 0, 1) := by decide +kernel
theorem dX12_mark_14 : decode cX12_mark 14 = .ok (.iconst 5, 1) := by decide +kernel
theorem dX12_mark_15 : decode cX12_mark 15 = .ok (.invokestatic 84, 3) := by decide +kernel
theorem dX12_mark_18 : decode cX12_mark 18 = .ok (.ifCond .eq 126, 3) := by decide +kernel
theorem dX12_mark_21 : decode cX12_mark 21 = .ok (.iload_n 3, 1) := by decide +kernel
theorem dX12_mark_22 : decode cX12_mark 22 = .ok (.bipush (-9), 2) := by decide +kernel
theorem dX12_mark_24 : decode cX12_mark 24 = .ok (.if_icmp .eq 17, 3) := by decide +kernel
theorem dX12_mark_27 : decode cX12_mark 27 = .ok (.iload_n 3, 1) := by decide +kernel
theorem dX12_mark_28 : decode cX12_mark 28 = .ok (.iconst 0, 1) := by decide +kernel
theorem dX12_mark_29 : decode cX12_mark 29 = .ok (.aload_n 0, 1) := by decide +kernel
theorem dX12_mark_30 : decode cX12_mark 30 = .ok (.getfield 101, 3) := by decide +kernel
theorem dX12_mark_33 : decode cX12_mark 33 = .ok (.iconst 1, 1) := by decide +kernel
theorem dX12_mark_34 : decode cX12_mark 34 = .ok (.isub, 1) := by decide +kernel
theorem dX12_mark_35 : decode cX12_mark 35 = .ok (.invokestatic 84, 3) := by decide +kernel
theorem dX12_mark_38 : decode cX12_mark 38 = .ok (.ifCond .eq 106, 3) := by decide +kernel
theorem dX12_mark_41 : decode cX12_mark 41 = .ok (.iload 4, 2) := by decide +kernel
theorem dX12_mark_43 : decode cX12_mark 43 = .ok (.iconst 0, 1) := by decide +kernel
theorem dX12_mark_44 : decode cX12_mark 44 = .ok (.iconst 3, 1) := by decide +kernel
theorem dX12_mark_45 : decode cX12_mark 45 = .ok (.invokestatic 84, 3) := by decide +kernel
theorem dX12_mark_48 : decode cX12_mark 48 = .ok (.ifCond .eq 96, 3) := by decide +kernel
theorem dX12_mark_51 : decode cX12_mark 51 = .ok (.iload 5, 2) := by decide +kernel
theorem dX12_mark_53 : decode cX12_mark 53 = .ok (.bipush (-9), 2) := by decide +kernel
theorem dX12_mark_55 : decode cX12_mark 55 = .ok (.if_icmp .eq 13, 3) := by decide +kernel
theorem dX12_mark_58 : decode cX12_mark 58 = .ok (.iload 5, 2) := by decide +kernel
theorem dX12_mark_60 : decode cX12_mark 60 = .ok (.iconst 0, 1) := by decide +kernel
theorem dX12_mark_61 : decode cX12_mark 61 = .ok (.iconst 1, 1) := by decide +kernel
theorem dX12_mark_62 : decode cX12_mark 62 = .ok (.invokestatic 84, 3) := by decide +kernel
theorem dX12_mark_65 : decode cX12_mark 65 = .ok (.ifCond .eq 79, 3) := by decide +kernel
theorem dX12_mark_68 : decode cX12_mark 68 = .ok (.iload 6, 2) := by decide +kernel
theorem dX12_mark_70 : decode cX12_mark 70 = .ok (.iconst 0, 1) := by decide +kernel
theorem dX12_mark_71 : decode cX12_mark 71 = .ok (.ldc 107, 2) := by decide +kernel
theorem dX12_mark_73 : decode cX12_mark 73 = .ok (.invokestatic 84, 3) := by decide +kernel
theorem dX12_mark_76 : decode cX12_mark 76 = .ok (.ifCond .eq 68, 3) := by decide +kernel
theorem dX12_mark_79 : decode cX12_mark 79 = .ok (.iload 6, 2) := by decide +kernel
theorem dX12_mark_81 : decode cX12_mark 81 = .ok (.bipush 16, 2) := by decide +kernel
theorem dX12_mark_83 : decode cX12_mark 83 = .ok (.ishr, 1) := by decide +kernel
theorem dX12_mark_84 : decode cX12_mark 84 = .ok (.invokestatic 108, 3) := by decide +kernel
theorem dX12_mark_87 : decode cX12_mark 87 = .ok (.ifCond .eq 57, 3) := by decide +kernel
theorem dX12_mark_90 : decode cX12_mark 90 = .ok (.iload 6, 2) := by decide +kernel
theorem dX12_mark_92 : decode cX12_mark 92 = .ok (.bipush 8, 2) := by decide +kernel
theorem dX12_mark_94 : decode cX12_mark 94 = .ok (.ishr, 1) := by decide +kernel
theorem dX12_mark_95 : decode cX12_mark 95 = .ok (.sipush 255, 3) := by decide +kernel
theorem dX12_mark_98 : decode cX12_mark 98 = .ok (.iand, 1) := by decide +kernel
theorem dX12_mark_99 : decode cX12_mark 99 = .ok (.invokestatic 108, 3) := by decide +kernel
theorem dX12_mark_102 : decode cX12_mark 102 = .ok (.ifCond .eq 42, 3) := by decide +kernel
theorem dX12_mark_105 : decode cX12_mark 105 = .ok (.iload 6, 2) := by decide +kernel
theorem dX12_mark_107 : decode cX12_mark 107 = .ok (.sipush 255, 3) := by decide +kernel
theorem dX12_mark_110 : decode cX12_mark 110 = .ok (.iand, 1) := by decide +kernel
theorem dX12_mark_111 : decode cX12_mark 111 = .ok (.invokestatic 108, 3) := by decide +kernel
theorem dX12_mark_114 : decode cX12_mark 114 = .ok (.ifCond .eq 30, 3) := by decide +kernel
theorem dX12_mark_117 : decode cX12_mark 117 = .ok (.iload 7, 2) := by decide +kernel
theorem dX12_mark_119 : decode cX12_mark 119 = .ok (.bipush (-9), 2) := by decide +kernel
theorem dX12_mark_121 : decode cX12_mark 121 = .ok (.if_icmp .eq 15, 3) := by decide +kernel
theorem dX12_mark_124 : decode cX12_mark 124 = .ok (.iload 7, 2) := by decide +kernel
theorem dX12_mark_126 : decode cX12_mark 126 = .ok (.iconst 0, 1) := by decide +kernel
theorem dX12_mark_127 : decode cX12_mark 127 = .ok (.sipush 999, 3) := by decide +kernel
theorem dX12_mark_130 : decode cX12_mark 130 = .ok (.invokestatic 84, 3) := by decide +kernel
theorem dX12_mark_133 : decode cX12_mark 133 = .ok (.ifCond .eq 11, 3) := by decide +kernel
theorem dX12_mark_136 : decode cX12_mark 136 = .ok (.iload 8, 2) := by decide +kernel
theorem dX12_mark_138 : decode cX12_mark 138 = .ok (.invokestatic 95, 3) := by decide +kernel
theorem dX12_mark_141 : decode cX12_mark 141 = .ok (.ifCond .ne 5, 3) := by decide +kernel
theorem dX12_mark_144 : decode cX12_mark 144 = .ok (.iconst (-1), 1) := by decide +kernel
theorem dX12_mark_145 : decode cX12_mark 145 = .ok (.ireturn, 1) := by decide +kernel
theorem dX12_mark_146 : decode cX12_mark 146 = .ok (.aload_n 0, 1) := by decide +kernel
theorem dX12_mark_147 : decode cX12_mark 147 = .ok (.getfield 88, 3) := by decide +kernel
theorem dX12_mark_150 : decode cX12_mark 150 = .ok (.bipush 40, 2) := by decide +kernel
theorem dX12_mark_152 : decode cX12_mark 152 = .ok (.if_icmp .ne 6, 3) := by decide +kernel
theorem dX12_mark_155 : decode cX12_mark 155 = .ok (.bipush (-3), 2) := by decide +kernel
theorem dX12_mark_157 : decode cX12_mark 157 = .ok (.ireturn, 1) := by decide +kernel
theorem dX12_mark_158 : decode cX12_mark 158 = .ok (.bipush 10, 2) := by decide +kernel
theorem dX12_mark_160 : decode cX12_mark 160 = .ok (.aload_n 0, 1) := by decide +kernel
theorem dX12_mark_161 : decode cX12_mark 161 = .ok (.getfield 88, 3) := by decide +kernel
theorem dX12_mark_164 : decode cX12_mark 164 = .ok (.imul, 1) := by decide +kernel
theorem dX12_mark_165 : decode cX12_mark 165 = .ok (.istore 9, 2) := by decide +kernel
theorem dX12_mark_167 : decode cX12_mark 167 = .ok (.aload_n 0, 1) := by decide +kernel
theorem dX12_mark_168 : decode cX12_mark 168 = .ok (.getfield 37, 3) := by decide +kernel
theorem dX12_mark_171 : decode cX12_mark 171 = .ok (.iload 9, 2) := by decide +kernel
theorem dX12_mark_173 : decode cX12_mark 173 = .ok (.iload_n 1, 1) := by decide +kernel
theorem dX12_mark_174 : decode cX12_mark 174 = .ok (.iastore, 1) := by decide +kernel
theorem dX12_mark_175 : decode cX12_mark 175 = .ok (.aload_n 0, 1) := by decide +kernel
theorem dX12_mark_176 : decode cX12_mark 176 = .ok (.getfield 37, 3) := by decide +kernel
theorem dX12_mark_179 : decode cX12_mark 179 = .ok (.iload 9, 2) := by decide +kernel
theorem dX12_mark_181 : decode cX12_mark 181 = .ok (.iconst 1, 1) := by decide +kernel
theorem dX12_mark_182 : decode cX12_mark 182 = .ok (.iadd, 1) := by decide +kernel
theorem dX12_mark_183 : decode cX12_mark 183 = .ok (.iload_n 2, 1) := by decide +kernel
theorem dX12_mark_184 : decode cX12_mark 184 = .ok (.iastore, 1) := by decide +kernel
theorem dX12_mark_185 : decode cX12_mark 185 = .ok (.aload_n 0, 1) := by decide +kernel
theorem dX12_mark_186 : decode cX12_mark 186 = .ok (.getfield 37, 3) := by decide +kernel
theorem dX12_mark_189 : decode cX12_mark 189 = .ok (.iload 9, 2) := by decide +kernel
theorem dX12_mark_191 : decode cX12_mark 191 = .ok (.iconst 2, 1) := by decide +kernel
theorem dX12_mark_192 : decode cX12_mark 192 = .ok (.iadd, 1) := by decide +kernel
theorem dX12_mark_193 : decode cX12_mark 193 = .ok (.iload_n 3, 1) := by decide +kernel
theorem dX12_mark_194 : decode cX12_mark 194 = .ok (.iastore, 1) := by decide +kernel
theorem dX12_mark_195 : decode cX12_mark 195 = .ok (.aload_n 0, 1) := by decide +kernel
theorem dX12_mark_196 : decode cX12_mark 196 = .ok (.getfield 37, 3) := by decide +kernel
theorem dX12_mark_199 : decode cX12_mark 199 = .ok (.iload 9, 2) := by decide +kernel
theorem dX12_mark_201 : decode cX12_mark 201 = .ok (.iconst 3, 1) := by decide +kernel
theorem dX12_mark_202 : decode cX12_mark 202 = .ok (.iadd, 1) := by decide +kernel
theorem dX12_mark_203 : decode cX12_mark 203 = .ok (.iload 4, 2) := by decide +kernel
theorem dX12_mark_205 : decode cX12_mark 205 = .ok (.iastore, 1) := by decide +kernel
theorem dX12_mark_206 : decode cX12_mark 206 = .ok (.aload_n 0, 1) := by decide +kernel
theorem dX12_mark_207 : decode cX12_mark 207 = .ok (.getfield 37, 3) := by decide +kernel
theorem dX12_mark_210 : decode cX12_mark 210 = .ok (.iload 9, 2) := by decide +kernel
theorem dX12_mark_212 : decode cX12_mark 212 = .ok (.iconst 4, 1) := by decide +kernel
theorem dX12_mark_213 : decode cX12_mark 213 = .ok (.iadd, 1) := by decide +kernel
theorem dX12_mark_214 : decode cX12_mark 214 = .ok (.iload 5, 2) := by decide +kernel
theorem dX12_mark_216 : decode cX12_mark 216 = .ok (.iastore, 1) := by decide +kernel
theorem dX12_mark_217 : decode cX12_mark 217 = .ok (.iconst 0, 1) := by decide +kernel
theorem dX12_mark_218 : decode cX12_mark 218 = .ok (.istore 10, 2) := by decide +kernel
theorem dX12_mark_220 : decode cX12_mark 220 = .ok (.iload 10, 2) := by decide +kernel
theorem dX12_mark_222 : decode cX12_mark 222 = .ok (.iconst 3, 1) := by decide +kernel
theorem dX12_mark_223 : decode cX12_mark 223 = .ok (.if_icmp .ge 54, 3) := by decide +kernel
theorem dX12_mark_226 : decode cX12_mark 226 = .ok (.iload 6, 2) := by decide +kernel
theorem dX12_mark_228 : decode cX12_mark 228 = .ok (.bipush 16, 2) := by decide +kernel
theorem dX12_mark_230 : decode cX12_mark 230 = .ok (.bipush 8, 2) := by decide +kernel
theorem dX12_mark_232 : decode cX12_mark 232 = .ok (.iload 10, 2) := by decide +kernel
theorem dX12_mark_234 : decode cX12_mark 234 = .ok (.imul, 1) := by decide +kernel
theorem dX12_mark_235 : decode cX12_mark 235 = .ok (.isub, 1) := by decide +kernel
theorem dX12_mark_236 : decode cX12_mark 236 = .ok (.ishr, 1) := by decide +kernel
theorem dX12_mark_237 : decode cX12_mark 237 = .ok (.sipush 255, 3) := by decide +kernel
theorem dX12_mark_240 : decode cX12_mark 240 = .ok (.iand, 1) := by decide +kernel
theorem dX12_mark_241 : decode cX12_mark 241 = .ok (.istore 11, 2) := by decide +kernel
theorem dX12_mark_243 : decode cX12_mark 243 = .ok (.aload_n 0, 1) := by decide +kernel
theorem dX12_mark_244 : decode cX12_mark 244 = .ok (.getfield 37, 3) := by decide +kernel
theorem dX12_mark_247 : decode cX12_mark 247 = .ok (.iload 9, 2) := by decide +kernel
theorem dX12_mark_249 : decode cX12_mark 249 = .ok (.iconst 5, 1) := by decide +kernel
theorem dX12_mark_250 : decode cX12_mark 250 = .ok (.iadd, 1) := by decide +kernel
theorem dX12_mark_251 : decode cX12_mark 251 = .ok (.iload 10, 2) := by decide +kernel
theorem dX12_mark_253 : decode cX12_mark 253 = .ok (.iadd, 1) := by decide +kernel
theorem dX12_mark_254 : decode cX12_mark 254 = .ok (.iload 11, 2) := by decide +kernel
theorem dX12_mark_256 : decode cX12_mark 256 = .ok (.bipush 63, 2) := by decide +kernel
theorem dX12_mark_258 : decode cX12_mark 258 = .ok (.if_icmp .ne 7, 3) := by decide +kernel
theorem dX12_mark_261 : decode cX12_mark 261 = .ok (.iconst (-1), 1) := by decide +kernel
theorem dX12_mark_262 : decode cX12_mark 262 = .ok (.goto 8, 3) := by decide +kernel
theorem dX12_mark_265 : decode cX12_mark 265 = .ok (.iload 11, 2) := by decide +kernel
theorem dX12_mark_267 : decode cX12_mark 267 = .ok (.bipush 48, 2) := by decide +kernel
theorem dX12_mark_269 : decode cX12_mark 269 = .ok (.isub, 1) := by decide +kernel
theorem dX12_mark_270 : decode cX12_mark 270 = .ok (.iastore, 1) := by decide +kernel
theorem dX12_mark_271 : decode cX12_mark 271 = .ok (.iinc 10 1, 3) := by decide +kernel
theorem dX12_mark_274 : decode cX12_mark 274 = .ok (.goto (-54), 3) := by decide +kernel
theorem dX12_mark_277 : decode cX12_mark 277 = .ok (.aload_n 0, 1) := by decide +kernel
theorem dX12_mark_278 : decode cX12_mark 278 = .ok (.getfield 37, 3) := by decide +kernel
theorem dX12_mark_281 : decode cX12_mark 281 = .ok (.iload 9, 2) := by decide +kernel
theorem dX12_mark_283 : decode cX12_mark 283 = .ok (.bipush 8, 2) := by decide +kernel
theorem dX12_mark_285 : decode cX12_mark 285 = .ok (.iadd, 1) := by decide +kernel
theorem dX12_mark_286 : decode cX12_mark 286 = .ok (.iload 7, 2) := by decide +kernel
theorem dX12_mark_288 : decode cX12_mark 288 = .ok (.iastore, 1) := by decide +kernel
theorem dX12_mark_289 : decode cX12_mark 289 = .ok (.aload_n 0, 1) := by decide +kernel
theorem dX12_mark_290 : decode cX12_mark 290 = .ok (.getfield 37, 3) := by decide +kernel
theorem dX12_mark_293 : decode cX12_mark 293 = .ok (.iload 9, 2) := by decide +kernel
theorem dX12_mark_295 : decode cX12_mark 295 = .ok (.bipush 9, 2) := by decide +kernel
theorem dX12_mark_297 : decode cX12_mark 297 = .ok (.iadd, 1) := by decide +kernel
theorem dX12_mark_298 : decode cX12_mark 298 = .ok (.iload 8, 2) := by decide +kernel
theorem dX12_mark_300 : decode cX12_mark 300 = .ok (.iastore, 1) := by decide +kernel
theorem dX12_mark_301 : decode cX12_mark 301 = .ok (.aload_n 0, 1) := by decide +kernel
theorem dX12_mark_302 : decode cX12_mark 302 = .ok (.dup, 1) := by decide +kernel
theorem dX12_mark_303 : decode cX12_mark 303 = .ok (.getfield 88, 3) := by decide +kernel
theorem dX12_mark_306 : decode cX12_mark 306 = .ok (.iconst 1, 1) := by decide +kernel
theorem dX12_mark_307 : decode cX12_mark 307 = .ok (.iadd, 1) := by decide +kernel
theorem dX12_mark_308 : decode cX12_mark 308 = .ok (.putfield 88, 3) := by decide +kernel
theorem dX12_mark_311 : decode cX12_mark 311 = .ok (.aload_n 0, 1) := by decide +kernel
theorem dX12_mark_312 : decode cX12_mark 312 = .ok (.getfield 88, 3) := by decide +kernel
theorem dX12_mark_315 : decode cX12_mark 315 = .ok (.iconst 1, 1) := by decide +kernel
theorem dX12_mark_316 : decode cX12_mark 316 = .ok (.isub, 1) := by decide +kernel
theorem dX12_mark_317 : decode cX12_mark 317 = .ok (.ireturn, 1) := by decide +kernel
theorem dX12_lean_0 : decode cX12_lean 0 = .ok (.aload_n 0, 1) := by decide +kernel
theorem dX12_lean_1 : decode cX12_lean 1 = .ok (.iconst 0, 1) := by decide +kernel
theorem dX12_lean_2 : decode cX12_lean 2 = .ok (.putfield 80, 3) := by decide +kernel
theorem dX12_lean_5 : decode cX12_lean 5 = .ok (.iload_n 1, 1) := by decide +kernel
theorem dX12_lean_6 : decode cX12_lean 6 = .ok (.iconst 0, 1) := by decide +kernel
theorem dX12_lean_7 : decode cX12_lean 7 = .ok (.iconst 5, 1) := by decide +kernel
theorem dX12_lean_8 : decode cX12_lean 8 = .ok (.invokestatic 84, 3) := by decide +kernel
theorem dX12_lean_11 : decode cX12_lean 11 = .ok (.ifCond .eq 11, 3) := by decide +kernel
theorem dX12_lean_14 : decode cX12_lean 14 = .ok (.aload_n 0, 1) := by decide +kernel
theorem dX12_lean_15 : decode cX12_lean 15 = .ok (.iload_n 2, 1) := by decide +kernel
theorem dX12_lean_16 : decode cX12_lean 16 = .ok (.invokevirtual 111, 3) := by decide +kernel
theorem dX12_lean_19 : decode cX12_lean 19 = .ok (.ifCond .ne 5, 3) := by decide +kernel
theorem dX12_lean_22 : decode cX12_lean 22 = .ok (.iconst (-1), 1) := by decide +kernel
theorem dX12_lean_23 : decode cX12_lean 23 = .ok (.ireturn, 1) := by decide +kernel
theorem dX12_lean_24 : decode cX12_lean 24 = .ok (.bipush 10, 2) := by decide +kernel
theorem dX12_lean_26 : decode cX12_lean 26 = .ok (.iload_n 2, 1) := by decide +kernel
theorem dX12_lean_27 : decode cX12_lean 27 = .ok (.imul, 1) := by decide +kernel
theorem dX12_lean_28 : decode cX12_lean 28 = .ok (.istore_n 3, 1) := by decide +kernel
theorem dX12_lean_29 : decode cX12_lean 29 = .ok (.bipush 10, 2) := by decide +kernel
theorem dX12_lean_31 : decode cX12_lean 31 = .ok (.aload_n 0, 1) := by decide +kernel
theorem dX12_lean_32 : decode cX12_lean 32 = .ok (.getfield 37, 3) := by decide +kernel
theorem dX12_lean_35 : decode cX12_lean 35 = .ok (.iload_n 3, 1) := by decide +kernel
theorem dX12_lean_36 : decode cX12_lean 36 = .ok (.iconst 2, 1) := by decide +kernel
theorem dX12_lean_37 : decode cX12_lean 37 = .ok (.iadd, 1) := by decide +kernel
theorem dX12_lean_38 : decode cX12_lean 38 = .ok (.iaload, 1) := by decide +kernel
theorem dX12_lean_39 : decode cX12_lean 39 = .ok (.bipush (-9), 2) := by decide +kernel
theorem dX12_lean_41 : decode cX12_lean 41 = .ok (.if_icmp .ne 7, 3) := by decide +kernel
theorem dX12_lean_44 : decode cX12_lean 44 = .ok (.iconst 0, 1) := by decide +kernel
theorem dX12_lean_45 : decode cX12_lean 45 = .ok (.goto 4, 3) := by decide +kernel
theorem dX12_lean_48 : decode cX12_lean 48 = .ok (.iconst 5, 1) := by decide +kernel
theorem dX12_lean_49 : decode cX12_lean 49 = .ok (.iadd, 1) := by decide +kernel
theorem dX12_lean_50 : decode cX12_lean 50 = .ok (.istore 4, 2) := by decide +kernel
theorem dX12_lean_52 : decode cX12_lean 52 = .ok (.aload_n 0, 1) := by decide +kernel
theorem dX12_lean_53 : decode cX12_lean 53 = .ok (.dup, 1) := by decide +kernel
theorem dX12_lean_54 : decode cX12_lean 54 = .ok (.getfield 114, 3) := by decide +kernel
theorem dX12_lean_57 : decode cX12_lean 57 = .ok (.lconst 1, 1) := by decide +kernel
theorem dX12_lean_58 : decode cX12_lean 58 = .ok (.ladd, 1) := by decide +kernel
theorem dX12_lean_59 : decode cX12_lean 59 = .ok (.putfield 114, 3) := by decide +kernel
theorem dX12_lean_62 : decode cX12_lean 62 = .ok (.iload_n 1, 1) := by decide +kernel
theorem dX12_lean_63 : decode cX12_lean 63 = .ok (.iconst 1, 1) := by decide +kernel
theorem dX12_lean_64 : decode cX12_lean 64 = .ok (.if_icmp .eq 8, 3) := by decide +kernel
theorem dX12_lean_67 : decode cX12_lean 67 = .ok (.iload_n 1, 1) := by decide +kernel
theorem dX12_lean_68 : decode cX12_lean 68 = .ok (.iconst 3, 1) := by decide +kernel
theorem dX12_lean_69 : decode cX12_lean 69 = .ok (.if_icmp .ne 54, 3) := by decide +kernel
theorem dX12_lean_72 : decode cX12_lean 72 = .ok (.iconst 0, 1) := by decide +kernel
theorem dX12_lean_73 : decode cX12_lean 73 = .ok (.istore 5, 2) := by decide +kernel
theorem dX12_lean_75 : decode cX12_lean 75 = .ok (.iload 5, 2) := by decide +kernel
theorem dX12_lean_77 : decode cX12_lean 77 = .ok (.iconst 3, 1) := by decide +kernel
theorem dX12_lean_78 : decode cX12_lean 78 = .ok (.if_icmp .ge 33, 3) := by decide +kernel
theorem dX12_lean_81 : decode cX12_lean 81 = .ok (.iload 4, 2) := by decide +kernel
theorem dX12_lean_83 : decode cX12_lean 83 = .ok (.aload_n 0, 1) := by decide +kernel
theorem dX12_lean_84 : decode cX12_lean 84 = .ok (.getfield 37, 3) := by decide +kernel
theorem dX12_lean_87 : decode cX12_lean 87 = .ok (.iload_n 3, 1) := by decide +kernel
theorem dX12_lean_88 : decode cX12_lean 88 = .ok (.iconst 5, 1) := by decide +kernel
theorem dX12_lean_89 : decode cX12_lean 89 = .ok (.iadd, 1) := by decide +kernel
theorem dX12_lean_90 : decode cX12_lean 90 = .ok (.iload 5, 2) := by decide +kernel
theorem dX12_lean_92 : decode cX12_lean 92 = .ok (.iadd, 1) := by decide +kernel
theorem dX12_lean_93 : decode cX12_lean 93 = .ok (.iaload, 1) := by decide +kernel
theorem dX12_lean_94 : decode cX12_lean 94 = .ok (.ifCond .ge 7, 3) := by decide +kernel
theorem dX12_lean_97 : decode cX12_lean 97 = .ok (.iconst 0, 1) := by decide +kernel
theorem dX12_lean_98 : decode cX12_lean 98 = .ok (.goto 4, 3) := by decide +kernel
theorem dX12_lean_101 : decode cX12_lean 101 = .ok (.iconst 4, 1) := by decide +kernel
theorem dX12_lean_102 : decode cX12_lean 102 = .ok (.iadd, 1) := by decide +kernel
theorem dX12_lean_103 : decode cX12_lean 103 = .ok (.istore 4, 2) := by decide +kernel
theorem dX12_lean_105 : decode cX12_lean 105 = .ok (.iinc 5 1, 3) := by decide +kernel
theorem dX12_lean_108 : decode cX12_lean 108 = .ok (.goto (-33), 3) := by decide +kernel
theorem dX12_lean_111 : decode cX12_lean 111 = .ok (.aload_n 0, 1) := by decide +kernel
theorem dX12_lean_112 : decode cX12_lean 112 = .ok (.dup, 1) := by decide +kernel
theorem dX12_lean_113 : decode cX12_lean 113 = .ok (.getfield 114, 3) := by decide +kernel
theorem dX12_lean_116 : decode cX12_lean 116 = .ok (.ldc2_w 118, 3) := by decide +kernel
theorem dX12_lean_119 : decode cX12_lean 119 = .ok (.ladd, 1) := by decide +kernel
theorem dX12_lean_120 : decode cX12_lean 120 = .ok (.putfield 114, 3) := by decide +kernel
theorem dX12_lean_123 : decode cX12_lean 123 = .ok (.iload_n 1, 1) := by decide +kernel
theorem dX12_lean_124 : decode cX12_lean 124 = .ok (.iconst 2, 1) := by decide +kernel
theorem dX12_lean_125 : decode cX12_lean 125 = .ok (.if_icmp .ne 43, 3) := by decide +kernel
theorem dX12_lean_128 : decode cX12_lean 128 = .ok (.iload 4, 2) := by decide +kernel
theorem dX12_lean_130 : decode cX12_lean 130 = .ok (.aload_n 0, 1) := by decide +kernel
theorem dX12_lean_131 : decode cX12_lean 131 = .ok (.getfield 37, 3) := by decide +kernel
theorem dX12_lean_134 : decode cX12_lean 134 = .ok (.iload_n 3, 1) := by decide +kernel
theorem dX12_lean_135 : decode cX12_lean 135 = .ok (.bipush 8, 2) := by decide +kernel
theorem dX12_lean_137 : decode cX12_lean 137 = .ok (.iadd, 1) := by decide +kernel
theorem dX12_lean_138 : decode cX12_lean 138 = .ok (.iaload, 1) := by decide +kernel
theorem dX12_lean_139 : decode cX12_lean 139 = .ok (.bipush (-9), 2) := by decide +kernel
theorem dX12_lean_141 : decode cX12_lean 141 = .ok (.if_icmp .ne 7, 3) := by decide +kernel
theorem dX12_lean_144 : decode cX12_lean 144 = .ok (.iconst 0, 1) := by decide +kernel
theorem dX12_lean_145 : decode cX12_lean 145 = .ok (.goto 5, 3) := by decide +kernel
theorem dX12_lean_148 : decode cX12_lean 148 = .ok (.bipush 7, 2) := by decide +kernel
theorem dX12_lean_150 : decode cX12_lean 150 = .ok (.iadd, 1) := by decide +kernel
theorem dX12_lean_151 : decode cX12_lean 151 = .ok (.istore 4, 2) := by decide +kernel
theorem dX12_lean_153 : decode cX12_lean 153 = .ok (.aload_n 0, 1) := by decide +kernel
theorem dX12_lean_154 : decode cX12_lean 154 = .ok (.dup, 1) := by decide +kernel
theorem dX12_lean_155 : decode cX12_lean 155 = .ok (.getfield 114, 3) := by decide +kernel
theorem dX12_lean_158 : decode cX12_lean 158 = .ok (.ldc2_w 120, 3) := by decide +kernel
theorem dX12_lean_161 : decode cX12_lean 161 = .ok (.ladd, 1) := by decide +kernel
theorem dX12_lean_162 : decode cX12_lean 162 = .ok (.putfield 114, 3) := by decide +kernel
theorem dX12_lean_165 : decode cX12_lean 165 = .ok (.goto 88, 3) := by decide +kernel
theorem dX12_lean_168 : decode cX12_lean 168 = .ok (.iload_n 1, 1) := by decide +kernel
theorem dX12_lean_169 : decode cX12_lean 169 = .ok (.iconst 3, 1) := by decide +kernel
theorem dX12_lean_170 : decode cX12_lean 170 = .ok (.if_icmp .ne 27, 3) := by decide +kernel
theorem dX12_lean_173 : decode cX12_lean 173 = .ok (.iload 4, 2) := by decide +kernel
theorem dX12_lean_175 : decode cX12_lean 175 = .ok (.iload 4, 2) := by decide +kernel
theorem dX12_lean_177 : decode cX12_lean 177 = .ok (.iconst 3, 1) := by decide +kernel
theorem dX12_lean_178 : decode cX12_lean 178 = .ok (.idiv, 1) := by decide +kernel
theorem dX12_lean_179 : decode cX12_lean 179 = .ok (.iadd, 1) := by decide +kernel
theorem dX12_lean_180 : decode cX12_lean 180 = .ok (.istore 4, 2) := by decide +kernel
theorem dX12_lean_182 : decode cX12_lean 182 = .ok (.aload_n 0, 1) := by decide +kernel
theorem dX12_lean_183 : decode cX12_lean 183 = .ok (.dup, 1) := by decide +kernel
theorem dX12_lean_184 : decode cX12_lean 184 = .ok (.getfield 114, 3) := by decide +kernel
theorem dX12_lean_187 : decode cX12_lean 187 = .ok (.ldc2_w 122, 3) := by decide +kernel
theorem dX12_lean_190 : decode cX12_lean 190 = .ok (.ladd, 1) := by decide +kernel
theorem dX12_lean_191 : decode cX12_lean 191 = .ok (.putfield 114, 3) := by decide +kernel
theorem dX12_lean_194 : decode cX12_lean 194 = .ok (.goto 59, 3) := by decide +kernel
theorem dX12_lean_197 : decode cX12_lean 197 = .ok (.iload_n 1, 1) := by decide +kernel
theorem dX12_lean_198 : decode cX12_lean 198 = .ok (.iconst 4, 1) := by decide +kernel
theorem dX12_lean_199 : decode cX12_lean 199 = .ok (.if_icmp .ne 31, 3) := by decide +kernel
theorem dX12_lean_202 : decode cX12_lean 202 = .ok (.iload 4, 2) := by decide +kernel
theorem dX12_lean_204 : decode cX12_lean 204 = .ok (.aload_n 0, 1) := by decide +kernel
theorem dX12_lean_205 : decode cX12_lean 205 = .ok (.getfield 37, 3) := by decide +kernel
theorem dX12_lean_208 : decode cX12_lean 208 = .ok (.iload_n 3, 1) := by decide +kernel
theorem dX12_lean_209 : decode cX12_lean 209 = .ok (.iconst 3, 1) := by decide +kernel
theorem dX12_lean_210 : decode cX12_lean 210 = .ok (.iadd, 1) := by decide +kernel
theorem dX12_lean_211 : decode cX12_lean 211 = .ok (.iaload, 1) := by decide +kernel
theorem dX12_lean_212 : decode cX12_lean 212 = .ok (.iadd, 1) := by decide +kernel
theorem dX12_lean_213 : decode cX12_lean 213 = .ok (.istore 4, 2) := by decide +kernel
theorem dX12_lean_215 : decode cX12_lean 215 = .ok (.aload_n 0, 1) := by decide +kernel
theorem dX12_lean_216 : decode cX12_lean 216 = .ok (.dup, 1) := by decide +kernel
theorem dX12_lean_217 : decode cX12_lean 217 = .ok (.getfield 114, 3) := by decide +kernel
theorem dX12_lean_220 : decode cX12_lean 220 = .ok (.ldc2_w 124, 3) := by decide +kernel
theorem dX12_lean_223 : decode cX12_lean 223 = .ok (.ladd, 1) := by decide +kernel
theorem dX12_lean_224 : decode cX12_lean 224 = .ok (.putfield 114, 3) := by decide +kernel
theorem dX12_lean_227 : decode cX12_lean 227 = .ok (.goto 26, 3) := by decide +kernel
theorem dX12_lean_230 : decode cX12_lean 230 = .ok (.iload_n 1, 1) := by decide +kernel
theorem dX12_lean_231 : decode cX12_lean 231 = .ok (.iconst 5, 1) := by decide +kernel
theorem dX12_lean_232 : decode cX12_lean 232 = .ok (.if_icmp .ne 21, 3) := by decide +kernel
theorem dX12_lean_235 : decode cX12_lean 235 = .ok (.iload 4, 2) := by decide +kernel
theorem dX12_lean_237 : decode cX12_lean 237 = .ok (.iconst 2, 1) := by decide +kernel
theorem dX12_lean_238 : decode cX12_lean 238 = .ok (.idiv, 1) := by decide +kernel
theorem dX12_lean_239 : decode cX12_lean 239 = .ok (.istore 4, 2) := by decide +kernel
theorem dX12_lean_241 : decode cX12_lean 241 = .ok (.aload_n 0, 1) := by decide +kernel
theorem dX12_lean_242 : decode cX12_lean 242 = .ok (.dup, 1) := by decide +kernel
theorem dX12_lean_243 : decode cX12_lean 243 = .ok (.getfield 114, 3) := by decide +kernel
theorem dX12_lean_246 : decode cX12_lean 246 = .ok (.ldc2_w 126, 3) := by decide +kernel
theorem dX12_lean_249 : decode cX12_lean 249 = .ok (.ladd, 1) := by decide +kernel
theorem dX12_lean_250 : decode cX12_lean 250 = .ok (.putfield 114, 3) := by decide +kernel
theorem dX12_lean_253 : decode cX12_lean 253 = .ok (.iload 4, 2) := by decide +kernel
theorem dX12_lean_255 : decode cX12_lean 255 = .ok (.ireturn, 1) := by decide +kernel
theorem dX12_about_0 : decode cX12_about 0 = .ok (.aload_n 0, 1) := by decide +kernel
theorem dX12_about_1 : decode cX12_about 1 = .ok (.iconst 0, 1) := by decide +kernel
theorem dX12_about_2 : decode cX12_about 2 = .ok (.putfield 80, 3) := by decide +kernel
theorem dX12_about_5 : decode cX12_about 5 = .ok (.aload_n 0, 1) := by decide +kernel
theorem dX12_about_6 : decode cX12_about 6 = .ok (.iload_n 1, 1) := by decide +kernel
theorem dX12_about_7 : decode cX12_about 7 = .ok (.invokevirtual 111, 3) := by decide +kernel
theorem dX12_about_10 : decode cX12_about 10 = .ok (.ifCond .eq 12, 3) := by decide +kernel
theorem dX12_about_13 : decode cX12_about 13 = .ok (.iload_n 2, 1) := by decide +kernel
theorem dX12_about_14 : decode cX12_about 14 = .ok (.iconst 0, 1) := by decide +kernel
theorem dX12_about_15 : decode cX12_about 15 = .ok (.iconst 4, 1) := by decide +kernel
theorem dX12_about_16 : decode cX12_about 16 = .ok (.invokestatic 84, 3) := by decide +kernel
theorem dX12_about_19 : decode cX12_about 19 = .ok (.ifCond .ne 5, 3) := by decide +kernel
theorem dX12_about_22 : decode cX12_about 22 = .ok (.iconst (-1), 1) := by decide +kernel
theorem dX12_about_23 : decode cX12_about 23 = .ok (.ireturn, 1) := by decide +kernel
theorem dX12_about_24 : decode cX12_about 24 = .ok (.bipush 10, 2) := by decide +kernel
theorem dX12_about_26 : decode cX12_about 26 = .ok (.iload_n 1, 1) := by decide +kernel
theorem dX12_about_27 : decode cX12_about 27 = .ok (.imul, 1) := by decide +kernel
theorem dX12_about_28 : decode cX12_about 28 = .ok (.istore_n 3, 1) := by decide +kernel
theorem dX12_about_29 : decode cX12_about 29 = .ok (.iload_n 2, 1) := by decide +kernel
theorem dX12_about_30 : decode cX12_about 30 = .ok (.iconst 3, 1) := by decide +kernel
theorem dX12_about_31 : decode cX12_about 31 = .ok (.if_icmp .ge 14, 3) := by decide +kernel
theorem dX12_about_34 : decode cX12_about 34 = .ok (.aload_n 0, 1) := by decide +kernel
theorem dX12_about_35 : decode cX12_about 35 = .ok (.getfield 37, 3) := by decide +kernel
theorem dX12_about_38 : decode cX12_about 38 = .ok (.iload_n 3, 1) := by decide +kernel
theorem dX12_about_39 : decode cX12_about 39 = .ok (.iload_n 2, 1) := by decide +kernel
theorem dX12_about_40 : decode cX12_about 40 = .ok (.iadd, 1) := by decide +kernel
theorem dX12_about_41 : decode cX12_about 41 = .ok (.iaload, 1) := by decide +kernel
theorem dX12_about_42 : decode cX12_about 42 = .ok (.goto 29, 3) := by decide +kernel
theorem dX12_about_45 : decode cX12_about 45 = .ok (.iload_n 2, 1) := by decide +kernel
theorem dX12_about_46 : decode cX12_about 46 = .ok (.iconst 3, 1) := by decide +kernel
theorem dX12_about_47 : decode cX12_about 47 = .ok (.if_icmp .ne 15, 3) := by decide +kernel
theorem dX12_about_50 : decode cX12_about 50 = .ok (.aload_n 0, 1) := by decide +kernel
theorem dX12_about_51 : decode cX12_about 51 = .ok (.getfield 37, 3) := by decide +kernel
theorem dX12_about_54 : decode cX12_about 54 = .ok (.iload_n 3, 1) := by decide +kernel
theorem dX12_about_55 : decode cX12_about 55 = .ok (.bipush 8, 2) := by decide +kernel
theorem dX12_about_57 : decode cX12_about 57 = .ok (.iadd, 1) := by decide +kernel
theorem dX12_about_58 : decode cX12_about 58 = .ok (.iaload, 1) := by decide +kernel
theorem dX12_about_59 : decode cX12_about 59 = .ok (.goto 12, 3) := by decide +kernel
theorem dX12_about_62 : decode cX12_about 62 = .ok (.aload_n 0, 1) := by decide +kernel
theorem dX12_about_63 : decode cX12_about 63 = .ok (.getfield 37, 3) := by decide +kernel
theorem dX12_about_66 : decode cX12_about 66 = .ok (.iload_n 3, 1) := by decide +kernel
theorem dX12_about_67 : decode cX12_about 67 = .ok (.bipush 9, 2) := by decide +kernel
theorem dX12_about_69 : decode cX12_about 69 = .ok (.iadd, 1) := by decide +kernel
theorem dX12_about_70 : decode cX12_about 70 = .ok (.iaload, 1) := by decide +kernel
theorem dX12_about_71 : decode cX12_about 71 = .ok (.ireturn, 1) := by decide +kernel
theorem dX12_canBe_0 : decode cX12_canBe 0 = .ok (.bipush 10, 2) := by decide +kernel
theorem dX12_canBe_2 : decode cX12_canBe 2 = .ok (.iload_n 1, 1) := by decide +kernel
theorem dX12_canBe_3 : decode cX12_canBe 3 = .ok (.imul, 1) := by decide +kernel
theorem dX12_canBe_4 : decode cX12_canBe 4 = .ok (.istore_n 3, 1) := by decide +kernel
theorem dX12_canBe_5 : decode cX12_canBe 5 = .ok (.aload_n 0, 1) := by decide +kernel
theorem dX12_canBe_6 : decode cX12_canBe 6 = .ok (.getfield 37, 3) := by decide +kernel
theorem dX12_canBe_9 : decode cX12_canBe 9 = .ok (.iload_n 3, 1) := by decide +kernel
theorem dX12_canBe_10 : decode cX12_canBe 10 = .ok (.iconst 5, 1) := by decide +kernel
theorem dX12_canBe_11 : decode cX12_canBe 11 = .ok (.iadd, 1) := by decide +kernel
theorem dX12_canBe_12 : decode cX12_canBe 12 = .ok (.iaload, 1) := by decide +kernel
theorem dX12_canBe_13 : decode cX12_canBe 13 = .ok (.ifCond .lt 18, 3) := by decide +kernel
theorem dX12_canBe_16 : decode cX12_canBe 16 = .ok (.aload_n 0, 1) := by decide +kernel
theorem dX12_canBe_17 : decode cX12_canBe 17 = .ok (.getfield 37, 3) := by decide +kernel
theorem dX12_canBe_20 : decode cX12_canBe 20 = .ok (.iload_n 3, 1) := by decide +kernel
theorem dX12_canBe_21 : decode cX12_canBe 21 = .ok (.iconst 5, 1) := by decide +kernel
theorem dX12_canBe_22 : decode cX12_canBe 22 = .ok (.iadd, 1) := by decide +kernel
theorem dX12_canBe_23 : decode cX12_canBe 23 = .ok (.iaload, 1) := by decide +kernel
theorem dX12_canBe_24 : decode cX12_canBe 24 = .ok (.iload_n 2, 1) := by decide +kernel
theorem dX12_canBe_25 : decode cX12_canBe 25 = .ok (.bipush 100, 2) := by decide +kernel
theorem dX12_canBe_27 : decode cX12_canBe 27 = .ok (.idiv, 1) := by decide +kernel
theorem dX12_canBe_28 : decode cX12_canBe 28 = .ok (.if_icmp .ne 66, 3) := by decide +kernel
theorem dX12_canBe_31 : decode cX12_canBe 31 = .ok (.aload_n 0, 1) := by decide +kernel
theorem dX12_canBe_32 : decode cX12_canBe 32 = .ok (.getfield 37, 3) := by decide +kernel
theorem dX12_canBe_35 : decode cX12_canBe 35 = .ok (.iload_n 3, 1) := by decide +kernel
theorem dX12_canBe_36 : decode cX12_canBe 36 = .ok (.bipush 6, 2) := by decide +kernel
theorem dX12_canBe_38 : decode cX12_canBe 38 = .ok (.iadd, 1) := by decide +kernel
theorem dX12_canBe_39 : decode cX12_canBe 39 = .ok (.iaload, 1) := by decide +kernel
theorem dX12_canBe_40 : decode cX12_canBe 40 = .ok (.ifCond .lt 22, 3) := by decide +kernel
theorem dX12_canBe_43 : decode cX12_canBe 43 = .ok (.aload_n 0, 1) := by decide +kernel
theorem dX12_canBe_44 : decode cX12_canBe 44 = .ok (.getfield 37, 3) := by decide +kernel
theorem dX12_canBe_47 : decode cX12_canBe 47 = .ok (.iload_n 3, 1) := by decide +kernel
theorem dX12_canBe_48 : decode cX12_canBe 48 = .ok (.bipush 6, 2) := by decide +kernel
theorem dX12_canBe_50 : decode cX12_canBe 50 = .ok (.iadd, 1) := by decide +kernel
theorem dX12_canBe_51 : decode cX12_canBe 51 = .ok (.iaload, 1) := by decide +kernel
theorem dX12_canBe_52 : decode cX12_canBe 52 = .ok (.iload_n 2, 1) := by decide +kernel
theorem dX12_canBe_53 : decode cX12_canBe 53 = .ok (.bipush 10, 2) := by decide +kernel
theorem dX12_canBe_55 : decode cX12_canBe 55 = .ok (.idiv, 1) := by decide +kernel
theorem dX12_canBe_56 : decode cX12_canBe 56 = .ok (.bipush 10, 2) := by decide +kernel
theorem dX12_canBe_58 : decode cX12_canBe 58 = .ok (.irem, 1) := by decide +kernel
theorem dX12_canBe_59 : decode cX12_canBe 59 = .ok (.if_icmp .ne 35, 3) := by decide +kernel
theorem dX12_canBe_62 : decode cX12_canBe 62 = .ok (.aload_n 0, 1) := by decide +kernel
theorem dX12_canBe_63 : decode cX12_canBe 63 = .ok (.getfield 37, 3) := by decide +kernel
theorem dX12_canBe_66 : decode cX12_canBe 66 = .ok (.iload_n 3, 1) := by decide +kernel
theorem dX12_canBe_67 : decode cX12_canBe 67 = .ok (.bipush 7, 2) := by decide +kernel
theorem dX12_canBe_69 : decode cX12_canBe 69 = .ok (.iadd, 1) := by decide +kernel
theorem dX12_canBe_70 : decode cX12_canBe 70 = .ok (.iaload, 1) := by decide +kernel
theorem dX12_canBe_71 : decode cX12_canBe 71 = .ok (.ifCond .lt 19, 3) := by decide +kernel
theorem dX12_canBe_74 : decode cX12_canBe 74 = .ok (.aload_n 0, 1) := by decide +kernel
theorem dX12_canBe_75 : decode cX12_canBe 75 = .ok (.getfield 37, 3) := by decide +kernel
theorem dX12_canBe_78 : decode cX12_canBe 78 = .ok (.iload_n 3, 1) := by decide +kernel
theorem dX12_canBe_79 : decode cX12_canBe 79 = .ok (.bipush 7, 2) := by decide +kernel
theorem dX12_canBe_81 : decode cX12_canBe 81 = .ok (.iadd, 1) := by decide +kernel
theorem dX12_canBe_82 : decode cX12_canBe 82 = .ok (.iaload, 1) := by decide +kernel
theorem dX12_canBe_83 : decode cX12_canBe 83 = .ok (.iload_n 2, 1) := by decide +kernel
theorem dX12_canBe_84 : decode cX12_canBe 84 = .ok (.bipush 10, 2) := by decide +kernel
theorem dX12_canBe_86 : decode cX12_canBe 86 = .ok (.irem, 1) := by decide +kernel
theorem dX12_canBe_87 : decode cX12_canBe 87 = .ok (.if_icmp .ne 7, 3) := by decide +kernel
theorem dX12_canBe_90 : decode cX12_canBe 90 = .ok (.iconst 1, 1) := by decide +kernel
theorem dX12_canBe_91 : decode cX12_canBe 91 = .ok (.goto 4, 3) := by decide +kernel
theorem dX12_canBe_94 : decode cX12_canBe 94 = .ok (.iconst 0, 1) := by decide +kernel
theorem dX12_canBe_95 : decode cX12_canBe 95 = .ok (.istore 4, 2) := by decide +kernel
theorem dX12_canBe_97 : decode cX12_canBe 97 = .ok (.aload_n 0, 1) := by decide +kernel
theorem dX12_canBe_98 : decode cX12_canBe 98 = .ok (.getfield 37, 3) := by decide +kernel
theorem dX12_canBe_101 : decode cX12_canBe 101 = .ok (.iload_n 3, 1) := by decide +kernel
theorem dX12_canBe_102 : decode cX12_canBe 102 = .ok (.iconst 2, 1) := by decide +kernel
theorem dX12_canBe_103 : decode cX12_canBe 103 = .ok (.iadd, 1) := by decide +kernel
theorem dX12_canBe_104 : decode cX12_canBe 104 = .ok (.iaload, 1) := by decide +kernel
theorem dX12_canBe_105 : decode cX12_canBe 105 = .ok (.istore 5, 2) := by decide +kernel
theorem dX12_canBe_107 : decode cX12_canBe 107 = .ok (.iload 4, 2) := by decide +kernel
theorem dX12_canBe_109 : decode cX12_canBe 109 = .ok (.ifCond .eq 10, 3) := by decide +kernel
theorem dX12_canBe_112 : decode cX12_canBe 112 = .ok (.iload 5, 2) := by decide +kernel
theorem dX12_canBe_114 : decode cX12_canBe 114 = .ok (.bipush (-9), 2) := by decide +kernel
theorem dX12_canBe_116 : decode cX12_canBe 116 = .ok (.if_icmp .ne 6, 3) := by decide +kernel
theorem dX12_canBe_119 : decode cX12_canBe 119 = .ok (.iload 4, 2) := by decide +kernel
theorem dX12_canBe_121 : decode cX12_canBe 121 = .ok (.ireturn, 1) := by decide +kernel
theorem dX12_canBe_122 : decode cX12_canBe 122 = .ok (.aload_n 0, 1) := by decide +kernel
theorem dX12_canBe_123 : decode cX12_canBe 123 = .ok (.getfield 22, 3) := by decide +kernel
theorem dX12_canBe_126 : decode cX12_canBe 126 = .ok (.iload 5, 2) := by decide +kernel
theorem dX12_canBe_128 : decode cX12_canBe 128 = .ok (.iaload, 1) := by decide +kernel
theorem dX12_canBe_129 : decode cX12_canBe 129 = .ok (.istore 6, 2) := by decide +kernel
theorem dX12_canBe_131 : decode cX12_canBe 131 = .ok (.aload_n 0, 1) := by decide +kernel
theorem dX12_canBe_132 : decode cX12_canBe 132 = .ok (.getfield 34, 3) := by decide +kernel
theorem dX12_canBe_135 : decode cX12_canBe 135 = .ok (.iload 5, 2) := by decide +kernel
theorem dX12_canBe_137 : decode cX12_canBe 137 = .ok (.iaload, 1) := by decide +kernel
theorem dX12_canBe_138 : decode cX12_canBe 138 = .ok (.bipush (-9), 2) := by decide +kernel
theorem dX12_canBe_140 : decode cX12_canBe 140 = .ok (.if_icmp .eq 18, 3) := by decide +kernel
theorem dX12_canBe_143 : decode cX12_canBe 143 = .ok (.iload_n 2, 1) := by decide +kernel
theorem dX12_canBe_144 : decode cX12_canBe 144 = .ok (.aload_n 0, 1) := by decide +kernel
theorem dX12_canBe_145 : decode cX12_canBe 145 = .ok (.getfield 34, 3) := by decide +kernel
theorem dX12_canBe_148 : decode cX12_canBe 148 = .ok (.iload 5, 2) := by decide +kernel
theorem dX12_canBe_150 : decode cX12_canBe 150 = .ok (.iaload, 1) := by decide +kernel
theorem dX12_canBe_151 : decode cX12_canBe 151 = .ok (.if_icmp .lt 7, 3) := by decide +kernel
theorem dX12_canBe_154 : decode cX12_canBe 154 = .ok (.iconst 1, 1) := by decide +kernel
theorem dX12_canBe_155 : decode cX12_canBe 155 = .ok (.goto 4, 3) := by decide +kernel
theorem dX12_canBe_158 : decode cX12_canBe 158 = .ok (.iconst 0, 1) := by decide +kernel
theorem dX12_canBe_159 : decode cX12_canBe 159 = .ok (.istore 7, 2) := by decide +kernel
theorem dX12_canBe_161 : decode cX12_canBe 161 = .ok (.iload_n 2, 1) := by decide +kernel
theorem dX12_canBe_162 : decode cX12_canBe 162 = .ok (.aload_n 0, 1) := by decide +kernel
theorem dX12_canBe_163 : decode cX12_canBe 163 = .ok (.getfield 16, 3) := by decide +kernel
theorem dX12_canBe_166 : decode cX12_canBe 166 = .ok (.iload 6, 2) := by decide +kernel
theorem dX12_canBe_168 : decode cX12_canBe 168 = .ok (.iaload, 1) := by decide +kernel
theorem dX12_canBe_169 : decode cX12_canBe 169 = .ok (.aload_n 0, 1) := by decide +kernel
theorem dX12_canBe_170 : decode cX12_canBe 170 = .ok (.getfield 19, 3) := by decide +kernel
theorem dX12_canBe_173 : decode cX12_canBe 173 = .ok (.iload 6, 2) := by decide +kernel
theorem dX12_canBe_175 : decode cX12_canBe 175 = .ok (.iaload, 1) := by decide +kernel
theorem dX12_canBe_176 : decode cX12_canBe 176 = .ok (.invokestatic 84, 3) := by decide +kernel
theorem dX12_canBe_179 : decode cX12_canBe 179 = .ok (.ifCond .eq 85, 3) := by decide +kernel
theorem dX12_canBe_182 : decode cX12_canBe 182 = .ok (.iload_n 2, 1) := by decide +kernel
theorem dX12_canBe_183 : decode cX12_canBe 183 = .ok (.aload_n 0, 1) := by decide +kernel
theorem dX12_canBe_184 : decode cX12_canBe 184 = .ok (.getfield 28, 3) := by decide +kernel
theorem dX12_canBe_187 : decode cX12_canBe 187 = .ok (.iload 5, 2) := by decide +kernel
theorem dX12_canBe_189 : decode cX12_canBe 189 = .ok (.iaload, 1) := by decide +kernel
theorem dX12_canBe_190 : decode cX12_canBe 190 = .ok (.aload_n 0, 1) := by decide +kernel
theorem dX12_canBe_191 : decode cX12_canBe 191 = .ok (.getfield 31, 3) := by decide +kernel
theorem dX12_canBe_194 : decode cX12_canBe 194 = .ok (.iload 5, 2) := by decide +kernel
theorem dX12_canBe_196 : decode cX12_canBe 196 = .ok (.iaload, 1) := by decide +kernel
theorem dX12_canBe_197 : decode cX12_canBe 197 = .ok (.invokestatic 84, 3) := by decide +kernel
theorem dX12_canBe_200 : decode cX12_canBe 200 = .ok (.ifCond .eq 64, 3) := by decide +kernel
theorem dX12_canBe_203 : decode cX12_canBe 203 = .ok (.aload_n 0, 1) := by decide +kernel
theorem dX12_canBe_204 : decode cX12_canBe 204 = .ok (.getfield 25, 3) := by decide +kernel
theorem dX12_canBe_207 : decode cX12_canBe 207 = .ok (.iload 5, 2) := by decide +kernel
theorem dX12_canBe_209 : decode cX12_canBe 209 = .ok (.iaload, 1) := by decide +kernel
theorem dX12_canBe_210 : decode cX12_canBe 210 = .ok (.aload_n 0, 1) := by decide +kernel
theorem dX12_canBe_211 : decode cX12_canBe 211 = .ok (.getfield 37, 3) := by decide +kernel
theorem dX12_canBe_214 : decode cX12_canBe 214 = .ok (.iload_n 3, 1) := by decide +kernel
theorem dX12_canBe_215 : decode cX12_canBe 215 = .ok (.iconst 3, 1) := by decide +kernel
theorem dX12_canBe_216 : decode cX12_canBe 216 = .ok (.iadd, 1) := by decide +kernel
theorem dX12_canBe_217 : decode cX12_canBe 217 = .ok (.iaload, 1) := by decide +kernel
theorem dX12_canBe_218 : decode cX12_canBe 218 = .ok (.ishr, 1) := by decide +kernel
theorem dX12_canBe_219 : decode cX12_canBe 219 = .ok (.iconst 1, 1) := by decide +kernel
theorem dX12_canBe_220 : decode cX12_canBe 220 = .ok (.iand, 1) := by decide +kernel
theorem dX12_canBe_221 : decode cX12_canBe 221 = .ok (.iconst 1, 1) := by decide +kernel
theorem dX12_canBe_222 : decode cX12_canBe 222 = .ok (.if_icmp .ne 42, 3) := by decide +kernel
theorem dX12_canBe_225 : decode cX12_canBe 225 = .ok (.aload_n 0, 1) := by decide +kernel
theorem dX12_canBe_226 : decode cX12_canBe 226 = .ok (.getfield 37, 3) := by decide +kernel
theorem dX12_canBe_229 : decode cX12_canBe 229 = .ok (.iload_n 3, 1) := by decide +kernel
theorem dX12_canBe_230 : decode cX12_canBe 230 = .ok (.iconst 4, 1) := by decide +kernel
theorem dX12_canBe_231 : decode cX12_canBe 231 = .ok (.iadd, 1) := by decide +kernel
theorem dX12_canBe_232 : decode cX12_canBe 232 = .ok (.iaload, 1) := by decide +kernel
theorem dX12_canBe_233 : decode cX12_canBe 233 = .ok (.bipush (-9), 2) := by decide +kernel
theorem dX12_canBe_235 : decode cX12_canBe 235 = .ok (.if_icmp .eq 25, 3) := by decide +kernel
theorem dX12_canBe_238 : decode cX12_canBe 238 = .ok (.aload_n 0, 1) := by decide +kernel
theorem dX12_canBe_239 : decode cX12_canBe 239 = .ok (.getfield 37, 3) := by decide +kernel
theorem dX12_canBe_242 : decode cX12_canBe 242 = .ok (.iload_n 3, 1) := by decide +kernel
theorem dX12_canBe_243 : decode cX12_canBe 243 = .ok (.iconst 4, 1) := by decide +kernel
theorem dX12_canBe_244 : decode cX12_canBe 244 = .ok (.iadd, 1) := by decide +kernel
theorem dX12_canBe_245 : decode cX12_canBe 245 = .ok (.iaload, 1) := by decide +kernel
theorem dX12_canBe_246 : decode cX12_canBe 246 = .ok (.iconst 1, 1) := by decide +kernel
theorem dX12_canBe_247 : decode cX12_canBe 247 = .ok (.if_icmp .ne 7, 3) := by decide +kernel
theorem dX12_canBe_250 : decode cX12_canBe 250 = .ok (.iconst 1, 1) := by decide +kernel
theorem dX12_canBe_251 : decode cX12_canBe 251 = .ok (.goto 4, 3) := by decide +kernel
theorem dX12_canBe_254 : decode cX12_canBe 254 = .ok (.iconst 0, 1) := by decide +kernel
theorem dX12_canBe_255 : decode cX12_canBe 255 = .ok (.iload 7, 2) := by decide +kernel
theorem dX12_canBe_257 : decode cX12_canBe 257 = .ok (.if_icmp .ne 7, 3) := by decide +kernel
theorem dX12_canBe_260 : decode cX12_canBe 260 = .ok (.iconst 1, 1) := by decide +kernel
theorem dX12_canBe_261 : decode cX12_canBe 261 = .ok (.goto 4, 3) := by decide +kernel
theorem dX12_canBe_264 : decode cX12_canBe 264 = .ok (.iconst 0, 1) := by decide +kernel
theorem dX12_canBe_265 : decode cX12_canBe 265 = .ok (.ireturn, 1) := by decide +kernel
theorem dX12_spanOf_0 : decode cX12_spanOf 0 = .ok (.iconst 0, 1) := by decide +kernel
theorem dX12_spanOf_1 : decode cX12_spanOf 1 = .ok (.istore_n 2, 1) := by decide +kernel
theorem dX12_spanOf_2 : decode cX12_spanOf 2 = .ok (.iconst 0, 1) := by decide +kernel
theorem dX12_spanOf_3 : decode cX12_spanOf 3 = .ok (.istore_n 3, 1) := by decide +kernel
theorem dX12_spanOf_4 : decode cX12_spanOf 4 = .ok (.iload_n 3, 1) := by decide +kernel
theorem dX12_spanOf_5 : decode cX12_spanOf 5 = .ok (.sipush 999, 3) := by decide +kernel
theorem dX12_spanOf_8 : decode cX12_spanOf 8 = .ok (.if_icmp .gt 26, 3) := by decide +kernel
theorem dX12_spanOf_11 : decode cX12_spanOf 11 = .ok (.iload_n 2, 1) := by decide +kernel
theorem dX12_spanOf_12 : decode cX12_spanOf 12 = .ok (.aload_n 0, 1) := by decide +kernel
theorem dX12_spanOf_13 : decode cX12_spanOf 13 = .ok (.iload_n 1, 1) := by decide +kernel
theorem dX12_spanOf_14 : decode cX12_spanOf 14 = .ok (.iload_n 3, 1) := by decide +kernel
theorem dX12_spanOf_15 : decode cX12_spanOf 15 = .ok (.invokevirtual 128, 3) := by decide +kernel
theorem dX12_spanOf_18 : decode cX12_spanOf 18 = .ok (.ifCond .eq 7, 3) := by decide +kernel
theorem dX12_spanOf_21 : decode cX12_spanOf 21 = .ok (.iconst 1, 1) := by decide +kernel
theorem dX12_spanOf_22 : decode cX12_spanOf 22 = .ok (.goto 4, 3) := by decide +kernel
theorem dX12_spanOf_25 : decode cX12_spanOf 25 = .ok (.iconst 0, 1) := by decide +kernel
theorem dX12_spanOf_26 : decode cX12_spanOf 26 = .ok (.iadd, 1) := by decide +kernel
theorem dX12_spanOf_27 : decode cX12_spanOf 27 = .ok (.istore_n 2, 1) := by decide +kernel
theorem dX12_spanOf_28 : decode cX12_spanOf 28 = .ok (.iinc 3 1, 3) := by decide +kernel
theorem dX12_spanOf_31 : decode cX12_spanOf 31 = .ok (.goto (-27), 3) := by decide +kernel
theorem dX12_spanOf_34 : decode cX12_spanOf 34 = .ok (.iload_n 2, 1) := by decide +kernel
theorem dX12_spanOf_35 : decode cX12_spanOf 35 = .ok (.ireturn, 1) := by decide +kernel
theorem dX12_span_0 : decode cX12_span 0 = .ok (.aload_n 0, 1) := by decide +kernel
theorem dX12_span_1 : decode cX12_span 1 = .ok (.iconst 0, 1) := by decide +kernel
theorem dX12_span_2 : decode cX12_span 2 = .ok (.putfield 80, 3) := by decide +kernel
theorem dX12_span_5 : decode cX12_span 5 = .ok (.aload_n 0, 1) := by decide +kernel
theorem dX12_span_6 : decode cX12_span 6 = .ok (.iload_n 1, 1) := by decide +kernel
theorem dX12_span_7 : decode cX12_span 7 = .ok (.invokevirtual 111, 3) := by decide +kernel
theorem dX12_span_10 : decode cX12_span 10 = .ok (.ifCond .eq 12, 3) := by decide +kernel
theorem dX12_span_13 : decode cX12_span 13 = .ok (.iload_n 2, 1) := by decide +kernel
theorem dX12_span_14 : decode cX12_span 14 = .ok (.iconst 0, 1) := by decide +kernel
theorem dX12_span_15 : decode cX12_span 15 = .ok (.iconst 2, 1) := by decide +kernel
theorem dX12_span_16 : decode cX12_span 16 = .ok (.invokestatic 84, 3) := by decide +kernel
theorem dX12_span_19 : decode cX12_span 19 = .ok (.ifCond .ne 5, 3) := by decide +kernel
theorem dX12_span_22 : decode cX12_span 22 = .ok (.iconst (-1), 1) := by decide +kernel
theorem dX12_span_23 : decode cX12_span 23 = .ok (.ireturn, 1) := by decide +kernel
theorem dX12_span_24 : decode cX12_span 24 = .ok (.iload_n 2, 1) := by decide +kernel
theorem dX12_span_25 : decode cX12_span 25 = .ok (.ifCond .ne 9, 3) := by decide +kernel
theorem dX12_span_28 : decode cX12_span 28 = .ok (.aload_n 0, 1) := by decide +kernel
theorem dX12_span_29 : decode cX12_span 29 = .ok (.iload_n 1, 1) := by decide +kernel
theorem dX12_span_30 : decode cX12_span 30 = .ok (.invokevirtual 132, 3) := by decide +kernel
theorem dX12_span_33 : decode cX12_span 33 = .ok (.ireturn, 1) := by decide +kernel
theorem dX12_span_34 : decode cX12_span 34 = .ok (.bipush (-9), 2) := by decide +kernel
theorem dX12_span_36 : decode cX12_span 36 = .ok (.istore_n 3, 1) := by decide +kernel
theorem dX12_span_37 : decode cX12_span 37 = .ok (.iconst 0, 1) := by decide +kernel
theorem dX12_span_38 : decode cX12_span 38 = .ok (.istore 4, 2) := by decide +kernel
theorem dX12_span_40 : decode cX12_span 40 = .ok (.iload 4, 2) := by decide +kernel
theorem dX12_span_42 : decode cX12_span 42 = .ok (.sipush 999, 3) := by decide +kernel
theorem dX12_span_45 : decode cX12_span 45 = .ok (.if_icmp .gt 37, 3) := by decide +kernel
theorem dX12_span_48 : decode cX12_span 48 = .ok (.aload_n 0, 1) := by decide +kernel
theorem dX12_span_49 : decode cX12_span 49 = .ok (.iload_n 1, 1) := by decide +kernel
theorem dX12_span_50 : decode cX12_span 50 = .ok (.iload 4, 2) := by decide +kernel
theorem dX12_span_52 : decode cX12_span 52 = .ok (.invokevirtual 128, 3) := by decide +kernel
theorem dX12_span_55 : decode cX12_span 55 = .ok (.ifCond .eq 19, 3) := by decide +kernel
theorem dX12_span_58 : decode cX12_span 58 = .ok (.iload_n 2, 1) := by decide +kernel
theorem dX12_span_59 : decode cX12_span 59 = .ok (.iconst 2, 1) := by decide +kernel
theorem dX12_span_60 : decode cX12_span 60 = .ok (.if_icmp .eq 9, 3) := by decide +kernel
theorem dX12_span_63 : decode cX12_span 63 = .ok (.iload_n 3, 1) := by decide +kernel
theorem dX12_span_64 : decode cX12_span 64 = .ok (.bipush (-9), 2) := by decide +kernel
theorem dX12_span_66 : decode cX12_span 66 = .ok (.if_icmp .ne 8, 3) := by decide +kernel
theorem dX12_span_69 : decode cX12_span 69 = .ok (.iload 4, 2) := by decide +kernel
theorem dX12_span_71 : decode cX12_span 71 = .ok (.goto 4, 3) := by decide +kernel
theorem dX12_span_74 : decode cX12_span 74 = .ok (.iload_n 3, 1) := by decide +kernel
theorem dX12_span_75 : decode cX12_span 75 = .ok (.istore_n 3, 1) := by decide +kernel
theorem dX12_span_76 : decode cX12_span 76 = .ok (.iinc 4 1, 3) := by decide +kernel
theorem dX12_span_79 : decode cX12_span 79 = .ok (.goto (-39), 3) := by decide +kernel
theorem dX12_span_82 : decode cX12_span 82 = .ok (.iload_n 3, 1) := by decide +kernel
theorem dX12_span_83 : decode cX12_span 83 = .ok (.ireturn, 1) := by decide +kernel
theorem dX12_can_0 : decode cX12_can 0 = .ok (.aload_n 0, 1) := by decide +kernel
theorem dX12_can_1 : decode cX12_can 1 = .ok (.iconst 0, 1) := by decide +kernel
theorem dX12_can_2 : decode cX12_can 2 = .ok (.putfield 80, 3) := by decide +kernel
theorem dX12_can_5 : decode cX12_can 5 = .ok (.aload_n 0, 1) := by decide +kernel
theorem dX12_can_6 : decode cX12_can 6 = .ok (.iload_n 1, 1) := by decide +kernel
theorem dX12_can_7 : decode cX12_can 7 = .ok (.invokevirtual 111, 3) := by decide +kernel
theorem dX12_can_10 : decode cX12_can 10 = .ok (.ifCond .eq 10, 3) := by decide +kernel
theorem dX12_can_13 : decode cX12_can 13 = .ok (.iload_n 2, 1) := by decide +kernel
theorem dX12_can_14 : decode cX12_can 14 = .ok (.invokestatic 95, 3) := by decide +kernel
theorem dX12_can_17 : decode cX12_can 17 = .ok (.ifCond .ne 7, 3) := by decide +kernel
theorem dX12_can_20 : decode cX12_can 20 = .ok (.iconst (-1), 1) := by decide +kernel
theorem dX12_can_21 : decode cX12_can 21 = .ok (.goto 17, 3) := by decide +kernel
theorem dX12_can_24 : decode cX12_can 24 = .ok (.aload_n 0, 1) := by decide +kernel
theorem dX12_can_25 : decode cX12_can 25 = .ok (.iload_n 1, 1) := by decide +kernel
theorem dX12_can_26 : decode cX12_can 26 = .ok (.iload_n 2, 1) := by decide +kernel
theorem dX12_can_27 : decode cX12_can 27 = .ok (.invokevirtual 128, 3) := by decide +kernel
theorem dX12_can_30 : decode cX12_can 30 = .ok (.ifCond .eq 7, 3) := by decide +kernel
theorem dX12_can_33 : decode cX12_can 33 = .ok (.iconst 1, 1) := by decide +kernel
theorem dX12_can_34 : decode cX12_can 34 = .ok (.goto 4, 3) := by decide +kernel
theorem dX12_can_37 : decode cX12_can 37 = .ok (.iconst 0, 1) := by decide +kernel
theorem dX12_can_38 : decode cX12_can 38 = .ok (.ireturn, 1) := by decide +kernel
theorem dX12_isOf_0 : decode cX12_isOf 0 = .ok (.aload_n 0, 1) := by decide +kernel
theorem dX12_isOf_1 : decode cX12_isOf 1 = .ok (.getfield 37, 3) := by decide +kernel
theorem dX12_isOf_4 : decode cX12_isOf 4 = .ok (.bipush 10, 2) := by decide +kernel
theorem dX12_isOf_6 : decode cX12_isOf 6 = .ok (.iload_n 1, 1) := by decide +kernel
theorem dX12_isOf_7 : decode cX12_isOf 7 = .ok (.imul, 1) := by decide +kernel
theorem dX12_isOf_8 : decode cX12_isOf 8 = .ok (.iaload, 1) := by decide +kernel
theorem dX12_isOf_9 : decode cX12_isOf 9 = .ok (.iload_n 2, 1) := by decide +kernel
theorem dX12_isOf_10 : decode cX12_isOf 10 = .ok (.if_icmp .ne 23, 3) := by decide +kernel
theorem dX12_isOf_13 : decode cX12_isOf 13 = .ok (.aload_n 0, 1) := by decide +kernel
theorem dX12_isOf_14 : decode cX12_isOf 14 = .ok (.getfield 37, 3) := by decide +kernel
theorem dX12_isOf_17 : decode cX12_isOf 17 = .ok (.bipush 10, 2) := by decide +kernel
theorem dX12_isOf_19 : decode cX12_isOf 19 = .ok (.iload_n 1, 1) := by decide +kernel
theorem dX12_isOf_20 : decode cX12_isOf 20 = .ok (.imul, 1) := by decide +kernel
theorem dX12_isOf_21 : decode cX12_isOf 21 = .ok (.bipush 9, 2) := by decide +kernel
theorem dX12_isOf_23 : decode cX12_isOf 23 = .ok (.iadd, 1) := by decide +kernel
theorem dX12_isOf_24 : decode cX12_isOf 24 = .ok (.iaload, 1) := by decide +kernel
theorem dX12_isOf_25 : decode cX12_isOf 25 = .ok (.iload_n 3, 1) := by decide +kernel
theorem dX12_isOf_26 : decode cX12_isOf 26 = .ok (.if_icmp .gt 7, 3) := by decide +kernel
theorem dX12_isOf_29 : decode cX12_isOf 29 = .ok (.iconst 1, 1) := by decide +kernel
theorem dX12_isOf_30 : decode cX12_isOf 30 = .ok (.goto 4, 3) := by decide +kernel
theorem dX12_isOf_33 : decode cX12_isOf 33 = .ok (.iconst 0, 1) := by decide +kernel
theorem dX12_isOf_34 : decode cX12_isOf 34 = .ok (.ireturn, 1) := by decide +kernel
theorem dX12_marks_0 : decode cX12_marks 0 = .ok (.aload_n 0, 1) := by decide +kernel
theorem dX12_marks_1 : decode cX12_marks 1 = .ok (.iconst 0, 1) := by decide +kernel
theorem dX12_marks_2 : decode cX12_marks 2 = .ok (.putfield 80, 3) := by decide +kernel
theorem dX12_marks_5 : decode cX12_marks 5 = .ok (.iload_n 1, 1) := by decide +kernel
theorem dX12_marks_6 : decode cX12_marks 6 = .ok (.invokestatic 104, 3) := by decide +kernel
theorem dX12_marks_9 : decode cX12_marks 9 = .ok (.ifCond .eq 10, 3) := by decide +kernel
theorem dX12_marks_12 : decode cX12_marks 12 = .ok (.iload_n 2, 1) := by decide +kernel
theorem dX12_marks_13 : decode cX12_marks 13 = .ok (.invokestatic 95, 3) := by decide +kernel
theorem dX12_marks_16 : decode cX12_marks 16 = .ok (.ifCond .ne 5, 3) := by decide +kernel
theorem dX12_marks_19 : decode cX12_marks 19 = .ok (.iconst (-1), 1) := by decide +kernel
theorem dX12_marks_20 : decode cX12_marks 20 = .ok (.ireturn, 1) := by decide +kernel
theorem dX12_marks_21 : decode cX12_marks 21 = .ok (.iconst 0, 1) := by decide +kernel
theorem dX12_marks_22 : decode cX12_marks 22 = .ok (.istore_n 3, 1) := by decide +kernel
theorem dX12_marks_23 : decode cX12_marks 23 = .ok (.iconst 0, 1) := by decide +kernel
theorem dX12_marks_24 : decode cX12_marks 24 = .ok (.istore 4, 2) := by decide +kernel
theorem dX12_marks_26 : decode cX12_marks 26 = .ok (.iload 4, 2) := by decide +kernel
theorem dX12_marks_28 : decode cX12_marks 28 = .ok (.aload_n 0, 1) := by decide +kernel
theorem dX12_marks_29 : decode cX12_marks 29 = .ok (.getfield 88, 3) := by decide +kernel
theorem dX12_marks_32 : decode cX12_marks 32 = .ok (.if_icmp .ge 28, 3) := by decide +kernel
theorem dX12_marks_35 : decode cX12_marks 35 = .ok (.iload_n 3, 1) := by decide +kernel
theorem dX12_marks_36 : decode cX12_marks 36 = .ok (.aload_n 0, 1) := by decide +kernel
theorem dX12_marks_37 : decode cX12_marks 37 = .ok (.iload 4, 2) := by decide +kernel
theorem dX12_marks_39 : decode cX12_marks 39 = .ok (.iload_n 1, 1) := by decide +kernel
theorem dX12_marks_40 : decode cX12_marks 40 = .ok (.iload_n 2, 1) := by decide +kernel
theorem dX12_marks_41 : decode cX12_marks 41 = .ok (.invokevirtual 136, 3) := by decide +kernel
theorem dX12_marks_44 : decode cX12_marks 44 = .ok (.ifCond .eq 7, 3) := by decide +kernel
theorem dX12_marks_47 : decode cX12_marks 47 = .ok (.iconst 1, 1) := by decide +kernel
theorem dX12_marks_48 : decode cX12_marks 48 = .ok (.goto 4, 3) := by decide +kernel
theorem dX12_marks_51 : decode cX12_marks 51 = .ok (.iconst 0, 1) := by decide +kernel
theorem dX12_marks_52 : decode cX12_marks 52 = .ok (.iadd, 1) := by decide +kernel
theorem dX12_marks_53 : decode cX12_marks 53 = .ok (.istore_n 3, 1) := by decide +kernel
theorem dX12_marks_54 : decode cX12_marks 54 = .ok (.iinc 4 1, 3) := by decide +kernel
theorem dX12_marks_57 : decode cX12_marks 57 = .ok (.goto (-31), 3) := by decide +kernel
theorem dX12_marks_60 : decode cX12_marks 60 = .ok (.iload_n 3, 1) := by decide +kernel
theorem dX12_marks_61 : decode cX12_marks 61 = .ok (.ireturn, 1) := by decide +kernel
theorem dX12_sail_0 : decode cX12_sail 0 = .ok (.aload_n 0, 1) := by decide +kernel
theorem dX12_sail_1 : decode cX12_sail 1 = .ok (.iconst 0, 1) := by decide +kernel
theorem dX12_sail_2 : decode cX12_sail 2 = .ok (.putfield 80, 3) := by decide +kernel
theorem dX12_sail_5 : decode cX12_sail 5 = .ok (.iload_n 1, 1) := by decide +kernel
theorem dX12_sail_6 : decode cX12_sail 6 = .ok (.invokestatic 91, 3) := by decide +kernel
theorem dX12_sail_9 : decode cX12_sail 9 = .ok (.ifCond .eq 34, 3) := by decide +kernel
theorem dX12_sail_12 : decode cX12_sail 12 = .ok (.iload_n 2, 1) := by decide +kernel
theorem dX12_sail_13 : decode cX12_sail 13 = .ok (.invokestatic 91, 3) := by decide +kernel
theorem dX12_sail_16 : decode cX12_sail 16 = .ok (.ifCond .eq 27, 3) := by decide +kernel
theorem dX12_sail_19 : decode cX12_sail 19 = .ok (.iload_n 1, 1) := by decide +kernel
theorem dX12_sail_20 : decode cX12_sail 20 = .ok (.iload_n 2, 1) := by decide +kernel
theorem dX12_sail_21 : decode cX12_sail 21 = .ok (.if_icmp .eq 22, 3) := by decide +kernel
theorem dX12_sail_24 : decode cX12_sail 24 = .ok (.iload_n 3, 1) := by decide +kernel
theorem dX12_sail_25 : decode cX12_sail 25 = .ok (.invokestatic 95, 3) := by decide +kernel
theorem dX12_sail_28 : decode cX12_sail 28 = .ok (.ifCond .eq 15, 3) := by decide +kernel
theorem dX12_sail_31 : decode cX12_sail 31 = .ok (.iload 4, 2) := by decide +kernel
theorem dX12_sail_33 : decode cX12_sail 33 = .ok (.iload_n 3, 1) := by decide +kernel
theorem dX12_sail_34 : decode cX12_sail 34 = .ok (.sipush 999, 3) := by decide +kernel
theorem dX12_sail_37 : decode cX12_sail 37 = .ok (.invokestatic 84, 3) := by decide +kernel
theorem dX12_sail_40 : decode cX12_sail 40 = .ok (.ifCond .ne 5, 3) := by decide +kernel
theorem dX12_sail_43 : decode cX12_sail 43 = .ok (.iconst (-1), 1) := by decide +kernel
theorem dX12_sail_44 : decode cX12_sail 44 = .ok (.ireturn, 1) := by decide +kernel
theorem dX12_sail_45 : decode cX12_sail 45 = .ok (.aload_n 0, 1) := by decide +kernel
theorem dX12_sail_46 : decode cX12_sail 46 = .ok (.getfield 139, 3) := by decide +kernel
theorem dX12_sail_49 : decode cX12_sail 49 = .ok (.bipush 20, 2) := by decide +kernel
theorem dX12_sail_51 : decode cX12_sail 51 = .ok (.if_icmp .ne 6, 3) := by decide +kernel
theorem dX12_sail_54 : decode cX12_sail 54 = .ok (.bipush (-3), 2) := by decide +kernel
theorem dX12_sail_56 : decode cX12_sail 56 = .ok (.ireturn, 1) := by decide +kernel
theorem dX12_sail_57 : decode cX12_sail 57 = .ok (.aload_n 0, 1) := by decide +kernel
theorem dX12_sail_58 : decode cX12_sail 58 = .ok (.getfield 40, 3) := by decide +kernel
theorem dX12_sail_61 : decode cX12_sail 61 = .ok (.aload_n 0, 1) := by decide +kernel
theorem dX12_sail_62 : decode cX12_sail 62 = .ok (.getfield 139, 3) := by decide +kernel
theorem dX12_sail_65 : decode cX12_sail 65 = .ok (.iload_n 1, 1) := by decide +kernel
theorem dX12_sail_66 : decode cX12_sail 66 = .ok (.iastore, 1) := by decide +kernel
theorem dX12_sail_67 : decode cX12_sail 67 = .ok (.aload_n 0, 1) := by decide +kernel
theorem dX12_sail_68 : decode cX12_sail 68 = .ok (.getfield 43, 3) := by decide +kernel
theorem dX12_sail_71 : decode cX12_sail 71 = .ok (.aload_n 0, 1) := by decide +kernel
theorem dX12_sail_72 : decode cX12_sail 72 = .ok (.getfield 139, 3) := by decide +kernel
theorem dX12_sail_75 : decode cX12_sail 75 = .ok (.iload_n 2, 1) := by decide +kernel
theorem dX12_sail_76 : decode cX12_sail 76 = .ok (.iastore, 1) := by decide +kernel
theorem dX12_sail_77 : decode cX12_sail 77 = .ok (.aload_n 0, 1) := by decide +kernel
theorem dX12_sail_78 : decode cX12_sail 78 = .ok (.getfield 46, 3) := by decide +kernel
theorem dX12_sail_81 : decode cX12_sail 81 = .ok (.aload_n 0, 1) := by decide +kernel
theorem dX12_sail_82 : decode cX12_sail 82 = .ok (.getfield 139, 3) := by decide +kernel
theorem dX12_sail_85 : decode cX12_sail 85 = .ok (.iload_n 3, 1) := by decide +kernel
theorem dX12_sail_86 : decode cX12_sail 86 = .ok (.iastore, 1) := by decide +kernel
theorem dX12_sail_87 : decode cX12_sail 87 = .ok (.aload_n 0, 1) := by decide +kernel
theorem dX12_sail_88 : decode cX12_sail 88 = .ok (.getfield 49, 3) := by decide +kernel
theorem dX12_sail_91 : decode cX12_sail 91 = .ok (.aload_n 0, 1) := by decide +kernel
theorem dX12_sail_92 : decode cX12_sail 92 = .ok (.getfield 139, 3) := by decide +kernel
theorem dX12_sail_95 : decode cX12_sail 95 = .ok (.iload 4, 2) := by decide +kernel
theorem dX12_sail_97 : decode cX12_sail 97 = .ok (.iastore, 1) := by decide +kernel
theorem dX12_sail_98 : decode cX12_sail 98 = .ok (.aload_n 0, 1) := by decide +kernel
theorem dX12_sail_99 : decode cX12_sail 99 = .ok (.dup, 1) := by decide +kernel
theorem dX12_sail_100 : decode cX12_sail 100 = .ok (.getfield 139, 3) := by decide +kernel
theorem dX12_sail_103 : decode cX12_sail 103 = .ok (.iconst 1, 1) := by decide +kernel
theorem dX12_sail_104 : decode cX12_sail 104 = .ok (.iadd, 1) := by decide +kernel
theorem dX12_sail_105 : decode cX12_sail 105 = .ok (.putfield 139, 3) := by decide +kernel
theorem dX12_sail_108 : decode cX12_sail 108 = .ok (.aload_n 0, 1) := by decide +kernel
theorem dX12_sail_109 : decode cX12_sail 109 = .ok (.getfield 139, 3) := by decide +kernel
theorem dX12_sail_112 : decode cX12_sail 112 = .ok (.iconst 1, 1) := by decide +kernel
theorem dX12_sail_113 : decode cX12_sail 113 = .ok (.isub, 1) := by decide +kernel
theorem dX12_sail_114 : decode cX12_sail 114 = .ok (.ireturn, 1) := by decide +kernel
theorem dX12_late_0 : decode cX12_late 0 = .ok (.aload_n 0, 1) := by decide +kernel
theorem dX12_late_1 : decode cX12_late 1 = .ok (.iconst 0, 1) := by decide +kernel
theorem dX12_late_2 : decode cX12_late 2 = .ok (.putfield 80, 3) := by decide +kernel
theorem dX12_late_5 : decode cX12_late 5 = .ok (.iload_n 1, 1) := by decide +kernel
theorem dX12_late_6 : decode cX12_late 6 = .ok (.iconst 0, 1) := by decide +kernel
theorem dX12_late_7 : decode cX12_late 7 = .ok (.aload_n 0, 1) := by decide +kernel
theorem dX12_late_8 : decode cX12_late 8 = .ok (.getfield 139, 3) := by decide +kernel
theorem dX12_late_11 : decode cX12_late 11 = .ok (.iconst 1, 1) := by decide +kernel
theorem dX12_late_12 : decode cX12_late 12 = .ok (.isub, 1) := by decide +kernel
theorem dX12_late_13 : decode cX12_late 13 = .ok (.invokestatic 84, 3) := by decide +kernel
theorem dX12_late_16 : decode cX12_late 16 = .ok (.ifCond .eq 25, 3) := by decide +kernel
theorem dX12_late_19 : decode cX12_late 19 = .ok (.iload_n 2, 1) := by decide +kernel
theorem dX12_late_20 : decode cX12_late 20 = .ok (.bipush (-9), 2) := by decide +kernel
theorem dX12_late_22 : decode cX12_late 22 = .ok (.if_icmp .eq 21, 3) := by decide +kernel
theorem dX12_late_25 : decode cX12_late 25 = .ok (.iload_n 2, 1) := by decide +kernel
theorem dX12_late_26 : decode cX12_late 26 = .ok (.aload_n 0, 1) := by decide +kernel
theorem dX12_late_27 : decode cX12_late 27 = .ok (.getfield 46, 3) := by decide +kernel
theorem dX12_late_30 : decode cX12_late 30 = .ok (.iload_n 1, 1) := by decide +kernel
theorem dX12_late_31 : decode cX12_late 31 = .ok (.iaload, 1) := by decide +kernel
theorem dX12_late_32 : decode cX12_late 32 = .ok (.sipush 999, 3) := by decide +kernel
theorem dX12_late_35 : decode cX12_late 35 = .ok (.invokestatic 84, 3) := by decide +kernel
theorem dX12_late_38 : decode cX12_late 38 = .ok (.ifCond .ne 5, 3) := by decide +kernel
theorem dX12_late_41 : decode cX12_late 41 = .ok (.iconst (-1), 1) := by decide +kernel
theorem dX12_late_42 : decode cX12_late 42 = .ok (.ireturn, 1) := by decide +kernel
theorem dX12_late_43 : decode cX12_late 43 = .ok (.aload_n 0, 1) := by decide +kernel
theorem dX12_late_44 : decode cX12_late 44 = .ok (.getfield 49, 3) := by decide +kernel
theorem dX12_late_47 : decode cX12_late 47 = .ok (.iload_n 1, 1) := by decide +kernel
theorem dX12_late_48 : decode cX12_late 48 = .ok (.iaload, 1) := by decide +kernel
theorem dX12_late_49 : decode cX12_late 49 = .ok (.istore_n 3, 1) := by decide +kernel
theorem dX12_late_50 : decode cX12_late 50 = .ok (.aload_n 0, 1) := by decide +kernel
theorem dX12_late_51 : decode cX12_late 51 = .ok (.getfield 49, 3) := by decide +kernel
theorem dX12_late_54 : decode cX12_late 54 = .ok (.iload_n 1, 1) := by decide +kernel
theorem dX12_late_55 : decode cX12_late 55 = .ok (.iload_n 2, 1) := by decide +kernel
theorem dX12_late_56 : decode cX12_late 56 = .ok (.iastore, 1) := by decide +kernel
theorem dX12_late_57 : decode cX12_late 57 = .ok (.iload_n 3, 1) := by decide +kernel
theorem dX12_late_58 : decode cX12_late 58 = .ok (.ireturn, 1) := by decide +kernel
theorem dX12_road_0 : decode cX12_road 0 = .ok (.aload_n 0, 1) := by decide +kernel
theorem dX12_road_1 : decode cX12_road 1 = .ok (.iconst 0, 1) := by decide +kernel
theorem dX12_road_2 : decode cX12_road 2 = .ok (.putfield 80, 3) := by decide +kernel
theorem dX12_road_5 : decode cX12_road 5 = .ok (.iload_n 1, 1) := by decide +kernel
theorem dX12_road_6 : decode cX12_road 6 = .ok (.invokestatic 91, 3) := by decide +kernel
theorem dX12_road_9 : decode cX12_road 9 = .ok (.ifCond .eq 31, 3) := by decide +kernel
theorem dX12_road_12 : decode cX12_road 12 = .ok (.iload_n 2, 1) := by decide +kernel
theorem dX12_road_13 : decode cX12_road 13 = .ok (.invokestatic 91, 3) := by decide +kernel
theorem dX12_road_16 : decode cX12_road 16 = .ok (.ifCond .eq 24, 3) := by decide +kernel
theorem dX12_road_19 : decode cX12_road 19 = .ok (.iload_n 1, 1) := by decide +kernel
theorem dX12_road_20 : decode cX12_road 20 = .ok (.iload_n 2, 1) := by decide +kernel
theorem dX12_road_21 : decode cX12_road 21 = .ok (.if_icmp .eq 19, 3) := by decide +kernel
theorem dX12_road_24 : decode cX12_road 24 = .ok (.iload_n 3, 1) := by decide +kernel
theorem dX12_road_25 : decode cX12_road 25 = .ok (.bipush (-9), 2) := by decide +kernel
theorem dX12_road_27 : decode cX12_road 27 = .ok (.if_icmp .eq 15, 3) := by decide +kernel
theorem dX12_road_30 : decode cX12_road 30 = .ok (.iload_n 3, 1) := by decide +kernel
theorem dX12_road_31 : decode cX12_road 31 = .ok (.iconst 1, 1) := by decide +kernel
theorem dX12_road_32 : decode cX12_road 32 = .ok (.bipush 30, 2) := by decide +kernel
theorem dX12_road_34 : decode cX12_road 34 = .ok (.invokestatic 84, 3) := by decide +kernel
theorem dX12_road_37 : decode cX12_road 37 = .ok (.ifCond .ne 5, 3) := by decide +kernel
theorem dX12_road_40 : decode cX12_road 40 = .ok (.iconst (-1), 1) := by decide +kernel
theorem dX12_road_41 : decode cX12_road 41 = .ok (.ireturn, 1) := by decide +kernel
theorem dX12_road_42 : decode cX12_road 42 = .ok (.aload_n 0, 1) := by decide +kernel
theorem dX12_road_43 : decode cX12_road 43 = .ok (.getfield 52, 3) := by decide +kernel
theorem dX12_road_46 : decode cX12_road 46 = .ok (.bipush 6, 2) := by decide +kernel
theorem dX12_road_48 : decode cX12_road 48 = .ok (.iload_n 1, 1) := by decide +kernel
theorem dX12_road_49 : decode cX12_road 49 = .ok (.imul, 1) := by decide +kernel
theorem dX12_road_50 : decode cX12_road 50 = .ok (.iload_n 2, 1) := by decide +kernel
theorem dX12_road_51 : decode cX12_road 51 = .ok (.iadd, 1) := by decide +kernel
theorem dX12_road_52 : decode cX12_road 52 = .ok (.iaload, 1) := by decide +kernel
theorem dX12_road_53 : decode cX12_road 53 = .ok (.istore 4, 2) := by decide +kernel
theorem dX12_road_55 : decode cX12_road 55 = .ok (.aload_n 0, 1) := by decide +kernel
theorem dX12_road_56 : decode cX12_road 56 = .ok (.getfield 52, 3) := by decide +kernel
theorem dX12_road_59 : decode cX12_road 59 = .ok (.bipush 6, 2) := by decide +kernel
theorem dX12_road_61 : decode cX12_road 61 = .ok (.iload_n 1, 1) := by decide +kernel
theorem dX12_road_62 : decode cX12_road 62 = .ok (.imul, 1) := by decide +kernel
theorem dX12_road_63 : decode cX12_road 63 = .ok (.iload_n 2, 1) := by decide +kernel
theorem dX12_road_64 : decode cX12_road 64 = .ok (.iadd, 1) := by decide +kernel
theorem dX12_road_65 : decode cX12_road 65 = .ok (.iload_n 3, 1) := by decide +kernel
theorem dX12_road_66 : decode cX12_road 66 = .ok (.iastore, 1) := by decide +kernel
theorem dX12_road_67 : decode cX12_road 67 = .ok (.aload_n 0, 1) := by decide +kernel
theorem dX12_road_68 : decode cX12_road 68 = .ok (.getfield 52, 3) := by decide +kernel
theorem dX12_road_71 : decode cX12_road 71 = .ok (.bipush 6, 2) := by decide +kernel
theorem dX12_road_73 : decode cX12_road 73 = .ok (.iload_n 2, 1) := by decide +kernel
theorem dX12_road_74 : decode cX12_road 74 = .ok (.imul, 1) := by decide +kernel
theorem dX12_road_75 : decode cX12_road 75 = .ok (.iload_n 1, 1) := by decide +kernel
theorem dX12_road_76 : decode cX12_road 76 = .ok (.iadd, 1) := by decide +kernel
theorem dX12_road_77 : decode cX12_road 77 = .ok (.iload_n 3, 1) := by decide +kernel
theorem dX12_road_78 : decode cX12_road 78 = .ok (.iastore, 1) := by decide +kernel
theorem dX12_road_79 : decode cX12_road 79 = .ok (.iload 4, 2) := by decide +kernel
theorem dX12_road_81 : decode cX12_road 81 = .ok (.ireturn, 1) := by decide +kernel
theorem dX12_soonestOf_0 : decode cX12_soonestOf 0 = .ok (.iconst 0, 1) := by decide +kernel
theorem dX12_soonestOf_1 : decode cX12_soonestOf 1 = .ok (.istore 4, 2) := by decide +kernel
theorem dX12_soonestOf_3 : decode cX12_soonestOf 3 = .ok (.iload 4, 2) := by decide +kernel
theorem dX12_soonestOf_5 : decode cX12_soonestOf 5 = .ok (.bipush 6, 2) := by decide +kernel
theorem dX12_soonestOf_7 : decode cX12_soonestOf 7 = .ok (.if_icmp .ge 37, 3) := by decide +kernel
theorem dX12_soonestOf_10 : decode cX12_soonestOf 10 = .ok (.aload_n 0, 1) := by decide +kernel
theorem dX12_soonestOf_11 : decode cX12_soonestOf 11 = .ok (.getfield 55, 3) := by decide +kernel
theorem dX12_soonestOf_14 : decode cX12_soonestOf 14 = .ok (.iload 4, 2) := by decide +kernel
theorem dX12_soonestOf_16 : decode cX12_soonestOf 16 = .ok (.iload 4, 2) := by decide +kernel
theorem dX12_soonestOf_18 : decode cX12_soonestOf 18 = .ok (.iload_n 1, 1) := by decide +kernel
theorem dX12_soonestOf_19 : decode cX12_soonestOf 19 = .ok (.if_icmp .ne 7, 3) := by decide +kernel
theorem dX12_soonestOf_22 : decode cX12_soonestOf 22 = .ok (.iload_n 2, 1) := by decide +kernel
theorem dX12_soonestOf_23 : decode cX12_soonestOf 23 = .ok (.goto 6, 3) := by decide +kernel
theorem dX12_soonestOf_26 : decode cX12_soonestOf 26 = .ok (.sipush 1000, 3) := by decide +kernel
theorem dX12_soonestOf_29 : decode cX12_soonestOf 29 = .ok (.iastore, 1) := by decide +kernel
theorem dX12_soonestOf_30 : decode cX12_soonestOf 30 = .ok (.aload_n 0, 1) := by decide +kernel
theorem dX12_soonestOf_31 : decode cX12_soonestOf 31 = .ok (.getfield 58, 3) := by decide +kernel
theorem dX12_soonestOf_34 : decode cX12_soonestOf 34 = .ok (.iload 4, 2) := by decide +kernel
theorem dX12_soonestOf_36 : decode cX12_soonestOf 36 = .ok (.iconst 0, 1) := by decide +kernel
theorem dX12_soonestOf_37 : decode cX12_soonestOf 37 = .ok (.bastore, 1) := by decide +kernel
theorem dX12_soonestOf_38 : decode cX12_soonestOf 38 = .ok (.iinc 4 1, 3) := by decide +kernel
theorem dX12_soonestOf_41 : decode cX12_soonestOf 41 = .ok (.goto (-38), 3) := by decide +kernel
theorem dX12_soonestOf_44 : decode cX12_soonestOf 44 = .ok (.iconst 0, 1) := by decide +kernel
theorem dX12_soonestOf_45 : decode cX12_soonestOf 45 = .ok (.istore 4, 2) := by decide +kernel
theorem dX12_soonestOf_47 : decode cX12_soonestOf 47 = .ok (.iload 4, 2) := by decide +kernel
theorem dX12_soonestOf_49 : decode cX12_soonestOf 49 = .ok (.bipush 6, 2) := by decide +kernel
theorem dX12_soonestOf_51 : decode cX12_soonestOf 51 = .ok (.if_icmp .ge 292, 3) := by decide +kernel
theorem dX12_soonestOf_54 : decode cX12_soonestOf 54 = .ok (.bipush (-9), 2) := by decide +kernel
theorem dX12_soonestOf_56 : decode cX12_soonestOf 56 = .ok (.istore 5, 2) := by decide +kernel
theorem dX12_soonestOf_58 : decode cX12_soonestOf 58 = .ok (.iconst 0, 1) := by decide +kernel
theorem dX12_soonestOf_59 : decode cX12_soonestOf 59 = .ok (.istore 6, 2) := by decide +kernel
theorem dX12_soonestOf_61 : decode cX12_soonestOf 61 = .ok (.iload 6, 2) := by decide +kernel
theorem dX12_soonestOf_63 : decode cX12_soonestOf 63 = .ok (.bipush 6, 2) := by decide +kernel
theorem dX12_soonestOf_65 : decode cX12_soonestOf 65 = .ok (.if_icmp .ge 52, 3) := by decide +kernel
theorem dX12_soonestOf_68 : decode cX12_soonestOf 68 = .ok (.aload_n 0, 1) := by decide +kernel
theorem dX12_soonestOf_69 : decode cX12_soonestOf 69 = .ok (.getfield 58, 3) := by decide +kernel
theorem dX12_soonestOf_72 : decode cX12_soonestOf 72 = .ok (.iload 6, 2) := by decide +kernel
theorem dX12_soonestOf_74 : decode cX12_soonestOf 74 = .ok (.baload, 1) := by decide +kernel
theorem dX12_soonestOf_75 : decode cX12_soonestOf 75 = .ok (.ifCond .ne 32, 3) := by decide +kernel
theorem dX12_soonestOf_78 : decode cX12_soonestOf 78 = .ok (.iload 5, 2) := by decide +kernel
theorem dX12_soonestOf_80 : decode cX12_soonestOf 80 = .ok (.bipush (-9), 2) := by decide +kernel
theorem dX12_soonestOf_82 : decode cX12_soonestOf 82 = .ok (.if_icmp .eq 20, 3) := by decide +kernel
theorem dX12_soonestOf_85 : decode cX12_soonestOf 85 = .ok (.aload_n 0, 1) := by decide +kernel
theorem dX12_soonestOf_86 : decode cX12_soonestOf 86 = .ok (.getfield 55, 3) := by decide +kernel
theorem dX12_soonestOf_89 : decode cX12_soonestOf 89 = .ok (.iload 6, 2) := by decide +kernel
theorem dX12_soonestOf_91 : decode cX12_soonestOf 91 = .ok (.iaload, 1) := by decide +kernel
theorem dX12_soonestOf_92 : decode cX12_soonestOf 92 = .ok (.aload_n 0, 1) := by decide +kernel
theorem dX12_soonestOf_93 : decode cX12_soonestOf 93 = .ok (.getfield 55, 3) := by decide +kernel
theorem dX12_soonestOf_96 : decode cX12_soonestOf 96 = .ok (.iload 5, 2) := by decide +kernel
theorem dX12_soonestOf_98 : decode cX12_soonestOf 98 = .ok (.iaload, 1) := by decide +kernel
theorem dX12_soonestOf_99 : decode cX12_soonestOf 99 = .ok (.if_icmp .ge 8, 3) := by decide +kernel
theorem dX12_soonestOf_102 : decode cX12_soonestOf 102 = .ok (.iload 6, 2) := by decide +kernel
theorem dX12_soonestOf_104 : decode cX12_soonestOf 104 = .ok (.goto 5, 3) := by decide +kernel
theorem dX12_soonestOf_107 : decode cX12_soonestOf 107 = .ok (.iload 5, 2) := by decide +kernel
theorem dX12_soonestOf_109 : decode cX12_soonestOf 109 = .ok (.istore 5, 2) := by decide +kernel
theorem dX12_soonestOf_111 : decode cX12_soonestOf 111 = .ok (.iinc 6 1, 3) := by decide +kernel
theorem dX12_soonestOf_114 : decode cX12_soonestOf 114 = .ok (.goto (-53), 3) := by decide +kernel
theorem dX12_soonestOf_117 : decode cX12_soonestOf 117 = .ok (.aload_n 0, 1) := by decide +kernel
theorem dX12_soonestOf_118 : decode cX12_soonestOf 118 = .ok (.getfield 58, 3) := by decide +kernel
theorem dX12_soonestOf_121 : decode cX12_soonestOf 121 = .ok (.iload 5, 2) := by decide +kernel
theorem dX12_soonestOf_123 : decode cX12_soonestOf 123 = .ok (.iconst 1, 1) := by decide +kernel
theorem dX12_soonestOf_124 : decode cX12_soonestOf 124 = .ok (.bastore, 1) := by decide +kernel
theorem dX12_soonestOf_125 : decode cX12_soonestOf 125 = .ok (.iconst 0, 1) := by decide +kernel
theorem dX12_soonestOf_126 : decode cX12_soonestOf 126 = .ok (.istore 6, 2) := by decide +kernel
theorem dX12_soonestOf_128 : decode cX12_soonestOf 128 = .ok (.iload 6, 2) := by decide +kernel
theorem dX12_soonestOf_130 : decode cX12_soonestOf 130 = .ok (.bipush 6, 2) := by decide +kernel
theorem dX12_soonestOf_132 : decode cX12_soonestOf 132 = .ok (.if_icmp .ge 78, 3) := by decide +kernel
theorem dX12_soonestOf_135 : decode cX12_soonestOf 135 = .ok (.aload_n 0, 1) := by decide +kernel
theorem dX12_soonestOf_136 : decode cX12_soonestOf 136 = .ok (.getfield 52, 3) := by decide +kernel
theorem dX12_soonestOf_139 : decode cX12_soonestOf 139 = .ok (.bipush 6, 2) := by decide +kernel
theorem dX12_soonestOf_141 : decode cX12_soonestOf 141 = .ok (.iload 5, 2) := by decide +kernel
theorem dX12_soonestOf_143 : decode cX12_soonestOf 143 = .ok (.imul, 1) := by decide +kernel
theorem dX12_soonestOf_144 : decode cX12_soonestOf 144 = .ok (.iload 6, 2) := by decide +kernel
theorem dX12_soonestOf_146 : decode cX12_soonestOf 146 = .ok (.iadd, 1) := by decide +kernel
theorem dX12_soonestOf_147 : decode cX12_soonestOf 147 = .ok (.iaload, 1) := by decide +kernel
theorem dX12_soonestOf_148 : decode cX12_soonestOf 148 = .ok (.istore 7, 2) := by decide +kernel
theorem dX12_soonestOf_150 : decode cX12_soonestOf 150 = .ok (.aload_n 0, 1) := by decide +kernel
theorem dX12_soonestOf_151 : decode cX12_soonestOf 151 = .ok (.getfield 55, 3) := by decide +kernel
theorem dX12_soonestOf_154 : decode cX12_soonestOf 154 = .ok (.iload 6, 2) := by decide +kernel
theorem dX12_soonestOf_156 : decode cX12_soonestOf 156 = .ok (.iload 7, 2) := by decide +kernel
theorem dX12_soonestOf_158 : decode cX12_soonestOf 158 = .ok (.bipush (-9), 2) := by decide +kernel
theorem dX12_soonestOf_160 : decode cX12_soonestOf 160 = .ok (.if_icmp .eq 36, 3) := by decide +kernel
theorem dX12_soonestOf_163 : decode cX12_soonestOf 163 = .ok (.aload_n 0, 1) := by decide +kernel
theorem dX12_soonestOf_164 : decode cX12_soonestOf 164 = .ok (.getfield 55, 3) := by decide +kernel
theorem dX12_soonestOf_167 : decode cX12_soonestOf 167 = .ok (.iload 5, 2) := by decide +kernel
theorem dX12_soonestOf_169 : decode cX12_soonestOf 169 = .ok (.iaload, 1) := by decide +kernel
theorem dX12_soonestOf_170 : decode cX12_soonestOf 170 = .ok (.iload 7, 2) := by decide +kernel
theorem dX12_soonestOf_172 : decode cX12_soonestOf 172 = .ok (.iadd, 1) := by decide +kernel
theorem dX12_soonestOf_173 : decode cX12_soonestOf 173 = .ok (.aload_n 0, 1) := by decide +kernel
theorem dX12_soonestOf_174 : decode cX12_soonestOf 174 = .ok (.getfield 55, 3) := by decide +kernel
theorem dX12_soonestOf_177 : decode cX12_soonestOf 177 = .ok (.iload 6, 2) := by decide +kernel
theorem dX12_soonestOf_179 : decode cX12_soonestOf 179 = .ok (.iaload, 1) := by decide +kernel
theorem dX12_soonestOf_180 : decode cX12_soonestOf 180 = .ok (.if_icmp .ge 16, 3) := by decide +kernel
theorem dX12_soonestOf_183 : decode cX12_soonestOf 183 = .ok (.aload_n 0, 1) := by decide +kernel
theorem dX12_soonestOf_184 : decode cX12_soonestOf 184 = .ok (.getfield 55, 3) := by decide +kernel
theorem dX12_soonestOf_187 : decode cX12_soonestOf 187 = .ok (.iload 5, 2) := by decide +kernel
theorem dX12_soonestOf_189 : decode cX12_soonestOf 189 = .ok (.iaload, 1) := by decide +kernel
theorem dX12_soonestOf_190 : decode cX12_soonestOf 190 = .ok (.iload 7, 2) := by decide +kernel
theorem dX12_soonestOf_192 : decode cX12_soonestOf 192 = .ok (.iadd, 1) := by decide +kernel
theorem dX12_soonestOf_193 : decode cX12_soonestOf 193 = .ok (.goto 10, 3) := by decide +kernel
theorem dX12_soonestOf_196 : decode cX12_soonestOf 196 = .ok (.aload_n 0, 1) := by decide +kernel
theorem dX12_soonestOf_197 : decode cX12_soonestOf 197 = .ok (.getfield 55, 3) := by decide +kernel
theorem dX12_soonestOf_200 : decode cX12_soonestOf 200 = .ok (.iload 6, 2) := by decide +kernel
theorem dX12_soonestOf_202 : decode cX12_soonestOf 202 = .ok (.iaload, 1) := by decide +kernel
theorem dX12_soonestOf_203 : decode cX12_soonestOf 203 = .ok (.iastore, 1) := by decide +kernel
theorem dX12_soonestOf_204 : decode cX12_soonestOf 204 = .ok (.iinc 6 1, 3) := by decide +kernel
theorem dX12_soonestOf_207 : decode cX12_soonestOf 207 = .ok (.goto (-79), 3) := by decide +kernel
theorem dX12_soonestOf_210 : decode cX12_soonestOf 210 = .ok (.iconst 0, 1) := by decide +kernel
theorem dX12_soonestOf_211 : decode cX12_soonestOf 211 = .ok (.istore 6, 2) := by decide +kernel
theorem dX12_soonestOf_213 : decode cX12_soonestOf 213 = .ok (.iload 6, 2) := by decide +kernel
theorem dX12_soonestOf_215 : decode cX12_soonestOf 215 = .ok (.aload_n 0, 1) := by decide +kernel
theorem dX12_soonestOf_216 : decode cX12_soonestOf 216 = .ok (.getfield 139, 3) := by decide +kernel
theorem dX12_soonestOf_219 : decode cX12_soonestOf 219 = .ok (.if_icmp .ge 118, 3) := by decide +kernel
theorem dX12_soonestOf_222 : decode cX12_soonestOf 222 = .ok (.aload_n 0, 1) := by decide +kernel
theorem dX12_soonestOf_223 : decode cX12_soonestOf 223 = .ok (.getfield 40, 3) := by decide +kernel
theorem dX12_soonestOf_226 : decode cX12_soonestOf 226 = .ok (.iload 6, 2) := by decide +kernel
theorem dX12_soonestOf_228 : decode cX12_soonestOf 228 = .ok (.iaload, 1) := by decide +kernel
theorem dX12_soonestOf_229 : decode cX12_soonestOf 229 = .ok (.iload 5, 2) := by decide +kernel
theorem dX12_soonestOf_231 : decode cX12_soonestOf 231 = .ok (.if_icmp .ne 36, 3) := by decide +kernel
theorem dX12_soonestOf_234 : decode cX12_soonestOf 234 = .ok (.aload_n 0, 1) := by decide +kernel
theorem dX12_soonestOf_235 : decode cX12_soonestOf 235 = .ok (.getfield 49, 3) := by decide +kernel
theorem dX12_soonestOf_238 : decode cX12_soonestOf 238 = .ok (.iload 6, 2) := by decide +kernel
theorem dX12_soonestOf_240 : decode cX12_soonestOf 240 = .ok (.iaload, 1) := by decide +kernel
theorem dX12_soonestOf_241 : decode cX12_soonestOf 241 = .ok (.bipush (-9), 2) := by decide +kernel
theorem dX12_soonestOf_243 : decode cX12_soonestOf 243 = .ok (.if_icmp .eq 24, 3) := by decide +kernel
theorem dX12_soonestOf_246 : decode cX12_soonestOf 246 = .ok (.aload_n 0, 1) := by decide +kernel
theorem dX12_soonestOf_247 : decode cX12_soonestOf 247 = .ok (.getfield 46, 3) := by decide +kernel
theorem dX12_soonestOf_250 : decode cX12_soonestOf 250 = .ok (.iload 6, 2) := by decide +kernel
theorem dX12_soonestOf_252 : decode cX12_soonestOf 252 = .ok (.iaload, 1) := by decide +kernel
theorem dX12_soonestOf_253 : decode cX12_soonestOf 253 = .ok (.aload_n 0, 1) := by decide +kernel
theorem dX12_soonestOf_254 : decode cX12_soonestOf 254 = .ok (.getfield 55, 3) := by decide +kernel
theorem dX12_soonestOf_257 : decode cX12_soonestOf 257 = .ok (.iload 5, 2) := by decide +kernel
theorem dX12_soonestOf_259 : decode cX12_soonestOf 259 = .ok (.iaload, 1) := by decide +kernel
theorem dX12_soonestOf_260 : decode cX12_soonestOf 260 = .ok (.if_icmp .lt 7, 3) := by decide +kernel
theorem dX12_soonestOf_263 : decode cX12_soonestOf 263 = .ok (.iconst 1, 1) := by decide +kernel
theorem dX12_soonestOf_264 : decode cX12_soonestOf 264 = .ok (.goto 4, 3) := by decide +kernel
theorem dX12_soonestOf_267 : decode cX12_soonestOf 267 = .ok (.iconst 0, 1) := by decide +kernel
theorem dX12_soonestOf_268 : decode cX12_soonestOf 268 = .ok (.istore 7, 2) := by decide +kernel
theorem dX12_soonestOf_270 : decode cX12_soonestOf 270 = .ok (.aload_n 0, 1) := by decide +kernel
theorem dX12_soonestOf_271 : decode cX12_soonestOf 271 = .ok (.getfield 55, 3) := by decide +kernel
theorem dX12_soonestOf_274 : decode cX12_soonestOf 274 = .ok (.aload_n 0, 1) := by decide +kernel
theorem dX12_soonestOf_275 : decode cX12_soonestOf 275 = .ok (.getfield 43, 3) := by decide +kernel
theorem dX12_soonestOf_278 : decode cX12_soonestOf 278 = .ok (.iload 6, 2) := by decide +kernel
theorem dX12_soonestOf_280 : decode cX12_soonestOf 280 = .ok (.iaload, 1) := by decide +kernel
theorem dX12_soonestOf_281 : decode cX12_soonestOf 281 = .ok (.iload 7, 2) := by decide +kernel
theorem dX12_soonestOf_283 : decode cX12_soonestOf 283 = .ok (.ifCond .eq 35, 3) := by decide +kernel
theorem dX12_soonestOf_286 : decode cX12_soonestOf 286 = .ok (.aload_n 0, 1) := by decide +kernel
theorem dX12_soonestOf_287 : decode cX12_soonestOf 287 = .ok (.getfield 49, 3) := by decide +kernel
theorem dX12_soonestOf_290 : decode cX12_soonestOf 290 = .ok (.iload 6, 2) := by decide +kernel
theorem dX12_soonestOf_292 : decode cX12_soonestOf 292 = .ok (.iaload, 1) := by decide +kernel
theorem dX12_soonestOf_293 : decode cX12_soonestOf 293 = .ok (.aload_n 0, 1) := by decide +kernel
theorem dX12_soonestOf_294 : decode cX12_soonestOf 294 = .ok (.getfield 55, 3) := by decide +kernel
theorem dX12_soonestOf_297 : decode cX12_soonestOf 297 = .ok (.aload_n 0, 1) := by decide +kernel
theorem dX12_soonestOf_298 : decode cX12_soonestOf 298 = .ok (.getfield 43, 3) := by decide +kernel
theorem dX12_soonestOf_301 : decode cX12_soonestOf 301 = .ok (.iload 6, 2) := by decide +kernel
theorem dX12_soonestOf_303 : decode cX12_soonestOf 303 = .ok (.iaload, 1) := by decide +kernel
theorem dX12_soonestOf_304 : decode cX12_soonestOf 304 = .ok (.iaload, 1) := by decide +kernel
theorem dX12_soonestOf_305 : decode cX12_soonestOf 305 = .ok (.if_icmp .ge 13, 3) := by decide +kernel
theorem dX12_soonestOf_308 : decode cX12_soonestOf 308 = .ok (.aload_n 0, 1) := by decide +kernel
theorem dX12_soonestOf_309 : decode cX12_soonestOf 309 = .ok (.getfield 49, 3) := by decide +kernel
theorem dX12_soonestOf_312 : decode cX12_soonestOf 312 = .ok (.iload 6, 2) := by decide +kernel
theorem dX12_soonestOf_314 : decode cX12_soonestOf 314 = .ok (.iaload, 1) := by decide +kernel
theorem dX12_soonestOf_315 : decode cX12_soonestOf 315 = .ok (.goto 15, 3) := by decide +kernel
theorem dX12_soonestOf_318 : decode cX12_soonestOf 318 = .ok (.aload_n 0, 1) := by decide +kernel
theorem dX12_soonestOf_319 : decode cX12_soonestOf 319 = .ok (.getfield 55, 3) := by decide +kernel
theorem dX12_soonestOf_322 : decode cX12_soonestOf 322 = .ok (.aload_n 0, 1) := by decide +kernel
theorem dX12_soonestOf_323 : decode cX12_soonestOf 323 = .ok (.getfield 43, 3) := by decide +kernel
theorem dX12_soonestOf_326 : decode cX12_soonestOf 326 = .ok (.iload 6, 2) := by decide +kernel
theorem dX12_soonestOf_328 : decode cX12_soonestOf 328 = .ok (.iaload, 1) := by decide +kernel
theorem dX12_soonestOf_329 : decode cX12_soonestOf 329 = .ok (.iaload, 1) := by decide +kernel
theorem dX12_soonestOf_330 : decode cX12_soonestOf 330 = .ok (.iastore, 1) := by decide +kernel
theorem dX12_soonestOf_331 : decode cX12_soonestOf 331 = .ok (.iinc 6 1, 3) := by decide +kernel
theorem dX12_soonestOf_334 : decode cX12_soonestOf 334 = .ok (.goto (-121), 3) := by decide +kernel
theorem dX12_soonestOf_337 : decode cX12_soonestOf 337 = .ok (.iinc 4 1, 3) := by decide +kernel
theorem dX12_soonestOf_340 : decode cX12_soonestOf 340 = .ok (.goto (-293), 3) := by decide +kernel
theorem dX12_soonestOf_343 : decode cX12_soonestOf 343 = .ok (.aload_n 0, 1) := by decide +kernel
theorem dX12_soonestOf_344 : decode cX12_soonestOf 344 = .ok (.getfield 55, 3) := by decide +kernel
theorem dX12_soonestOf_347 : decode cX12_soonestOf 347 = .ok (.iload_n 3, 1) := by decide +kernel
theorem dX12_soonestOf_348 : decode cX12_soonestOf 348 = .ok (.iaload, 1) := by decide +kernel
theorem dX12_soonestOf_349 : decode cX12_soonestOf 349 = .ok (.ireturn, 1) := by decide +kernel
theorem dX12_soonest_0 : decode cX12_soonest 0 = .ok (.aload_n 0, 1) := by decide +kernel
theorem dX12_soonest_1 : decode cX12_soonest 1 = .ok (.iconst 0, 1) := by decide +kernel
theorem dX12_soonest_2 : decode cX12_soonest 2 = .ok (.putfield 80, 3) := by decide +kernel
theorem dX12_soonest_5 : decode cX12_soonest 5 = .ok (.iload_n 1, 1) := by decide +kernel
theorem dX12_soonest_6 : decode cX12_soonest 6 = .ok (.invokestatic 91, 3) := by decide +kernel
theorem dX12_soonest_9 : decode cX12_soonest 9 = .ok (.ifCond .eq 17, 3) := by decide +kernel
theorem dX12_soonest_12 : decode cX12_soonest 12 = .ok (.iload_n 2, 1) := by decide +kernel
theorem dX12_soonest_13 : decode cX12_soonest 13 = .ok (.invokestatic 95, 3) := by decide +kernel
theorem dX12_soonest_16 : decode cX12_soonest 16 = .ok (.ifCond .eq 10, 3) := by decide +kernel
theorem dX12_soonest_19 : decode cX12_soonest 19 = .ok (.iload_n 3, 1) := by decide +kernel
theorem dX12_soonest_20 : decode cX12_soonest 20 = .ok (.invokestatic 91, 3) := by decide +kernel
theorem dX12_soonest_23 : decode cX12_soonest 23 = .ok (.ifCond .ne 5, 3) := by decide +kernel
theorem dX12_soonest_26 : decode cX12_soonest 26 = .ok (.iconst (-1), 1) := by decide +kernel
theorem dX12_soonest_27 : decode cX12_soonest 27 = .ok (.ireturn, 1) := by decide +kernel
theorem dX12_soonest_28 : decode cX12_soonest 28 = .ok (.aload_n 0, 1) := by decide +kernel
theorem dX12_soonest_29 : decode cX12_soonest 29 = .ok (.iload_n 1, 1) := by decide +kernel
theorem dX12_soonest_30 : decode cX12_soonest 30 = .ok (.iload_n 2, 1) := by decide +kernel
theorem dX12_soonest_31 : decode cX12_soonest 31 = .ok (.iload_n 3, 1) := by decide +kernel
theorem dX12_soonest_32 : decode cX12_soonest 32 = .ok (.invokevirtual 142, 3) := by decide +kernel
theorem dX12_soonest_35 : decode cX12_soonest 35 = .ok (.istore 4, 2) := by decide +kernel
theorem dX12_soonest_37 : decode cX12_soonest 37 = .ok (.iload 4, 2) := by decide +kernel
theorem dX12_soonest_39 : decode cX12_soonest 39 = .ok (.sipush 999, 3) := by decide +kernel
theorem dX12_soonest_42 : decode cX12_soonest 42 = .ok (.if_icmp .le 8, 3) := by decide +kernel
theorem dX12_soonest_45 : decode cX12_soonest 45 = .ok (.bipush (-9), 2) := by decide +kernel
theorem dX12_soonest_47 : decode cX12_soonest 47 = .ok (.goto 5, 3) := by decide +kernel
theorem dX12_soonest_50 : decode cX12_soonest 50 = .ok (.iload 4, 2) := by decide +kernel
theorem dX12_soonest_52 : decode cX12_soonest 52 = .ok (.ireturn, 1) := by decide +kernel
theorem dX12_townOf_0 : decode cX12_townOf 0 = .ok (.aload_n 0, 1) := by decide +kernel
theorem dX12_townOf_1 : decode cX12_townOf 1 = .ok (.getfield 13, 3) := by decide +kernel
theorem dX12_townOf_4 : decode cX12_townOf 4 = .ok (.aload_n 0, 1) := by decide +kernel
theorem dX12_townOf_5 : decode cX12_townOf 5 = .ok (.getfield 22, 3) := by decide +kernel
theorem dX12_townOf_8 : decode cX12_townOf 8 = .ok (.aload_n 0, 1) := by decide +kernel
theorem dX12_townOf_9 : decode cX12_townOf 9 = .ok (.getfield 37, 3) := by decide +kernel
theorem dX12_townOf_12 : decode cX12_townOf 12 = .ok (.bipush 10, 2) := by decide +kernel
theorem dX12_townOf_14 : decode cX12_townOf 14 = .ok (.iload_n 1, 1) := by decide +kernel
theorem dX12_townOf_15 : decode cX12_townOf 15 = .ok (.imul, 1) := by decide +kernel
theorem dX12_townOf_16 : decode cX12_townOf 16 = .ok (.iconst 2, 1) := by decide +kernel
theorem dX12_townOf_17 : decode cX12_townOf 17 = .ok (.iadd, 1) := by decide +kernel
theorem dX12_townOf_18 : decode cX12_townOf 18 = .ok (.iaload, 1) := by decide +kernel
theorem dX12_townOf_19 : decode cX12_townOf 19 = .ok (.iaload, 1) := by decide +kernel
theorem dX12_townOf_20 : decode cX12_townOf 20 = .ok (.iaload, 1) := by decide +kernel
theorem dX12_townOf_21 : decode cX12_townOf 21 = .ok (.ireturn, 1) := by decide +kernel
theorem dX12_ways_0 : decode cX12_ways 0 = .ok (.aload_n 0, 1) := by decide +kernel
theorem dX12_ways_1 : decode cX12_ways 1 = .ok (.iconst 0, 1) := by decide +kernel
theorem dX12_ways_2 : decode cX12_ways 2 = .ok (.putfield 146, 3) := by decide +kernel
theorem dX12_ways_5 : decode cX12_ways 5 = .ok (.iconst 0, 1) := by decide +kernel
theorem dX12_ways_6 : decode cX12_ways 6 = .ok (.istore_n 3, 1) := by decide +kernel
theorem dX12_ways_7 : decode cX12_ways 7 = .ok (.iload_n 3, 1) := by decide +kernel
theorem dX12_ways_8 : decode cX12_ways 8 = .ok (.aload_n 0, 1) := by decide +kernel
theorem dX12_ways_9 : decode cX12_ways 9 = .ok (.getfield 88, 3) := by decide +kernel
theorem dX12_ways_12 : decode cX12_ways 12 = .ok (.if_icmp .ge 55, 3) := by decide +kernel
theorem dX12_ways_15 : decode cX12_ways 15 = .ok (.aload_n 0, 1) := by decide +kernel
theorem dX12_ways_16 : decode cX12_ways 16 = .ok (.iload_n 3, 1) := by decide +kernel
theorem dX12_ways_17 : decode cX12_ways 17 = .ok (.iload_n 1, 1) := by decide +kernel
theorem dX12_ways_18 : decode cX12_ways 18 = .ok (.iload_n 2, 1) := by decide +kernel
theorem dX12_ways_19 : decode cX12_ways 19 = .ok (.invokevirtual 136, 3) := by decide +kernel
theorem dX12_ways_22 : decode cX12_ways 22 = .ok (.ifCond .eq 39, 3) := by decide +kernel
theorem dX12_ways_25 : decode cX12_ways 25 = .ok (.aload_n 0, 1) := by decide +kernel
theorem dX12_ways_26 : decode cX12_ways 26 = .ok (.getfield 37, 3) := by decide +kernel
theorem dX12_ways_29 : decode cX12_ways 29 = .ok (.bipush 10, 2) := by decide +kernel
theorem dX12_ways_31 : decode cX12_ways 31 = .ok (.iload_n 3, 1) := by decide +kernel
theorem dX12_ways_32 : decode cX12_ways 32 = .ok (.imul, 1) := by decide +kernel
theorem dX12_ways_33 : decode cX12_ways 33 = .ok (.iconst 2, 1) := by decide +kernel
theorem dX12_ways_34 : decode cX12_ways 34 = .ok (.iadd, 1) := by decide +kernel
theorem dX12_ways_35 : decode cX12_ways 35 = .ok (.iaload, 1) := by decide +kernel
theorem dX12_ways_36 : decode cX12_ways 36 = .ok (.bipush (-9), 2) := by decide +kernel
theorem dX12_ways_38 : decode cX12_ways 38 = .ok (.if_icmp .eq 23, 3) := by decide +kernel
theorem dX12_ways_41 : decode cX12_ways 41 = .ok (.aload_n 0, 1) := by decide +kernel
theorem dX12_ways_42 : decode cX12_ways 42 = .ok (.getfield 62, 3) := by decide +kernel
theorem dX12_ways_45 : decode cX12_ways 45 = .ok (.aload_n 0, 1) := by decide +kernel
theorem dX12_ways_46 : decode cX12_ways 46 = .ok (.getfield 146, 3) := by decide +kernel
theorem dX12_ways_49 : decode cX12_ways 49 = .ok (.iload_n 3, 1) := by decide +kernel
theorem dX12_ways_50 : decode cX12_ways 50 = .ok (.iastore, 1) := by decide +kernel
theorem dX12_ways_51 : decode cX12_ways 51 = .ok (.aload_n 0, 1) := by decide +kernel
theorem dX12_ways_52 : decode cX12_ways 52 = .ok (.dup, 1) := by decide +kernel
theorem dX12_ways_53 : decode cX12_ways 53 = .ok (.getfield 146, 3) := by decide +kernel
theorem dX12_ways_56 : decode cX12_ways 56 = .ok (.iconst 1, 1) := by decide +kernel
theorem dX12_ways_57 : decode cX12_ways 57 = .ok (.iadd, 1) := by decide +kernel
theorem dX12_ways_58 : decode cX12_ways 58 = .ok (.putfield 146, 3) := by decide +kernel
theorem dX12_ways_61 : decode cX12_ways 61 = .ok (.iinc 3 1, 3) := by decide +kernel
theorem dX12_ways_64 : decode cX12_ways 64 = .ok (.goto (-57), 3) := by decide +kernel
theorem dX12_ways_67 : decode cX12_ways 67 = .ok (.aload_n 0, 1) := by decide +kernel
theorem dX12_ways_68 : decode cX12_ways 68 = .ok (.getfield 146, 3) := by decide +kernel
theorem dX12_ways_71 : decode cX12_ways 71 = .ok (.ireturn, 1) := by decide +kernel
theorem dX12_isGoing_0 : decode cX12_isGoing 0 = .ok (.bipush (-9), 2) := by decide +kernel
theorem dX12_isGoing_2 : decode cX12_isGoing 2 = .ok (.istore_n 2, 1) := by decide +kernel
theorem dX12_isGoing_3 : decode cX12_isGoing 3 = .ok (.iconst 0, 1) := by decide +kernel
theorem dX12_isGoing_4 : decode cX12_isGoing 4 = .ok (.istore_n 3, 1) := by decide +kernel
theorem dX12_isGoing_5 : decode cX12_isGoing 5 = .ok (.iconst 0, 1) := by decide +kernel
theorem dX12_isGoing_6 : decode cX12_isGoing 6 = .ok (.istore 4, 2) := by decide +kernel
theorem dX12_isGoing_8 : decode cX12_isGoing 8 = .ok (.iload 4, 2) := by decide +kernel
theorem dX12_isGoing_10 : decode cX12_isGoing 10 = .ok (.aload_n 0, 1) := by decide +kernel
theorem dX12_isGoing_11 : decode cX12_isGoing 11 = .ok (.getfield 146, 3) := by decide +kernel
theorem dX12_isGoing_14 : decode cX12_isGoing 14 = .ok (.if_icmp .ge 111, 3) := by decide +kernel
theorem dX12_isGoing_17 : decode cX12_isGoing 17 = .ok (.iload_n 1, 1) := by decide +kernel
theorem dX12_isGoing_18 : decode cX12_isGoing 18 = .ok (.iload 4, 2) := by decide +kernel
theorem dX12_isGoing_20 : decode cX12_isGoing 20 = .ok (.ishr, 1) := by decide +kernel
theorem dX12_isGoing_21 : decode cX12_isGoing 21 = .ok (.iconst 1, 1) := by decide +kernel
theorem dX12_isGoing_22 : decode cX12_isGoing 22 = .ok (.iand, 1) := by decide +kernel
theorem dX12_isGoing_23 : decode cX12_isGoing 23 = .ok (.ifCond .ne 96, 3) := by decide +kernel
theorem dX12_isGoing_26 : decode cX12_isGoing 26 = .ok (.aload_n 0, 1) := by decide +kernel
theorem dX12_isGoing_27 : decode cX12_isGoing 27 = .ok (.getfield 62, 3) := by decide +kernel
theorem dX12_isGoing_30 : decode cX12_isGoing 30 = .ok (.iload 4, 2) := by decide +kernel
theorem dX12_isGoing_32 : decode cX12_isGoing 32 = .ok (.iaload, 1) := by decide +kernel
theorem dX12_isGoing_33 : decode cX12_isGoing 33 = .ok (.istore 5, 2) := by decide +kernel
theorem dX12_isGoing_35 : decode cX12_isGoing 35 = .ok (.aload_n 0, 1) := by decide +kernel
theorem dX12_isGoing_36 : decode cX12_isGoing 36 = .ok (.iload 5, 2) := by decide +kernel
theorem dX12_isGoing_38 : decode cX12_isGoing 38 = .ok (.invokevirtual 149, 3) := by decide +kernel
theorem dX12_isGoing_41 : decode cX12_isGoing 41 = .ok (.istore 6, 2) := by decide +kernel
theorem dX12_isGoing_43 : decode cX12_isGoing 43 = .ok (.iload_n 2, 1) := by decide +kernel
theorem dX12_isGoing_44 : decode cX12_isGoing 44 = .ok (.bipush (-9), 2) := by decide +kernel
theorem dX12_isGoing_46 : decode cX12_isGoing 46 = .ok (.if_icmp .ne 7, 3) := by decide +kernel
theorem dX12_isGoing_49 : decode cX12_isGoing 49 = .ok (.iconst 0, 1) := by decide +kernel
theorem dX12_isGoing_50 : decode cX12_isGoing 50 = .ok (.goto 11, 3) := by decide +kernel
theorem dX12_isGoing_53 : decode cX12_isGoing 53 = .ok (.aload_n 0, 1) := by decide +kernel
theorem dX12_isGoing_54 : decode cX12_isGoing 54 = .ok (.iload_n 2, 1) := by decide +kernel
theorem dX12_isGoing_55 : decode cX12_isGoing 55 = .ok (.iload_n 3, 1) := by decide +kernel
theorem dX12_isGoing_56 : decode cX12_isGoing 56 = .ok (.iload 6, 2) := by decide +kernel
theorem dX12_isGoing_58 : decode cX12_isGoing 58 = .ok (.invokevirtual 142, 3) := by decide +kernel
theorem dX12_isGoing_61 : decode cX12_isGoing 61 = .ok (.istore 7, 2) := by decide +kernel
theorem dX12_isGoing_63 : decode cX12_isGoing 63 = .ok (.iload 7, 2) := by decide +kernel
theorem dX12_isGoing_65 : decode cX12_isGoing 65 = .ok (.sipush 999, 3) := by decide +kernel
theorem dX12_isGoing_68 : decode cX12_isGoing 68 = .ok (.if_icmp .gt 20, 3) := by decide +kernel
theorem dX12_isGoing_71 : decode cX12_isGoing 71 = .ok (.aload_n 0, 1) := by decide +kernel
theorem dX12_isGoing_72 : decode cX12_isGoing 72 = .ok (.iload 5, 2) := by decide +kernel
theorem dX12_isGoing_74 : decode cX12_isGoing 74 = .ok (.iload 7, 2) := by decide +kernel
theorem dX12_isGoing_76 : decode cX12_isGoing 76 = .ok (.invokevirtual 128, 3) := by decide +kernel
theorem dX12_isGoing_79 : decode cX12_isGoing 79 = .ok (.ifCond .ne 9, 3) := by decide +kernel
theorem dX12_isGoing_82 : decode cX12_isGoing 82 = .ok (.iinc 7 1, 3) := by decide +kernel
theorem dX12_isGoing_85 : decode cX12_isGoing 85 = .ok (.goto (-22), 3) := by decide +kernel
theorem dX12_isGoing_88 : decode cX12_isGoing 88 = .ok (.iload 7, 2) := by decide +kernel
theorem dX12_isGoing_90 : decode cX12_isGoing 90 = .ok (.sipush 999, 3) := by decide +kernel
theorem dX12_isGoing_93 : decode cX12_isGoing 93 = .ok (.if_icmp .le 11, 3) := by decide +kernel
theorem dX12_isGoing_96 : decode cX12_isGoing 96 = .ok (.aload_n 0, 1) := by decide +kernel
theorem dX12_isGoing_97 : decode cX12_isGoing 97 = .ok (.iload 4, 2) := by decide +kernel
theorem dX12_isGoing_99 : decode cX12_isGoing 99 = .ok (.putfield 152, 3) := by decide +kernel
theorem dX12_isGoing_102 : decode cX12_isGoing 102 = .ok (.iconst 0, 1) := by decide +kernel
theorem dX12_isGoing_103 : decode cX12_isGoing 103 = .ok (.ireturn, 1) := by decide +kernel
theorem dX12_isGoing_104 : decode cX12_isGoing 104 = .ok (.aload_n 0, 1) := by decide +kernel
theorem dX12_isGoing_105 : decode cX12_isGoing 105 = .ok (.getfield 65, 3) := by decide +kernel
theorem dX12_isGoing_108 : decode cX12_isGoing 108 = .ok (.iload 4, 2) := by decide +kernel
theorem dX12_isGoing_110 : decode cX12_isGoing 110 = .ok (.iload 7, 2) := by decide +kernel
theorem dX12_isGoing_112 : decode cX12_isGoing 112 = .ok (.iastore, 1) := by decide +kernel
theorem dX12_isGoing_113 : decode cX12_isGoing 113 = .ok (.iload 7, 2) := by decide +kernel
theorem dX12_isGoing_115 : decode cX12_isGoing 115 = .ok (.istore_n 3, 1) := by decide +kernel
theorem dX12_isGoing_116 : decode cX12_isGoing 116 = .ok (.iload 6, 2) := by decide +kernel
theorem dX12_isGoing_118 : decode cX12_isGoing 118 = .ok (.istore_n 2, 1) := by decide +kernel
theorem dX12_isGoing_119 : decode cX12_isGoing 119 = .ok (.iinc 4 1, 3) := by decide +kernel
theorem dX12_isGoing_122 : decode cX12_isGoing 122 = .ok (.goto (-114), 3) := by decide +kernel
theorem dX12_isGoing_125 : decode cX12_isGoing 125 = .ok (.aload_n 0, 1) := by decide +kernel
theorem dX12_isGoing_126 : decode cX12_isGoing 126 = .ok (.bipush (-9), 2) := by decide +kernel
theorem dX12_isGoing_128 : decode cX12_isGoing 128 = .ok (.putfield 152, 3) := by decide +kernel
theorem dX12_isGoing_131 : decode cX12_isGoing 131 = .ok (.iconst 1, 1) := by decide +kernel
theorem dX12_isGoing_132 : decode cX12_isGoing 132 = .ok (.ireturn, 1) := by decide +kernel
theorem dX12_refuses_0 : decode cX12_refuses 0 = .ok (.iload_n 1, 1) := by decide +kernel
theorem dX12_refuses_1 : decode cX12_refuses 1 = .ok (.invokestatic 104, 3) := by decide +kernel
theorem dX12_refuses_4 : decode cX12_refuses 4 = .ok (.ifCond .eq 10, 3) := by decide +kernel
theorem dX12_refuses_7 : decode cX12_refuses 7 = .ok (.iload_n 2, 1) := by decide +kernel
theorem dX12_refuses_8 : decode cX12_refuses 8 = .ok (.invokestatic 95, 3) := by decide +kernel
theorem dX12_refuses_11 : decode cX12_refuses 11 = .ok (.ifCond .ne 7, 3) := by decide +kernel
theorem dX12_refuses_14 : decode cX12_refuses 14 = .ok (.iconst (-1), 1) := by decide +kernel
theorem dX12_refuses_15 : decode cX12_refuses 15 = .ok (.goto 20, 3) := by decide +kernel
theorem dX12_refuses_18 : decode cX12_refuses 18 = .ok (.aload_n 0, 1) := by decide +kernel
theorem dX12_refuses_19 : decode cX12_refuses 19 = .ok (.iload_n 1, 1) := by decide +kernel
theorem dX12_refuses_20 : decode cX12_refuses 20 = .ok (.iload_n 2, 1) := by decide +kernel
theorem dX12_refuses_21 : decode cX12_refuses 21 = .ok (.invokevirtual 155, 3) := by decide +kernel
theorem dX12_refuses_24 : decode cX12_refuses 24 = .ok (.bipush 10, 2) := by decide +kernel
theorem dX12_refuses_26 : decode cX12_refuses 26 = .ok (.if_icmp .le 8, 3) := by decide +kernel
theorem dX12_refuses_29 : decode cX12_refuses 29 = .ok (.bipush (-2), 2) := by decide +kernel
theorem dX12_refuses_31 : decode cX12_refuses 31 = .ok (.goto 4, 3) := by decide +kernel
theorem dX12_refuses_34 : decode cX12_refuses 34 = .ok (.iconst 0, 1) := by decide +kernel
theorem dX12_refuses_35 : decode cX12_refuses 35 = .ok (.ireturn, 1) := by decide +kernel
theorem dX12_goes_0 : decode cX12_goes 0 = .ok (.aload_n 0, 1) := by decide +kernel
theorem dX12_goes_1 : decode cX12_goes 1 = .ok (.iconst 0, 1) := by decide +kernel
theorem dX12_goes_2 : decode cX12_goes 2 = .ok (.putfield 80, 3) := by decide +kernel
theorem dX12_goes_5 : decode cX12_goes 5 = .ok (.aload_n 0, 1) := by decide +kernel
theorem dX12_goes_6 : decode cX12_goes 6 = .ok (.iload_n 1, 1) := by decide +kernel
theorem dX12_goes_7 : decode cX12_goes 7 = .ok (.iload_n 2, 1) := by decide +kernel
theorem dX12_goes_8 : decode cX12_goes 8 = .ok (.invokevirtual 159, 3) := by decide +kernel
theorem dX12_goes_11 : decode cX12_goes 11 = .ok (.istore 4, 2) := by decide +kernel
theorem dX12_goes_13 : decode cX12_goes 13 = .ok (.iload 4, 2) := by decide +kernel
theorem dX12_goes_15 : decode cX12_goes 15 = .ok (.ifCond .ge 6, 3) := by decide +kernel
theorem dX12_goes_18 : decode cX12_goes 18 = .ok (.iload 4, 2) := by decide +kernel
theorem dX12_goes_20 : decode cX12_goes 20 = .ok (.ireturn, 1) := by decide +kernel
theorem dX12_goes_21 : decode cX12_goes 21 = .ok (.iload_n 3, 1) := by decide +kernel
theorem dX12_goes_22 : decode cX12_goes 22 = .ok (.iconst 0, 1) := by decide +kernel
theorem dX12_goes_23 : decode cX12_goes 23 = .ok (.iconst 1, 1) := by decide +kernel
theorem dX12_goes_24 : decode cX12_goes 24 = .ok (.aload_n 0, 1) := by decide +kernel
theorem dX12_goes_25 : decode cX12_goes 25 = .ok (.getfield 146, 3) := by decide +kernel
theorem dX12_goes_28 : decode cX12_goes 28 = .ok (.ishl, 1) := by decide +kernel
theorem dX12_goes_29 : decode cX12_goes 29 = .ok (.iconst 1, 1) := by decide +kernel
theorem dX12_goes_30 : decode cX12_goes 30 = .ok (.isub, 1) := by decide +kernel
theorem dX12_goes_31 : decode cX12_goes 31 = .ok (.invokestatic 84, 3) := by decide +kernel
theorem dX12_goes_34 : decode cX12_goes 34 = .ok (.ifCond .ne 7, 3) := by decide +kernel
theorem dX12_goes_37 : decode cX12_goes 37 = .ok (.iconst (-1), 1) := by decide +kernel
theorem dX12_goes_38 : decode cX12_goes 38 = .ok (.goto 16, 3) := by decide +kernel
theorem dX12_goes_41 : decode cX12_goes 41 = .ok (.aload_n 0, 1) := by decide +kernel
theorem dX12_goes_42 : decode cX12_goes 42 = .ok (.iload_n 3, 1) := by decide +kernel
theorem dX12_goes_43 : decode cX12_goes 43 = .ok (.invokevirtual 162, 3) := by decide +kernel
theorem dX12_goes_46 : decode cX12_goes 46 = .ok (.ifCond .eq 7, 3) := by decide +kernel
theorem dX12_goes_49 : decode cX12_goes 49 = .ok (.iconst 1, 1) := by decide +kernel
theorem dX12_goes_50 : decode cX12_goes 50 = .ok (.goto 4, 3) := by decide +kernel
theorem dX12_goes_53 : decode cX12_goes 53 = .ok (.iconst 0, 1) := by decide +kernel
theorem dX12_goes_54 : decode cX12_goes 54 = .ok (.ireturn, 1) := by decide +kernel
theorem dX12_when_0 : decode cX12_when 0 = .ok (.aload_n 0, 1) := by decide +kernel
theorem dX12_when_1 : decode cX12_when 1 = .ok (.iconst 0, 1) := by decide +kernel
theorem dX12_when_2 : decode cX12_when 2 = .ok (.putfield 80, 3) := by decide +kernel
theorem dX12_when_5 : decode cX12_when 5 = .ok (.iload 4, 2) := by decide +kernel
theorem dX12_when_7 : decode cX12_when 7 = .ok (.iconst 0, 1) := by decide +kernel
theorem dX12_when_8 : decode cX12_when 8 = .ok (.iconst 1, 1) := by decide +kernel
theorem dX12_when_9 : decode cX12_when 9 = .ok (.invokestatic 84, 3) := by decide +kernel
theorem dX12_when_12 : decode cX12_when 12 = .ok (.ifCond .ne 5, 3) := by decide +kernel
theorem dX12_when_15 : decode cX12_when 15 = .ok (.iconst (-1), 1) := by decide +kernel
theorem dX12_when_16 : decode cX12_when 16 = .ok (.ireturn, 1) := by decide +kernel
theorem dX12_when_17 : decode cX12_when 17 = .ok (.aload_n 0, 1) := by decide +kernel
theorem dX12_when_18 : decode cX12_when 18 = .ok (.iload_n 1, 1) := by decide +kernel
theorem dX12_when_19 : decode cX12_when 19 = .ok (.iload_n 2, 1) := by decide +kernel
theorem dX12_when_20 : decode cX12_when 20 = .ok (.invokevirtual 159, 3) := by decide +kernel
theorem dX12_when_23 : decode cX12_when 23 = .ok (.istore 5, 2) := by decide +kernel
theorem dX12_when_25 : decode cX12_when 25 = .ok (.iload 5, 2) := by decide +kernel
theorem dX12_when_27 : decode cX12_when 27 = .ok (.ifCond .ge 6, 3) := by decide +kernel
theorem dX12_when_30 : decode cX12_when 30 = .ok (.iload 5, 2) := by decide +kernel
theorem dX12_when_32 : decode cX12_when 32 = .ok (.ireturn, 1) := by decide +kernel
theorem dX12_when_33 : decode cX12_when 33 = .ok (.iload_n 3, 1) := by decide +kernel
theorem dX12_when_34 : decode cX12_when 34 = .ok (.iconst 0, 1) := by decide +kernel
theorem dX12_when_35 : decode cX12_when 35 = .ok (.aload_n 0, 1) := by decide +kernel
theorem dX12_when_36 : decode cX12_when 36 = .ok (.getfield 146, 3) := by decide +kernel
theorem dX12_when_39 : decode cX12_when 39 = .ok (.iconst 1, 1) := by decide +kernel
theorem dX12_when_40 : decode cX12_when 40 = .ok (.isub, 1) := by decide +kernel
theorem dX12_when_41 : decode cX12_when 41 = .ok (.invokestatic 84, 3) := by decide +kernel
theorem dX12_when_44 : decode cX12_when 44 = .ok (.ifCond .ne 5, 3) := by decide +kernel
theorem dX12_when_47 : decode cX12_when 47 = .ok (.iconst (-1), 1) := by decide +kernel
theorem dX12_when_48 : decode cX12_when 48 = .ok (.ireturn, 1) := by decide +kernel
theorem dX12_when_49 : decode cX12_when 49 = .ok (.aload_n 0, 1) := by decide +kernel
theorem dX12_when_50 : decode cX12_when 50 = .ok (.iconst 0, 1) := by decide +kernel
theorem dX12_when_51 : decode cX12_when 51 = .ok (.invokevirtual 162, 3) := by decide +kernel
theorem dX12_when_54 : decode cX12_when 54 = .ok (.ifCond .ne 6, 3) := by decide +kernel
theorem dX12_when_57 : decode cX12_when 57 = .ok (.bipush (-9), 2) := by decide +kernel
theorem dX12_when_59 : decode cX12_when 59 = .ok (.ireturn, 1) := by decide +kernel
theorem dX12_when_60 : decode cX12_when 60 = .ok (.aload_n 0, 1) := by decide +kernel
theorem dX12_when_61 : decode cX12_when 61 = .ok (.getfield 146, 3) := by decide +kernel
theorem dX12_when_64 : decode cX12_when 64 = .ok (.iconst 1, 1) := by decide +kernel
theorem dX12_when_65 : decode cX12_when 65 = .ok (.isub, 1) := by decide +kernel
theorem dX12_when_66 : decode cX12_when 66 = .ok (.istore 6, 2) := by decide +kernel
theorem dX12_when_68 : decode cX12_when 68 = .ok (.iload 6, 2) := by decide +kernel
theorem dX12_when_70 : decode cX12_when 70 = .ok (.iload_n 3, 1) := by decide +kernel
theorem dX12_when_71 : decode cX12_when 71 = .ok (.if_icmp .lt 125, 3) := by decide +kernel
theorem dX12_when_74 : decode cX12_when 74 = .ok (.sipush 999, 3) := by decide +kernel
theorem dX12_when_77 : decode cX12_when 77 = .ok (.istore 7, 2) := by decide +kernel
theorem dX12_when_79 : decode cX12_when 79 = .ok (.iconst 1, 1) := by decide +kernel
theorem dX12_when_80 : decode cX12_when 80 = .ok (.istore 8, 2) := by decide +kernel
theorem dX12_when_82 : decode cX12_when 82 = .ok (.iload 8, 2) := by decide +kernel
theorem dX12_when_84 : decode cX12_when 84 = .ok (.ifCond .eq 97, 3) := by decide +kernel
theorem dX12_when_87 : decode cX12_when 87 = .ok (.aload_n 0, 1) := by decide +kernel
theorem dX12_when_88 : decode cX12_when 88 = .ok (.aload_n 0, 1) := by decide +kernel
theorem dX12_when_89 : decode cX12_when 89 = .ok (.getfield 62, 3) := by decide +kernel
theorem dX12_when_92 : decode cX12_when 92 = .ok (.iload 6, 2) := by decide +kernel
theorem dX12_when_94 : decode cX12_when 94 = .ok (.iaload, 1) := by decide +kernel
theorem dX12_when_95 : decode cX12_when 95 = .ok (.iload 7, 2) := by decide +kernel
theorem dX12_when_97 : decode cX12_when 97 = .ok (.invokevirtual 128, 3) := by decide +kernel
theorem dX12_when_100 : decode cX12_when 100 = .ok (.ifCond .eq 56, 3) := by decide +kernel
theorem dX12_when_103 : decode cX12_when 103 = .ok (.iload 6, 2) := by decide +kernel
theorem dX12_when_105 : decode cX12_when 105 = .ok (.aload_n 0, 1) := by decide +kernel
theorem dX12_when_106 : decode cX12_when 106 = .ok (.getfield 146, 3) := by decide +kernel
theorem dX12_when_109 : decode cX12_when 109 = .ok (.iconst 1, 1) := by decide +kernel
theorem dX12_when_110 : decode cX12_when 110 = .ok (.isub, 1) := by decide +kernel
theorem dX12_when_111 : decode cX12_when 111 = .ok (.if_icmp .ge 49, 3) := by decide +kernel
theorem dX12_when_114 : decode cX12_when 114 = .ok (.aload_n 0, 1) := by decide +kernel
theorem dX12_when_115 : decode cX12_when 115 = .ok (.aload_n 0, 1) := by decide +kernel
theorem dX12_when_116 : decode cX12_when 116 = .ok (.aload_n 0, 1) := by decide +kernel
theorem dX12_when_117 : decode cX12_when 117 = .ok (.getfield 62, 3) := by decide +kernel
theorem dX12_when_120 : decode cX12_when 120 = .ok (.iload 6, 2) := by decide +kernel
theorem dX12_when_122 : decode cX12_when 122 = .ok (.iaload, 1) := by decide +kernel
theorem dX12_when_123 : decode cX12_when 123 = .ok (.invokevirtual 149, 3) := by decide +kernel
theorem dX12_when_126 : decode cX12_when 126 = .ok (.iload 7, 2) := by decide +kernel
theorem dX12_when_128 : decode cX12_when 128 = .ok (.aload_n 0, 1) := by decide +kernel
theorem dX12_when_129 : decode cX12_when 129 = .ok (.aload_n 0, 1) := by decide +kernel
theorem dX12_when_130 : decode cX12_when 130 = .ok (.getfield 62, 3) := by decide +kernel
theorem dX12_when_133 : decode cX12_when 133 = .ok (.iload 6, 2) := by decide +kernel
theorem dX12_when_135 : decode cX12_when 135 = .ok (.iconst 1, 1) := by decide +kernel
theorem dX12_when_136 : decode cX12_when 136 = .ok (.iadd, 1) := by decide +kernel
theorem dX12_when_137 : decode cX12_when 137 = .ok (.iaload, 1) := by decide +kernel
theorem dX12_when_138 : decode cX12_when 138 = .ok (.invokevirtual 149, 3) := by decide +kernel
theorem dX12_when_141 : decode cX12_when 141 = .ok (.invokevirtual 142, 3) := by decide +kernel
theorem dX12_when_144 : decode cX12_when 144 = .ok (.aload_n 0, 1) := by decide +kernel
theorem dX12_when_145 : decode cX12_when 145 = .ok (.getfield 68, 3) := by decide +kernel
theorem dX12_when_148 : decode cX12_when 148 = .ok (.iload 6, 2) := by decide +kernel
theorem dX12_when_150 : decode cX12_when 150 = .ok (.iconst 1, 1) := by decide +kernel
theorem dX12_when_151 : decode cX12_when 151 = .ok (.iadd, 1) := by decide +kernel
theorem dX12_when_152 : decode cX12_when 152 = .ok (.iaload, 1) := by decide +kernel
theorem dX12_when_153 : decode cX12_when 153 = .ok (.if_icmp .le 7, 3) := by decide +kernel
theorem dX12_when_156 : decode cX12_when 156 = .ok (.iconst 1, 1) := by decide +kernel
theorem dX12_when_157 : decode cX12_when 157 = .ok (.goto 4, 3) := by decide +kernel
theorem dX12_when_160 : decode cX12_when 160 = .ok (.iconst 0, 1) := by decide +kernel
theorem dX12_when_161 : decode cX12_when 161 = .ok (.istore 8, 2) := by decide +kernel
theorem dX12_when_163 : decode cX12_when 163 = .ok (.iload 7, 2) := by decide +kernel
theorem dX12_when_165 : decode cX12_when 165 = .ok (.iload 8, 2) := by decide +kernel
theorem dX12_when_167 : decode cX12_when 167 = .ok (.ifCond .eq 7, 3) := by decide +kernel
theorem dX12_when_170 : decode cX12_when 170 = .ok (.iconst 1, 1) := by decide +kernel
theorem dX12_when_171 : decode cX12_when 171 = .ok (.goto 4, 3) := by decide +kernel
theorem dX12_when_174 : decode cX12_when 174 = .ok (.iconst 0, 1) := by decide +kernel
theorem dX12_when_175 : decode cX12_when 175 = .ok (.isub, 1) := by decide +kernel
theorem dX12_when_176 : decode cX12_when 176 = .ok (.istore 7, 2) := by decide +kernel
theorem dX12_when_178 : decode cX12_when 178 = .ok (.goto (-96), 3) := by decide +kernel
theorem dX12_when_181 : decode cX12_when 181 = .ok (.aload_n 0, 1) := by decide +kernel
theorem dX12_when_182 : decode cX12_when 182 = .ok (.getfield 68, 3) := by decide +kernel
theorem dX12_when_185 : decode cX12_when 185 = .ok (.iload 6, 2) := by decide +kernel
theorem dX12_when_187 : decode cX12_when 187 = .ok (.iload 7, 2) := by decide +kernel
theorem dX12_when_189 : decode cX12_when 189 = .ok (.iastore, 1) := by decide +kernel
theorem dX12_when_190 : decode cX12_when 190 = .ok (.iinc 6 (-1), 3) := by decide +kernel
theorem dX12_when_193 : decode cX12_when 193 = .ok (.goto (-125), 3) := by decide +kernel
theorem dX12_when_196 : decode cX12_when 196 = .ok (.iload 4, 2) := by decide +kernel
theorem dX12_when_198 : decode cX12_when 198 = .ok (.iconst 1, 1) := by decide +kernel
theorem dX12_when_199 : decode cX12_when 199 = .ok (.if_icmp .ne 12, 3) := by decide +kernel
theorem dX12_when_202 : decode cX12_when 202 = .ok (.aload_n 0, 1) := by decide +kernel
theorem dX12_when_203 : decode cX12_when 203 = .ok (.getfield 68, 3) := by decide +kernel
theorem dX12_when_206 : decode cX12_when 206 = .ok (.iload_n 3, 1) := by decide +kernel
theorem dX12_when_207 : decode cX12_when 207 = .ok (.iaload, 1) := by decide +kernel
theorem dX12_when_208 : decode cX12_when 208 = .ok (.goto 9, 3) := by decide +kernel
theorem dX12_when_211 : decode cX12_when 211 = .ok (.aload_n 0, 1) := by decide +kernel
theorem dX12_when_212 : decode cX12_when 212 = .ok (.getfield 65, 3) := by decide +kernel
theorem dX12_when_215 : decode cX12_when 215 = .ok (.iload_n 3, 1) := by decide +kernel
theorem dX12_when_216 : decode cX12_when 216 = .ok (.iaload, 1) := by decide +kernel
theorem dX12_when_217 : decode cX12_when 217 = .ok (.ireturn, 1) := by decide +kernel
theorem dX12_bars_0 : decode cX12_bars 0 = .ok (.aload_n 0, 1) := by decide +kernel
theorem dX12_bars_1 : decode cX12_bars 1 = .ok (.iconst 0, 1) := by decide +kernel
theorem dX12_bars_2 : decode cX12_bars 2 = .ok (.putfield 80, 3) := by decide +kernel
theorem dX12_bars_5 : decode cX12_bars 5 = .ok (.aload_n 0, 1) := by decide +kernel
theorem dX12_bars_6 : decode cX12_bars 6 = .ok (.iload_n 1, 1) := by decide +kernel
theorem dX12_bars_7 : decode cX12_bars 7 = .ok (.iload_n 2, 1) := by decide +kernel
theorem dX12_bars_8 : decode cX12_bars 8 = .ok (.invokevirtual 159, 3) := by decide +kernel
theorem dX12_bars_11 : decode cX12_bars 11 = .ok (.istore_n 3, 1) := by decide +kernel
theorem dX12_bars_12 : decode cX12_bars 12 = .ok (.iload_n 3, 1) := by decide +kernel
theorem dX12_bars_13 : decode cX12_bars 13 = .ok (.ifCond .ge 5, 3) := by decide +kernel
theorem dX12_bars_16 : decode cX12_bars 16 = .ok (.iload_n 3, 1) := by decide +kernel
theorem dX12_bars_17 : decode cX12_bars 17 = .ok (.ireturn, 1) := by decide +kernel
theorem dX12_bars_18 : decode cX12_bars 18 = .ok (.aload_n 0, 1) := by decide +kernel
theorem dX12_bars_19 : decode cX12_bars 19 = .ok (.iconst 0, 1) := by decide +kernel
theorem dX12_bars_20 : decode cX12_bars 20 = .ok (.invokevirtual 162, 3) := by decide +kernel
theorem dX12_bars_23 : decode cX12_bars 23 = .ok (.pop, 1) := by decide +kernel
theorem dX12_bars_24 : decode cX12_bars 24 = .ok (.aload_n 0, 1) := by decide +kernel
theorem dX12_bars_25 : decode cX12_bars 25 = .ok (.getfield 152, 3) := by decide +kernel
theorem dX12_bars_28 : decode cX12_bars 28 = .ok (.ireturn, 1) := by decide +kernel
theorem dX12_ones_0 : decode cX12_ones 0 = .ok (.iconst 0, 1) := by decide +kernel
theorem dX12_ones_1 : decode cX12_ones 1 = .ok (.istore_n 1, 1) := by decide +kernel
theorem dX12_ones_2 : decode cX12_ones 2 = .ok (.iconst 0, 1) := by decide +kernel
theorem dX12_ones_3 : decode cX12_ones 3 = .ok (.istore_n 2, 1) := by decide +kernel
theorem dX12_ones_4 : decode cX12_ones 4 = .ok (.iload_n 2, 1) := by decide +kernel
theorem dX12_ones_5 : decode cX12_ones 5 = .ok (.bipush 10, 2) := by decide +kernel
theorem dX12_ones_7 : decode cX12_ones 7 = .ok (.if_icmp .ge 17, 3) := by decide +kernel
theorem dX12_ones_10 : decode cX12_ones 10 = .ok (.iload_n 1, 1) := by decide +kernel
theorem dX12_ones_11 : decode cX12_ones 11 = .ok (.iload_n 0, 1) := by decide +kernel
theorem dX12_ones_12 : decode cX12_ones 12 = .ok (.iload_n 2, 1) := by decide +kernel
theorem dX12_ones_13 : decode cX12_ones 13 = .ok (.ishr, 1) := by decide +kernel
theorem dX12_ones_14 : decode cX12_ones 14 = .ok (.iconst 1, 1) := by decide +kernel
theorem dX12_ones_15 : decode cX12_ones 15 = .ok (.iand, 1) := by decide +kernel
theorem dX12_ones_16 : decode cX12_ones 16 = .ok (.iadd, 1) := by decide +kernel
theorem dX12_ones_17 : decode cX12_ones 17 = .ok (.istore_n 1, 1) := by decide +kernel
theorem dX12_ones_18 : decode cX12_ones 18 = .ok (.iinc 2 1, 3) := by decide +kernel
theorem dX12_ones_21 : decode cX12_ones 21 = .ok (.goto (-17), 3) := by decide +kernel
theorem dX12_ones_24 : decode cX12_ones 24 = .ok (.iload_n 1, 1) := by decide +kernel
theorem dX12_ones_25 : decode cX12_ones 25 = .ok (.ireturn, 1) := by decide +kernel
theorem dX12_fewest_0 : decode cX12_fewest 0 = .ok (.aload_n 0, 1) := by decide +kernel
theorem dX12_fewest_1 : decode cX12_fewest 1 = .ok (.iconst 0, 1) := by decide +kernel
theorem dX12_fewest_2 : decode cX12_fewest 2 = .ok (.putfield 80, 3) := by decide +kernel
theorem dX12_fewest_5 : decode cX12_fewest 5 = .ok (.iload_n 3, 1) := by decide +kernel
theorem dX12_fewest_6 : decode cX12_fewest 6 = .ok (.iconst 0, 1) := by decide +kernel
theorem dX12_fewest_7 : decode cX12_fewest 7 = .ok (.iconst 2, 1) := by decide +kernel
theorem dX12_fewest_8 : decode cX12_fewest 8 = .ok (.invokestatic 84, 3) := by decide +kernel
theorem dX12_fewest_11 : decode cX12_fewest 11 = .ok (.ifCond .ne 5, 3) := by decide +kernel
theorem dX12_fewest_14 : decode cX12_fewest 14 = .ok (.iconst (-1), 1) := by decide +kernel
theorem dX12_fewest_15 : decode cX12_fewest 15 = .ok (.ireturn, 1) := by decide +kernel
theorem dX12_fewest_16 : decode cX12_fewest 16 = .ok (.aload_n 0, 1) := by decide +kernel
theorem dX12_fewest_17 : decode cX12_fewest 17 = .ok (.iload_n 1, 1) := by decide +kernel
theorem dX12_fewest_18 : decode cX12_fewest 18 = .ok (.iload_n 2, 1) := by decide +kernel
theorem dX12_fewest_19 : decode cX12_fewest 19 = .ok (.invokevirtual 159, 3) := by decide +kernel
theorem dX12_fewest_22 : decode cX12_fewest 22 = .ok (.istore 4, 2) := by decide +kernel
theorem dX12_fewest_24 : decode cX12_fewest 24 = .ok (.iload 4, 2) := by decide +kernel
theorem dX12_fewest_26 : decode cX12_fewest 26 = .ok (.ifCond .ge 6, 3) := by decide +kernel
theorem dX12_fewest_29 : decode cX12_fewest 29 = .ok (.iload 4, 2) := by decide +kernel
theorem dX12_fewest_31 : decode cX12_fewest 31 = .ok (.ireturn, 1) := by decide +kernel
theorem dX12_fewest_32 : decode cX12_fewest 32 = .ok (.iconst 1, 1) := by decide +kernel
theorem dX12_fewest_33 : decode cX12_fewest 33 = .ok (.aload_n 0, 1) := by decide +kernel
theorem dX12_fewest_34 : decode cX12_fewest 34 = .ok (.getfield 146, 3) := by decide +kernel
theorem dX12_fewest_37 : decode cX12_fewest 37 = .ok (.ishl, 1) := by decide +kernel
theorem dX12_fewest_38 : decode cX12_fewest 38 = .ok (.iconst 1, 1) := by decide +kernel
theorem dX12_fewest_39 : decode cX12_fewest 39 = .ok (.isub, 1) := by decide +kernel
theorem dX12_fewest_40 : decode cX12_fewest 40 = .ok (.istore 5, 2) := by decide +kernel
theorem dX12_fewest_42 : decode cX12_fewest 42 = .ok (.iconst 1, 1) := by decide +kernel
theorem dX12_fewest_43 : decode cX12_fewest 43 = .ok (.istore 6, 2) := by decide +kernel
theorem dX12_fewest_45 : decode cX12_fewest 45 = .ok (.iload 5, 2) := by decide +kernel
theorem dX12_fewest_47 : decode cX12_fewest 47 = .ok (.iconst 1, 1) := by decide +kernel
theorem dX12_fewest_48 : decode cX12_fewest 48 = .ok (.isub, 1) := by decide +kernel
theorem dX12_fewest_49 : decode cX12_fewest 49 = .ok (.istore 7, 2) := by decide +kernel
theorem dX12_fewest_51 : decode cX12_fewest 51 = .ok (.iload 7, 2) := by decide +kernel
theorem dX12_fewest_53 : decode cX12_fewest 53 = .ok (.ifCond .lt 58, 3) := by decide +kernel
theorem dX12_fewest_56 : decode cX12_fewest 56 = .ok (.iload 7, 2) := by decide +kernel
theorem dX12_fewest_58 : decode cX12_fewest 58 = .ok (.invokestatic 165, 3) := by decide +kernel
theorem dX12_fewest_61 : decode cX12_fewest 61 = .ok (.iload 5, 2) := by decide +kernel
theorem dX12_fewest_63 : decode cX12_fewest 63 = .ok (.invokestatic 165, 3) := by decide +kernel
theorem dX12_fewest_66 : decode cX12_fewest 66 = .ok (.if_icmp .gt 39, 3) := by decide +kernel
theorem dX12_fewest_69 : decode cX12_fewest 69 = .ok (.aload_n 0, 1) := by decide +kernel
theorem dX12_fewest_70 : decode cX12_fewest 70 = .ok (.iload 7, 2) := by decide +kernel
theorem dX12_fewest_72 : decode cX12_fewest 72 = .ok (.invokevirtual 162, 3) := by decide +kernel
theorem dX12_fewest_75 : decode cX12_fewest 75 = .ok (.ifCond .eq 30, 3) := by decide +kernel
theorem dX12_fewest_78 : decode cX12_fewest 78 = .ok (.iload 7, 2) := by decide +kernel
theorem dX12_fewest_80 : decode cX12_fewest 80 = .ok (.invokestatic 165, 3) := by decide +kernel
theorem dX12_fewest_83 : decode cX12_fewest 83 = .ok (.iload 5, 2) := by decide +kernel
theorem dX12_fewest_85 : decode cX12_fewest 85 = .ok (.invokestatic 165, 3) := by decide +kernel
theorem dX12_fewest_88 : decode cX12_fewest 88 = .ok (.if_icmp .ge 7, 3) := by decide +kernel
theorem dX12_fewest_91 : decode cX12_fewest 91 = .ok (.iconst 1, 1) := by decide +kernel
theorem dX12_fewest_92 : decode cX12_fewest 92 = .ok (.goto 7, 3) := by decide +kernel
theorem dX12_fewest_95 : decode cX12_fewest 95 = .ok (.iload 6, 2) := by decide +kernel
theorem dX12_fewest_97 : decode cX12_fewest 97 = .ok (.iconst 1, 1) := by decide +kernel
theorem dX12_fewest_98 : decode cX12_fewest 98 = .ok (.iadd, 1) := by decide +kernel
theorem dX12_fewest_99 : decode cX12_fewest 99 = .ok (.istore 6, 2) := by decide +kernel
theorem dX12_fewest_101 : decode cX12_fewest 101 = .ok (.iload 7, 2) := by decide +kernel
theorem dX12_fewest_103 : decode cX12_fewest 103 = .ok (.istore 5, 2) := by decide +kernel
theorem dX12_fewest_105 : decode cX12_fewest 105 = .ok (.iinc 7 (-1), 3) := by decide +kernel
theorem dX12_fewest_108 : decode cX12_fewest 108 = .ok (.goto (-57), 3) := by decide +kernel
theorem dX12_fewest_111 : decode cX12_fewest 111 = .ok (.iload_n 3, 1) := by decide +kernel
theorem dX12_fewest_112 : decode cX12_fewest 112 = .ok (.ifCond .ne 11, 3) := by decide +kernel
theorem dX12_fewest_115 : decode cX12_fewest 115 = .ok (.iload 5, 2) := by decide +kernel
theorem dX12_fewest_117 : decode cX12_fewest 117 = .ok (.invokestatic 165, 3) := by decide +kernel
theorem dX12_fewest_120 : decode cX12_fewest 120 = .ok (.goto 15, 3) := by decide +kernel
theorem dX12_fewest_123 : decode cX12_fewest 123 = .ok (.iload_n 3, 1) := by decide +kernel
theorem dX12_fewest_124 : decode cX12_fewest 124 = .ok (.iconst 1, 1) := by decide +kernel
theorem dX12_fewest_125 : decode cX12_fewest 125 = .ok (.if_icmp .ne 8, 3) := by decide +kernel
theorem dX12_fewest_128 : decode cX12_fewest 128 = .ok (.iload 5, 2) := by decide +kernel
theorem dX12_fewest_130 : decode cX12_fewest 130 = .ok (.goto 5, 3) := by decide +kernel
theorem dX12_fewest_133 : decode cX12_fewest 133 = .ok (.iload 6, 2) := by decide +kernel
theorem dX12_fewest_135 : decode cX12_fewest 135 = .ok (.ireturn, 1) := by decide +kernel
theorem dX12_type_0 : decode cX12_type 0 = .ok (.aload_n 0, 1) := by decide +kernel
theorem dX12_type_1 : decode cX12_type 1 = .ok (.iconst 0, 1) := by decide +kernel
theorem dX12_type_2 : decode cX12_type 2 = .ok (.putfield 80, 3) := by decide +kernel
theorem dX12_type_5 : decode cX12_type 5 = .ok (.iload_n 3, 1) := by decide +kernel
theorem dX12_type_6 : decode cX12_type 6 = .ok (.iconst 1, 1) := by decide +kernel
theorem dX12_type_7 : decode cX12_type 7 = .ok (.bipush 8, 2) := by decide +kernel
theorem dX12_type_9 : decode cX12_type 9 = .ok (.invokestatic 84, 3) := by decide +kernel
theorem dX12_type_12 : decode cX12_type 12 = .ok (.ifCond .ne 5, 3) := by decide +kernel
theorem dX12_type_15 : decode cX12_type 15 = .ok (.iconst (-1), 1) := by decide +kernel
theorem dX12_type_16 : decode cX12_type 16 = .ok (.ireturn, 1) := by decide +kernel
theorem dX12_type_17 : decode cX12_type 17 = .ok (.aload_n 0, 1) := by decide +kernel
theorem dX12_type_18 : decode cX12_type 18 = .ok (.getfield 168, 3) := by decide +kernel
theorem dX12_type_21 : decode cX12_type 21 = .ok (.iload_n 3, 1) := by decide +kernel
theorem dX12_type_22 : decode cX12_type 22 = .ok (.iadd, 1) := by decide +kernel
theorem dX12_type_23 : decode cX12_type 23 = .ok (.sipush 600, 3) := by decide +kernel
theorem dX12_type_26 : decode cX12_type 26 = .ok (.if_icmp .le 6, 3) := by decide +kernel
theorem dX12_type_29 : decode cX12_type 29 = .ok (.bipush (-3), 2) := by decide +kernel
theorem dX12_type_31 : decode cX12_type 31 = .ok (.ireturn, 1) := by decide +kernel
theorem dX12_type_32 : decode cX12_type 32 = .ok (.iload_n 3, 1) := by decide +kernel
theorem dX12_type_33 : decode cX12_type 33 = .ok (.iconst 1, 1) := by decide +kernel
theorem dX12_type_34 : decode cX12_type 34 = .ok (.isub, 1) := by decide +kernel
theorem dX12_type_35 : decode cX12_type 35 = .ok (.istore 4, 2) := by decide +kernel
theorem dX12_type_37 : decode cX12_type 37 = .ok (.iload 4, 2) := by decide +kernel
theorem dX12_type_39 : decode cX12_type 39 = .ok (.ifCond .lt 40, 3) := by decide +kernel
theorem dX12_type_42 : decode cX12_type 42 = .ok (.aload_n 0, 1) := by decide +kernel
theorem dX12_type_43 : decode cX12_type 43 = .ok (.getfield 71, 3) := by decide +kernel
theorem dX12_type_46 : decode cX12_type 46 = .ok (.aload_n 0, 1) := by decide +kernel
theorem dX12_type_47 : decode cX12_type 47 = .ok (.getfield 168, 3) := by decide +kernel
theorem dX12_type_50 : decode cX12_type 50 = .ok (.lload_n 1, 1) := by decide +kernel
theorem dX12_type_51 : decode cX12_type 51 = .ok (.bipush 8, 2) := by decide +kernel
theorem dX12_type_53 : decode cX12_type 53 = .ok (.iload 4, 2) := by decide +kernel
theorem dX12_type_55 : decode cX12_type 55 = .ok (.imul, 1) := by decide +kernel
theorem dX12_type_56 : decode cX12_type 56 = .ok (.lshr, 1) := by decide +kernel
theorem dX12_type_57 : decode cX12_type 57 = .ok (.ldc2_w 171, 3) := by decide +kernel
theorem dX12_type_60 : decode cX12_type 60 = .ok (.land, 1) := by decide +kernel
theorem dX12_type_61 : decode cX12_type 61 = .ok (.l2i, 1) := by decide +kernel
theorem dX12_type_62 : decode cX12_type 62 = .ok (.iastore, 1) := by decide +kernel
theorem dX12_type_63 : decode cX12_type 63 = .ok (.aload_n 0, 1) := by decide +kernel
theorem dX12_type_64 : decode cX12_type 64 = .ok (.dup, 1) := by decide +kernel
theorem dX12_type_65 : decode cX12_type 65 = .ok (.getfield 168, 3) := by decide +kernel
theorem dX12_type_68 : decode cX12_type 68 = .ok (.iconst 1, 1) := by decide +kernel
theorem dX12_type_69 : decode cX12_type 69 = .ok (.iadd, 1) := by decide +kernel
theorem dX12_type_70 : decode cX12_type 70 = .ok (.putfield 168, 3) := by decide +kernel
theorem dX12_type_73 : decode cX12_type 73 = .ok (.iinc 4 (-1), 3) := by decide +kernel
theorem dX12_type_76 : decode cX12_type 76 = .ok (.goto (-39), 3) := by decide +kernel
theorem dX12_type_79 : decode cX12_type 79 = .ok (.aload_n 0, 1) := by decide +kernel
theorem dX12_type_80 : decode cX12_type 80 = .ok (.getfield 168, 3) := by decide +kernel
theorem dX12_type_83 : decode cX12_type 83 = .ok (.ireturn, 1) := by decide +kernel
theorem dX12_clear_0 : decode cX12_clear 0 = .ok (.aload_n 0, 1) := by decide +kernel
theorem dX12_clear_1 : decode cX12_clear 1 = .ok (.iconst 0, 1) := by decide +kernel
theorem dX12_clear_2 : decode cX12_clear 2 = .ok (.putfield 80, 3) := by decide +kernel
theorem dX12_clear_5 : decode cX12_clear 5 = .ok (.aload_n 0, 1) := by decide +kernel
theorem dX12_clear_6 : decode cX12_clear 6 = .ok (.getfield 168, 3) := by decide +kernel
theorem dX12_clear_9 : decode cX12_clear 9 = .ok (.istore_n 1, 1) := by decide +kernel
theorem dX12_clear_10 : decode cX12_clear 10 = .ok (.aload_n 0, 1) := by decide +kernel
theorem dX12_clear_11 : decode cX12_clear 11 = .ok (.iconst 0, 1) := by decide +kernel
theorem dX12_clear_12 : decode cX12_clear 12 = .ok (.putfield 168, 3) := by decide +kernel
theorem dX12_clear_15 : decode cX12_clear 15 = .ok (.iload_n 1, 1) := by decide +kernel
theorem dX12_clear_16 : decode cX12_clear 16 = .ok (.ireturn, 1) := by decide +kernel
theorem dX12_byteAt_0 : decode cX12_byteAt 0 = .ok (.iload_n 1, 1) := by decide +kernel
theorem dX12_byteAt_1 : decode cX12_byteAt 1 = .ok (.aload_n 0, 1) := by decide +kernel
theorem dX12_byteAt_2 : decode cX12_byteAt 2 = .ok (.getfield 168, 3) := by decide +kernel
theorem dX12_byteAt_5 : decode cX12_byteAt 5 = .ok (.if_icmp .ge 12, 3) := by decide +kernel
theorem dX12_byteAt_8 : decode cX12_byteAt 8 = .ok (.aload_n 0, 1) := by decide +kernel
theorem dX12_byteAt_9 : decode cX12_byteAt 9 = .ok (.getfield 71, 3) := by decide +kernel
theorem dX12_byteAt_12 : decode cX12_byteAt 12 = .ok (.iload_n 1, 1) := by decide +kernel
theorem dX12_byteAt_13 : decode cX12_byteAt 13 = .ok (.iaload, 1) := by decide +kernel
theorem dX12_byteAt_14 : decode cX12_byteAt 14 = .ok (.goto 4, 3) := by decide +kernel
theorem dX12_byteAt_17 : decode cX12_byteAt 17 = .ok (.iconst (-1), 1) := by decide +kernel
theorem dX12_byteAt_18 : decode cX12_byteAt 18 = .ok (.ireturn, 1) := by decide +kernel
theorem dX12_name_0 : decode cX12_name 0 = .ok (.sipush 256, 3) := by decide +kernel
theorem dX12_name_3 : decode cX12_name 3 = .ok (.sipush 256, 3) := by decide +kernel
theorem dX12_name_6 : decode cX12_name 6 = .ok (.iload_n 0, 1) := by decide +kernel
theorem dX12_name_7 : decode cX12_name 7 = .ok (.imul, 1) := by decide +kernel
theorem dX12_name_8 : decode cX12_name 8 = .ok (.iload_n 1, 1) := by decide +kernel
theorem dX12_name_9 : decode cX12_name 9 = .ok (.iadd, 1) := by decide +kernel
theorem dX12_name_10 : decode cX12_name 10 = .ok (.imul, 1) := by decide +kernel
theorem dX12_name_11 : decode cX12_name 11 = .ok (.iload_n 2, 1) := by decide +kernel
theorem dX12_name_12 : decode cX12_name 12 = .ok (.iadd, 1) := by decide +kernel
theorem dX12_name_13 : decode cX12_name 13 = .ok (.istore 4, 2) := by decide +kernel
theorem dX12_name_15 : decode cX12_name 15 = .ok (.iload_n 3, 1) := by decide +kernel
theorem dX12_name_16 : decode cX12_name 16 = .ok (.ifCond .ne 8, 3) := by decide +kernel
theorem dX12_name_19 : decode cX12_name 19 = .ok (.iload 4, 2) := by decide +kernel
theorem dX12_name_21 : decode cX12_name 21 = .ok (.goto 11, 3) := by decide +kernel
theorem dX12_name_24 : decode cX12_name 24 = .ok (.sipush 256, 3) := by decide +kernel
theorem dX12_name_27 : decode cX12_name 27 = .ok (.iload 4, 2) := by decide +kernel
theorem dX12_name_29 : decode cX12_name 29 = .ok (.imul, 1) := by decide +kernel
theorem dX12_name_30 : decode cX12_name 30 = .ok (.iload_n 3, 1) := by decide +kernel
theorem dX12_name_31 : decode cX12_name 31 = .ok (.iadd, 1) := by decide +kernel
theorem dX12_name_32 : decode cX12_name 32 = .ok (.ireturn, 1) := by decide +kernel
theorem dX12_wordOf_0 : decode cX12_wordOf 0 = .ok (.iload_n 0, 1) := by decide +kernel
theorem dX12_wordOf_1 : decode cX12_wordOf 1 = .ok (.bipush 114, 2) := by decide +kernel
theorem dX12_wordOf_3 : decode cX12_wordOf 3 = .ok (.bipush 97, 2) := by decide +kernel
theorem dX12_wordOf_5 : decode cX12_wordOf 5 = .ok (.bipush 116, 2) := by decide +kernel
theorem dX12_wordOf_7 : decode cX12_wordOf 7 = .ok (.bipush 101, 2) := by decide +kernel
theorem dX12_wordOf_9 : decode cX12_wordOf 9 = .ok (.invokestatic 173, 3) := by decide +kernel
theorem dX12_wordOf_12 : decode cX12_wordOf 12 = .ok (.if_icmp .ne 7, 3) := by decide +kernel
theorem dX12_wordOf_15 : decode cX12_wordOf 15 = .ok (.iconst 0, 1) := by decide +kernel
theorem dX12_wordOf_16 : decode cX12_wordOf 16 = .ok (.goto 60, 3) := by decide +kernel
theorem dX12_wordOf_19 : decode cX12_wordOf 19 = .ok (.iload_n 0, 1) := by decide +kernel
theorem dX12_wordOf_20 : decode cX12_wordOf 20 = .ok (.bipush 112, 2) := by decide +kernel
theorem dX12_wordOf_22 : decode cX12_wordOf 22 = .ok (.bipush 101, 2) := by decide +kernel
theorem dX12_wordOf_24 : decode cX12_wordOf 24 = .ok (.bipush 114, 2) := by decide +kernel
theorem dX12_wordOf_26 : decode cX12_wordOf 26 = .ok (.iconst 0, 1) := by decide +kernel
theorem dX12_wordOf_27 : decode cX12_wordOf 27 = .ok (.invokestatic 173, 3) := by decide +kernel
theorem dX12_wordOf_30 : decode cX12_wordOf 30 = .ok (.if_icmp .ne 7, 3) := by decide +kernel
theorem dX12_wordOf_33 : decode cX12_wordOf 33 = .ok (.iconst 1, 1) := by decide +kernel
theorem dX12_wordOf_34 : decode cX12_wordOf 34 = .ok (.goto 42, 3) := by decide +kernel
theorem dX12_wordOf_37 : decode cX12_wordOf 37 = .ok (.iload_n 0, 1) := by decide +kernel
theorem dX12_wordOf_38 : decode cX12_wordOf 38 = .ok (.bipush 112, 2) := by decide +kernel
theorem dX12_wordOf_40 : decode cX12_wordOf 40 = .ok (.bipush 97, 2) := by decide +kernel
theorem dX12_wordOf_42 : decode cX12_wordOf 42 = .ok (.bipush 114, 2) := by decide +kernel
theorem dX12_wordOf_44 : decode cX12_wordOf 44 = .ok (.bipush 116, 2) := by decide +kernel
theorem dX12_wordOf_46 : decode cX12_wordOf 46 = .ok (.invokestatic 173, 3) := by decide +kernel
theorem dX12_wordOf_49 : decode cX12_wordOf 49 = .ok (.if_icmp .ne 7, 3) := by decide +kernel
theorem dX12_wordOf_52 : decode cX12_wordOf 52 = .ok (.iconst 2, 1) := by decide +kernel
theorem dX12_wordOf_53 : decode cX12_wordOf 53 = .ok (.goto 23, 3) := by decide +kernel
theorem dX12_wordOf_56 : decode cX12_wordOf 56 = .ok (.iload_n 0, 1) := by decide +kernel
theorem dX12_wordOf_57 : decode cX12_wordOf 57 = .ok (.bipush 100, 2) := by decide +kernel
theorem dX12_wordOf_59 : decode cX12_wordOf 59 = .ok (.bipush 117, 2) := by decide +kernel
theorem dX12_wordOf_61 : decode cX12_wordOf 61 = .ok (.bipush 101, 2) := by decide +kernel
theorem dX12_wordOf_63 : decode cX12_wordOf 63 = .ok (.iconst 0, 1) := by decide +kernel
theorem dX12_wordOf_64 : decode cX12_wordOf 64 = .ok (.invokestatic 173, 3) := by decide +kernel
theorem dX12_wordOf_67 : decode cX12_wordOf 67 = .ok (.if_icmp .ne 7, 3) := by decide +kernel
theorem dX12_wordOf_70 : decode cX12_wordOf 70 = .ok (.iconst 3, 1) := by decide +kernel
theorem dX12_wordOf_71 : decode cX12_wordOf 71 = .ok (.goto 5, 3) := by decide +kernel
theorem dX12_wordOf_74 : decode cX12_wordOf 74 = .ok (.bipush (-9), 2) := by decide +kernel
theorem dX12_wordOf_76 : decode cX12_wordOf 76 = .ok (.ireturn, 1) := by decide +kernel
theorem dX12_advances_0 : decode cX12_advances 0 = .ok (.aload_n 0, 1) := by decide +kernel
theorem dX12_advances_1 : decode cX12_advances 1 = .ok (.aload_n 0, 1) := by decide +kernel
theorem dX12_advances_2 : decode cX12_advances 2 = .ok (.getfield 177, 3) := by decide +kernel
theorem dX12_advances_5 : decode cX12_advances 5 = .ok (.invokevirtual 180, 3) := by decide +kernel
theorem dX12_advances_8 : decode cX12_advances 8 = .ok (.bipush 32, 2) := by decide +kernel
theorem dX12_advances_10 : decode cX12_advances 10 = .ok (.if_icmp .ne 16, 3) := by decide +kernel
theorem dX12_advances_13 : decode cX12_advances 13 = .ok (.aload_n 0, 1) := by decide +kernel
theorem dX12_advances_14 : decode cX12_advances 14 = .ok (.dup, 1) := by decide +kernel
theorem dX12_advances_15 : decode cX12_advances 15 = .ok (.getfield 177, 3) := by decide +kernel
theorem dX12_advances_18 : decode cX12_advances 18 = .ok (.iconst 1, 1) := by decide +kernel
theorem dX12_advances_19 : decode cX12_advances 19 = .ok (.iadd, 1) := by decide +kernel
theorem dX12_advances_20 : decode cX12_advances 20 = .ok (.putfield 177, 3) := by decide +kernel
theorem dX12_advances_23 : decode cX12_advances 23 = .ok (.goto (-23), 3) := by decide +kernel
theorem dX12_advances_26 : decode cX12_advances 26 = .ok (.aload_n 0, 1) := by decide +kernel
theorem dX12_advances_27 : decode cX12_advances 27 = .ok (.aload_n 0, 1) := by decide +kernel
theorem dX12_advances_28 : decode cX12_advances 28 = .ok (.getfield 177, 3) := by decide +kernel
theorem dX12_advances_31 : decode cX12_advances 31 = .ok (.putfield 183, 3) := by decide +kernel
theorem dX12_advances_34 : decode cX12_advances 34 = .ok (.aload_n 0, 1) := by decide +kernel
theorem dX12_advances_35 : decode cX12_advances 35 = .ok (.aload_n 0, 1) := by decide +kernel
theorem dX12_advances_36 : decode cX12_advances 36 = .ok (.getfield 177, 3) := by decide +kernel
theorem dX12_advances_39 : decode cX12_advances 39 = .ok (.invokevirtual 180, 3) := by decide +kernel
theorem dX12_advances_42 : decode cX12_advances 42 = .ok (.istore_n 1, 1) := by decide +kernel
theorem dX12_advances_43 : decode cX12_advances 43 = .ok (.iload_n 1, 1) := by decide +kernel
theorem dX12_advances_44 : decode cX12_advances 44 = .ok (.ifCond .ge 11, 3) := by decide +kernel
theorem dX12_advances_47 : decode cX12_advances 47 = .ok (.aload_n 0, 1) := by decide +kernel
theorem dX12_advances_48 : decode cX12_advances 48 = .ok (.iconst 0, 1) := by decide +kernel
theorem dX12_advances_49 : decode cX12_advances 49 = .ok (.putfield 186, 3) := by decide +kernel
theorem dX12_advances_52 : decode cX12_advances 52 = .ok (.goto 310, 3) := by decide +kernel
theorem dX12_advances_55 : decode cX12_advances 55 = .ok (.iload_n 1, 1) := by decide +kernel
theorem dX12_advances_56 : decode cX12_advances 56 = .ok (.bipush 97, 2) := by decide +kernel
theorem dX12_advances_58 : decode cX12_advances 58 = .ok (.bipush 122, 2) := by decide +kernel
theorem dX12_advances_60 : decode cX12_advances 60 = .ok (.invokestatic 84, 3) := by decide +kernel
theorem dX12_advances_63 : decode cX12_advances 63 = .ok (.ifCond .eq 104, 3) := by decide +kernel
theorem dX12_advances_66 : decode cX12_advances 66 = .ok (.iconst 0, 1) := by decide +kernel
theorem dX12_advances_67 : decode cX12_advances 67 = .ok (.istore_n 2, 1) := by decide +kernel
theorem dX12_advances_68 : decode cX12_advances 68 = .ok (.iconst 0, 1) := by decide +kernel
theorem dX12_advances_69 : decode cX12_advances 69 = .ok (.istore_n 3, 1) := by decide +kernel
theorem dX12_advances_70 : decode cX12_advances 70 = .ok (.aload_n 0, 1) := by decide +kernel
theorem dX12_advances_71 : decode cX12_advances 71 = .ok (.aload_n 0, 1) := by decide +kernel
theorem dX12_advances_72 : decode cX12_advances 72 = .ok (.getfield 177, 3) := by decide +kernel
theorem dX12_advances_75 : decode cX12_advances 75 = .ok (.invokevirtual 180, 3) := by decide +kernel
theorem dX12_advances_78 : decode cX12_advances 78 = .ok (.bipush 97, 2) := by decide +kernel
theorem dX12_advances_80 : decode cX12_advances 80 = .ok (.bipush 122, 2) := by decide +kernel
theorem dX12_advances_82 : decode cX12_advances 82 = .ok (.invokestatic 84, 3) := by decide +kernel
theorem dX12_advances_85 : decode cX12_advances 85 = .ok (.ifCond .eq 43, 3) := by decide +kernel
theorem dX12_advances_88 : decode cX12_advances 88 = .ok (.iload_n 3, 1) := by decide +kernel
theorem dX12_advances_89 : decode cX12_advances 89 = .ok (.iconst 4, 1) := by decide +kernel
theorem dX12_advances_90 : decode cX12_advances 90 = .ok (.if_icmp .ge 20, 3) := by decide +kernel
theorem dX12_advances_93 : decode cX12_advances 93 = .ok (.sipush 256, 3) := by decide +kernel
theorem dX12_advances_96 : decode cX12_advances 96 = .ok (.iload_n 2, 1) := by decide +kernel
theorem dX12_advances_97 : decode cX12_advances 97 = .ok (.imul, 1) := by decide +kernel
theorem dX12_advances_98 : decode cX12_advances 98 = .ok (.aload_n 0, 1) := by decide +kernel
theorem dX12_advances_99 : decode cX12_advances 99 = .ok (.aload_n 0, 1) := by decide +kernel
theorem dX12_advances_100 : decode cX12_advances 100 = .ok (.getfield 177, 3) := by decide +kernel
theorem dX12_advances_103 : decode cX12_advances 103 = .ok (.invokevirtual 180, 3) := by decide +kernel
theorem dX12_advances_106 : decode cX12_advances 106 = .ok (.iadd, 1) := by decide +kernel
theorem dX12_advances_107 : decode cX12_advances 107 = .ok (.goto 4, 3) := by decide +kernel
theorem dX12_advances_110 : decode cX12_advances 110 = .ok (.iload_n 2, 1) := by decide +kernel
theorem dX12_advances_111 : decode cX12_advances 111 = .ok (.istore_n 2, 1) := by decide +kernel
theorem dX12_advances_112 : decode cX12_advances 112 = .ok (.iinc 3 1, 3) := by decide +kernel
theorem dX12_advances_115 : decode cX12_advances 115 = .ok (.aload_n 0, 1) := by decide +kernel
theorem dX12_advances_116 : decode cX12_advances 116 = .ok (.dup, 1) := by decide +kernel
theorem dX12_advances_117 : decode cX12_advances 117 = .ok (.getfield 177, 3) := by decide +kernel
theorem dX12_advances_120 : decode cX12_advances 120 = .ok (.iconst 1, 1) := by decide +kernel
theorem dX12_advances_121 : decode cX12_advances 121 = .ok (.iadd, 1) := by decide +kernel
theorem dX12_advances_122 : decode cX12_advances 122 = .ok (.putfield 177, 3) := by decide +kernel
theorem dX12_advances_125 : decode cX12_advances 125 = .ok (.goto (-55), 3) := by decide +kernel
theorem dX12_advances_128 : decode cX12_advances 128 = .ok (.aload_n 0, 1) := by decide +kernel
theorem dX12_advances_129 : decode cX12_advances 129 = .ok (.iload_n 3, 1) := by decide +kernel
theorem dX12_advances_130 : decode cX12_advances 130 = .ok (.iconst 5, 1) := by decide +kernel
theorem dX12_advances_131 : decode cX12_advances 131 = .ok (.if_icmp .ge 10, 3) := by decide +kernel
theorem dX12_advances_134 : decode cX12_advances 134 = .ok (.iload_n 2, 1) := by decide +kernel
theorem dX12_advances_135 : decode cX12_advances 135 = .ok (.invokestatic 189, 3) := by decide +kernel
theorem dX12_advances_138 : decode cX12_advances 138 = .ok (.goto 5, 3) := by decide +kernel
theorem dX12_advances_141 : decode cX12_advances 141 = .ok (.bipush (-9), 2) := by decide +kernel
theorem dX12_advances_143 : decode cX12_advances 143 = .ok (.putfield 192, 3) := by decide +kernel
theorem dX12_advances_146 : decode cX12_advances 146 = .ok (.aload_n 0, 1) := by decide +kernel
theorem dX12_advances_147 : decode cX12_advances 147 = .ok (.aload_n 0, 1) := by decide +kernel
theorem dX12_advances_148 : decode cX12_advances 148 = .ok (.getfield 192, 3) := by decide +kernel
theorem dX12_advances_151 : decode cX12_advances 151 = .ok (.bipush (-9), 2) := by decide +kernel
theorem dX12_advances_153 : decode cX12_advances 153 = .ok (.if_icmp .ne 7, 3) := by decide +kernel
theorem dX12_advances_156 : decode cX12_advances 156 = .ok (.iconst 4, 1) := by decide +kernel
theorem dX12_advances_157 : decode cX12_advances 157 = .ok (.goto 4, 3) := by decide +kernel
theorem dX12_advances_160 : decode cX12_advances 160 = .ok (.iconst 1, 1) := by decide +kernel
theorem dX12_advances_161 : decode cX12_advances 161 = .ok (.putfield 186, 3) := by decide +kernel
theorem dX12_advances_164 : decode cX12_advances 164 = .ok (.goto 198, 3) := by decide +kernel
theorem dX12_advances_167 : decode cX12_advances 167 = .ok (.iload_n 1, 1) := by decide +kernel
theorem dX12_advances_168 : decode cX12_advances 168 = .ok (.bipush 48, 2) := by decide +kernel
theorem dX12_advances_170 : decode cX12_advances 170 = .ok (.bipush 57, 2) := by decide +kernel
theorem dX12_advances_172 : decode cX12_advances 172 = .ok (.invokestatic 84, 3) := by decide +kernel
theorem dX12_advances_175 : decode cX12_advances 175 = .ok (.ifCond .eq 111, 3) := by decide +kernel
theorem dX12_advances_178 : decode cX12_advances 178 = .ok (.aload_n 0, 1) := by decide +kernel
theorem dX12_advances_179 : decode cX12_advances 179 = .ok (.iconst 0, 1) := by decide +kernel
theorem dX12_advances_180 : decode cX12_advances 180 = .ok (.putfield 192, 3) := by decide +kernel
theorem dX12_advances_183 : decode cX12_advances 183 = .ok (.iconst 0, 1) := by decide +kernel
theorem dX12_advances_184 : decode cX12_advances 184 = .ok (.istore_n 2, 1) := by decide +kernel
theorem dX12_advances_185 : decode cX12_advances 185 = .ok (.aload_n 0, 1) := by decide +kernel
theorem dX12_advances_186 : decode cX12_advances 186 = .ok (.aload_n 0, 1) := by decide +kernel
theorem dX12_advances_187 : decode cX12_advances 187 = .ok (.getfield 177, 3) := by decide +kernel
theorem dX12_advances_190 : decode cX12_advances 190 = .ok (.invokevirtual 180, 3) := by decide +kernel
theorem dX12_advances_193 : decode cX12_advances 193 = .ok (.bipush 48, 2) := by decide +kernel
theorem dX12_advances_195 : decode cX12_advances 195 = .ok (.bipush 57, 2) := by decide +kernel
theorem dX12_advances_197 : decode cX12_advances 197 = .ok (.invokestatic 84, 3) := by decide +kernel
theorem dX12_advances_200 : decode cX12_advances 200 = .ok (.ifCond .eq 53, 3) := by decide +kernel
theorem dX12_advances_203 : decode cX12_advances 203 = .ok (.aload_n 0, 1) := by decide +kernel
theorem dX12_advances_204 : decode cX12_advances 204 = .ok (.iload_n 2, 1) := by decide +kernel
theorem dX12_advances_205 : decode cX12_advances 205 = .ok (.iconst 4, 1) := by decide +kernel
theorem dX12_advances_206 : decode cX12_advances 206 = .ok (.if_icmp .ge 25, 3) := by decide +kernel
theorem dX12_advances_209 : decode cX12_advances 209 = .ok (.bipush 10, 2) := by decide +kernel
theorem dX12_advances_211 : decode cX12_advances 211 = .ok (.aload_n 0, 1) := by decide +kernel
theorem dX12_advances_212 : decode cX12_advances 212 = .ok (.getfield 192, 3) := by decide +kernel
theorem dX12_advances_215 : decode cX12_advances 215 = .ok (.imul, 1) := by decide +kernel
theorem dX12_advances_216 : decode cX12_advances 216 = .ok (.aload_n 0, 1) := by decide +kernel
theorem dX12_advances_217 : decode cX12_advances 217 = .ok (.aload_n 0, 1) := by decide +kernel
theorem dX12_advances_218 : decode cX12_advances 218 = .ok (.getfield 177, 3) := by decide +kernel
theorem dX12_advances_221 : decode cX12_advances 221 = .ok (.invokevirtual 180, 3) := by decide +kernel
theorem dX12_advances_224 : decode cX12_advances 224 = .ok (.iadd, 1) := by decide +kernel
theorem dX12_advances_225 : decode cX12_advances 225 = .ok (.bipush 48, 2) := by decide +kernel
theorem dX12_advances_227 : decode cX12_advances 227 = .ok (.isub, 1) := by decide +kernel
theorem dX12_advances_228 : decode cX12_advances 228 = .ok (.goto 6, 3) := by decide +kernel
theorem dX12_advances_231 : decode cX12_advances 231 = .ok (.sipush 10000, 3) := by decide +kernel
theorem dX12_advances_234 : decode cX12_advances 234 = .ok (.putfield 192, 3) := by decide +kernel
theorem dX12_advances_237 : decode cX12_advances 237 = .ok (.iinc 2 1, 3) := by decide +kernel
theorem dX12_advances_240 : decode cX12_advances 240 = .ok (.aload_n 0, 1) := by decide +kernel
theorem dX12_advances_241 : decode cX12_advances 241 = .ok (.dup, 1) := by decide +kernel
theorem dX12_advances_242 : decode cX12_advances 242 = .ok (.getfield 177, 3) := by decide +kernel
theorem dX12_advances_245 : decode cX12_advances 245 = .ok (.iconst 1, 1) := by decide +kernel
theorem dX12_advances_246 : decode cX12_advances 246 = .ok (.iadd, 1) := by decide +kernel
theorem dX12_advances_247 : decode cX12_advances 247 = .ok (.putfield 177, 3) := by decide +kernel
theorem dX12_advances_250 : decode cX12_advances 250 = .ok (.goto (-65), 3) := by decide +kernel
theorem dX12_advances_253 : decode cX12_advances 253 = .ok (.aload_n 0, 1) := by decide +kernel
theorem dX12_advances_254 : decode cX12_advances 254 = .ok (.aload_n 0, 1) := by decide +kernel
theorem dX12_advances_255 : decode cX12_advances 255 = .ok (.getfield 192, 3) := by decide +kernel
theorem dX12_advances_258 : decode cX12_advances 258 = .ok (.sipush 9999, 3) := by decide +kernel
theorem dX12_advances_261 : decode cX12_advances 261 = .ok (.if_icmp .gt 14, 3) := by decide +kernel
theorem dX12_advances_264 : decode cX12_advances 264 = .ok (.iload_n 1, 1) := by decide +kernel
theorem dX12_advances_265 : decode cX12_advances 265 = .ok (.bipush 48, 2) := by decide +kernel
theorem dX12_advances_267 : decode cX12_advances 267 = .ok (.if_icmp .ne 12, 3) := by decide +kernel
theorem dX12_advances_270 : decode cX12_advances 270 = .ok (.iload_n 2, 1) := by decide +kernel
theorem dX12_advances_271 : decode cX12_advances 271 = .ok (.iconst 1, 1) := by decide +kernel
theorem dX12_advances_272 : decode cX12_advances 272 = .ok (.if_icmp .le 7, 3) := by decide +kernel
theorem dX12_advances_275 : decode cX12_advances 275 = .ok (.iconst 4, 1) := by decide +kernel
theorem dX12_advances_276 : decode cX12_advances 276 = .ok (.goto 4, 3) := by decide +kernel
theorem dX12_advances_279 : decode cX12_advances 279 = .ok (.iconst 2, 1) := by decide +kernel
theorem dX12_advances_280 : decode cX12_advances 280 = .ok (.putfield 186, 3) := by decide +kernel
theorem dX12_advances_283 : decode cX12_advances 283 = .ok (.goto 79, 3) := by decide +kernel
theorem dX12_advances_286 : decode cX12_advances 286 = .ok (.aload_n 0, 1) := by decide +kernel
theorem dX12_advances_287 : decode cX12_advances 287 = .ok (.iload_n 1, 1) := by decide +kernel
theorem dX12_advances_288 : decode cX12_advances 288 = .ok (.putfield 192, 3) := by decide +kernel
theorem dX12_advances_291 : decode cX12_advances 291 = .ok (.aload_n 0, 1) := by decide +kernel
theorem dX12_advances_292 : decode cX12_advances 292 = .ok (.dup, 1) := by decide +kernel
theorem dX12_advances_293 : decode cX12_advances 293 = .ok (.getfield 177, 3) := by decide +kernel
theorem dX12_advances_296 : decode cX12_advances 296 = .ok (.iconst 1, 1) := by decide +kernel
theorem dX12_advances_297 : decode cX12_advances 297 = .ok (.iadd, 1) := by decide +kernel
theorem dX12_advances_298 : decode cX12_advances 298 = .ok (.putfield 177, 3) := by decide +kernel
theorem dX12_advances_301 : decode cX12_advances 301 = .ok (.iload_n 1, 1) := by decide +kernel
theorem dX12_advances_302 : decode cX12_advances 302 = .ok (.bipush 62, 2) := by decide +kernel
theorem dX12_advances_304 : decode cX12_advances 304 = .ok (.if_icmp .eq 39, 3) := by decide +kernel
theorem dX12_advances_307 : decode cX12_advances 307 = .ok (.iload_n 1, 1) := by decide +kernel
theorem dX12_advances_308 : decode cX12_advances 308 = .ok (.bipush 44, 2) := by decide +kernel
theorem dX12_advances_310 : decode cX12_advances 310 = .ok (.if_icmp .eq 33, 3) := by decide +kernel
theorem dX12_advances_313 : decode cX12_advances 313 = .ok (.iload_n 1, 1) := by decide +kernel
theorem dX12_advances_314 : decode cX12_advances 314 = .ok (.bipush 45, 2) := by decide +kernel
theorem dX12_advances_316 : decode cX12_advances 316 = .ok (.if_icmp .eq 27, 3) := by decide +kernel
theorem dX12_advances_319 : decode cX12_advances 319 = .ok (.iload_n 1, 1) := by decide +kernel
theorem dX12_advances_320 : decode cX12_advances 320 = .ok (.bipush 58, 2) := by decide +kernel
theorem dX12_advances_322 : decode cX12_advances 322 = .ok (.if_icmp .eq 21, 3) := by decide +kernel
theorem dX12_advances_325 : decode cX12_advances 325 = .ok (.iload_n 1, 1) := by decide +kernel
theorem dX12_advances_326 : decode cX12_advances 326 = .ok (.bipush 43, 2) := by decide +kernel
theorem dX12_advances_328 : decode cX12_advances 328 = .ok (.if_icmp .eq 15, 3) := by decide +kernel
theorem dX12_advances_331 : decode cX12_advances 331 = .ok (.iload_n 1, 1) := by decide +kernel
theorem dX12_advances_332 : decode cX12_advances 332 = .ok (.bipush 47, 2) := by decide +kernel
theorem dX12_advances_334 : decode cX12_advances 334 = .ok (.if_icmp .eq 9, 3) := by decide +kernel
theorem dX12_advances_337 : decode cX12_advances 337 = .ok (.iload_n 1, 1) := by decide +kernel
theorem dX12_advances_338 : decode cX12_advances 338 = .ok (.bipush 59, 2) := by decide +kernel
theorem dX12_advances_340 : decode cX12_advances 340 = .ok (.if_icmp .ne 7, 3) := by decide +kernel
theorem dX12_advances_343 : decode cX12_advances 343 = .ok (.iconst 1, 1) := by decide +kernel
theorem dX12_advances_344 : decode cX12_advances 344 = .ok (.goto 4, 3) := by decide +kernel
theorem dX12_advances_347 : decode cX12_advances 347 = .ok (.iconst 0, 1) := by decide +kernel
theorem dX12_advances_348 : decode cX12_advances 348 = .ok (.istore_n 2, 1) := by decide +kernel
theorem dX12_advances_349 : decode cX12_advances 349 = .ok (.aload_n 0, 1) := by decide +kernel
theorem dX12_advances_350 : decode cX12_advances 350 = .ok (.iload_n 2, 1) := by decide +kernel
theorem dX12_advances_351 : decode cX12_advances 351 = .ok (.ifCond .eq 7, 3) := by decide +kernel
theorem dX12_advances_354 : decode cX12_advances 354 = .ok (.iconst 3, 1) := by decide +kernel
theorem dX12_advances_355 : decode cX12_advances 355 = .ok (.goto 4, 3) := by decide +kernel
theorem dX12_advances_358 : decode cX12_advances 358 = .ok (.iconst 4, 1) := by decide +kernel
theorem dX12_advances_359 : decode cX12_advances 359 = .ok (.putfield 186, 3) := by decide +kernel
theorem dX12_advances_362 : decode cX12_advances 362 = .ok (.return_, 1) := by decide +kernel
theorem dX12_isWell_0 : decode cX12_isWell 0 = .ok (.aload_n 0, 1) := by decide +kernel
theorem dX12_isWell_1 : decode cX12_isWell 1 = .ok (.getfield 195, 3) := by decide +kernel
theorem dX12_isWell_4 : decode cX12_isWell 4 = .ok (.ifCond .ge 7, 3) := by decide +kernel
theorem dX12_isWell_7 : decode cX12_isWell 7 = .ok (.iconst 1, 1) := by decide +kernel
theorem dX12_isWell_8 : decode cX12_isWell 8 = .ok (.goto 4, 3) := by decide +kernel
theorem dX12_isWell_11 : decode cX12_isWell 11 = .ok (.iconst 0, 1) := by decide +kernel
theorem dX12_isWell_12 : decode cX12_isWell 12 = .ok (.ireturn, 1) := by decide +kernel
theorem dX12_fails_0 : decode cX12_fails 0 = .ok (.aload_n 0, 1) := by decide +kernel
theorem dX12_fails_1 : decode cX12_fails 1 = .ok (.aload_n 0, 1) := by decide +kernel
theorem dX12_fails_2 : decode cX12_fails 2 = .ok (.getfield 195, 3) := by decide +kernel
theorem dX12_fails_5 : decode cX12_fails 5 = .ok (.ifCond .ge 10, 3) := by decide +kernel
theorem dX12_fails_8 : decode cX12_fails 8 = .ok (.aload_n 0, 1) := by decide +kernel
theorem dX12_fails_9 : decode cX12_fails 9 = .ok (.getfield 183, 3) := by decide +kernel
theorem dX12_fails_12 : decode cX12_fails 12 = .ok (.goto 7, 3) := by decide +kernel
theorem dX12_fails_15 : decode cX12_fails 15 = .ok (.aload_n 0, 1) := by decide +kernel
theorem dX12_fails_16 : decode cX12_fails 16 = .ok (.getfield 195, 3) := by decide +kernel
theorem dX12_fails_19 : decode cX12_fails 19 = .ok (.putfield 195, 3) := by decide +kernel
theorem dX12_fails_22 : decode cX12_fails 22 = .ok (.return_, 1) := by decide +kernel
theorem dX12_isSign_0 : decode cX12_isSign 0 = .ok (.aload_n 0, 1) := by decide +kernel
theorem dX12_isSign_1 : decode cX12_isSign 1 = .ok (.invokevirtual 198, 3) := by decide +kernel
theorem dX12_isSign_4 : decode cX12_isSign 4 = .ok (.ifCond .eq 23, 3) := by decide +kernel
theorem dX12_isSign_7 : decode cX12_isSign 7 = .ok (.aload_n 0, 1) := by decide +kernel
theorem dX12_isSign_8 : decode cX12_isSign 8 = .ok (.getfield 186, 3) := by decide +kernel
theorem dX12_isSign_11 : decode cX12_isSign 11 = .ok (.iconst 3, 1) := by decide +kernel
theorem dX12_isSign_12 : decode cX12_isSign 12 = .ok (.if_icmp .ne 15, 3) := by decide +kernel
theorem dX12_isSign_15 : decode cX12_isSign 15 = .ok (.aload_n 0, 1) := by decide +kernel
theorem dX12_isSign_16 : decode cX12_isSign 16 = .ok (.getfield 192, 3) := by decide +kernel
theorem dX12_isSign_19 : decode cX12_isSign 19 = .ok (.iload_n 1, 1) := by decide +kernel
theorem dX12_isSign_20 : decode cX12_isSign 20 = .ok (.if_icmp .ne 7, 3) := by decide +kernel
theorem dX12_isSign_23 : decode cX12_isSign 23 = .ok (.iconst 1, 1) := by decide +kernel
theorem dX12_isSign_24 : decode cX12_isSign 24 = .ok (.goto 4, 3) := by decide +kernel
theorem dX12_isSign_27 : decode cX12_isSign 27 = .ok (.iconst 0, 1) := by decide +kernel
theorem dX12_isSign_28 : decode cX12_isSign 28 = .ok (.ireturn, 1) := by decide +kernel
theorem dX12_isWord_0 : decode cX12_isWord 0 = .ok (.aload_n 0, 1) := by decide +kernel
theorem dX12_isWord_1 : decode cX12_isWord 1 = .ok (.invokevirtual 198, 3) := by decide +kernel
theorem dX12_isWord_4 : decode cX12_isWord 4 = .ok (.ifCond .eq 23, 3) := by decide +kernel
theorem dX12_isWord_7 : decode cX12_isWord 7 = .ok (.aload_n 0, 1) := by decide +kernel
theorem dX12_isWord_8 : decode cX12_isWord 8 = .ok (.getfield 186, 3) := by decide +kernel
theorem dX12_isWord_11 : decode cX12_isWord 11 = .ok (.iconst 1, 1) := by decide +kernel
theorem dX12_isWord_12 : decode cX12_isWord 12 = .ok (.if_icmp .ne 15, 3) := by decide +kernel
theorem dX12_isWord_15 : decode cX12_isWord 15 = .ok (.aload_n 0, 1) := by decide +kernel
theorem dX12_isWord_16 : decode cX12_isWord 16 = .ok (.getfield 192, 3) := by decide +kernel
theorem dX12_isWord_19 : decode cX12_isWord 19 = .ok (.iload_n 1, 1) := by decide +kernel
theorem dX12_isWord_20 : decode cX12_isWord 20 = .ok (.if_icmp .ne 7, 3) := by decide +kernel
theorem dX12_isWord_23 : decode cX12_isWord 23 = .ok (.iconst 1, 1) := by decide +kernel
theorem dX12_isWord_24 : decode cX12_isWord 24 = .ok (.goto 4, 3) := by decide +kernel
theorem dX12_isWord_27 : decode cX12_isWord 27 = .ok (.iconst 0, 1) := by decide +kernel
theorem dX12_isWord_28 : decode cX12_isWord 28 = .ok (.ireturn, 1) := by decide +kernel
theorem dX12_takesSign_0 : decode cX12_takesSign 0 = .ok (.aload_n 0, 1) := by decide +kernel
theorem dX12_takesSign_1 : decode cX12_takesSign 1 = .ok (.iload_n 1, 1) := by decide +kernel
theorem dX12_takesSign_2 : decode cX12_takesSign 2 = .ok (.invokevirtual 202, 3) := by decide +kernel
theorem dX12_takesSign_5 : decode cX12_takesSign 5 = .ok (.ifCond .eq 10, 3) := by decide +kernel
theorem dX12_takesSign_8 : decode cX12_takesSign 8 = .ok (.aload_n 0, 1) := by decide +kernel
theorem dX12_takesSign_9 : decode cX12_takesSign 9 = .ok (.invokevirtual 205, 3) := by decide +kernel
theorem dX12_takesSign_12 : decode cX12_takesSign 12 = .ok (.goto 7, 3) := by decide +kernel
theorem dX12_takesSign_15 : decode cX12_takesSign 15 = .ok (.aload_n 0, 1) := by decide +kernel
theorem dX12_takesSign_16 : decode cX12_takesSign 16 = .ok (.invokevirtual 208, 3) := by decide +kernel
theorem dX12_takesSign_19 : decode cX12_takesSign 19 = .ok (.return_, 1) := by decide +kernel
theorem dX12_takesWord_0 : decode cX12_takesWord 0 = .ok (.aload_n 0, 1) := by decide +kernel
theorem dX12_takesWord_1 : decode cX12_takesWord 1 = .ok (.iload_n 1, 1) := by decide +kernel
theorem dX12_takesWord_2 : decode cX12_takesWord 2 = .ok (.invokevirtual 211, 3) := by decide +kernel
theorem dX12_takesWord_5 : decode cX12_takesWord 5 = .ok (.ifCond .eq 10, 3) := by decide +kernel
theorem dX12_takesWord_8 : decode cX12_takesWord 8 = .ok (.aload_n 0, 1) := by decide +kernel
theorem dX12_takesWord_9 : decode cX12_takesWord 9 = .ok (.invokevirtual 205, 3) := by decide +kernel
theorem dX12_takesWord_12 : decode cX12_takesWord 12 = .ok (.goto 7, 3) := by decide +kernel
theorem dX12_takesWord_15 : decode cX12_takesWord 15 = .ok (.aload_n 0, 1) := by decide +kernel
theorem dX12_takesWord_16 : decode cX12_takesWord 16 = .ok (.invokevirtual 208, 3) := by decide +kernel
theorem dX12_takesWord_19 : decode cX12_takesWord 19 = .ok (.return_, 1) := by decide +kernel
theorem dX12_takesNumber_0 : decode cX12_takesNumber 0 = .ok (.aload_n 0, 1) := by decide +kernel
theorem dX12_takesNumber_1 : decode cX12_takesNumber 1 = .ok (.invokevirtual 198, 3) := by decide +kernel
theorem dX12_takesNumber_4 : decode cX12_takesNumber 4 = .ok (.ifCond .eq 23, 3) := by decide +kernel
theorem dX12_takesNumber_7 : decode cX12_takesNumber 7 = .ok (.aload_n 0, 1) := by decide +kernel
theorem dX12_takesNumber_8 : decode cX12_takesNumber 8 = .ok (.getfield 186, 3) := by decide +kernel
theorem dX12_takesNumber_11 : decode cX12_takesNumber 11 = .ok (.iconst 2, 1) := by decide +kernel
theorem dX12_takesNumber_12 : decode cX12_takesNumber 12 = .ok (.if_icmp .ne 15, 3) := by decide +kernel
theorem dX12_takesNumber_15 : decode cX12_takesNumber 15 = .ok (.aload_n 0, 1) := by decide +kernel
theorem dX12_takesNumber_16 : decode cX12_takesNumber 16 = .ok (.getfield 192, 3) := by decide +kernel
theorem dX12_takesNumber_19 : decode cX12_takesNumber 19 = .ok (.iload_n 1, 1) := by decide +kernel
theorem dX12_takesNumber_20 : decode cX12_takesNumber 20 = .ok (.iload_n 2, 1) := by decide +kernel
theorem dX12_takesNumber_21 : decode cX12_takesNumber 21 = .ok (.invokestatic 84, 3) := by decide +kernel
theorem dX12_takesNumber_24 : decode cX12_takesNumber 24 = .ok (.ifCond .ne 9, 3) := by decide +kernel
theorem dX12_takesNumber_27 : decode cX12_takesNumber 27 = .ok (.aload_n 0, 1) := by decide +kernel
theorem dX12_takesNumber_28 : decode cX12_takesNumber 28 = .ok (.invokevirtual 208, 3) := by decide +kernel
theorem dX12_takesNumber_31 : decode cX12_takesNumber 31 = .ok (.iconst 0, 1) := by decide +kernel
theorem dX12_takesNumber_32 : decode cX12_takesNumber 32 = .ok (.ireturn, 1) := by decide +kernel
theorem dX12_takesNumber_33 : decode cX12_takesNumber 33 = .ok (.aload_n 0, 1) := by decide +kernel
theorem dX12_takesNumber_34 : decode cX12_takesNumber 34 = .ok (.getfield 192, 3) := by decide +kernel
theorem dX12_takesNumber_37 : decode cX12_takesNumber 37 = .ok (.istore_n 3, 1) := by decide +kernel
theorem dX12_takesNumber_38 : decode cX12_takesNumber 38 = .ok (.aload_n 0, 1) := by decide +kernel
theorem dX12_takesNumber_39 : decode cX12_takesNumber 39 = .ok (.invokevirtual 205, 3) := by decide +kernel
theorem dX12_takesNumber_42 : decode cX12_takesNumber 42 = .ok (.iload_n 3, 1) := by decide +kernel
theorem dX12_takesNumber_43 : decode cX12_takesNumber 43 = .ok (.ireturn, 1) := by decide +kernel
theorem dX12_readsRule_0 : decode cX12_readsRule 0 = .ok (.aload_n 0, 1) := by decide +kernel
theorem dX12_readsRule_1 : decode cX12_readsRule 1 = .ok (.iconst 0, 1) := by decide +kernel
theorem dX12_readsRule_2 : decode cX12_readsRule 2 = .ok (.invokevirtual 214, 3) := by decide +kernel
theorem dX12_readsRule_5 : decode cX12_readsRule 5 = .ok (.aload_n 0, 1) := by decide +kernel
theorem dX12_readsRule_6 : decode cX12_readsRule 6 = .ok (.getfield 74, 3) := by decide +kernel
theorem dX12_readsRule_9 : decode cX12_readsRule 9 = .ok (.iload_n 1, 1) := by decide +kernel
theorem dX12_readsRule_10 : decode cX12_readsRule 10 = .ok (.aload_n 0, 1) := by decide +kernel
theorem dX12_readsRule_11 : decode cX12_readsRule 11 = .ok (.iconst 0, 1) := by decide +kernel
theorem dX12_readsRule_12 : decode cX12_readsRule 12 = .ok (.iconst 2, 1) := by decide +kernel
theorem dX12_readsRule_13 : decode cX12_readsRule 13 = .ok (.invokevirtual 218, 3) := by decide +kernel
theorem dX12_readsRule_16 : decode cX12_readsRule 16 = .ok (.iastore, 1) := by decide +kernel
theorem dX12_readsRule_17 : decode cX12_readsRule 17 = .ok (.aload_n 0, 1) := by decide +kernel
theorem dX12_readsRule_18 : decode cX12_readsRule 18 = .ok (.bipush 62, 2) := by decide +kernel
theorem dX12_readsRule_20 : decode cX12_readsRule 20 = .ok (.invokevirtual 221, 3) := by decide +kernel
theorem dX12_readsRule_23 : decode cX12_readsRule 23 = .ok (.aload_n 0, 1) := by decide +kernel
theorem dX12_readsRule_24 : decode cX12_readsRule 24 = .ok (.getfield 74, 3) := by decide +kernel
theorem dX12_readsRule_27 : decode cX12_readsRule 27 = .ok (.iload_n 1, 1) := by decide +kernel
theorem dX12_readsRule_28 : decode cX12_readsRule 28 = .ok (.iconst 1, 1) := by decide +kernel
theorem dX12_readsRule_29 : decode cX12_readsRule 29 = .ok (.iadd, 1) := by decide +kernel
theorem dX12_readsRule_30 : decode cX12_readsRule 30 = .ok (.aload_n 0, 1) := by decide +kernel
theorem dX12_readsRule_31 : decode cX12_readsRule 31 = .ok (.iconst 0, 1) := by decide +kernel
theorem dX12_readsRule_32 : decode cX12_readsRule 32 = .ok (.iconst 2, 1) := by decide +kernel
theorem dX12_readsRule_33 : decode cX12_readsRule 33 = .ok (.invokevirtual 218, 3) := by decide +kernel
theorem dX12_readsRule_36 : decode cX12_readsRule 36 = .ok (.iastore, 1) := by decide +kernel
theorem dX12_readsRule_37 : decode cX12_readsRule 37 = .ok (.aload_n 0, 1) := by decide +kernel
theorem dX12_readsRule_38 : decode cX12_readsRule 38 = .ok (.bipush 44, 2) := by decide +kernel
theorem dX12_readsRule_40 : decode cX12_readsRule 40 = .ok (.invokevirtual 221, 3) := by decide +kernel
theorem dX12_readsRule_43 : decode cX12_readsRule 43 = .ok (.aload_n 0, 1) := by decide +kernel
theorem dX12_readsRule_44 : decode cX12_readsRule 44 = .ok (.getfield 74, 3) := by decide +kernel
theorem dX12_readsRule_47 : decode cX12_readsRule 47 = .ok (.iload_n 1, 1) := by decide +kernel
theorem dX12_readsRule_48 : decode cX12_readsRule 48 = .ok (.iconst 2, 1) := by decide +kernel
theorem dX12_readsRule_49 : decode cX12_readsRule 49 = .ok (.iadd, 1) := by decide +kernel
theorem dX12_readsRule_50 : decode cX12_readsRule 50 = .ok (.aload_n 0, 1) := by decide +kernel
theorem dX12_readsRule_51 : decode cX12_readsRule 51 = .ok (.iconst 0, 1) := by decide +kernel
theorem dX12_readsRule_52 : decode cX12_readsRule 52 = .ok (.sipush 999, 3) := by decide +kernel
theorem dX12_readsRule_55 : decode cX12_readsRule 55 = .ok (.invokevirtual 218, 3) := by decide +kernel
theorem dX12_readsRule_58 : decode cX12_readsRule 58 = .ok (.iastore, 1) := by decide +kernel
theorem dX12_readsRule_59 : decode cX12_readsRule 59 = .ok (.aload_n 0, 1) := by decide +kernel
theorem dX12_readsRule_60 : decode cX12_readsRule 60 = .ok (.bipush 45, 2) := by decide +kernel
theorem dX12_readsRule_62 : decode cX12_readsRule 62 = .ok (.invokevirtual 221, 3) := by decide +kernel
theorem dX12_readsRule_65 : decode cX12_readsRule 65 = .ok (.aload_n 0, 1) := by decide +kernel
theorem dX12_readsRule_66 : decode cX12_readsRule 66 = .ok (.getfield 74, 3) := by decide +kernel
theorem dX12_readsRule_69 : decode cX12_readsRule 69 = .ok (.iload_n 1, 1) := by decide +kernel
theorem dX12_readsRule_70 : decode cX12_readsRule 70 = .ok (.iconst 3, 1) := by decide +kernel
theorem dX12_readsRule_71 : decode cX12_readsRule 71 = .ok (.iadd, 1) := by decide +kernel
theorem dX12_readsRule_72 : decode cX12_readsRule 72 = .ok (.aload_n 0, 1) := by decide +kernel
theorem dX12_readsRule_73 : decode cX12_readsRule 73 = .ok (.aload_n 0, 1) := by decide +kernel
theorem dX12_readsRule_74 : decode cX12_readsRule 74 = .ok (.getfield 74, 3) := by decide +kernel
theorem dX12_readsRule_77 : decode cX12_readsRule 77 = .ok (.iload_n 1, 1) := by decide +kernel
theorem dX12_readsRule_78 : decode cX12_readsRule 78 = .ok (.iconst 2, 1) := by decide +kernel
theorem dX12_readsRule_79 : decode cX12_readsRule 79 = .ok (.iadd, 1) := by decide +kernel
theorem dX12_readsRule_80 : decode cX12_readsRule 80 = .ok (.iaload, 1) := by decide +kernel
theorem dX12_readsRule_81 : decode cX12_readsRule 81 = .ok (.sipush 999, 3) := by decide +kernel
theorem dX12_readsRule_84 : decode cX12_readsRule 84 = .ok (.invokevirtual 218, 3) := by decide +kernel
theorem dX12_readsRule_87 : decode cX12_readsRule 87 = .ok (.iastore, 1) := by decide +kernel
theorem dX12_readsRule_88 : decode cX12_readsRule 88 = .ok (.aload_n 0, 1) := by decide +kernel
theorem dX12_readsRule_89 : decode cX12_readsRule 89 = .ok (.bipush 58, 2) := by decide +kernel
theorem dX12_readsRule_91 : decode cX12_readsRule 91 = .ok (.invokevirtual 221, 3) := by decide +kernel
theorem dX12_readsRule_94 : decode cX12_readsRule 94 = .ok (.aload_n 0, 1) := by decide +kernel
theorem dX12_readsRule_95 : decode cX12_readsRule 95 = .ok (.getfield 74, 3) := by decide +kernel
theorem dX12_readsRule_98 : decode cX12_readsRule 98 = .ok (.iload_n 1, 1) := by decide +kernel
theorem dX12_readsRule_99 : decode cX12_readsRule 99 = .ok (.iconst 4, 1) := by decide +kernel
theorem dX12_readsRule_100 : decode cX12_readsRule 100 = .ok (.iadd, 1) := by decide +kernel
theorem dX12_readsRule_101 : decode cX12_readsRule 101 = .ok (.aload_n 0, 1) := by decide +kernel
theorem dX12_readsRule_102 : decode cX12_readsRule 102 = .ok (.iconst 0, 1) := by decide +kernel
theorem dX12_readsRule_103 : decode cX12_readsRule 103 = .ok (.sipush 999, 3) := by decide +kernel
theorem dX12_readsRule_106 : decode cX12_readsRule 106 = .ok (.invokevirtual 218, 3) := by decide +kernel
theorem dX12_readsRule_109 : decode cX12_readsRule 109 = .ok (.iastore, 1) := by decide +kernel
theorem dX12_readsRule_110 : decode cX12_readsRule 110 = .ok (.aload_n 0, 1) := by decide +kernel
theorem dX12_readsRule_111 : decode cX12_readsRule 111 = .ok (.iconst 1, 1) := by decide +kernel
theorem dX12_readsRule_112 : decode cX12_readsRule 112 = .ok (.invokevirtual 214, 3) := by decide +kernel
theorem dX12_readsRule_115 : decode cX12_readsRule 115 = .ok (.aload_n 0, 1) := by decide +kernel
theorem dX12_readsRule_116 : decode cX12_readsRule 116 = .ok (.getfield 74, 3) := by decide +kernel
theorem dX12_readsRule_119 : decode cX12_readsRule 119 = .ok (.iload_n 1, 1) := by decide +kernel
theorem dX12_readsRule_120 : decode cX12_readsRule 120 = .ok (.iconst 5, 1) := by decide +kernel
theorem dX12_readsRule_121 : decode cX12_readsRule 121 = .ok (.iadd, 1) := by decide +kernel
theorem dX12_readsRule_122 : decode cX12_readsRule 122 = .ok (.aload_n 0, 1) := by decide +kernel
theorem dX12_readsRule_123 : decode cX12_readsRule 123 = .ok (.iconst 1, 1) := by decide +kernel
theorem dX12_readsRule_124 : decode cX12_readsRule 124 = .ok (.sipush 500, 3) := by decide +kernel
theorem dX12_readsRule_127 : decode cX12_readsRule 127 = .ok (.invokevirtual 218, 3) := by decide +kernel
theorem dX12_readsRule_130 : decode cX12_readsRule 130 = .ok (.iastore, 1) := by decide +kernel
theorem dX12_readsRule_131 : decode cX12_readsRule 131 = .ok (.aload_n 0, 1) := by decide +kernel
theorem dX12_readsRule_132 : decode cX12_readsRule 132 = .ok (.getfield 74, 3) := by decide +kernel
theorem dX12_readsRule_135 : decode cX12_readsRule 135 = .ok (.iload_n 1, 1) := by decide +kernel
theorem dX12_readsRule_136 : decode cX12_readsRule 136 = .ok (.bipush 6, 2) := by decide +kernel
theorem dX12_readsRule_138 : decode cX12_readsRule 138 = .ok (.iadd, 1) := by decide +kernel
theorem dX12_readsRule_139 : decode cX12_readsRule 139 = .ok (.iconst 0, 1) := by decide +kernel
theorem dX12_readsRule_140 : decode cX12_readsRule 140 = .ok (.iastore, 1) := by decide +kernel
theorem dX12_readsRule_141 : decode cX12_readsRule 141 = .ok (.aload_n 0, 1) := by decide +kernel
theorem dX12_readsRule_142 : decode cX12_readsRule 142 = .ok (.bipush 43, 2) := by decide +kernel
theorem dX12_readsRule_144 : decode cX12_readsRule 144 = .ok (.invokevirtual 202, 3) := by decide +kernel
theorem dX12_readsRule_147 : decode cX12_readsRule 147 = .ok (.ifCond .eq 24, 3) := by decide +kernel
theorem dX12_readsRule_150 : decode cX12_readsRule 150 = .ok (.aload_n 0, 1) := by decide +kernel
theorem dX12_readsRule_151 : decode cX12_readsRule 151 = .ok (.invokevirtual 205, 3) := by decide +kernel
theorem dX12_readsRule_154 : decode cX12_readsRule 154 = .ok (.aload_n 0, 1) := by decide +kernel
theorem dX12_readsRule_155 : decode cX12_readsRule 155 = .ok (.getfield 74, 3) := by decide +kernel
theorem dX12_readsRule_158 : decode cX12_readsRule 158 = .ok (.iload_n 1, 1) := by decide +kernel
theorem dX12_readsRule_159 : decode cX12_readsRule 159 = .ok (.bipush 6, 2) := by decide +kernel
theorem dX12_readsRule_161 : decode cX12_readsRule 161 = .ok (.iadd, 1) := by decide +kernel
theorem dX12_readsRule_162 : decode cX12_readsRule 162 = .ok (.aload_n 0, 1) := by decide +kernel
theorem dX12_readsRule_163 : decode cX12_readsRule 163 = .ok (.iconst 0, 1) := by decide +kernel
theorem dX12_readsRule_164 : decode cX12_readsRule 164 = .ok (.sipush 999, 3) := by decide +kernel
theorem dX12_readsRule_167 : decode cX12_readsRule 167 = .ok (.invokevirtual 218, 3) := by decide +kernel
theorem dX12_readsRule_170 : decode cX12_readsRule 170 = .ok (.iastore, 1) := by decide +kernel
theorem dX12_readsRule_171 : decode cX12_readsRule 171 = .ok (.aload_n 0, 1) := by decide +kernel
theorem dX12_readsRule_172 : decode cX12_readsRule 172 = .ok (.getfield 74, 3) := by decide +kernel
theorem dX12_readsRule_175 : decode cX12_readsRule 175 = .ok (.iload_n 1, 1) := by decide +kernel
theorem dX12_readsRule_176 : decode cX12_readsRule 176 = .ok (.bipush 7, 2) := by decide +kernel
theorem dX12_readsRule_178 : decode cX12_readsRule 178 = .ok (.iadd, 1) := by decide +kernel
theorem dX12_readsRule_179 : decode cX12_readsRule 179 = .ok (.iconst 1, 1) := by decide +kernel
theorem dX12_readsRule_180 : decode cX12_readsRule 180 = .ok (.iastore, 1) := by decide +kernel
theorem dX12_readsRule_181 : decode cX12_readsRule 181 = .ok (.aload_n 0, 1) := by decide +kernel
theorem dX12_readsRule_182 : decode cX12_readsRule 182 = .ok (.getfield 74, 3) := by decide +kernel
theorem dX12_readsRule_185 : decode cX12_readsRule 185 = .ok (.iload_n 1, 1) := by decide +kernel
theorem dX12_readsRule_186 : decode cX12_readsRule 186 = .ok (.bipush 8, 2) := by decide +kernel
theorem dX12_readsRule_188 : decode cX12_readsRule 188 = .ok (.iadd, 1) := by decide +kernel
theorem dX12_readsRule_189 : decode cX12_readsRule 189 = .ok (.iconst 1, 1) := by decide +kernel
theorem dX12_readsRule_190 : decode cX12_readsRule 190 = .ok (.iastore, 1) := by decide +kernel
theorem dX12_readsRule_191 : decode cX12_readsRule 191 = .ok (.aload_n 0, 1) := by decide +kernel
theorem dX12_readsRule_192 : decode cX12_readsRule 192 = .ok (.iconst 2, 1) := by decide +kernel
theorem dX12_readsRule_193 : decode cX12_readsRule 193 = .ok (.invokevirtual 211, 3) := by decide +kernel
theorem dX12_readsRule_196 : decode cX12_readsRule 196 = .ok (.ifCond .eq 70, 3) := by decide +kernel
theorem dX12_readsRule_199 : decode cX12_readsRule 199 = .ok (.aload_n 0, 1) := by decide +kernel
theorem dX12_readsRule_200 : decode cX12_readsRule 200 = .ok (.invokevirtual 205, 3) := by decide +kernel
theorem dX12_readsRule_203 : decode cX12_readsRule 203 = .ok (.aload_n 0, 1) := by decide +kernel
theorem dX12_readsRule_204 : decode cX12_readsRule 204 = .ok (.getfield 74, 3) := by decide +kernel
theorem dX12_readsRule_207 : decode cX12_readsRule 207 = .ok (.iload_n 1, 1) := by decide +kernel
theorem dX12_readsRule_208 : decode cX12_readsRule 208 = .ok (.bipush 7, 2) := by decide +kernel
theorem dX12_readsRule_210 : decode cX12_readsRule 210 = .ok (.iadd, 1) := by decide +kernel
theorem dX12_readsRule_211 : decode cX12_readsRule 211 = .ok (.aload_n 0, 1) := by decide +kernel
theorem dX12_readsRule_212 : decode cX12_readsRule 212 = .ok (.iconst 0, 1) := by decide +kernel
theorem dX12_readsRule_213 : decode cX12_readsRule 213 = .ok (.bipush 99, 2) := by decide +kernel
theorem dX12_readsRule_215 : decode cX12_readsRule 215 = .ok (.invokevirtual 218, 3) := by decide +kernel
theorem dX12_readsRule_218 : decode cX12_readsRule 218 = .ok (.iastore, 1) := by decide +kernel
theorem dX12_readsRule_219 : decode cX12_readsRule 219 = .ok (.aload_n 0, 1) := by decide +kernel
theorem dX12_readsRule_220 : decode cX12_readsRule 220 = .ok (.bipush 47, 2) := by decide +kernel
theorem dX12_readsRule_222 : decode cX12_readsRule 222 = .ok (.invokevirtual 221, 3) := by decide +kernel
theorem dX12_readsRule_225 : decode cX12_readsRule 225 = .ok (.aload_n 0, 1) := by decide +kernel
theorem dX12_readsRule_226 : decode cX12_readsRule 226 = .ok (.getfield 74, 3) := by decide +kernel
theorem dX12_readsRule_229 : decode cX12_readsRule 229 = .ok (.iload_n 1, 1) := by decide +kernel
theorem dX12_readsRule_230 : decode cX12_readsRule 230 = .ok (.bipush 8, 2) := by decide +kernel
theorem dX12_readsRule_232 : decode cX12_readsRule 232 = .ok (.iadd, 1) := by decide +kernel
theorem dX12_readsRule_233 : decode cX12_readsRule 233 = .ok (.aload_n 0, 1) := by decide +kernel
theorem dX12_readsRule_234 : decode cX12_readsRule 234 = .ok (.aload_n 0, 1) := by decide +kernel
theorem dX12_readsRule_235 : decode cX12_readsRule 235 = .ok (.getfield 74, 3) := by decide +kernel
theorem dX12_readsRule_238 : decode cX12_readsRule 238 = .ok (.iload_n 1, 1) := by decide +kernel
theorem dX12_readsRule_239 : decode cX12_readsRule 239 = .ok (.bipush 7, 2) := by decide +kernel
theorem dX12_readsRule_241 : decode cX12_readsRule 241 = .ok (.iadd, 1) := by decide +kernel
theorem dX12_readsRule_242 : decode cX12_readsRule 242 = .ok (.iaload, 1) := by decide +kernel
theorem dX12_readsRule_243 : decode cX12_readsRule 243 = .ok (.iconst 1, 1) := by decide +kernel
theorem dX12_readsRule_244 : decode cX12_readsRule 244 = .ok (.if_icmp .ge 7, 3) := by decide +kernel
theorem dX12_readsRule_247 : decode cX12_readsRule 247 = .ok (.iconst 1, 1) := by decide +kernel
theorem dX12_readsRule_248 : decode cX12_readsRule 248 = .ok (.goto 12, 3) := by decide +kernel
theorem dX12_readsRule_251 : decode cX12_readsRule 251 = .ok (.aload_n 0, 1) := by decide +kernel
theorem dX12_readsRule_252 : decode cX12_readsRule 252 = .ok (.getfield 74, 3) := by decide +kernel
theorem dX12_readsRule_255 : decode cX12_readsRule 255 = .ok (.iload_n 1, 1) := by decide +kernel
theorem dX12_readsRule_256 : decode cX12_readsRule 256 = .ok (.bipush 7, 2) := by decide +kernel
theorem dX12_readsRule_258 : decode cX12_readsRule 258 = .ok (.iadd, 1) := by decide +kernel
theorem dX12_readsRule_259 : decode cX12_readsRule 259 = .ok (.iaload, 1) := by decide +kernel
theorem dX12_readsRule_260 : decode cX12_readsRule 260 = .ok (.bipush 99, 2) := by decide +kernel
theorem dX12_readsRule_262 : decode cX12_readsRule 262 = .ok (.invokevirtual 218, 3) := by decide +kernel
theorem dX12_readsRule_265 : decode cX12_readsRule 265 = .ok (.iastore, 1) := by decide +kernel
theorem dX12_readsRule_266 : decode cX12_readsRule 266 = .ok (.aload_n 0, 1) := by decide +kernel
theorem dX12_readsRule_267 : decode cX12_readsRule 267 = .ok (.getfield 74, 3) := by decide +kernel
theorem dX12_readsRule_270 : decode cX12_readsRule 270 = .ok (.iload_n 1, 1) := by decide +kernel
theorem dX12_readsRule_271 : decode cX12_readsRule 271 = .ok (.bipush 9, 2) := by decide +kernel
theorem dX12_readsRule_273 : decode cX12_readsRule 273 = .ok (.iadd, 1) := by decide +kernel
theorem dX12_readsRule_274 : decode cX12_readsRule 274 = .ok (.iconst 0, 1) := by decide +kernel
theorem dX12_readsRule_275 : decode cX12_readsRule 275 = .ok (.iastore, 1) := by decide +kernel
theorem dX12_readsRule_276 : decode cX12_readsRule 276 = .ok (.aload_n 0, 1) := by decide +kernel
theorem dX12_readsRule_277 : decode cX12_readsRule 277 = .ok (.iconst 3, 1) := by decide +kernel
theorem dX12_readsRule_278 : decode cX12_readsRule 278 = .ok (.invokevirtual 211, 3) := by decide +kernel
theorem dX12_readsRule_281 : decode cX12_readsRule 281 = .ok (.ifCond .eq 17, 3) := by decide +kernel
theorem dX12_readsRule_284 : decode cX12_readsRule 284 = .ok (.aload_n 0, 1) := by decide +kernel
theorem dX12_readsRule_285 : decode cX12_readsRule 285 = .ok (.invokevirtual 205, 3) := by decide +kernel
theorem dX12_readsRule_288 : decode cX12_readsRule 288 = .ok (.aload_n 0, 1) := by decide +kernel
theorem dX12_readsRule_289 : decode cX12_readsRule 289 = .ok (.getfield 74, 3) := by decide +kernel
theorem dX12_readsRule_292 : decode cX12_readsRule 292 = .ok (.iload_n 1, 1) := by decide +kernel
theorem dX12_readsRule_293 : decode cX12_readsRule 293 = .ok (.bipush 9, 2) := by decide +kernel
theorem dX12_readsRule_295 : decode cX12_readsRule 295 = .ok (.iadd, 1) := by decide +kernel
theorem dX12_readsRule_296 : decode cX12_readsRule 296 = .ok (.iconst 1, 1) := by decide +kernel
theorem dX12_readsRule_297 : decode cX12_readsRule 297 = .ok (.iastore, 1) := by decide +kernel
theorem dX12_readsRule_298 : decode cX12_readsRule 298 = .ok (.aload_n 0, 1) := by decide +kernel
theorem dX12_readsRule_299 : decode cX12_readsRule 299 = .ok (.bipush 59, 2) := by decide +kernel
theorem dX12_readsRule_301 : decode cX12_readsRule 301 = .ok (.invokevirtual 221, 3) := by decide +kernel
theorem dX12_readsRule_304 : decode cX12_readsRule 304 = .ok (.return_, 1) := by decide +kernel
theorem dX12_rates_0 : decode cX12_rates 0 = .ok (.aload_n 0, 1) := by decide +kernel
theorem dX12_rates_1 : decode cX12_rates 1 = .ok (.iconst 0, 1) := by decide +kernel
theorem dX12_rates_2 : decode cX12_rates 2 = .ok (.putfield 80, 3) := by decide +kernel
theorem dX12_rates_5 : decode cX12_rates 5 = .ok (.aload_n 0, 1) := by decide +kernel
theorem dX12_rates_6 : decode cX12_rates 6 = .ok (.iconst (-1), 1) := by decide +kernel
theorem dX12_rates_7 : decode cX12_rates 7 = .ok (.putfield 195, 3) := by decide +kernel
theorem dX12_rates_10 : decode cX12_rates 10 = .ok (.aload_n 0, 1) := by decide +kernel
theorem dX12_rates_11 : decode cX12_rates 11 = .ok (.iconst 0, 1) := by decide +kernel
theorem dX12_rates_12 : decode cX12_rates 12 = .ok (.putfield 177, 3) := by decide +kernel
theorem dX12_rates_15 : decode cX12_rates 15 = .ok (.aload_n 0, 1) := by decide +kernel
theorem dX12_rates_16 : decode cX12_rates 16 = .ok (.iconst 0, 1) := by decide +kernel
theorem dX12_rates_17 : decode cX12_rates 17 = .ok (.putfield 224, 3) := by decide +kernel
theorem dX12_rates_20 : decode cX12_rates 20 = .ok (.aload_n 0, 1) := by decide +kernel
theorem dX12_rates_21 : decode cX12_rates 21 = .ok (.invokevirtual 205, 3) := by decide +kernel
theorem dX12_rates_24 : decode cX12_rates 24 = .ok (.aload_n 0, 1) := by decide +kernel
theorem dX12_rates_25 : decode cX12_rates 25 = .ok (.invokevirtual 198, 3) := by decide +kernel
theorem dX12_rates_28 : decode cX12_rates 28 = .ok (.ifCond .eq 53, 3) := by decide +kernel
theorem dX12_rates_31 : decode cX12_rates 31 = .ok (.aload_n 0, 1) := by decide +kernel
theorem dX12_rates_32 : decode cX12_rates 32 = .ok (.getfield 186, 3) := by decide +kernel
theorem dX12_rates_35 : decode cX12_rates 35 = .ok (.ifCond .eq 46, 3) := by decide +kernel
theorem dX12_rates_38 : decode cX12_rates 38 = .ok (.aload_n 0, 1) := by decide +kernel
theorem dX12_rates_39 : decode cX12_rates 39 = .ok (.getfield 224, 3) := by decide +kernel
theorem dX12_rates_42 : decode cX12_rates 42 = .ok (.bipush 12, 2) := by decide +kernel
theorem dX12_rates_44 : decode cX12_rates 44 = .ok (.if_icmp .ne 10, 3) := by decide +kernel
theorem dX12_rates_47 : decode cX12_rates 47 = .ok (.aload_n 0, 1) := by decide +kernel
theorem dX12_rates_48 : decode cX12_rates 48 = .ok (.invokevirtual 208, 3) := by decide +kernel
theorem dX12_rates_51 : decode cX12_rates 51 = .ok (.goto (-27), 3) := by decide +kernel
theorem dX12_rates_54 : decode cX12_rates 54 = .ok (.aload_n 0, 1) := by decide +kernel
theorem dX12_rates_55 : decode cX12_rates 55 = .ok (.bipush 120, 2) := by decide +kernel
theorem dX12_rates_57 : decode cX12_rates 57 = .ok (.bipush 10, 2) := by decide +kernel
theorem dX12_rates_59 : decode cX12_rates 59 = .ok (.aload_n 0, 1) := by decide +kernel
theorem dX12_rates_60 : decode cX12_rates 60 = .ok (.getfield 224, 3) := by decide +kernel
theorem dX12_rates_63 : decode cX12_rates 63 = .ok (.imul, 1) := by decide +kernel
theorem dX12_rates_64 : decode cX12_rates 64 = .ok (.iadd, 1) := by decide +kernel
theorem dX12_rates_65 : decode cX12_rates 65 = .ok (.invokevirtual 227, 3) := by decide +kernel
theorem dX12_rates_68 : decode cX12_rates 68 = .ok (.aload_n 0, 1) := by decide +kernel
theorem dX12_rates_69 : decode cX12_rates 69 = .ok (.dup, 1) := by decide +kernel
theorem dX12_rates_70 : decode cX12_rates 70 = .ok (.getfield 224, 3) := by decide +kernel
theorem dX12_rates_73 : decode cX12_rates 73 = .ok (.iconst 1, 1) := by decide +kernel
theorem dX12_rates_74 : decode cX12_rates 74 = .ok (.iadd, 1) := by decide +kernel
theorem dX12_rates_75 : decode cX12_rates 75 = .ok (.putfield 224, 3) := by decide +kernel
theorem dX12_rates_78 : decode cX12_rates 78 = .ok (.goto (-54), 3) := by decide +kernel
theorem dX12_rates_81 : decode cX12_rates 81 = .ok (.aload_n 0, 1) := by decide +kernel
theorem dX12_rates_82 : decode cX12_rates 82 = .ok (.invokevirtual 198, 3) := by decide +kernel
theorem dX12_rates_85 : decode cX12_rates 85 = .ok (.ifCond .ne 11, 3) := by decide +kernel
theorem dX12_rates_88 : decode cX12_rates 88 = .ok (.bipush (-10), 2) := by decide +kernel
theorem dX12_rates_90 : decode cX12_rates 90 = .ok (.aload_n 0, 1) := by decide +kernel
theorem dX12_rates_91 : decode cX12_rates 91 = .ok (.getfield 195, 3) := by decide +kernel
theorem dX12_rates_94 : decode cX12_rates 94 = .ok (.isub, 1) := by decide +kernel
theorem dX12_rates_95 : decode cX12_rates 95 = .ok (.ireturn, 1) := by decide +kernel
theorem dX12_rates_96 : decode cX12_rates 96 = .ok (.iconst 0, 1) := by decide +kernel
theorem dX12_rates_97 : decode cX12_rates 97 = .ok (.istore_n 1, 1) := by decide +kernel
theorem dX12_rates_98 : decode cX12_rates 98 = .ok (.iload_n 1, 1) := by decide +kernel
theorem dX12_rates_99 : decode cX12_rates 99 = .ok (.bipush 120, 2) := by decide +kernel
theorem dX12_rates_101 : decode cX12_rates 101 = .ok (.if_icmp .ge 24, 3) := by decide +kernel
theorem dX12_rates_104 : decode cX12_rates 104 = .ok (.aload_n 0, 1) := by decide +kernel
theorem dX12_rates_105 : decode cX12_rates 105 = .ok (.getfield 74, 3) := by decide +kernel
theorem dX12_rates_108 : decode cX12_rates 108 = .ok (.iload_n 1, 1) := by decide +kernel
theorem dX12_rates_109 : decode cX12_rates 109 = .ok (.aload_n 0, 1) := by decide +kernel
theorem dX12_rates_110 : decode cX12_rates 110 = .ok (.getfield 74, 3) := by decide +kernel
theorem dX12_rates_113 : decode cX12_rates 113 = .ok (.bipush 120, 2) := by decide +kernel
theorem dX12_rates_115 : decode cX12_rates 115 = .ok (.iload_n 1, 1) := by decide +kernel
theorem dX12_rates_116 : decode cX12_rates 116 = .ok (.iadd, 1) := by decide +kernel
theorem dX12_rates_117 : decode cX12_rates 117 = .ok (.iaload, 1) := by decide +kernel
theorem dX12_rates_118 : decode cX12_rates 118 = .ok (.iastore, 1) := by decide +kernel
theorem dX12_rates_119 : decode cX12_rates 119 = .ok (.iinc 1 1, 3) := by decide +kernel
theorem dX12_rates_122 : decode cX12_rates 122 = .ok (.goto (-24), 3) := by decide +kernel
theorem dX12_rates_125 : decode cX12_rates 125 = .ok (.aload_n 0, 1) := by decide +kernel
theorem dX12_rates_126 : decode cX12_rates 126 = .ok (.aload_n 0, 1) := by decide +kernel
theorem dX12_rates_127 : decode cX12_rates 127 = .ok (.getfield 224, 3) := by decide +kernel
theorem dX12_rates_130 : decode cX12_rates 130 = .ok (.putfield 230, 3) := by decide +kernel
theorem dX12_rates_133 : decode cX12_rates 133 = .ok (.aload_n 0, 1) := by decide +kernel
theorem dX12_rates_134 : decode cX12_rates 134 = .ok (.iconst 0, 1) := by decide +kernel
theorem dX12_rates_135 : decode cX12_rates 135 = .ok (.putfield 168, 3) := by decide +kernel
theorem dX12_rates_138 : decode cX12_rates 138 = .ok (.aload_n 0, 1) := by decide +kernel
theorem dX12_rates_139 : decode cX12_rates 139 = .ok (.getfield 230, 3) := by decide +kernel
theorem dX12_rates_142 : decode cX12_rates 142 = .ok (.ireturn, 1) := by decide +kernel
theorem dX12_ruleOf_0 : decode cX12_ruleOf 0 = .ok (.bipush (-9), 2) := by decide +kernel
theorem dX12_ruleOf_2 : decode cX12_ruleOf 2 = .ok (.istore 4, 2) := by decide +kernel
theorem dX12_ruleOf_4 : decode cX12_ruleOf 4 = .ok (.iconst 0, 1) := by decide +kernel
theorem dX12_ruleOf_5 : decode cX12_ruleOf 5 = .ok (.istore 5, 2) := by decide +kernel
theorem dX12_ruleOf_7 : decode cX12_ruleOf 7 = .ok (.iload 5, 2) := by decide +kernel
theorem dX12_ruleOf_9 : decode cX12_ruleOf 9 = .ok (.aload_n 0, 1) := by decide +kernel
theorem dX12_ruleOf_10 : decode cX12_ruleOf 10 = .ok (.getfield 230, 3) := by decide +kernel
theorem dX12_ruleOf_13 : decode cX12_ruleOf 13 = .ok (.if_icmp .ge 74, 3) := by decide +kernel
theorem dX12_ruleOf_16 : decode cX12_ruleOf 16 = .ok (.bipush 10, 2) := by decide +kernel
theorem dX12_ruleOf_18 : decode cX12_ruleOf 18 = .ok (.iload 5, 2) := by decide +kernel
theorem dX12_ruleOf_20 : decode cX12_ruleOf 20 = .ok (.imul, 1) := by decide +kernel
theorem dX12_ruleOf_21 : decode cX12_ruleOf 21 = .ok (.istore 6, 2) := by decide +kernel
theorem dX12_ruleOf_23 : decode cX12_ruleOf 23 = .ok (.aload_n 0, 1) := by decide +kernel
theorem dX12_ruleOf_24 : decode cX12_ruleOf 24 = .ok (.getfield 74, 3) := by decide +kernel
theorem dX12_ruleOf_27 : decode cX12_ruleOf 27 = .ok (.iload 6, 2) := by decide +kernel
theorem dX12_ruleOf_29 : decode cX12_ruleOf 29 = .ok (.iaload, 1) := by decide +kernel
theorem dX12_ruleOf_30 : decode cX12_ruleOf 30 = .ok (.iload_n 1, 1) := by decide +kernel
theorem dX12_ruleOf_31 : decode cX12_ruleOf 31 = .ok (.if_icmp .ne 46, 3) := by decide +kernel
theorem dX12_ruleOf_34 : decode cX12_ruleOf 34 = .ok (.aload_n 0, 1) := by decide +kernel
theorem dX12_ruleOf_35 : decode cX12_ruleOf 35 = .ok (.getfield 74, 3) := by decide +kernel
theorem dX12_ruleOf_38 : decode cX12_ruleOf 38 = .ok (.iload 6, 2) := by decide +kernel
theorem dX12_ruleOf_40 : decode cX12_ruleOf 40 = .ok (.iconst 1, 1) := by decide +kernel
theorem dX12_ruleOf_41 : decode cX12_ruleOf 41 = .ok (.iadd, 1) := by decide +kernel
theorem dX12_ruleOf_42 : decode cX12_ruleOf 42 = .ok (.iaload, 1) := by decide +kernel
theorem dX12_ruleOf_43 : decode cX12_ruleOf 43 = .ok (.iload_n 2, 1) := by decide +kernel
theorem dX12_ruleOf_44 : decode cX12_ruleOf 44 = .ok (.if_icmp .ne 33, 3) := by decide +kernel
theorem dX12_ruleOf_47 : decode cX12_ruleOf 47 = .ok (.iload_n 3, 1) := by decide +kernel
theorem dX12_ruleOf_48 : decode cX12_ruleOf 48 = .ok (.aload_n 0, 1) := by decide +kernel
theorem dX12_ruleOf_49 : decode cX12_ruleOf 49 = .ok (.getfield 74, 3) := by decide +kernel
theorem dX12_ruleOf_52 : decode cX12_ruleOf 52 = .ok (.iload 6, 2) := by decide +kernel
theorem dX12_ruleOf_54 : decode cX12_ruleOf 54 = .ok (.iconst 2, 1) := by decide +kernel
theorem dX12_ruleOf_55 : decode cX12_ruleOf 55 = .ok (.iadd, 1) := by decide +kernel
theorem dX12_ruleOf_56 : decode cX12_ruleOf 56 = .ok (.iaload, 1) := by decide +kernel
theorem dX12_ruleOf_57 : decode cX12_ruleOf 57 = .ok (.aload_n 0, 1) := by decide +kernel
theorem dX12_ruleOf_58 : decode cX12_ruleOf 58 = .ok (.getfield 74, 3) := by decide +kernel
theorem dX12_ruleOf_61 : decode cX12_ruleOf 61 = .ok (.iload 6, 2) := by decide +kernel
theorem dX12_ruleOf_63 : decode cX12_ruleOf 63 = .ok (.iconst 3, 1) := by decide +kernel
theorem dX12_ruleOf_64 : decode cX12_ruleOf 64 = .ok (.iadd, 1) := by decide +kernel
theorem dX12_ruleOf_65 : decode cX12_ruleOf 65 = .ok (.iaload, 1) := by decide +kernel
theorem dX12_ruleOf_66 : decode cX12_ruleOf 66 = .ok (.invokestatic 84, 3) := by decide +kernel
theorem dX12_ruleOf_69 : decode cX12_ruleOf 69 = .ok (.ifCond .eq 8, 3) := by decide +kernel
theorem dX12_ruleOf_72 : decode cX12_ruleOf 72 = .ok (.iload 5, 2) := by decide +kernel
theorem dX12_ruleOf_74 : decode cX12_ruleOf 74 = .ok (.goto 5, 3) := by decide +kernel
theorem dX12_ruleOf_77 : decode cX12_ruleOf 77 = .ok (.iload 4, 2) := by decide +kernel
theorem dX12_ruleOf_79 : decode cX12_ruleOf 79 = .ok (.istore 4, 2) := by decide +kernel
theorem dX12_ruleOf_81 : decode cX12_ruleOf 81 = .ok (.iinc 5 1, 3) := by decide +kernel
theorem dX12_ruleOf_84 : decode cX12_ruleOf 84 = .ok (.goto (-77), 3) := by decide +kernel
theorem dX12_ruleOf_87 : decode cX12_ruleOf 87 = .ok (.iload 4, 2) := by decide +kernel
theorem dX12_ruleOf_89 : decode cX12_ruleOf 89 = .ok (.ireturn, 1) := by decide +kernel
theorem dX12_owedBy_0 : decode cX12_owedBy 0 = .ok (.bipush 10, 2) := by decide +kernel
theorem dX12_owedBy_2 : decode cX12_owedBy 2 = .ok (.iload_n 1, 1) := by decide +kernel
theorem dX12_owedBy_3 : decode cX12_owedBy 3 = .ok (.imul, 1) := by decide +kernel
theorem dX12_owedBy_4 : decode cX12_owedBy 4 = .ok (.istore_n 3, 1) := by decide +kernel
theorem dX12_owedBy_5 : decode cX12_owedBy 5 = .ok (.iload_n 2, 1) := by decide +kernel
theorem dX12_owedBy_6 : decode cX12_owedBy 6 = .ok (.aload_n 0, 1) := by decide +kernel
theorem dX12_owedBy_7 : decode cX12_owedBy 7 = .ok (.getfield 74, 3) := by decide +kernel
theorem dX12_owedBy_10 : decode cX12_owedBy 10 = .ok (.iload_n 3, 1) := by decide +kernel
theorem dX12_owedBy_11 : decode cX12_owedBy 11 = .ok (.iconst 5, 1) := by decide +kernel
theorem dX12_owedBy_12 : decode cX12_owedBy 12 = .ok (.iadd, 1) := by decide +kernel
theorem dX12_owedBy_13 : decode cX12_owedBy 13 = .ok (.iaload, 1) := by decide +kernel
theorem dX12_owedBy_14 : decode cX12_owedBy 14 = .ok (.iadd, 1) := by decide +kernel
theorem dX12_owedBy_15 : decode cX12_owedBy 15 = .ok (.iconst 1, 1) := by decide +kernel
theorem dX12_owedBy_16 : decode cX12_owedBy 16 = .ok (.isub, 1) := by decide +kernel
theorem dX12_owedBy_17 : decode cX12_owedBy 17 = .ok (.aload_n 0, 1) := by decide +kernel
theorem dX12_owedBy_18 : decode cX12_owedBy 18 = .ok (.getfield 74, 3) := by decide +kernel
theorem dX12_owedBy_21 : decode cX12_owedBy 21 = .ok (.iload_n 3, 1) := by decide +kernel
theorem dX12_owedBy_22 : decode cX12_owedBy 22 = .ok (.iconst 5, 1) := by decide +kernel
theorem dX12_owedBy_23 : decode cX12_owedBy 23 = .ok (.iadd, 1) := by decide +kernel
theorem dX12_owedBy_24 : decode cX12_owedBy 24 = .ok (.iaload, 1) := by decide +kernel
theorem dX12_owedBy_25 : decode cX12_owedBy 25 = .ok (.idiv, 1) := by decide +kernel
theorem dX12_owedBy_26 : decode cX12_owedBy 26 = .ok (.istore 4, 2) := by decide +kernel
theorem dX12_owedBy_28 : decode cX12_owedBy 28 = .ok (.aload_n 0, 1) := by decide +kernel
theorem dX12_owedBy_29 : decode cX12_owedBy 29 = .ok (.getfield 74, 3) := by decide +kernel
theorem dX12_owedBy_32 : decode cX12_owedBy 32 = .ok (.iload_n 3, 1) := by decide +kernel
theorem dX12_owedBy_33 : decode cX12_owedBy 33 = .ok (.iconst 4, 1) := by decide +kernel
theorem dX12_owedBy_34 : decode cX12_owedBy 34 = .ok (.iadd, 1) := by decide +kernel
theorem dX12_owedBy_35 : decode cX12_owedBy 35 = .ok (.iaload, 1) := by decide +kernel
theorem dX12_owedBy_36 : decode cX12_owedBy 36 = .ok (.iload 4, 2) := by decide +kernel
theorem dX12_owedBy_38 : decode cX12_owedBy 38 = .ok (.iconst 1, 1) := by decide +kernel
theorem dX12_owedBy_39 : decode cX12_owedBy 39 = .ok (.isub, 1) := by decide +kernel
theorem dX12_owedBy_40 : decode cX12_owedBy 40 = .ok (.aload_n 0, 1) := by decide +kernel
theorem dX12_owedBy_41 : decode cX12_owedBy 41 = .ok (.getfield 74, 3) := by decide +kernel
theorem dX12_owedBy_44 : decode cX12_owedBy 44 = .ok (.iload_n 3, 1) := by decide +kernel
theorem dX12_owedBy_45 : decode cX12_owedBy 45 = .ok (.bipush 6, 2) := by decide +kernel
theorem dX12_owedBy_47 : decode cX12_owedBy 47 = .ok (.iadd, 1) := by decide +kernel
theorem dX12_owedBy_48 : decode cX12_owedBy 48 = .ok (.iaload, 1) := by decide +kernel
theorem dX12_owedBy_49 : decode cX12_owedBy 49 = .ok (.imul, 1) := by decide +kernel
theorem dX12_owedBy_50 : decode cX12_owedBy 50 = .ok (.iadd, 1) := by decide +kernel
theorem dX12_owedBy_51 : decode cX12_owedBy 51 = .ok (.ireturn, 1) := by decide +kernel
theorem dX12_isLand_0 : decode cX12_isLand 0 = .ok (.iload_n 0, 1) := by decide +kernel
theorem dX12_isLand_1 : decode cX12_isLand 1 = .ok (.iconst 0, 1) := by decide +kernel
theorem dX12_isLand_2 : decode cX12_isLand 2 = .ok (.iconst 2, 1) := by decide +kernel
theorem dX12_isLand_3 : decode cX12_isLand 3 = .ok (.invokestatic 84, 3) := by decide +kernel
theorem dX12_isLand_6 : decode cX12_isLand 6 = .ok (.ireturn, 1) := by decide +kernel
theorem dX12_owed_0 : decode cX12_owed 0 = .ok (.aload_n 0, 1) := by decide +kernel
theorem dX12_owed_1 : decode cX12_owed 1 = .ok (.iconst 0, 1) := by decide +kernel
theorem dX12_owed_2 : decode cX12_owed 2 = .ok (.putfield 80, 3) := by decide +kernel
theorem dX12_owed_5 : decode cX12_owed 5 = .ok (.iload_n 1, 1) := by decide +kernel
theorem dX12_owed_6 : decode cX12_owed 6 = .ok (.invokestatic 233, 3) := by decide +kernel
theorem dX12_owed_9 : decode cX12_owed 9 = .ok (.ifCond .eq 39, 3) := by decide +kernel
theorem dX12_owed_12 : decode cX12_owed 12 = .ok (.iload_n 2, 1) := by decide +kernel
theorem dX12_owed_13 : decode cX12_owed 13 = .ok (.invokestatic 233, 3) := by decide +kernel
theorem dX12_owed_16 : decode cX12_owed 16 = .ok (.ifCond .eq 32, 3) := by decide +kernel
theorem dX12_owed_19 : decode cX12_owed 19 = .ok (.iload_n 3, 1) := by decide +kernel
theorem dX12_owed_20 : decode cX12_owed 20 = .ok (.invokestatic 95, 3) := by decide +kernel
theorem dX12_owed_23 : decode cX12_owed 23 = .ok (.ifCond .eq 25, 3) := by decide +kernel
theorem dX12_owed_26 : decode cX12_owed 26 = .ok (.iload 4, 2) := by decide +kernel
theorem dX12_owed_28 : decode cX12_owed 28 = .ok (.iconst 1, 1) := by decide +kernel
theorem dX12_owed_29 : decode cX12_owed 29 = .ok (.sipush 2000, 3) := by decide +kernel
theorem dX12_owed_32 : decode cX12_owed 32 = .ok (.invokestatic 84, 3) := by decide +kernel
theorem dX12_owed_35 : decode cX12_owed 35 = .ok (.ifCond .eq 13, 3) := by decide +kernel
theorem dX12_owed_38 : decode cX12_owed 38 = .ok (.iload 5, 2) := by decide +kernel
theorem dX12_owed_40 : decode cX12_owed 40 = .ok (.iconst 0, 1) := by decide +kernel
theorem dX12_owed_41 : decode cX12_owed 41 = .ok (.iconst 3, 1) := by decide +kernel
theorem dX12_owed_42 : decode cX12_owed 42 = .ok (.invokestatic 84, 3) := by decide +kernel
theorem dX12_owed_45 : decode cX12_owed 45 = .ok (.ifCond .ne 5, 3) := by decide +kernel
theorem dX12_owed_48 : decode cX12_owed 48 = .ok (.iconst (-1), 1) := by decide +kernel
theorem dX12_owed_49 : decode cX12_owed 49 = .ok (.ireturn, 1) := by decide +kernel
theorem dX12_owed_50 : decode cX12_owed 50 = .ok (.aload_n 0, 1) := by decide +kernel
theorem dX12_owed_51 : decode cX12_owed 51 = .ok (.iload_n 1, 1) := by decide +kernel
theorem dX12_owed_52 : decode cX12_owed 52 = .ok (.iload_n 2, 1) := by decide +kernel
theorem dX12_owed_53 : decode cX12_owed 53 = .ok (.iload_n 3, 1) := by decide +kernel
theorem dX12_owed_54 : decode cX12_owed 54 = .ok (.invokevirtual 236, 3) := by decide +kernel
theorem dX12_owed_57 : decode cX12_owed 57 = .ok (.istore 6, 2) := by decide +kernel
theorem dX12_owed_59 : decode cX12_owed 59 = .ok (.iload 6, 2) := by decide +kernel
theorem dX12_owed_61 : decode cX12_owed 61 = .ok (.bipush (-9), 2) := by decide +kernel
theorem dX12_owed_63 : decode cX12_owed 63 = .ok (.if_icmp .ne 6, 3) := by decide +kernel
theorem dX12_owed_66 : decode cX12_owed 66 = .ok (.bipush (-9), 2) := by decide +kernel
theorem dX12_owed_68 : decode cX12_owed 68 = .ok (.ireturn, 1) := by decide +kernel
theorem dX12_owed_69 : decode cX12_owed 69 = .ok (.aload_n 0, 1) := by decide +kernel
theorem dX12_owed_70 : decode cX12_owed 70 = .ok (.iload 6, 2) := by decide +kernel
theorem dX12_owed_72 : decode cX12_owed 72 = .ok (.iload 4, 2) := by decide +kernel
theorem dX12_owed_74 : decode cX12_owed 74 = .ok (.invokevirtual 239, 3) := by decide +kernel
theorem dX12_owed_77 : decode cX12_owed 77 = .ok (.istore 7, 2) := by decide +kernel
theorem dX12_owed_79 : decode cX12_owed 79 = .ok (.iload 5, 2) := by decide +kernel
theorem dX12_owed_81 : decode cX12_owed 81 = .ok (.ifCond .ne 8, 3) := by decide +kernel
theorem dX12_owed_84 : decode cX12_owed 84 = .ok (.iload 7, 2) := by decide +kernel
theorem dX12_owed_86 : decode cX12_owed 86 = .ok (.goto 66, 3) := by decide +kernel
theorem dX12_owed_89 : decode cX12_owed 89 = .ok (.iload 5, 2) := by decide +kernel
theorem dX12_owed_91 : decode cX12_owed 91 = .ok (.iconst 1, 1) := by decide +kernel
theorem dX12_owed_92 : decode cX12_owed 92 = .ok (.if_icmp .ne 36, 3) := by decide +kernel
theorem dX12_owed_95 : decode cX12_owed 95 = .ok (.iload 7, 2) := by decide +kernel
theorem dX12_owed_97 : decode cX12_owed 97 = .ok (.aload_n 0, 1) := by decide +kernel
theorem dX12_owed_98 : decode cX12_owed 98 = .ok (.getfield 74, 3) := by decide +kernel
theorem dX12_owed_101 : decode cX12_owed 101 = .ok (.bipush 10, 2) := by decide +kernel
theorem dX12_owed_103 : decode cX12_owed 103 = .ok (.iload 6, 2) := by decide +kernel
theorem dX12_owed_105 : decode cX12_owed 105 = .ok (.imul, 1) := by decide +kernel
theorem dX12_owed_106 : decode cX12_owed 106 = .ok (.bipush 7, 2) := by decide +kernel
theorem dX12_owed_108 : decode cX12_owed 108 = .ok (.iadd, 1) := by decide +kernel
theorem dX12_owed_109 : decode cX12_owed 109 = .ok (.iaload, 1) := by decide +kernel
theorem dX12_owed_110 : decode cX12_owed 110 = .ok (.imul, 1) := by decide +kernel
theorem dX12_owed_111 : decode cX12_owed 111 = .ok (.aload_n 0, 1) := by decide +kernel
theorem dX12_owed_112 : decode cX12_owed 112 = .ok (.getfield 74, 3) := by decide +kernel
theorem dX12_owed_115 : decode cX12_owed 115 = .ok (.bipush 10, 2) := by decide +kernel
theorem dX12_owed_117 : decode cX12_owed 117 = .ok (.iload 6, 2) := by decide +kernel
theorem dX12_owed_119 : decode cX12_owed 119 = .ok (.imul, 1) := by decide +kernel
theorem dX12_owed_120 : decode cX12_owed 120 = .ok (.bipush 8, 2) := by decide +kernel
theorem dX12_owed_122 : decode cX12_owed 122 = .ok (.iadd, 1) := by decide +kernel
theorem dX12_owed_123 : decode cX12_owed 123 = .ok (.iaload, 1) := by decide +kernel
theorem dX12_owed_124 : decode cX12_owed 124 = .ok (.idiv, 1) := by decide +kernel
theorem dX12_owed_125 : decode cX12_owed 125 = .ok (.goto 27, 3) := by decide +kernel
theorem dX12_owed_128 : decode cX12_owed 128 = .ok (.iload 5, 2) := by decide +kernel
theorem dX12_owed_130 : decode cX12_owed 130 = .ok (.iconst 2, 1) := by decide +kernel
theorem dX12_owed_131 : decode cX12_owed 131 = .ok (.if_icmp .ne 19, 3) := by decide +kernel
theorem dX12_owed_134 : decode cX12_owed 134 = .ok (.aload_n 0, 1) := by decide +kernel
theorem dX12_owed_135 : decode cX12_owed 135 = .ok (.getfield 74, 3) := by decide +kernel
theorem dX12_owed_138 : decode cX12_owed 138 = .ok (.bipush 10, 2) := by decide +kernel
theorem dX12_owed_140 : decode cX12_owed 140 = .ok (.iload 6, 2) := by decide +kernel
theorem dX12_owed_142 : decode cX12_owed 142 = .ok (.imul, 1) := by decide +kernel
theorem dX12_owed_143 : decode cX12_owed 143 = .ok (.bipush 9, 2) := by decide +kernel
theorem dX12_owed_145 : decode cX12_owed 145 = .ok (.iadd, 1) := by decide +kernel
theorem dX12_owed_146 : decode cX12_owed 146 = .ok (.iaload, 1) := by decide +kernel
theorem dX12_owed_147 : decode cX12_owed 147 = .ok (.goto 5, 3) := by decide +kernel
theorem dX12_owed_150 : decode cX12_owed 150 = .ok (.iload 6, 2) := by decide +kernel
theorem dX12_owed_152 : decode cX12_owed 152 = .ok (.ireturn, 1) := by decide +kernel
theorem dX12_weights_0 : decode cX12_weights 0 = .ok (.aload_n 0, 1) := by decide +kernel
theorem dX12_weights_1 : decode cX12_weights 1 = .ok (.iconst 0, 1) := by decide +kernel
theorem dX12_weights_2 : decode cX12_weights 2 = .ok (.putfield 80, 3) := by decide +kernel
theorem dX12_weights_5 : decode cX12_weights 5 = .ok (.iload_n 1, 1) := by decide +kernel
theorem dX12_weights_6 : decode cX12_weights 6 = .ok (.invokestatic 233, 3) := by decide +kernel
theorem dX12_weights_9 : decode cX12_weights 9 = .ok (.ifCond .eq 38, 3) := by decide +kernel
theorem dX12_weights_12 : decode cX12_weights 12 = .ok (.iload_n 2, 1) := by decide +kernel
theorem dX12_weights_13 : decode cX12_weights 13 = .ok (.invokestatic 233, 3) := by decide +kernel
theorem dX12_weights_16 : decode cX12_weights 16 = .ok (.ifCond .eq 31, 3) := by decide +kernel
theorem dX12_weights_19 : decode cX12_weights 19 = .ok (.iload_n 3, 1) := by decide +kernel
theorem dX12_weights_20 : decode cX12_weights 20 = .ok (.invokestatic 95, 3) := by decide +kernel
theorem dX12_weights_23 : decode cX12_weights 23 = .ok (.ifCond .eq 24, 3) := by decide +kernel
theorem dX12_weights_26 : decode cX12_weights 26 = .ok (.iload 4, 2) := by decide +kernel
theorem dX12_weights_28 : decode cX12_weights 28 = .ok (.iconst 0, 1) := by decide +kernel
theorem dX12_weights_29 : decode cX12_weights 29 = .ok (.ldc 242, 2) := by decide +kernel
theorem dX12_weights_31 : decode cX12_weights 31 = .ok (.invokestatic 84, 3) := by decide +kernel
theorem dX12_weights_34 : decode cX12_weights 34 = .ok (.ifCond .eq 13, 3) := by decide +kernel
theorem dX12_weights_37 : decode cX12_weights 37 = .ok (.iload 5, 2) := by decide +kernel
theorem dX12_weights_39 : decode cX12_weights 39 = .ok (.iconst 0, 1) := by decide +kernel
theorem dX12_weights_40 : decode cX12_weights 40 = .ok (.iconst 2, 1) := by decide +kernel
theorem dX12_weights_41 : decode cX12_weights 41 = .ok (.invokestatic 84, 3) := by decide +kernel
theorem dX12_weights_44 : decode cX12_weights 44 = .ok (.ifCond .ne 5, 3) := by decide +kernel
theorem dX12_weights_47 : decode cX12_weights 47 = .ok (.iconst (-1), 1) := by decide +kernel
theorem dX12_weights_48 : decode cX12_weights 48 = .ok (.ireturn, 1) := by decide +kernel
theorem dX12_weights_49 : decode cX12_weights 49 = .ok (.aload_n 0, 1) := by decide +kernel
theorem dX12_weights_50 : decode cX12_weights 50 = .ok (.iload_n 1, 1) := by decide +kernel
theorem dX12_weights_51 : decode cX12_weights 51 = .ok (.iload_n 2, 1) := by decide +kernel
theorem dX12_weights_52 : decode cX12_weights 52 = .ok (.iload_n 3, 1) := by decide +kernel
theorem dX12_weights_53 : decode cX12_weights 53 = .ok (.invokevirtual 236, 3) := by decide +kernel
theorem dX12_weights_56 : decode cX12_weights 56 = .ok (.istore 6, 2) := by decide +kernel
theorem dX12_weights_58 : decode cX12_weights 58 = .ok (.iconst 0, 1) := by decide +kernel
theorem dX12_weights_59 : decode cX12_weights 59 = .ok (.istore 7, 2) := by decide +kernel
theorem dX12_weights_61 : decode cX12_weights 61 = .ok (.bipush (-9), 2) := by decide +kernel
theorem dX12_weights_63 : decode cX12_weights 63 = .ok (.istore 8, 2) := by decide +kernel
theorem dX12_weights_65 : decode cX12_weights 65 = .ok (.bipush (-9), 2) := by decide +kernel
theorem dX12_weights_67 : decode cX12_weights 67 = .ok (.istore 9, 2) := by decide +kernel
theorem dX12_weights_69 : decode cX12_weights 69 = .ok (.iconst 1, 1) := by decide +kernel
theorem dX12_weights_70 : decode cX12_weights 70 = .ok (.istore 10, 2) := by decide +kernel
theorem dX12_weights_72 : decode cX12_weights 72 = .ok (.iload 10, 2) := by decide +kernel
theorem dX12_weights_74 : decode cX12_weights 74 = .ok (.sipush 2000, 3) := by decide +kernel
theorem dX12_weights_77 : decode cX12_weights 77 = .ok (.if_icmp .gt 52, 3) := by decide +kernel
theorem dX12_weights_80 : decode cX12_weights 80 = .ok (.iload 6, 2) := by decide +kernel
theorem dX12_weights_82 : decode cX12_weights 82 = .ok (.bipush (-9), 2) := by decide +kernel
theorem dX12_weights_84 : decode cX12_weights 84 = .ok (.if_icmp .eq 45, 3) := by decide +kernel
theorem dX12_weights_87 : decode cX12_weights 87 = .ok (.aload_n 0, 1) := by decide +kernel
theorem dX12_weights_88 : decode cX12_weights 88 = .ok (.iload 6, 2) := by decide +kernel
theorem dX12_weights_90 : decode cX12_weights 90 = .ok (.iload 10, 2) := by decide +kernel
theorem dX12_weights_92 : decode cX12_weights 92 = .ok (.invokevirtual 239, 3) := by decide +kernel
theorem dX12_weights_95 : decode cX12_weights 95 = .ok (.iload 4, 2) := by decide +kernel
theorem dX12_weights_97 : decode cX12_weights 97 = .ok (.if_icmp .ne 26, 3) := by decide +kernel
theorem dX12_weights_100 : decode cX12_weights 100 = .ok (.iinc 7 1, 3) := by decide +kernel
theorem dX12_weights_103 : decode cX12_weights 103 = .ok (.iload 8, 2) := by decide +kernel
theorem dX12_weights_105 : decode cX12_weights 105 = .ok (.bipush (-9), 2) := by decide +kernel
theorem dX12_weights_107 : decode cX12_weights 107 = .ok (.if_icmp .ne 8, 3) := by decide +kernel
theorem dX12_weights_110 : decode cX12_weights 110 = .ok (.iload 10, 2) := by decide +kernel
theorem dX12_weights_112 : decode cX12_weights 112 = .ok (.goto 5, 3) := by decide +kernel
theorem dX12_weights_115 : decode cX12_weights 115 = .ok (.iload 8, 2) := by decide +kernel
theorem dX12_weights_117 : decode cX12_weights 117 = .ok (.istore 8, 2) := by decide +kernel
theorem dX12_weights_119 : decode cX12_weights 119 = .ok (.iload 10, 2) := by decide +kernel
theorem dX12_weights_121 : decode cX12_weights 121 = .ok (.istore 9, 2) := by decide +kernel
theorem dX12_weights_123 : decode cX12_weights 123 = .ok (.iinc 10 1, 3) := by decide +kernel
theorem dX12_weights_126 : decode cX12_weights 126 = .ok (.goto (-54), 3) := by decide +kernel
theorem dX12_weights_129 : decode cX12_weights 129 = .ok (.iload 5, 2) := by decide +kernel
theorem dX12_weights_131 : decode cX12_weights 131 = .ok (.ifCond .ne 8, 3) := by decide +kernel
theorem dX12_weights_134 : decode cX12_weights 134 = .ok (.iload 7, 2) := by decide +kernel
theorem dX12_weights_136 : decode cX12_weights 136 = .ok (.goto 16, 3) := by decide +kernel
theorem dX12_weights_139 : decode cX12_weights 139 = .ok (.iload 5, 2) := by decide +kernel
theorem dX12_weights_141 : decode cX12_weights 141 = .ok (.iconst 1, 1) := by decide +kernel
theorem dX12_weights_142 : decode cX12_weights 142 = .ok (.if_icmp .ne 8, 3) := by decide +kernel
theorem dX12_weights_145 : decode cX12_weights 145 = .ok (.iload 8, 2) := by decide +kernel
theorem dX12_weights_147 : decode cX12_weights 147 = .ok (.goto 5, 3) := by decide +kernel
theorem dX12_weights_150 : decode cX12_weights 150 = .ok (.iload 9, 2) := by decide +kernel
theorem dX12_weights_152 : decode cX12_weights 152 = .ok (.ireturn, 1) := by decide +kernel
theorem dX12_isMail_0 : decode cX12_isMail 0 = .ok (.iconst 0, 1) := by decide +kernel
theorem dX12_isMail_1 : decode cX12_isMail 1 = .ok (.istore 4, 2) := by decide +kernel
theorem dX12_isMail_3 : decode cX12_isMail 3 = .ok (.iload 4, 2) := by decide +kernel
theorem dX12_isMail_5 : decode cX12_isMail 5 = .ok (.aload_n 0, 1) := by decide +kernel
theorem dX12_isMail_6 : decode cX12_isMail 6 = .ok (.getfield 88, 3) := by decide +kernel
theorem dX12_isMail_9 : decode cX12_isMail 9 = .ok (.if_icmp .ge 128, 3) := by decide +kernel
theorem dX12_isMail_12 : decode cX12_isMail 12 = .ok (.iconst 0, 1) := by decide +kernel
theorem dX12_isMail_13 : decode cX12_isMail 13 = .ok (.istore 5, 2) := by decide +kernel
theorem dX12_isMail_15 : decode cX12_isMail 15 = .ok (.iload 5, 2) := by decide +kernel
theorem dX12_isMail_17 : decode cX12_isMail 17 = .ok (.aload_n 0, 1) := by decide +kernel
theorem dX12_isMail_18 : decode cX12_isMail 18 = .ok (.getfield 88, 3) := by decide +kernel
theorem dX12_isMail_21 : decode cX12_isMail 21 = .ok (.if_icmp .ge 110, 3) := by decide +kernel
theorem dX12_isMail_24 : decode cX12_isMail 24 = .ok (.aload_n 0, 1) := by decide +kernel
theorem dX12_isMail_25 : decode cX12_isMail 25 = .ok (.iload 4, 2) := by decide +kernel
theorem dX12_isMail_27 : decode cX12_isMail 27 = .ok (.iload_n 1, 1) := by decide +kernel
theorem dX12_isMail_28 : decode cX12_isMail 28 = .ok (.iload_n 3, 1) := by decide +kernel
theorem dX12_isMail_29 : decode cX12_isMail 29 = .ok (.invokevirtual 136, 3) := by decide +kernel
theorem dX12_isMail_32 : decode cX12_isMail 32 = .ok (.ifCond .eq 99, 3) := by decide +kernel
theorem dX12_isMail_35 : decode cX12_isMail 35 = .ok (.aload_n 0, 1) := by decide +kernel
theorem dX12_isMail_36 : decode cX12_isMail 36 = .ok (.getfield 37, 3) := by decide +kernel
theorem dX12_isMail_39 : decode cX12_isMail 39 = .ok (.bipush 10, 2) := by decide +kernel
theorem dX12_isMail_41 : decode cX12_isMail 41 = .ok (.iload 4, 2) := by decide +kernel
theorem dX12_isMail_43 : decode cX12_isMail 43 = .ok (.imul, 1) := by decide +kernel
theorem dX12_isMail_44 : decode cX12_isMail 44 = .ok (.iconst 2, 1) := by decide +kernel
theorem dX12_isMail_45 : decode cX12_isMail 45 = .ok (.iadd, 1) := by decide +kernel
theorem dX12_isMail_46 : decode cX12_isMail 46 = .ok (.iaload, 1) := by decide +kernel
theorem dX12_isMail_47 : decode cX12_isMail 47 = .ok (.istore 6, 2) := by decide +kernel
theorem dX12_isMail_49 : decode cX12_isMail 49 = .ok (.aload_n 0, 1) := by decide +kernel
theorem dX12_isMail_50 : decode cX12_isMail 50 = .ok (.iload 5, 2) := by decide +kernel
theorem dX12_isMail_52 : decode cX12_isMail 52 = .ok (.iload_n 2, 1) := by decide +kernel
theorem dX12_isMail_53 : decode cX12_isMail 53 = .ok (.iload_n 3, 1) := by decide +kernel
theorem dX12_isMail_54 : decode cX12_isMail 54 = .ok (.invokevirtual 136, 3) := by decide +kernel
theorem dX12_isMail_57 : decode cX12_isMail 57 = .ok (.ifCond .eq 68, 3) := by decide +kernel
theorem dX12_isMail_60 : decode cX12_isMail 60 = .ok (.iload 6, 2) := by decide +kernel
theorem dX12_isMail_62 : decode cX12_isMail 62 = .ok (.bipush (-9), 2) := by decide +kernel
theorem dX12_isMail_64 : decode cX12_isMail 64 = .ok (.if_icmp .eq 61, 3) := by decide +kernel
theorem dX12_isMail_67 : decode cX12_isMail 67 = .ok (.aload_n 0, 1) := by decide +kernel
theorem dX12_isMail_68 : decode cX12_isMail 68 = .ok (.getfield 37, 3) := by decide +kernel
theorem dX12_isMail_71 : decode cX12_isMail 71 = .ok (.bipush 10, 2) := by decide +kernel
theorem dX12_isMail_73 : decode cX12_isMail 73 = .ok (.iload 5, 2) := by decide +kernel
theorem dX12_isMail_75 : decode cX12_isMail 75 = .ok (.imul, 1) := by decide +kernel
theorem dX12_isMail_76 : decode cX12_isMail 76 = .ok (.iconst 2, 1) := by decide +kernel
theorem dX12_isMail_77 : decode cX12_isMail 77 = .ok (.iadd, 1) := by decide +kernel
theorem dX12_isMail_78 : decode cX12_isMail 78 = .ok (.iaload, 1) := by decide +kernel
theorem dX12_isMail_79 : decode cX12_isMail 79 = .ok (.iload 6, 2) := by decide +kernel
theorem dX12_isMail_81 : decode cX12_isMail 81 = .ok (.if_icmp .ne 44, 3) := by decide +kernel
theorem dX12_isMail_84 : decode cX12_isMail 84 = .ok (.iconst 0, 1) := by decide +kernel
theorem dX12_isMail_85 : decode cX12_isMail 85 = .ok (.istore 7, 2) := by decide +kernel
theorem dX12_isMail_87 : decode cX12_isMail 87 = .ok (.iload 7, 2) := by decide +kernel
theorem dX12_isMail_89 : decode cX12_isMail 89 = .ok (.sipush 999, 3) := by decide +kernel
theorem dX12_isMail_92 : decode cX12_isMail 92 = .ok (.if_icmp .gt 33, 3) := by decide +kernel
theorem dX12_isMail_95 : decode cX12_isMail 95 = .ok (.aload_n 0, 1) := by decide +kernel
theorem dX12_isMail_96 : decode cX12_isMail 96 = .ok (.iload 4, 2) := by decide +kernel
theorem dX12_isMail_98 : decode cX12_isMail 98 = .ok (.iload 7, 2) := by decide +kernel
theorem dX12_isMail_100 : decode cX12_isMail 100 = .ok (.invokevirtual 128, 3) := by decide +kernel
theorem dX12_isMail_103 : decode cX12_isMail 103 = .ok (.ifCond .eq 16, 3) := by decide +kernel
theorem dX12_isMail_106 : decode cX12_isMail 106 = .ok (.aload_n 0, 1) := by decide +kernel
theorem dX12_isMail_107 : decode cX12_isMail 107 = .ok (.iload 5, 2) := by decide +kernel
theorem dX12_isMail_109 : decode cX12_isMail 109 = .ok (.iload 7, 2) := by decide +kernel
theorem dX12_isMail_111 : decode cX12_isMail 111 = .ok (.invokevirtual 128, 3) := by decide +kernel
theorem dX12_isMail_114 : decode cX12_isMail 114 = .ok (.ifCond .eq 5, 3) := by decide +kernel
theorem dX12_isMail_117 : decode cX12_isMail 117 = .ok (.iconst 1, 1) := by decide +kernel
theorem dX12_isMail_118 : decode cX12_isMail 118 = .ok (.ireturn, 1) := by decide +kernel
theorem dX12_isMail_119 : decode cX12_isMail 119 = .ok (.iinc 7 1, 3) := by decide +kernel
theorem dX12_isMail_122 : decode cX12_isMail 122 = .ok (.goto (-35), 3) := by decide +kernel
theorem dX12_isMail_125 : decode cX12_isMail 125 = .ok (.iinc 5 1, 3) := by decide +kernel
theorem dX12_isMail_128 : decode cX12_isMail 128 = .ok (.goto (-113), 3) := by decide +kernel
theorem dX12_isMail_131 : decode cX12_isMail 131 = .ok (.iinc 4 1, 3) := by decide +kernel
theorem dX12_isMail_134 : decode cX12_isMail 134 = .ok (.goto (-131), 3) := by decide +kernel
theorem dX12_isMail_137 : decode cX12_isMail 137 = .ok (.iconst 0, 1) := by decide +kernel
theorem dX12_isMail_138 : decode cX12_isMail 138 = .ok (.ireturn, 1) := by decide +kernel
theorem dX12_mail_0 : decode cX12_mail 0 = .ok (.aload_n 0, 1) := by decide +kernel
theorem dX12_mail_1 : decode cX12_mail 1 = .ok (.iconst 0, 1) := by decide +kernel
theorem dX12_mail_2 : decode cX12_mail 2 = .ok (.putfield 80, 3) := by decide +kernel
theorem dX12_mail_5 : decode cX12_mail 5 = .ok (.iload_n 1, 1) := by decide +kernel
theorem dX12_mail_6 : decode cX12_mail 6 = .ok (.invokestatic 104, 3) := by decide +kernel
theorem dX12_mail_9 : decode cX12_mail 9 = .ok (.ifCond .eq 22, 3) := by decide +kernel
theorem dX12_mail_12 : decode cX12_mail 12 = .ok (.iload_n 2, 1) := by decide +kernel
theorem dX12_mail_13 : decode cX12_mail 13 = .ok (.invokestatic 104, 3) := by decide +kernel
theorem dX12_mail_16 : decode cX12_mail 16 = .ok (.ifCond .eq 15, 3) := by decide +kernel
theorem dX12_mail_19 : decode cX12_mail 19 = .ok (.iload_n 1, 1) := by decide +kernel
theorem dX12_mail_20 : decode cX12_mail 20 = .ok (.iload_n 2, 1) := by decide +kernel
theorem dX12_mail_21 : decode cX12_mail 21 = .ok (.if_icmp .eq 10, 3) := by decide +kernel
theorem dX12_mail_24 : decode cX12_mail 24 = .ok (.iload_n 3, 1) := by decide +kernel
theorem dX12_mail_25 : decode cX12_mail 25 = .ok (.invokestatic 95, 3) := by decide +kernel
theorem dX12_mail_28 : decode cX12_mail 28 = .ok (.ifCond .ne 5, 3) := by decide +kernel
theorem dX12_mail_31 : decode cX12_mail 31 = .ok (.iconst (-1), 1) := by decide +kernel
theorem dX12_mail_32 : decode cX12_mail 32 = .ok (.ireturn, 1) := by decide +kernel
theorem dX12_mail_33 : decode cX12_mail 33 = .ok (.aload_n 0, 1) := by decide +kernel
theorem dX12_mail_34 : decode cX12_mail 34 = .ok (.iload_n 1, 1) := by decide +kernel
theorem dX12_mail_35 : decode cX12_mail 35 = .ok (.iload_n 2, 1) := by decide +kernel
theorem dX12_mail_36 : decode cX12_mail 36 = .ok (.iload_n 3, 1) := by decide +kernel
theorem dX12_mail_37 : decode cX12_mail 37 = .ok (.invokevirtual 243, 3) := by decide +kernel
theorem dX12_mail_40 : decode cX12_mail 40 = .ok (.ifCond .eq 7, 3) := by decide +kernel
theorem dX12_mail_43 : decode cX12_mail 43 = .ok (.iconst 1, 1) := by decide +kernel
theorem dX12_mail_44 : decode cX12_mail 44 = .ok (.goto 4, 3) := by decide +kernel
theorem dX12_mail_47 : decode cX12_mail 47 = .ok (.iconst 0, 1) := by decide +kernel
theorem dX12_mail_48 : decode cX12_mail 48 = .ok (.ireturn, 1) := by decide +kernel
theorem dX12_heap_0 : decode cX12_heap 0 = .ok (.aload_n 0, 1) := by decide +kernel
theorem dX12_heap_1 : decode cX12_heap 1 = .ok (.iconst 0, 1) := by decide +kernel
theorem dX12_heap_2 : decode cX12_heap 2 = .ok (.putfield 80, 3) := by decide +kernel
theorem dX12_heap_5 : decode cX12_heap 5 = .ok (.iload_n 1, 1) := by decide +kernel
theorem dX12_heap_6 : decode cX12_heap 6 = .ok (.invokestatic 104, 3) := by decide +kernel
theorem dX12_heap_9 : decode cX12_heap 9 = .ok (.ifCond .eq 10, 3) := by decide +kernel
theorem dX12_heap_12 : decode cX12_heap 12 = .ok (.iload_n 2, 1) := by decide +kernel
theorem dX12_heap_13 : decode cX12_heap 13 = .ok (.invokestatic 95, 3) := by decide +kernel
theorem dX12_heap_16 : decode cX12_heap 16 = .ok (.ifCond .ne 5, 3) := by decide +kernel
theorem dX12_heap_19 : decode cX12_heap 19 = .ok (.iconst (-1), 1) := by decide +kernel
theorem dX12_heap_20 : decode cX12_heap 20 = .ok (.ireturn, 1) := by decide +kernel
theorem dX12_heap_21 : decode cX12_heap 21 = .ok (.iconst 1, 1) := by decide +kernel
theorem dX12_heap_22 : decode cX12_heap 22 = .ok (.iload_n 1, 1) := by decide +kernel
theorem dX12_heap_23 : decode cX12_heap 23 = .ok (.ishl, 1) := by decide +kernel
theorem dX12_heap_24 : decode cX12_heap 24 = .ok (.istore_n 3, 1) := by decide +kernel
theorem dX12_heap_25 : decode cX12_heap 25 = .ok (.iconst 0, 1) := by decide +kernel
theorem dX12_heap_26 : decode cX12_heap 26 = .ok (.istore 4, 2) := by decide +kernel
theorem dX12_heap_28 : decode cX12_heap 28 = .ok (.iload_n 3, 1) := by decide +kernel
theorem dX12_heap_29 : decode cX12_heap 29 = .ok (.iload 4, 2) := by decide +kernel
theorem dX12_heap_31 : decode cX12_heap 31 = .ok (.if_icmp .eq 96, 3) := by decide +kernel
theorem dX12_heap_34 : decode cX12_heap 34 = .ok (.iload_n 3, 1) := by decide +kernel
theorem dX12_heap_35 : decode cX12_heap 35 = .ok (.istore 4, 2) := by decide +kernel
theorem dX12_heap_37 : decode cX12_heap 37 = .ok (.iconst 0, 1) := by decide +kernel
theorem dX12_heap_38 : decode cX12_heap 38 = .ok (.istore 5, 2) := by decide +kernel
theorem dX12_heap_40 : decode cX12_heap 40 = .ok (.iload 5, 2) := by decide +kernel
theorem dX12_heap_42 : decode cX12_heap 42 = .ok (.bipush 8, 2) := by decide +kernel
theorem dX12_heap_44 : decode cX12_heap 44 = .ok (.if_icmp .ge 80, 3) := by decide +kernel
theorem dX12_heap_47 : decode cX12_heap 47 = .ok (.iconst 0, 1) := by decide +kernel
theorem dX12_heap_48 : decode cX12_heap 48 = .ok (.istore 6, 2) := by decide +kernel
theorem dX12_heap_50 : decode cX12_heap 50 = .ok (.iload 6, 2) := by decide +kernel
theorem dX12_heap_52 : decode cX12_heap 52 = .ok (.bipush 8, 2) := by decide +kernel
theorem dX12_heap_54 : decode cX12_heap 54 = .ok (.if_icmp .ge 64, 3) := by decide +kernel
theorem dX12_heap_57 : decode cX12_heap 57 = .ok (.iload 4, 2) := by decide +kernel
theorem dX12_heap_59 : decode cX12_heap 59 = .ok (.iload 5, 2) := by decide +kernel
theorem dX12_heap_61 : decode cX12_heap 61 = .ok (.ishr, 1) := by decide +kernel
theorem dX12_heap_62 : decode cX12_heap 62 = .ok (.iconst 1, 1) := by decide +kernel
theorem dX12_heap_63 : decode cX12_heap 63 = .ok (.iand, 1) := by decide +kernel
theorem dX12_heap_64 : decode cX12_heap 64 = .ok (.iconst 1, 1) := by decide +kernel
theorem dX12_heap_65 : decode cX12_heap 65 = .ok (.if_icmp .ne 28, 3) := by decide +kernel
theorem dX12_heap_68 : decode cX12_heap 68 = .ok (.iload_n 3, 1) := by decide +kernel
theorem dX12_heap_69 : decode cX12_heap 69 = .ok (.iload 6, 2) := by decide +kernel
theorem dX12_heap_71 : decode cX12_heap 71 = .ok (.ishr, 1) := by decide +kernel
theorem dX12_heap_72 : decode cX12_heap 72 = .ok (.iconst 1, 1) := by decide +kernel
theorem dX12_heap_73 : decode cX12_heap 73 = .ok (.iand, 1) := by decide +kernel
theorem dX12_heap_74 : decode cX12_heap 74 = .ok (.ifCond .ne 19, 3) := by decide +kernel
theorem dX12_heap_77 : decode cX12_heap 77 = .ok (.aload_n 0, 1) := by decide +kernel
theorem dX12_heap_78 : decode cX12_heap 78 = .ok (.iload 5, 2) := by decide +kernel
theorem dX12_heap_80 : decode cX12_heap 80 = .ok (.iload 6, 2) := by decide +kernel
theorem dX12_heap_82 : decode cX12_heap 82 = .ok (.iload_n 2, 1) := by decide +kernel
theorem dX12_heap_83 : decode cX12_heap 83 = .ok (.invokevirtual 243, 3) := by decide +kernel
theorem dX12_heap_86 : decode cX12_heap 86 = .ok (.ifCond .eq 7, 3) := by decide +kernel
theorem dX12_heap_89 : decode cX12_heap 89 = .ok (.iconst 1, 1) := by decide +kernel
theorem dX12_heap_90 : decode cX12_heap 90 = .ok (.goto 4, 3) := by decide +kernel
theorem dX12_heap_93 : decode cX12_heap 93 = .ok (.iconst 0, 1) := by decide +kernel
theorem dX12_heap_94 : decode cX12_heap 94 = .ok (.istore 7, 2) := by decide +kernel
theorem dX12_heap_96 : decode cX12_heap 96 = .ok (.iload_n 3, 1) := by decide +kernel
theorem dX12_heap_97 : decode cX12_heap 97 = .ok (.iload 7, 2) := by decide +kernel
theorem dX12_heap_99 : decode cX12_heap 99 = .ok (.ifCond .eq 10, 3) := by decide +kernel
theorem dX12_heap_102 : decode cX12_heap 102 = .ok (.iconst 1, 1) := by decide +kernel
theorem dX12_heap_103 : decode cX12_heap 103 = .ok (.iload 6, 2) := by decide +kernel
theorem dX12_heap_105 : decode cX12_heap 105 = .ok (.ishl, 1) := by decide +kernel
theorem dX12_heap_106 : decode cX12_heap 106 = .ok (.goto 4, 3) := by decide +kernel
theorem dX12_heap_109 : decode cX12_heap 109 = .ok (.iconst 0, 1) := by decide +kernel
theorem dX12_heap_110 : decode cX12_heap 110 = .ok (.ior, 1) := by decide +kernel
theorem dX12_heap_111 : decode cX12_heap 111 = .ok (.istore_n 3, 1) := by decide +kernel
theorem dX12_heap_112 : decode cX12_heap 112 = .ok (.iinc 6 1, 3) := by decide +kernel
theorem dX12_heap_115 : decode cX12_heap 115 = .ok (.goto (-65), 3) := by decide +kernel
theorem dX12_heap_118 : decode cX12_heap 118 = .ok (.iinc 5 1, 3) := by decide +kernel
theorem dX12_heap_121 : decode cX12_heap 121 = .ok (.goto (-81), 3) := by decide +kernel
theorem dX12_heap_124 : decode cX12_heap 124 = .ok (.goto (-96), 3) := by decide +kernel
theorem dX12_heap_127 : decode cX12_heap 127 = .ok (.iload_n 3, 1) := by decide +kernel
theorem dX12_heap_128 : decode cX12_heap 128 = .ok (.ireturn, 1) := by decide +kernel
theorem dX12_many_0 : decode cX12_many 0 = .ok (.aload_n 0, 1) := by decide +kernel
theorem dX12_many_1 : decode cX12_many 1 = .ok (.iconst 0, 1) := by decide +kernel
theorem dX12_many_2 : decode cX12_many 2 = .ok (.putfield 80, 3) := by decide +kernel
theorem dX12_many_5 : decode cX12_many 5 = .ok (.iload_n 1, 1) := by decide +kernel
theorem dX12_many_6 : decode cX12_many 6 = .ok (.iconst 0, 1) := by decide +kernel
theorem dX12_many_7 : decode cX12_many 7 = .ok (.aload_n 0, 1) := by decide +kernel
theorem dX12_many_8 : decode cX12_many 8 = .ok (.getfield 101, 3) := by decide +kernel
theorem dX12_many_11 : decode cX12_many 11 = .ok (.iconst 1, 1) := by decide +kernel
theorem dX12_many_12 : decode cX12_many 12 = .ok (.isub, 1) := by decide +kernel
theorem dX12_many_13 : decode cX12_many 13 = .ok (.invokestatic 84, 3) := by decide +kernel
theorem dX12_many_16 : decode cX12_many 16 = .ok (.ifCond .eq 10, 3) := by decide +kernel
theorem dX12_many_19 : decode cX12_many 19 = .ok (.iload_n 2, 1) := by decide +kernel
theorem dX12_many_20 : decode cX12_many 20 = .ok (.invokestatic 95, 3) := by decide +kernel
theorem dX12_many_23 : decode cX12_many 23 = .ok (.ifCond .ne 5, 3) := by decide +kernel
theorem dX12_many_26 : decode cX12_many 26 = .ok (.iconst (-1), 1) := by decide +kernel
theorem dX12_many_27 : decode cX12_many 27 = .ok (.ireturn, 1) := by decide +kernel
theorem dX12_many_28 : decode cX12_many 28 = .ok (.iconst 0, 1) := by decide +kernel
theorem dX12_many_29 : decode cX12_many 29 = .ok (.istore_n 3, 1) := by decide +kernel
theorem dX12_many_30 : decode cX12_many 30 = .ok (.iconst 0, 1) := by decide +kernel
theorem dX12_many_31 : decode cX12_many 31 = .ok (.istore 4, 2) := by decide +kernel
theorem dX12_many_33 : decode cX12_many 33 = .ok (.iload 4, 2) := by decide +kernel
theorem dX12_many_35 : decode cX12_many 35 = .ok (.sipush 999, 3) := by decide +kernel
theorem dX12_many_38 : decode cX12_many 38 = .ok (.if_icmp .gt 17, 3) := by decide +kernel
theorem dX12_many_41 : decode cX12_many 41 = .ok (.aload_n 0, 1) := by decide +kernel
theorem dX12_many_42 : decode cX12_many 42 = .ok (.getfield 77, 3) := by decide +kernel
theorem dX12_many_45 : decode cX12_many 45 = .ok (.iload 4, 2) := by decide +kernel
theorem dX12_many_47 : decode cX12_many 47 = .ok (.iconst 0, 1) := by decide +kernel
theorem dX12_many_48 : decode cX12_many 48 = .ok (.iastore, 1) := by decide +kernel
theorem dX12_many_49 : decode cX12_many 49 = .ok (.iinc 4 1, 3) := by decide +kernel
theorem dX12_many_52 : decode cX12_many 52 = .ok (.goto (-19), 3) := by decide +kernel
theorem dX12_many_55 : decode cX12_many 55 = .ok (.iconst 0, 1) := by decide +kernel
theorem dX12_many_56 : decode cX12_many 56 = .ok (.istore 4, 2) := by decide +kernel
theorem dX12_many_58 : decode cX12_many 58 = .ok (.iload 4, 2) := by decide +kernel
theorem dX12_many_60 : decode cX12_many 60 = .ok (.aload_n 0, 1) := by decide +kernel
theorem dX12_many_61 : decode cX12_many 61 = .ok (.getfield 88, 3) := by decide +kernel
theorem dX12_many_64 : decode cX12_many 64 = .ok (.if_icmp .ge 102, 3) := by decide +kernel
theorem dX12_many_67 : decode cX12_many 67 = .ok (.aload_n 0, 1) := by decide +kernel
theorem dX12_many_68 : decode cX12_many 68 = .ok (.getfield 37, 3) := by decide +kernel
theorem dX12_many_71 : decode cX12_many 71 = .ok (.bipush 10, 2) := by decide +kernel
theorem dX12_many_73 : decode cX12_many 73 = .ok (.iload 4, 2) := by decide +kernel
theorem dX12_many_75 : decode cX12_many 75 = .ok (.imul, 1) := by decide +kernel
theorem dX12_many_76 : decode cX12_many 76 = .ok (.iaload, 1) := by decide +kernel
theorem dX12_many_77 : decode cX12_many 77 = .ok (.istore 5, 2) := by decide +kernel
theorem dX12_many_79 : decode cX12_many 79 = .ok (.aload_n 0, 1) := by decide +kernel
theorem dX12_many_80 : decode cX12_many 80 = .ok (.iload 4, 2) := by decide +kernel
theorem dX12_many_82 : decode cX12_many 82 = .ok (.iload 5, 2) := by decide +kernel
theorem dX12_many_84 : decode cX12_many 84 = .ok (.iload_n 2, 1) := by decide +kernel
theorem dX12_many_85 : decode cX12_many 85 = .ok (.invokevirtual 136, 3) := by decide +kernel
theorem dX12_many_88 : decode cX12_many 88 = .ok (.ifCond .eq 72, 3) := by decide +kernel
theorem dX12_many_91 : decode cX12_many 91 = .ok (.aload_n 0, 1) := by decide +kernel
theorem dX12_many_92 : decode cX12_many 92 = .ok (.getfield 37, 3) := by decide +kernel
theorem dX12_many_95 : decode cX12_many 95 = .ok (.bipush 10, 2) := by decide +kernel
theorem dX12_many_97 : decode cX12_many 97 = .ok (.iload 4, 2) := by decide +kernel
theorem dX12_many_99 : decode cX12_many 99 = .ok (.imul, 1) := by decide +kernel
theorem dX12_many_100 : decode cX12_many 100 = .ok (.iconst 2, 1) := by decide +kernel
theorem dX12_many_101 : decode cX12_many 101 = .ok (.iadd, 1) := by decide +kernel
theorem dX12_many_102 : decode cX12_many 102 = .ok (.iaload, 1) := by decide +kernel
theorem dX12_many_103 : decode cX12_many 103 = .ok (.iload_n 1, 1) := by decide +kernel
theorem dX12_many_104 : decode cX12_many 104 = .ok (.if_icmp .ne 56, 3) := by decide +kernel
theorem dX12_many_107 : decode cX12_many 107 = .ok (.iload_n 3, 1) := by decide +kernel
theorem dX12_many_108 : decode cX12_many 108 = .ok (.iconst 1, 1) := by decide +kernel
theorem dX12_many_109 : decode cX12_many 109 = .ok (.iload 5, 2) := by decide +kernel
theorem dX12_many_111 : decode cX12_many 111 = .ok (.ishl, 1) := by decide +kernel
theorem dX12_many_112 : decode cX12_many 112 = .ok (.ior, 1) := by decide +kernel
theorem dX12_many_113 : decode cX12_many 113 = .ok (.istore_n 3, 1) := by decide +kernel
theorem dX12_many_114 : decode cX12_many 114 = .ok (.iconst 0, 1) := by decide +kernel
theorem dX12_many_115 : decode cX12_many 115 = .ok (.istore 6, 2) := by decide +kernel
theorem dX12_many_117 : decode cX12_many 117 = .ok (.iload 6, 2) := by decide +kernel
theorem dX12_many_119 : decode cX12_many 119 = .ok (.sipush 999, 3) := by decide +kernel
theorem dX12_many_122 : decode cX12_many 122 = .ok (.if_icmp .gt 38, 3) := by decide +kernel
theorem dX12_many_125 : decode cX12_many 125 = .ok (.aload_n 0, 1) := by decide +kernel
theorem dX12_many_126 : decode cX12_many 126 = .ok (.getfield 77, 3) := by decide +kernel
theorem dX12_many_129 : decode cX12_many 129 = .ok (.iload 6, 2) := by decide +kernel
theorem dX12_many_131 : decode cX12_many 131 = .ok (.dup2, 1) := by decide +kernel
theorem dX12_many_132 : decode cX12_many 132 = .ok (.iaload, 1) := by decide +kernel
theorem dX12_many_133 : decode cX12_many 133 = .ok (.aload_n 0, 1) := by decide +kernel
theorem dX12_many_134 : decode cX12_many 134 = .ok (.iload 4, 2) := by decide +kernel
theorem dX12_many_136 : decode cX12_many 136 = .ok (.iload 6, 2) := by decide +kernel
theorem dX12_many_138 : decode cX12_many 138 = .ok (.invokevirtual 128, 3) := by decide +kernel
theorem dX12_many_141 : decode cX12_many 141 = .ok (.ifCond .eq 10, 3) := by decide +kernel
theorem dX12_many_144 : decode cX12_many 144 = .ok (.iconst 1, 1) := by decide +kernel
theorem dX12_many_145 : decode cX12_many 145 = .ok (.iload 5, 2) := by decide +kernel
theorem dX12_many_147 : decode cX12_many 147 = .ok (.ishl, 1) := by decide +kernel
theorem dX12_many_148 : decode cX12_many 148 = .ok (.goto 4, 3) := by decide +kernel
theorem dX12_many_151 : decode cX12_many 151 = .ok (.iconst 0, 1) := by decide +kernel
theorem dX12_many_152 : decode cX12_many 152 = .ok (.ior, 1) := by decide +kernel
theorem dX12_many_153 : decode cX12_many 153 = .ok (.iastore, 1) := by decide +kernel
theorem dX12_many_154 : decode cX12_many 154 = .ok (.iinc 6 1, 3) := by decide +kernel
theorem dX12_many_157 : decode cX12_many 157 = .ok (.goto (-40), 3) := by decide +kernel
theorem dX12_many_160 : decode cX12_many 160 = .ok (.iinc 4 1, 3) := by decide +kernel
theorem dX12_many_163 : decode cX12_many 163 = .ok (.goto (-105), 3) := by decide +kernel
theorem dX12_many_166 : decode cX12_many 166 = .ok (.iconst 0, 1) := by decide +kernel
theorem dX12_many_167 : decode cX12_many 167 = .ok (.istore 4, 2) := by decide +kernel
theorem dX12_many_169 : decode cX12_many 169 = .ok (.iconst 0, 1) := by decide +kernel
theorem dX12_many_170 : decode cX12_many 170 = .ok (.istore 5, 2) := by decide +kernel
theorem dX12_many_172 : decode cX12_many 172 = .ok (.iconst 0, 1) := by decide +kernel
theorem dX12_many_173 : decode cX12_many 173 = .ok (.istore 6, 2) := by decide +kernel
theorem dX12_many_175 : decode cX12_many 175 = .ok (.iload 6, 2) := by decide +kernel
theorem dX12_many_177 : decode cX12_many 177 = .ok (.sipush 999, 3) := by decide +kernel
theorem dX12_many_180 : decode cX12_many 180 = .ok (.if_icmp .gt 57, 3) := by decide +kernel
theorem dX12_many_183 : decode cX12_many 183 = .ok (.iload 4, 2) := by decide +kernel
theorem dX12_many_185 : decode cX12_many 185 = .ok (.aload_n 0, 1) := by decide +kernel
theorem dX12_many_186 : decode cX12_many 186 = .ok (.getfield 77, 3) := by decide +kernel
theorem dX12_many_189 : decode cX12_many 189 = .ok (.iload 6, 2) := by decide +kernel
theorem dX12_many_191 : decode cX12_many 191 = .ok (.iaload, 1) := by decide +kernel
theorem dX12_many_192 : decode cX12_many 192 = .ok (.invokestatic 165, 3) := by decide +kernel
theorem dX12_many_195 : decode cX12_many 195 = .ok (.iconst 1, 1) := by decide +kernel
theorem dX12_many_196 : decode cX12_many 196 = .ok (.if_icmp .ne 7, 3) := by decide +kernel
theorem dX12_many_199 : decode cX12_many 199 = .ok (.iconst 1, 1) := by decide +kernel
theorem dX12_many_200 : decode cX12_many 200 = .ok (.goto 4, 3) := by decide +kernel
theorem dX12_many_203 : decode cX12_many 203 = .ok (.iconst 0, 1) := by decide +kernel
theorem dX12_many_204 : decode cX12_many 204 = .ok (.iadd, 1) := by decide +kernel
theorem dX12_many_205 : decode cX12_many 205 = .ok (.istore 4, 2) := by decide +kernel
theorem dX12_many_207 : decode cX12_many 207 = .ok (.iload 5, 2) := by decide +kernel
theorem dX12_many_209 : decode cX12_many 209 = .ok (.aload_n 0, 1) := by decide +kernel
theorem dX12_many_210 : decode cX12_many 210 = .ok (.getfield 77, 3) := by decide +kernel
theorem dX12_many_213 : decode cX12_many 213 = .ok (.iload 6, 2) := by decide +kernel
theorem dX12_many_215 : decode cX12_many 215 = .ok (.iaload, 1) := by decide +kernel
theorem dX12_many_216 : decode cX12_many 216 = .ok (.invokestatic 165, 3) := by decide +kernel
theorem dX12_many_219 : decode cX12_many 219 = .ok (.iconst 2, 1) := by decide +kernel
theorem dX12_many_220 : decode cX12_many 220 = .ok (.if_icmp .ne 7, 3) := by decide +kernel
theorem dX12_many_223 : decode cX12_many 223 = .ok (.iconst 1, 1) := by decide +kernel
theorem dX12_many_224 : decode cX12_many 224 = .ok (.goto 4, 3) := by decide +kernel
theorem dX12_many_227 : decode cX12_many 227 = .ok (.iconst 0, 1) := by decide +kernel
theorem dX12_many_228 : decode cX12_many 228 = .ok (.iadd, 1) := by decide +kernel
theorem dX12_many_229 : decode cX12_many 229 = .ok (.istore 5, 2) := by decide +kernel
theorem dX12_many_231 : decode cX12_many 231 = .ok (.iinc 6 1, 3) := by decide +kernel
theorem dX12_many_234 : decode cX12_many 234 = .ok (.goto (-59), 3) := by decide +kernel
theorem dX12_many_237 : decode cX12_many 237 = .ok (.iload_n 3, 1) := by decide +kernel
theorem dX12_many_238 : decode cX12_many 238 = .ok (.invokestatic 165, 3) := by decide +kernel
theorem dX12_many_241 : decode cX12_many 241 = .ok (.iload 5, 2) := by decide +kernel
theorem dX12_many_243 : decode cX12_many 243 = .ok (.ifCond .le 16, 3) := by decide +kernel
theorem dX12_many_246 : decode cX12_many 246 = .ok (.iload 4, 2) := by decide +kernel
theorem dX12_many_248 : decode cX12_many 248 = .ok (.iload 4, 2) := by decide +kernel
theorem dX12_many_250 : decode cX12_many 250 = .ok (.imul, 1) := by decide +kernel
theorem dX12_many_251 : decode cX12_many 251 = .ok (.iconst 2, 1) := by decide +kernel
theorem dX12_many_252 : decode cX12_many 252 = .ok (.iload 5, 2) := by decide +kernel
theorem dX12_many_254 : decode cX12_many 254 = .ok (.imul, 1) := by decide +kernel
theorem dX12_many_255 : decode cX12_many 255 = .ok (.idiv, 1) := by decide +kernel
theorem dX12_many_256 : decode cX12_many 256 = .ok (.goto 12, 3) := by decide +kernel
theorem dX12_many_259 : decode cX12_many 259 = .ok (.iload 4, 2) := by decide +kernel
theorem dX12_many_261 : decode cX12_many 261 = .ok (.iload 4, 2) := by decide +kernel
theorem dX12_many_263 : decode cX12_many 263 = .ok (.iconst 1, 1) := by decide +kernel
theorem dX12_many_264 : decode cX12_many 264 = .ok (.isub, 1) := by decide +kernel
theorem dX12_many_265 : decode cX12_many 265 = .ok (.imul, 1) := by decide +kernel
theorem dX12_many_266 : decode cX12_many 266 = .ok (.iconst 2, 1) := by decide +kernel
theorem dX12_many_267 : decode cX12_many 267 = .ok (.idiv, 1) := by decide +kernel
theorem dX12_many_268 : decode cX12_many 268 = .ok (.iadd, 1) := by decide +kernel
theorem dX12_many_269 : decode cX12_many 269 = .ok (.ireturn, 1) := by decide +kernel
theorem dX12_look_0 : decode cX12_look 0 = .ok (.aload_n 0, 1) := by decide +kernel
theorem dX12_look_1 : decode cX12_look 1 = .ok (.iconst 0, 1) := by decide +kernel
theorem dX12_look_2 : decode cX12_look 2 = .ok (.putfield 80, 3) := by decide +kernel
theorem dX12_look_5 : decode cX12_look 5 = .ok (.iload_n 1, 1) := by decide +kernel
theorem dX12_look_6 : decode cX12_look 6 = .ok (.invokestatic 104, 3) := by decide +kernel
theorem dX12_look_9 : decode cX12_look 9 = .ok (.ifCond .eq 10, 3) := by decide +kernel
theorem dX12_look_12 : decode cX12_look 12 = .ok (.iload_n 2, 1) := by decide +kernel
theorem dX12_look_13 : decode cX12_look 13 = .ok (.invokestatic 95, 3) := by decide +kernel
theorem dX12_look_16 : decode cX12_look 16 = .ok (.ifCond .ne 5, 3) := by decide +kernel
theorem dX12_look_19 : decode cX12_look 19 = .ok (.iconst (-1), 1) := by decide +kernel
theorem dX12_look_20 : decode cX12_look 20 = .ok (.ireturn, 1) := by decide +kernel
theorem dX12_look_21 : decode cX12_look 21 = .ok (.bipush (-9), 2) := by decide +kernel
theorem dX12_look_23 : decode cX12_look 23 = .ok (.istore_n 3, 1) := by decide +kernel
theorem dX12_look_24 : decode cX12_look 24 = .ok (.iconst 0, 1) := by decide +kernel
theorem dX12_look_25 : decode cX12_look 25 = .ok (.istore 4, 2) := by decide +kernel
theorem dX12_look_27 : decode cX12_look 27 = .ok (.iconst 0, 1) := by decide +kernel
theorem dX12_look_28 : decode cX12_look 28 = .ok (.istore 5, 2) := by decide +kernel
theorem dX12_look_30 : decode cX12_look 30 = .ok (.iload 5, 2) := by decide +kernel
theorem dX12_look_32 : decode cX12_look 32 = .ok (.aload_n 0, 1) := by decide +kernel
theorem dX12_look_33 : decode cX12_look 33 = .ok (.getfield 88, 3) := by decide +kernel
theorem dX12_look_36 : decode cX12_look 36 = .ok (.if_icmp .ge 157, 3) := by decide +kernel
theorem dX12_look_39 : decode cX12_look 39 = .ok (.iconst 0, 1) := by decide +kernel
theorem dX12_look_40 : decode cX12_look 40 = .ok (.istore 6, 2) := by decide +kernel
theorem dX12_look_42 : decode cX12_look 42 = .ok (.iload 6, 2) := by decide +kernel
theorem dX12_look_44 : decode cX12_look 44 = .ok (.iconst 3, 1) := by decide +kernel
theorem dX12_look_45 : decode cX12_look 45 = .ok (.if_icmp .ge 142, 3) := by decide +kernel
theorem dX12_look_48 : decode cX12_look 48 = .ok (.bipush 10, 2) := by decide +kernel
theorem dX12_look_50 : decode cX12_look 50 = .ok (.iload 5, 2) := by decide +kernel
theorem dX12_look_52 : decode cX12_look 52 = .ok (.imul, 1) := by decide +kernel
theorem dX12_look_53 : decode cX12_look 53 = .ok (.iconst 5, 1) := by decide +kernel
theorem dX12_look_54 : decode cX12_look 54 = .ok (.iadd, 1) := by decide +kernel
theorem dX12_look_55 : decode cX12_look 55 = .ok (.iload 6, 2) := by decide +kernel
theorem dX12_look_57 : decode cX12_look 57 = .ok (.iadd, 1) := by decide +kernel
theorem dX12_look_58 : decode cX12_look 58 = .ok (.istore 7, 2) := by decide +kernel
theorem dX12_look_60 : decode cX12_look 60 = .ok (.aload_n 0, 1) := by decide +kernel
theorem dX12_look_61 : decode cX12_look 61 = .ok (.iload 5, 2) := by decide +kernel
theorem dX12_look_63 : decode cX12_look 63 = .ok (.iload_n 1, 1) := by decide +kernel
theorem dX12_look_64 : decode cX12_look 64 = .ok (.iload_n 2, 1) := by decide +kernel
theorem dX12_look_65 : decode cX12_look 65 = .ok (.invokevirtual 136, 3) := by decide +kernel
theorem dX12_look_68 : decode cX12_look 68 = .ok (.ifCond .eq 113, 3) := by decide +kernel
theorem dX12_look_71 : decode cX12_look 71 = .ok (.aload_n 0, 1) := by decide +kernel
theorem dX12_look_72 : decode cX12_look 72 = .ok (.getfield 37, 3) := by decide +kernel
theorem dX12_look_75 : decode cX12_look 75 = .ok (.iload 7, 2) := by decide +kernel
theorem dX12_look_77 : decode cX12_look 77 = .ok (.iaload, 1) := by decide +kernel
theorem dX12_look_78 : decode cX12_look 78 = .ok (.ifCond .ge 103, 3) := by decide +kernel
theorem dX12_look_81 : decode cX12_look 81 = .ok (.aload_n 0, 1) := by decide +kernel
theorem dX12_look_82 : decode cX12_look 82 = .ok (.iload 5, 2) := by decide +kernel
theorem dX12_look_84 : decode cX12_look 84 = .ok (.invokevirtual 132, 3) := by decide +kernel
theorem dX12_look_87 : decode cX12_look 87 = .ok (.istore 8, 2) := by decide +kernel
theorem dX12_look_89 : decode cX12_look 89 = .ok (.iconst 0, 1) := by decide +kernel
theorem dX12_look_90 : decode cX12_look 90 = .ok (.istore 9, 2) := by decide +kernel
theorem dX12_look_92 : decode cX12_look 92 = .ok (.iconst 0, 1) := by decide +kernel
theorem dX12_look_93 : decode cX12_look 93 = .ok (.istore 10, 2) := by decide +kernel
theorem dX12_look_95 : decode cX12_look 95 = .ok (.iload 10, 2) := by decide +kernel
theorem dX12_look_97 : decode cX12_look 97 = .ok (.bipush 10, 2) := by decide +kernel
theorem dX12_look_99 : decode cX12_look 99 = .ok (.if_icmp .ge 42, 3) := by decide +kernel
theorem dX12_look_102 : decode cX12_look 102 = .ok (.aload_n 0, 1) := by decide +kernel
theorem dX12_look_103 : decode cX12_look 103 = .ok (.getfield 37, 3) := by decide +kernel
theorem dX12_look_106 : decode cX12_look 106 = .ok (.iload 7, 2) := by decide +kernel
theorem dX12_look_108 : decode cX12_look 108 = .ok (.iload 10, 2) := by decide +kernel
theorem dX12_look_110 : decode cX12_look 110 = .ok (.iastore, 1) := by decide +kernel
theorem dX12_look_111 : decode cX12_look 111 = .ok (.aload_n 0, 1) := by decide +kernel
theorem dX12_look_112 : decode cX12_look 112 = .ok (.iload 5, 2) := by decide +kernel
theorem dX12_look_114 : decode cX12_look 114 = .ok (.invokevirtual 132, 3) := by decide +kernel
theorem dX12_look_117 : decode cX12_look 117 = .ok (.istore 11, 2) := by decide +kernel
theorem dX12_look_119 : decode cX12_look 119 = .ok (.iload 11, 2) := by decide +kernel
theorem dX12_look_121 : decode cX12_look 121 = .ok (.iload 9, 2) := by decide +kernel
theorem dX12_look_123 : decode cX12_look 123 = .ok (.if_icmp .le 8, 3) := by decide +kernel
theorem dX12_look_126 : decode cX12_look 126 = .ok (.iload 11, 2) := by decide +kernel
theorem dX12_look_128 : decode cX12_look 128 = .ok (.goto 5, 3) := by decide +kernel
theorem dX12_look_131 : decode cX12_look 131 = .ok (.iload 9, 2) := by decide +kernel
theorem dX12_look_133 : decode cX12_look 133 = .ok (.istore 9, 2) := by decide +kernel
theorem dX12_look_135 : decode cX12_look 135 = .ok (.iinc 10 1, 3) := by decide +kernel
theorem dX12_look_138 : decode cX12_look 138 = .ok (.goto (-43), 3) := by decide +kernel
theorem dX12_look_141 : decode cX12_look 141 = .ok (.aload_n 0, 1) := by decide +kernel
theorem dX12_look_142 : decode cX12_look 142 = .ok (.getfield 37, 3) := by decide +kernel
theorem dX12_look_145 : decode cX12_look 145 = .ok (.iload 7, 2) := by decide +kernel
theorem dX12_look_147 : decode cX12_look 147 = .ok (.iconst (-1), 1) := by decide +kernel
theorem dX12_look_148 : decode cX12_look 148 = .ok (.iastore, 1) := by decide +kernel
theorem dX12_look_149 : decode cX12_look 149 = .ok (.iload 9, 2) := by decide +kernel
theorem dX12_look_151 : decode cX12_look 151 = .ok (.iload 8, 2) := by decide +kernel
theorem dX12_look_153 : decode cX12_look 153 = .ok (.if_icmp .ge 28, 3) := by decide +kernel
theorem dX12_look_156 : decode cX12_look 156 = .ok (.iload_n 3, 1) := by decide +kernel
theorem dX12_look_157 : decode cX12_look 157 = .ok (.bipush (-9), 2) := by decide +kernel
theorem dX12_look_159 : decode cX12_look 159 = .ok (.if_icmp .eq 10, 3) := by decide +kernel
theorem dX12_look_162 : decode cX12_look 162 = .ok (.iload 9, 2) := by decide +kernel
theorem dX12_look_164 : decode cX12_look 164 = .ok (.iload 4, 2) := by decide +kernel
theorem dX12_look_166 : decode cX12_look 166 = .ok (.if_icmp .ge 15, 3) := by decide +kernel
theorem dX12_look_169 : decode cX12_look 169 = .ok (.iconst 3, 1) := by decide +kernel
theorem dX12_look_170 : decode cX12_look 170 = .ok (.iload 5, 2) := by decide +kernel
theorem dX12_look_172 : decode cX12_look 172 = .ok (.imul, 1) := by decide +kernel
theorem dX12_look_173 : decode cX12_look 173 = .ok (.iload 6, 2) := by decide +kernel
theorem dX12_look_175 : decode cX12_look 175 = .ok (.iadd, 1) := by decide +kernel
theorem dX12_look_176 : decode cX12_look 176 = .ok (.istore_n 3, 1) := by decide +kernel
theorem dX12_look_177 : decode cX12_look 177 = .ok (.iload 9, 2) := by decide +kernel
theorem dX12_look_179 : decode cX12_look 179 = .ok (.istore 4, 2) := by decide +kernel
theorem dX12_look_181 : decode cX12_look 181 = .ok (.iinc 6 1, 3) := by decide +kernel
theorem dX12_look_184 : decode cX12_look 184 = .ok (.goto (-142), 3) := by decide +kernel
theorem dX12_look_187 : decode cX12_look 187 = .ok (.iinc 5 1, 3) := by decide +kernel
theorem dX12_look_190 : decode cX12_look 190 = .ok (.goto (-160), 3) := by decide +kernel
theorem dX12_look_193 : decode cX12_look 193 = .ok (.iload_n 3, 1) := by decide +kernel
theorem dX12_look_194 : decode cX12_look 194 = .ok (.ireturn, 1) := by decide +kernel
theorem dX12_count_0 : decode cX12_count 0 = .ok (.aload_n 0, 1) := by decide +kernel
theorem dX12_count_1 : decode cX12_count 1 = .ok (.iconst 0, 1) := by decide +kernel
theorem dX12_count_2 : decode cX12_count 2 = .ok (.putfield 80, 3) := by decide +kernel
theorem dX12_count_5 : decode cX12_count 5 = .ok (.iconst 0, 1) := by decide +kernel
theorem dX12_count_6 : decode cX12_count 6 = .ok (.istore_n 2, 1) := by decide +kernel
theorem dX12_count_7 : decode cX12_count 7 = .ok (.iconst 0, 1) := by decide +kernel
theorem dX12_count_8 : decode cX12_count 8 = .ok (.istore_n 3, 1) := by decide +kernel
theorem dX12_count_9 : decode cX12_count 9 = .ok (.iload_n 3, 1) := by decide +kernel
theorem dX12_count_10 : decode cX12_count 10 = .ok (.aload_n 0, 1) := by decide +kernel
theorem dX12_count_11 : decode cX12_count 11 = .ok (.getfield 139, 3) := by decide +kernel
theorem dX12_count_14 : decode cX12_count 14 = .ok (.if_icmp .ge 28, 3) := by decide +kernel
theorem dX12_count_17 : decode cX12_count 17 = .ok (.iload_n 2, 1) := by decide +kernel
theorem dX12_count_18 : decode cX12_count 18 = .ok (.aload_n 0, 1) := by decide +kernel
theorem dX12_count_19 : decode cX12_count 19 = .ok (.getfield 49, 3) := by decide +kernel
theorem dX12_count_22 : decode cX12_count 22 = .ok (.iload_n 3, 1) := by decide +kernel
theorem dX12_count_23 : decode cX12_count 23 = .ok (.iaload, 1) := by decide +kernel
theorem dX12_count_24 : decode cX12_count 24 = .ok (.bipush (-9), 2) := by decide +kernel
theorem dX12_count_26 : decode cX12_count 26 = .ok (.if_icmp .ne 7, 3) := by decide +kernel
theorem dX12_count_29 : decode cX12_count 29 = .ok (.iconst 1, 1) := by decide +kernel
theorem dX12_count_30 : decode cX12_count 30 = .ok (.goto 4, 3) := by decide +kernel
theorem dX12_count_33 : decode cX12_count 33 = .ok (.iconst 0, 1) := by decide +kernel
theorem dX12_count_34 : decode cX12_count 34 = .ok (.iadd, 1) := by decide +kernel
theorem dX12_count_35 : decode cX12_count 35 = .ok (.istore_n 2, 1) := by decide +kernel
theorem dX12_count_36 : decode cX12_count 36 = .ok (.iinc 3 1, 3) := by decide +kernel
theorem dX12_count_39 : decode cX12_count 39 = .ok (.goto (-30), 3) := by decide +kernel
theorem dX12_count_42 : decode cX12_count 42 = .ok (.iload_n 1, 1) := by decide +kernel
theorem dX12_count_43 : decode cX12_count 43 = .ok (.ifCond .ne 10, 3) := by decide +kernel
theorem dX12_count_46 : decode cX12_count 46 = .ok (.aload_n 0, 1) := by decide +kernel
theorem dX12_count_47 : decode cX12_count 47 = .ok (.getfield 98, 3) := by decide +kernel
theorem dX12_count_50 : decode cX12_count 50 = .ok (.goto 74, 3) := by decide +kernel
theorem dX12_count_53 : decode cX12_count 53 = .ok (.iload_n 1, 1) := by decide +kernel
theorem dX12_count_54 : decode cX12_count 54 = .ok (.iconst 1, 1) := by decide +kernel
theorem dX12_count_55 : decode cX12_count 55 = .ok (.if_icmp .ne 10, 3) := by decide +kernel
theorem dX12_count_58 : decode cX12_count 58 = .ok (.aload_n 0, 1) := by decide +kernel
theorem dX12_count_59 : decode cX12_count 59 = .ok (.getfield 101, 3) := by decide +kernel
theorem dX12_count_62 : decode cX12_count 62 = .ok (.goto 62, 3) := by decide +kernel
theorem dX12_count_65 : decode cX12_count 65 = .ok (.iload_n 1, 1) := by decide +kernel
theorem dX12_count_66 : decode cX12_count 66 = .ok (.iconst 2, 1) := by decide +kernel
theorem dX12_count_67 : decode cX12_count 67 = .ok (.if_icmp .ne 10, 3) := by decide +kernel
theorem dX12_count_70 : decode cX12_count 70 = .ok (.aload_n 0, 1) := by decide +kernel
theorem dX12_count_71 : decode cX12_count 71 = .ok (.getfield 88, 3) := by decide +kernel
theorem dX12_count_74 : decode cX12_count 74 = .ok (.goto 50, 3) := by decide +kernel
theorem dX12_count_77 : decode cX12_count 77 = .ok (.iload_n 1, 1) := by decide +kernel
theorem dX12_count_78 : decode cX12_count 78 = .ok (.iconst 3, 1) := by decide +kernel
theorem dX12_count_79 : decode cX12_count 79 = .ok (.if_icmp .ne 10, 3) := by decide +kernel
theorem dX12_count_82 : decode cX12_count 82 = .ok (.aload_n 0, 1) := by decide +kernel
theorem dX12_count_83 : decode cX12_count 83 = .ok (.getfield 139, 3) := by decide +kernel
theorem dX12_count_86 : decode cX12_count 86 = .ok (.goto 38, 3) := by decide +kernel
theorem dX12_count_89 : decode cX12_count 89 = .ok (.iload_n 1, 1) := by decide +kernel
theorem dX12_count_90 : decode cX12_count 90 = .ok (.iconst 4, 1) := by decide +kernel
theorem dX12_count_91 : decode cX12_count 91 = .ok (.if_icmp .ne 10, 3) := by decide +kernel
theorem dX12_count_94 : decode cX12_count 94 = .ok (.aload_n 0, 1) := by decide +kernel
theorem dX12_count_95 : decode cX12_count 95 = .ok (.getfield 230, 3) := by decide +kernel
theorem dX12_count_98 : decode cX12_count 98 = .ok (.goto 26, 3) := by decide +kernel
theorem dX12_count_101 : decode cX12_count 101 = .ok (.iload_n 1, 1) := by decide +kernel
theorem dX12_count_102 : decode cX12_count 102 = .ok (.iconst 5, 1) := by decide +kernel
theorem dX12_count_103 : decode cX12_count 103 = .ok (.if_icmp .ne 10, 3) := by decide +kernel
theorem dX12_count_106 : decode cX12_count 106 = .ok (.aload_n 0, 1) := by decide +kernel
theorem dX12_count_107 : decode cX12_count 107 = .ok (.getfield 168, 3) := by decide +kernel
theorem dX12_count_110 : decode cX12_count 110 = .ok (.goto 14, 3) := by decide +kernel
theorem dX12_count_113 : decode cX12_count 113 = .ok (.iload_n 1, 1) := by decide +kernel
theorem dX12_count_114 : decode cX12_count 114 = .ok (.bipush 6, 2) := by decide +kernel
theorem dX12_count_116 : decode cX12_count 116 = .ok (.if_icmp .ne 7, 3) := by decide +kernel
theorem dX12_count_119 : decode cX12_count 119 = .ok (.iload_n 2, 1) := by decide +kernel
theorem dX12_count_120 : decode cX12_count 120 = .ok (.goto 4, 3) := by decide +kernel
theorem dX12_count_123 : decode cX12_count 123 = .ok (.iconst (-1), 1) := by decide +kernel
theorem dX12_count_124 : decode cX12_count 124 = .ok (.ireturn, 1) := by decide +kernel
theorem dX12_trace_0 : decode cX12_trace 0 = .ok (.aload_n 0, 1) := by decide +kernel
theorem dX12_trace_1 : decode cX12_trace 1 = .ok (.iconst 0, 1) := by decide +kernel
theorem dX12_trace_2 : decode cX12_trace 2 = .ok (.putfield 80, 3) := by decide +kernel
theorem dX12_trace_5 : decode cX12_trace 5 = .ok (.aload_n 0, 1) := by decide +kernel
theorem dX12_trace_6 : decode cX12_trace 6 = .ok (.getfield 114, 3) := by decide +kernel
theorem dX12_trace_9 : decode cX12_trace 9 = .ok (.lreturn, 1) := by decide +kernel
