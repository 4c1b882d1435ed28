theorem fX11_9 : FL RX11 9 11 0 := ⟨by decide, tb_in (List.mem_of_getElem? (i := 263) (by decide +kernel)) rfl⟩
theorem fX11_15 : FL RX11 15 11 1 := ⟨by decide, tb_in (List.mem_of_getElem? (i := 264) (by decide +kernel)) rfl⟩
theorem fX11_21 : FL RX11 21 11 2 := ⟨by decide, tb_in (List.mem_of_getElem? (i := 265) (by decide +kernel)) rfl⟩
theorem fX11_28 : FL RX11 28 11 3 := ⟨by decide, tb_in (List.mem_of_getElem? (i := 266) (by decide +kernel)) rfl⟩
theorem fX11_35 : FL RX11 35 11 4 := ⟨by decide, tb_in (List.mem_of_getElem? (i := 267) (by decide +kernel)) rfl⟩
theorem fX11_42 : FL RX11 42 11 5 := ⟨by decide, tb_in (List.mem_of_getElem? (i := 268) (by decide +kernel)) rfl⟩
theorem fX11_51 : FL RX11 51 11 6 := ⟨by decide, tb_in (List.mem_of_getElem? (i := 269) (by decide +kernel)) rfl⟩
theorem fX11_58 : FL RX11 58 11 7 := ⟨by decide, tb_in (List.mem_of_getElem? (i := 270) (by decide +kernel)) rfl⟩
theorem fX11_65 : FL RX11 65 11 8 := ⟨by decide, tb_in (List.mem_of_getElem? (i := 271) (by decide +kernel)) rfl⟩
theorem fX11_69 : FL RX11 69 11 9 := ⟨by decide, tb_in (List.mem_of_getElem? (i := 272) (by decide +kernel)) rfl⟩
theorem fX11_72 : FL RX11 72 11 10 := ⟨by decide, tb_in (List.mem_of_getElem? (i := 273) (by decide +kernel)) rfl⟩
theorem fX11_76 : FL RX11 76 11 11 := ⟨by decide, tb_in (List.mem_of_getElem? (i := 274) (by decide +kernel)) rfl⟩
theorem fX11_106 : FL RX11 106 0 1 := ⟨by decide, tb_in (List.mem_of_getElem? (i := 70) (by decide +kernel)) rfl⟩
theorem fX11_130 : FL RX11 130 0 0 := ⟨by decide, tb_in (List.mem_of_getElem? (i := 67) (by decide +kernel)) rfl⟩
theorem fX11_138 : FL RX11 138 5 0 := ⟨by decide, tb_in (List.mem_of_getElem? (i := 397) (by decide +kernel)) rfl⟩
theorem fX11_141 : FL RX11 141 5 1 := ⟨by decide, tb_in (List.mem_of_getElem? (i := 399) (by decide +kernel)) rfl⟩
theorem fX11_144 : FL RX11 144 5 7 := ⟨by decide, tb_in (List.mem_of_getElem? (i := 414) (by decide +kernel)) rfl⟩
theorem fX11_147 : FL RX11 147 5 6 := ⟨by decide, tb_in (List.mem_of_getElem? (i := 411) (by decide +kernel)) rfl⟩
theorem fX11_150 : FL RX11 150 5 2 := ⟨by decide, tb_in (List.mem_of_getElem? (i := 401) (by decide +kernel)) rfl⟩
theorem fX11_153 : FL RX11 153 5 3 := ⟨by decide, tb_in (List.mem_of_getElem? (i := 405) (by decide +kernel)) rfl⟩
theorem fX11_180 : FL RX11 180 10 7 := ⟨by decide, tb_in (List.mem_of_getElem? (i := 113) (by decide +kernel)) rfl⟩
theorem fX11_187 : FL RX11 187 10 2 := ⟨by decide, tb_in (List.mem_of_getElem? (i := 102) (by decide +kernel)) rfl⟩
theorem fX11_190 : FL RX11 190 10 3 := ⟨by decide, tb_in (List.mem_of_getElem? (i := 104) (by decide +kernel)) rfl⟩
theorem fX11_193 : FL RX11 193 10 4 := ⟨by decide, tb_in (List.mem_of_getElem? (i := 106) (by decide +kernel)) rfl⟩
theorem fX11_200 : FL RX11 200 10 5 := ⟨by decide, tb_in (List.mem_of_getElem? (i := 109) (by decide +kernel)) rfl⟩
theorem fX11_207 : FL RX11 207 3 4 := ⟨by decide, tb_in (List.mem_of_getElem? (i := 144) (by decide +kernel)) rfl⟩
theorem fX11_213 : FL RX11 213 3 2 := ⟨by decide, tb_in (List.mem_of_getElem? (i := 141) (by decide +kernel)) rfl⟩
theorem fX11_222 : FL RX11 222 3 5 := ⟨by decide, tb_in (List.mem_of_getElem? (i := 146) (by decide +kernel)) rfl⟩
theorem fX11_225 : FL RX11 225 3 6 := ⟨by decide, tb_in (List.mem_of_getElem? (i := 148) (by decide +kernel)) rfl⟩
theorem fX11_228 : FL RX11 228 3 7 := ⟨by decide, tb_in (List.mem_of_getElem? (i := 150) (by decide +kernel)) rfl⟩
theorem fX11_231 : FL RX11 231 8 1 := ⟨by decide, tb_in (List.mem_of_getElem? (i := 176) (by decide +kernel)) rfl⟩
theorem fX11_240 : FL RX11 240 7 1 := ⟨by decide, tb_in (List.mem_of_getElem? (i := 257) (by decide +kernel)) rfl⟩
theorem fX11_248 : FL RX11 248 7 0 := ⟨by decide, tb_in (List.mem_of_getElem? (i := 254) (by decide +kernel)) rfl⟩
theorem fX11_260 : FL RX11 260 9 9 := ⟨by decide, tb_in (List.mem_of_getElem? (i := 230) (by decide +kernel)) rfl⟩
theorem fX11_280 : FL RX11 280 4 0 := ⟨by decide, tb_in (List.mem_of_getElem? (i := 84) (by decide +kernel)) rfl⟩
theorem fX0_11 : FL RX0 11 0 0 := ⟨by decide, tb_in (List.mem_of_getElem? (i := 65) (by decide +kernel)) rfl⟩
theorem fX0_17 : FL RX0 17 0 1 := ⟨by decide, tb_in (List.mem_of_getElem? (i := 68) (by decide +kernel)) rfl⟩
theorem fX0_25 : FL RX0 25 5 8 := ⟨by decide, tb_in (List.mem_of_getElem? (i := 418) (by decide +kernel)) rfl⟩
theorem fX0_33 : FL RX0 33 5 7 := ⟨by decide, tb_in (List.mem_of_getElem? (i := 413) (by decide +kernel)) rfl⟩
theorem fX0_36 : FL RX0 36 5 3 := ⟨by decide, tb_in (List.mem_of_getElem? (i := 404) (by decide +kernel)) rfl⟩
theorem fX0_69 : FL RX0 69 1 0 := ⟨by decide, tb_in (List.mem_of_getElem? (i := 391) (by decide +kernel)) rfl⟩
theorem fX0_73 : FL RX0 73 5 4 := ⟨by decide, tb_in (List.mem_of_getElem? (i := 407) (by decide +kernel)) rfl⟩
theorem fX0_81 : FL RX0 81 5 12 := ⟨by decide, tb_in (List.mem_of_getElem? (i := 425) (by decide +kernel)) rfl⟩
theorem fX1_11 : FL RX1 11 1 0 := ⟨by decide, tb_in (List.mem_of_getElem? (i := 390) (by decide +kernel)) rfl⟩
theorem fX2_9 : FL RX2 9 2 0 := ⟨by decide, tb_in (List.mem_of_getElem? (i := 347) (by decide +kernel)) rfl⟩
theorem fX2_15 : FL RX2 15 2 1 := ⟨by decide, tb_in (List.mem_of_getElem? (i := 349) (by decide +kernel)) rfl⟩
theorem fX2_19 : FL RX2 19 2 2 := ⟨by decide, tb_in (List.mem_of_getElem? (i := 350) (by decide +kernel)) rfl⟩
theorem fX2_22 : FL RX2 22 2 3 := ⟨by decide, tb_in (List.mem_of_getElem? (i := 351) (by decide +kernel)) rfl⟩
theorem fX2_25 : FL RX2 25 2 4 := ⟨by decide, tb_in (List.mem_of_getElem? (i := 352) (by decide +kernel)) rfl⟩
theorem fX2_32 : FL RX2 32 6 1 := ⟨by decide, tb_in (List.mem_of_getElem? (i := 325) (by decide +kernel)) rfl⟩
theorem fX2_35 : FL RX2 35 6 2 := ⟨by decide, tb_in (List.mem_of_getElem? (i := 327) (by decide +kernel)) rfl⟩
theorem fX3_11 : FL RX3 11 3 1 := ⟨by decide, tb_in (List.mem_of_getElem? (i := 139) (by decide +kernel)) rfl⟩
theorem fX3_17 : FL RX3 17 3 2 := ⟨by decide, tb_in (List.mem_of_getElem? (i := 140) (by decide +kernel)) rfl⟩
theorem fX3_21 : FL RX3 21 3 3 := ⟨by decide, tb_in (List.mem_of_getElem? (i := 142) (by decide +kernel)) rfl⟩
theorem fX3_24 : FL RX3 24 3 4 := ⟨by decide, tb_in (List.mem_of_getElem? (i := 143) (by decide +kernel)) rfl⟩
theorem fX3_28 : FL RX3 28 3 5 := ⟨by decide, tb_in (List.mem_of_getElem? (i := 145) (by decide +kernel)) rfl⟩
theorem fX3_31 : FL RX3 31 3 6 := ⟨by decide, tb_in (List.mem_of_getElem? (i := 147) (by decide +kernel)) rfl⟩
theorem fX3_34 : FL RX3 34 3 7 := ⟨by decide, tb_in (List.mem_of_getElem? (i := 149) (by decide +kernel)) rfl⟩
theorem fX3_37 : FL RX3 37 3 0 := ⟨by decide, tb_in (List.mem_of_getElem? (i := 138) (by decide +kernel)) rfl⟩
theorem fX3_41 : FL RX3 41 0 1 := ⟨by decide, tb_in (List.mem_of_getElem? (i := 69) (by decide +kernel)) rfl⟩
theorem fX3_46 : FL RX3 46 0 0 := ⟨by decide, tb_in (List.mem_of_getElem? (i := 66) (by decide +kernel)) rfl⟩
theorem fX3_49 : FL RX3 49 5 8 := ⟨by decide, tb_in (List.mem_of_getElem? (i := 416) (by decide +kernel)) rfl⟩
theorem fX3_57 : FL RX3 57 5 11 := ⟨by decide, tb_in (List.mem_of_getElem? (i := 423) (by decide +kernel)) rfl⟩
theorem fX3_66 : FL RX3 66 10 5 := ⟨by decide, tb_in (List.mem_of_getElem? (i := 108) (by decide +kernel)) rfl⟩
theorem fX3_69 : FL RX3 69 5 3 := ⟨by decide, tb_in (List.mem_of_getElem? (i := 403) (by decide +kernel)) rfl⟩
theorem fX3_85 : FL RX3 85 10 6 := ⟨by decide, tb_in (List.mem_of_getElem? (i := 111) (by decide +kernel)) rfl⟩
theorem fX4_9 : FL RX4 9 4 0 := ⟨by decide, tb_in (List.mem_of_getElem? (i := 83) (by decide +kernel)) rfl⟩
theorem fX4_34 : FL RX4 34 5 8 := ⟨by decide, tb_in (List.mem_of_getElem? (i := 417) (by decide +kernel)) rfl⟩
theorem fX4_48 : FL RX4 48 5 6 := ⟨by decide, tb_in (List.mem_of_getElem? (i := 410) (by decide +kernel)) rfl⟩
theorem fX4_56 : FL RX4 56 5 9 := ⟨by decide, tb_in (List.mem_of_getElem? (i := 420) (by decide +kernel)) rfl⟩
theorem fX5_12 : FL RX5 12 5 3 := ⟨by decide, tb_in (List.mem_of_getElem? (i := 402) (by decide +kernel)) rfl⟩
theorem fX5_18 : FL RX5 18 5 4 := ⟨by decide, tb_in (List.mem_of_getElem? (i := 406) (by decide +kernel)) rfl⟩
theorem fX5_22 : FL RX5 22 5 6 := ⟨by decide, tb_in (List.mem_of_getElem? (i := 409) (by decide +kernel)) rfl⟩
theorem fX5_26 : FL RX5 26 5 7 := ⟨by decide, tb_in (List.mem_of_getElem? (i := 412) (by decide +kernel)) rfl⟩
theorem fX5_29 : FL RX5 29 5 8 := ⟨by decide, tb_in (List.mem_of_getElem? (i := 415) (by decide +kernel)) rfl⟩
theorem fX5_33 : FL RX5 33 5 10 := ⟨by decide, tb_in (List.mem_of_getElem? (i := 421) (by decide +kernel)) rfl⟩
theorem fX5_36 : FL RX5 36 5 11 := ⟨by decide, tb_in (List.mem_of_getElem? (i := 422) (by decide +kernel)) rfl⟩
theorem fX5_39 : FL RX5 39 5 0 := ⟨by decide, tb_in (List.mem_of_getElem? (i := 396) (by decide +kernel)) rfl⟩
theorem fX5_42 : FL RX5 42 5 1 := ⟨by decide, tb_in (List.mem_of_getElem? (i := 398) (by decide +kernel)) rfl⟩
theorem fX5_45 : FL RX5 45 5 2 := ⟨by decide, tb_in (List.mem_of_getElem? (i := 400) (by decide +kernel)) rfl⟩
theorem fX5_48 : FL RX5 48 5 5 := ⟨by decide, tb_in (List.mem_of_getElem? (i := 408) (by decide +kernel)) rfl⟩
theorem fX5_51 : FL RX5 51 5 9 := ⟨by decide, tb_in (List.mem_of_getElem? (i := 419) (by decide +kernel)) rfl⟩
theorem fX5_54 : FL RX5 54 2 0 := ⟨by decide, tb_in (List.mem_of_getElem? (i := 348) (by decide +kernel)) rfl⟩
theorem fX5_60 : FL RX5 60 6 0 := ⟨by decide, tb_in (List.mem_of_getElem? (i := 323) (by decide +kernel)) rfl⟩
theorem fX5_78 : FL RX5 78 5 12 := ⟨by decide, tb_in (List.mem_of_getElem? (i := 424) (by decide +kernel)) rfl⟩
theorem fX6_7 : FL RX6 7 6 0 := ⟨by decide, tb_in (List.mem_of_getElem? (i := 322) (by decide +kernel)) rfl⟩
theorem fX6_13 : FL RX6 13 6 1 := ⟨by decide, tb_in (List.mem_of_getElem? (i := 324) (by decide +kernel)) rfl⟩
theorem fX6_16 : FL RX6 16 6 2 := ⟨by decide, tb_in (List.mem_of_getElem? (i := 326) (by decide +kernel)) rfl⟩
theorem fX7_11 : FL RX7 11 7 0 := ⟨by decide, tb_in (List.mem_of_getElem? (i := 252) (by decide +kernel)) rfl⟩
theorem fX7_17 : FL RX7 17 7 1 := ⟨by decide, tb_in (List.mem_of_getElem? (i := 255) (by decide +kernel)) rfl⟩
theorem fX8_9 : FL RX8 9 8 0 := ⟨by decide, tb_in (List.mem_of_getElem? (i := 174) (by decide +kernel)) rfl⟩
theorem fX8_15 : FL RX8 15 8 1 := ⟨by decide, tb_in (List.mem_of_getElem? (i := 175) (by decide +kernel)) rfl⟩
theorem fX8_19 : FL RX8 19 8 2 := ⟨by decide, tb_in (List.mem_of_getElem? (i := 177) (by decide +kernel)) rfl⟩
theorem fX8_22 : FL RX8 22 8 3 := ⟨by decide, tb_in (List.mem_of_getElem? (i := 178) (by decide +kernel)) rfl⟩
theorem fX8_25 : FL RX8 25 8 4 := ⟨by decide, tb_in (List.mem_of_getElem? (i := 179) (by decide +kernel)) rfl⟩
theorem fX8_28 : FL RX8 28 8 5 := ⟨by decide, tb_in (List.mem_of_getElem? (i := 180) (by decide +kernel)) rfl⟩
theorem fX8_31 : FL RX8 31 8 6 := ⟨by decide, tb_in (List.mem_of_getElem? (i := 181) (by decide +kernel)) rfl⟩
theorem fX8_34 : FL RX8 34 7 1 := ⟨by decide, tb_in (List.mem_of_getElem? (i := 256) (by decide +kernel)) rfl⟩
theorem fX8_42 : FL RX8 42 7 0 := ⟨by decide, tb_in (List.mem_of_getElem? (i := 253) (by decide +kernel)) rfl⟩
theorem fX8_72 : FL RX8 72 9 0 := ⟨by decide, tb_in (List.mem_of_getElem? (i := 212) (by decide +kernel)) rfl⟩
theorem fX8_75 : FL RX8 75 9 1 := ⟨by decide, tb_in (List.mem_of_getElem? (i := 214) (by decide +kernel)) rfl⟩
theorem fX8_78 : FL RX8 78 9 2 := ⟨by decide, tb_in (List.mem_of_getElem? (i := 216) (by decide +kernel)) rfl⟩
theorem fX8_81 : FL RX8 81 9 3 := ⟨by decide, tb_in (List.mem_of_getElem? (i := 218) (by decide +kernel)) rfl⟩
theorem fX8_84 : FL RX8 84 9 4 := ⟨by decide, tb_in (List.mem_of_getElem? (i := 220) (by decide +kernel)) rfl⟩
theorem fX8_87 : FL RX8 87 9 5 := ⟨by decide, tb_in (List.mem_of_getElem? (i := 222) (by decide +kernel)) rfl⟩
theorem fX8_90 : FL RX8 90 9 6 := ⟨by decide, tb_in (List.mem_of_getElem? (i := 224) (by decide +kernel)) rfl⟩
theorem fX8_93 : FL RX8 93 9 7 := ⟨by decide, tb_in (List.mem_of_getElem? (i := 226) (by decide +kernel)) rfl⟩
theorem fX8_102 : FL RX8 102 9 8 := ⟨by decide, tb_in (List.mem_of_getElem? (i := 228) (by decide +kernel)) rfl⟩
theorem fX8_105 : FL RX8 105 9 9 := ⟨by decide, tb_in (List.mem_of_getElem? (i := 229) (by decide +kernel)) rfl⟩
theorem fX9_7 : FL RX9 7 9 5 := ⟨by decide, tb_in (List.mem_of_getElem? (i := 221) (by decide +kernel)) rfl⟩
theorem fX9_13 : FL RX9 13 9 7 := ⟨by decide, tb_in (List.mem_of_getElem? (i := 225) (by decide +kernel)) rfl⟩
theorem fX9_16 : FL RX9 16 9 8 := ⟨by decide, tb_in (List.mem_of_getElem? (i := 227) (by decide +kernel)) rfl⟩
theorem fX9_19 : FL RX9 19 9 6 := ⟨by decide, tb_in (List.mem_of_getElem? (i := 223) (by decide +kernel)) rfl⟩
theorem fX9_22 : FL RX9 22 9 0 := ⟨by decide, tb_in (List.mem_of_getElem? (i := 211) (by decide +kernel)) rfl⟩
theorem fX9_25 : FL RX9 25 9 1 := ⟨by decide, tb_in (List.mem_of_getElem? (i := 213) (by decide +kernel)) rfl⟩
theorem fX9_28 : FL RX9 28 9 2 := ⟨by decide, tb_in (List.mem_of_getElem? (i := 215) (by decide +kernel)) rfl⟩
theorem fX9_31 : FL RX9 31 9 3 := ⟨by decide, tb_in (List.mem_of_getElem? (i := 217) (by decide +kernel)) rfl⟩
theorem fX9_40 : FL RX9 40 9 4 := ⟨by decide, tb_in (List.mem_of_getElem? (i := 219) (by decide +kernel)) rfl⟩
theorem fX10_9 : FL RX10 9 10 0 := ⟨by decide, tb_in (List.mem_of_getElem? (i := 99) (by decide +kernel)) rfl⟩
theorem fX10_15 : FL RX10 15 10 1 := ⟨by decide, tb_in (List.mem_of_getElem? (i := 100) (by decide +kernel)) rfl⟩
theorem fX10_18 : FL RX10 18 10 2 := ⟨by decide, tb_in (List.mem_of_getElem? (i := 101) (by decide +kernel)) rfl⟩
theorem fX10_21 : FL RX10 21 10 3 := ⟨by decide, tb_in (List.mem_of_getElem? (i := 103) (by decide +kernel)) rfl⟩
theorem fX10_26 : FL RX10 26 10 4 := ⟨by decide, tb_in (List.mem_of_getElem? (i := 105) (by decide +kernel)) rfl⟩
theorem fX10_29 : FL RX10 29 10 5 := ⟨by decide, tb_in (List.mem_of_getElem? (i := 107) (by decide +kernel)) rfl⟩
theorem fX10_32 : FL RX10 32 10 6 := ⟨by decide, tb_in (List.mem_of_getElem? (i := 110) (by decide +kernel)) rfl⟩
theorem fX10_35 : FL RX10 35 10 7 := ⟨by decide, tb_in (List.mem_of_getElem? (i := 112) (by decide +kernel)) rfl⟩
theorem fX12_7 : FL RX12 7 12 2 := ⟨by decide, tb_in (List.mem_of_getElem? (i := 941) (by decide +kernel)) rfl⟩
theorem fX12_13 : FL RX12 13 12 4 := ⟨by decide, tb_in (List.mem_of_getElem? (i := 943) (by decide +kernel)) rfl⟩
theorem fX12_16 : FL RX12 16 12 5 := ⟨by decide, tb_in (List.mem_of_getElem? (i := 944) (by decide +kernel)) rfl⟩
theorem fX12_19 : FL RX12 19 12 6 := ⟨by decide, tb_in (List.mem_of_getElem? (i := 945) (by decide +kernel)) rfl⟩
theorem fX12_22 : FL RX12 22 12 8 := ⟨by decide, tb_in (List.mem_of_getElem? (i := 947) (by decide +kernel)) rfl⟩
theorem fX12_25 : FL RX12 25 12 9 := ⟨by decide, tb_in (List.mem_of_getElem? (i := 948) (by decide +kernel)) rfl⟩
theorem fX12_28 : FL RX12 28 12 10 := ⟨by decide, tb_in (List.mem_of_getElem? (i := 949) (by decide +kernel)) rfl⟩
theorem fX12_31 : FL RX12 31 12 11 := ⟨by decide, tb_in (List.mem_of_getElem? (i := 950) (by decide +kernel)) rfl⟩
theorem fX12_34 : FL RX12 34 12 12 := ⟨by decide, tb_in (List.mem_of_getElem? (i := 951) (by decide +kernel)) rfl⟩
theorem fX12_37 : FL RX12 37 12 14 := ⟨by decide, tb_in (List.mem_of_getElem? (i := 953) (by decide +kernel)) rfl⟩
theorem fX12_40 : FL RX12 40 12 16 := ⟨by decide, tb_in (List.mem_of_getElem? (i := 955) (by decide +kernel)) rfl⟩
theorem fX12_43 : FL RX12 43 12 17 := ⟨by decide, tb_in (List.mem_of_getElem? (i := 956) (by decide +kernel)) rfl⟩
theorem fX12_46 : FL RX12 46 12 18 := ⟨by decide, tb_in (List.mem_of_getElem? (i := 957) (by decide +kernel)) rfl⟩
theorem fX12_49 : FL RX12 49 12 19 := ⟨by decide, tb_in (List.mem_of_getElem? (i := 958) (by decide +kernel)) rfl⟩
theorem fX12_52 : FL RX12 52 12 20 := ⟨by decide, tb_in (List.mem_of_getElem? (i := 959) (by decide +kernel)) rfl⟩
theorem fX12_55 : FL RX12 55 12 21 := ⟨by decide, tb_in (List.mem_of_getElem? (i := 960) (by decide +kernel)) rfl⟩
theorem fX12_58 : FL RX12 58 12 22 := ⟨by decide, tb_in (List.mem_of_getElem? (i := 961) (by decide +kernel)) rfl⟩
theorem fX12_62 : FL RX12 62 12 24 := ⟨by decide, tb_in (List.mem_of_getElem? (i := 963) (by decide +kernel)) rfl⟩
theorem fX12_65 : FL RX12 65 12 25 := ⟨by decide, tb_in (List.mem_of_getElem? (i := 964) (by decide +kernel)) rfl⟩
theorem fX12_68 : FL RX12 68 12 26 := ⟨by decide, tb_in (List.mem_of_getElem? (i := 965) (by decide +kernel)) rfl⟩
theorem fX12_71 : FL RX12 71 12 28 := ⟨by decide, tb_in (List.mem_of_getElem? (i := 967) (by decide +kernel)) rfl⟩
theorem fX12_74 : FL RX12 74 12 37 := ⟨by decide, tb_in (List.mem_of_getElem? (i := 976) (by decide +kernel)) rfl⟩
theorem fX12_77 : FL RX12 77 12 38 := ⟨by decide, tb_in (List.mem_of_getElem? (i := 977) (by decide +kernel)) rfl⟩
theorem fX12_80 : FL RX12 80 12 0 := ⟨by decide, tb_in (List.mem_of_getElem? (i := 939) (by decide +kernel)) rfl⟩
theorem fX12_88 : FL RX12 88 12 13 := ⟨by decide, tb_in (List.mem_of_getElem? (i := 952) (by decide +kernel)) rfl⟩
theorem fX12_98 : FL RX12 98 12 3 := ⟨by decide, tb_in (List.mem_of_getElem? (i := 942) (by decide +kernel)) rfl⟩
theorem fX12_101 : FL RX12 101 12 7 := ⟨by decide, tb_in (List.mem_of_getElem? (i := 946) (by decide +kernel)) rfl⟩
theorem fX12_114 : FL RX12 114 12 1 := ⟨by decide, tb_in (List.mem_of_getElem? (i := 940) (by decide +kernel)) rfl⟩
theorem fX12_139 : FL RX12 139 12 15 := ⟨by decide, tb_in (List.mem_of_getElem? (i := 954) (by decide +kernel)) rfl⟩
theorem fX12_146 : FL RX12 146 12 23 := ⟨by decide, tb_in (List.mem_of_getElem? (i := 962) (by decide +kernel)) rfl⟩
theorem fX12_152 : FL RX12 152 12 27 := ⟨by decide, tb_in (List.mem_of_getElem? (i := 966) (by decide +kernel)) rfl⟩
theorem fX12_168 : FL RX12 168 12 29 := ⟨by decide, tb_in (List.mem_of_getElem? (i := 968) (by decide +kernel)) rfl⟩
theorem fX12_177 : FL RX12 177 12 30 := ⟨by decide, tb_in (List.mem_of_getElem? (i := 969) (by decide +kernel)) rfl⟩
theorem fX12_183 : FL RX12 183 12 32 := ⟨by decide, tb_in (List.mem_of_getElem? (i := 971) (by decide +kernel)) rfl⟩
theorem fX12_186 : FL RX12 186 12 31 := ⟨by decide, tb_in (List.mem_of_getElem? (i := 970) (by decide +kernel)) rfl⟩
theorem fX12_192 : FL RX12 192 12 33 := ⟨by decide, tb_in (List.mem_of_getElem? (i := 972) (by decide +kernel)) rfl⟩
theorem fX12_195 : FL RX12 195 12 34 := ⟨by decide, tb_in (List.mem_of_getElem? (i := 973) (by decide +kernel)) rfl⟩
theorem fX12_224 : FL RX12 224 12 36 := ⟨by decide, tb_in (List.mem_of_getElem? (i := 975) (by decide +kernel)) rfl⟩
theorem fX12_230 : FL RX12 230 12 35 := ⟨by decide, tb_in (List.mem_of_getElem? (i := 974) (by decide +kernel)) rfl⟩
theorem lX11_41 : LK RX11 41 mX10_init ∨ LN RX11 41 mX10_init := Or.inl (tb_in (List.mem_of_getElem? (i := 90) (by decide +kernel)) rfl)
theorem lX11_48 : LK RX11 48 mX3_init ∨ LN RX11 48 mX3_init := Or.inl (tb_in (List.mem_of_getElem? (i := 133) (by decide +kernel)) rfl)
theorem lX11_64 : LK RX11 64 mX7_init ∨ LN RX11 64 mX7_init := Or.inl (tb_in (List.mem_of_getElem? (i := 200) (by decide +kernel)) rfl)
theorem lX11_79 : LK RX11 79 mX11_within ∨ LN RX11 79 mX11_within := Or.inl (tb_in (List.mem_of_getElem? (i := 304) (by decide +kernel)) rfl)
theorem lX11_83 : LK RX11 83 mX11_isStretch ∨ LN RX11 83 mX11_isStretch := Or.inl (tb_in (List.mem_of_getElem? (i := 311) (by decide +kernel)) rfl)
theorem lX11_87 : LK RX11 87 mX6_init ∨ LN RX11 87 mX6_init := Or.inl (tb_in (List.mem_of_getElem? (i := 318) (by decide +kernel)) rfl)
theorem lX11_90 : LK RX11 90 mX11_isDayOrNone ∨ LN RX11 90 mX11_isDayOrNone := Or.inl (tb_in (List.mem_of_getElem? (i := 339) (by decide +kernel)) rfl)
theorem lX11_94 : LK RX11 94 mX2_init ∨ LN RX11 94 mX2_init := Or.inl (tb_in (List.mem_of_getElem? (i := 343) (by decide +kernel)) rfl)
theorem lX11_97 : LK RX11 97 mX11_isCover ∨ LN RX11 97 mX11_isCover := Or.inl (tb_in (List.mem_of_getElem? (i := 368) (by decide +kernel)) rfl)
theorem lX11_100 : LK RX11 100 mX11_isDay ∨ LN RX11 100 mX11_isDay := Or.inl (tb_in (List.mem_of_getElem? (i := 314) (by decide +kernel)) rfl)
theorem lX11_103 : LK RX11 103 mX11_isDate ∨ LN RX11 103 mX11_isDate := Or.inl (tb_in (List.mem_of_getElem? (i := 371) (by decide +kernel)) rfl)
theorem lX11_111 : LK RX11 111 mX5_init ∨ LN RX11 111 mX5_init := Or.inl (tb_in (List.mem_of_getElem? (i := 380) (by decide +kernel)) rfl)
theorem lX11_112 : LK RX11 112 mX5_write ∨ LN RX11 112 mX5_write := Or.inl (tb_in (List.mem_of_getElem? (i := 453) (by decide +kernel)) rfl)
theorem lX11_116 : LK RX11 116 mX5_strike ∨ LN RX11 116 mX5_strike := Or.inl (tb_in (List.mem_of_getElem? (i := 457) (by decide +kernel)) rfl)
theorem lX11_120 : LK RX11 120 mX5_findDays ∨ LN RX11 120 mX5_findDays := Or.inl (tb_in (List.mem_of_getElem? (i := 461) (by decide +kernel)) rfl)
theorem lX11_123 : LK RX11 123 mX0_add ∨ LN RX11 123 mX0_add := Or.inl (tb_in (List.mem_of_getElem? (i := 518) (by decide +kernel)) rfl)
theorem lX11_127 : LK RX11 127 mX11_isMark ∨ LN RX11 127 mX11_isMark := Or.inl (tb_in (List.mem_of_getElem? (i := 526) (by decide +kernel)) rfl)
theorem lX11_134 : LK RX11 134 mX4_ofKind ∨ LN RX11 134 mX4_ofKind := Or.inl (tb_in (List.mem_of_getElem? (i := 530) (by decide +kernel)) rfl)
theorem lX11_157 : LK RX11 157 mX1_size ∨ LN RX11 157 mX1_size := Or.inl (tb_in (List.mem_of_getElem? (i := 579) (by decide +kernel)) rfl)
theorem lX11_163 : LK RX11 163 mX1_firstFrom ∨ LN RX11 163 mX1_firstFrom := Or.inl (tb_in (List.mem_of_getElem? (i := 580) (by decide +kernel)) rfl)
theorem lX11_167 : LK RX11 167 mX1_lastTill ∨ LN RX11 167 mX1_lastTill := Or.inl (tb_in (List.mem_of_getElem? (i := 586) (by decide +kernel)) rfl)
theorem lX11_170 : LK RX11 170 mX1_has ∨ LN RX11 170 mX1_has := Or.inl (tb_in (List.mem_of_getElem? (i := 597) (by decide +kernel)) rfl)
theorem lX11_173 : LK RX11 173 mX0_countOn ∨ LN RX11 173 mX0_countOn := Or.inl (tb_in (List.mem_of_getElem? (i := 602) (by decide +kernel)) rfl)
theorem lX11_177 : LK RX11 177 mX11_areTwoTowns ∨ LN RX11 177 mX11_areTwoTowns := Or.inl (tb_in (List.mem_of_getElem? (i := 614) (by decide +kernel)) rfl)
theorem lX11_183 : LK RX11 183 mX10_addSailing ∨ LN RX11 183 mX10_addSailing := Or.inl (tb_in (List.mem_of_getElem? (i := 617) (by decide +kernel)) rfl)
theorem lX11_197 : LK RX11 197 mX10_spreadFrom ∨ LN RX11 197 mX10_spreadFrom := Or.inl (tb_in (List.mem_of_getElem? (i := 633) (by decide +kernel)) rfl)
theorem lX11_203 : LK RX11 203 mX3_gather ∨ LN RX11 203 mX3_gather := Or.inl (tb_in (List.mem_of_getElem? (i := 649) (by decide +kernel)) rfl)
theorem lX11_210 : LK RX11 210 mX3_firstBarred ∨ LN RX11 210 mX3_firstBarred := Or.inl (tb_in (List.mem_of_getElem? (i := 654) (by decide +kernel)) rfl)
theorem lX11_216 : LK RX11 216 mX3_lastDayOf ∨ LN RX11 216 mX3_lastDayOf := Or.inl (tb_in (List.mem_of_getElem? (i := 664) (by decide +kernel)) rfl)
theorem lX11_219 : LK RX11 219 mX3_weighSets ∨ LN RX11 219 mX3_weighSets := Or.inl (tb_in (List.mem_of_getElem? (i := 689) (by decide +kernel)) rfl)
theorem lX11_232 : LK RX11 232 mX8_addBytes ∨ LN RX11 232 mX8_addBytes := Or.inl (tb_in (List.mem_of_getElem? (i := 712) (by decide +kernel)) rfl)
theorem lX11_236 : LK RX11 236 mX8_readInto ∨ LN RX11 236 mX8_readInto := Or.inl (tb_in (List.mem_of_getElem? (i := 724) (by decide +kernel)) rfl)
theorem lX11_241 : LK RX11 241 mX11_areLandsAndDay ∨ LN RX11 241 mX11_areLandsAndDay := Or.inl (tb_in (List.mem_of_getElem? (i := 841) (by decide +kernel)) rfl)
theorem lX11_244 : LK RX11 244 mX7_lastThatHolds ∨ LN RX11 244 mX7_lastThatHolds := Or.inl (tb_in (List.mem_of_getElem? (i := 844) (by decide +kernel)) rfl)
theorem lX11_252 : LK RX11 252 mX9_sumFor ∨ LN RX11 252 mX9_sumFor := Or.inl (tb_in (List.mem_of_getElem? (i := 853) (by decide +kernel)) rfl)
theorem lX11_257 : LK RX11 257 mX9_partOf ∨ LN RX11 257 mX9_partOf := Or.inl (tb_in (List.mem_of_getElem? (i := 857) (by decide +kernel)) rfl)
theorem lX11_265 : LK RX11 265 mX0_areOneMail ∨ LN RX11 265 mX0_areOneMail := Or.inl (tb_in (List.mem_of_getElem? (i := 870) (by decide +kernel)) rfl)
theorem lX11_268 : LK RX11 268 mX0_heapOf ∨ LN RX11 268 mX0_heapOf := Or.inl (tb_in (List.mem_of_getElem? (i := 886) (by decide +kernel)) rfl)
theorem lX11_271 : LK RX11 271 mX0_manyOf ∨ LN RX11 271 mX0_manyOf := Or.inl (tb_in (List.mem_of_getElem? (i := 898) (by decide +kernel)) rfl)
theorem lX11_274 : LK RX11 274 mX0_nextLook ∨ LN RX11 274 mX0_nextLook := Or.inl (tb_in (List.mem_of_getElem? (i := 916) (by decide +kernel)) rfl)
theorem lX11_277 : LK RX11 277 mX10_lostSailings ∨ LN RX11 277 mX10_lostSailings := Or.inl (tb_in (List.mem_of_getElem? (i := 925) (by decide +kernel)) rfl)
theorem lX11_285 : LK RX11 285 mX11_byteOf ∨ LN RX11 285 mX11_byteOf := Or.inl (tb_in (List.mem_of_getElem? (i := 375) (by decide +kernel)) rfl)
theorem lX0_21 : LK RX0 21 mX5_isOn ∨ LN RX0 21 mX5_isOn := Or.inl (tb_in (List.mem_of_getElem? (i := 606) (by decide +kernel)) rfl)
theorem lX0_29 : LK RX0 29 mX0_hasMarkWith ∨ LN RX0 29 mX0_hasMarkWith := Or.inl (tb_in (List.mem_of_getElem? (i := 874) (by decide +kernel)) rfl)
theorem lX0_40 : LK RX0 40 mX1_meets ∨ LN RX0 40 mX1_meets := Or.inl (tb_in (List.mem_of_getElem? (i := 878) (by decide +kernel)) rfl)
theorem lX0_46 : LK RX0 46 mX0_lowestOf ∨ LN RX0 46 mX0_lowestOf := Or.inl (tb_in (List.mem_of_getElem? (i := 890) (by decide +kernel)) rfl)
theorem lX0_50 : LK RX0 50 mX0_areOneMail ∨ LN RX0 50 mX0_areOneMail := Or.inl (tb_in (List.mem_of_getElem? (i := 893) (by decide +kernel)) rfl)
theorem lX0_54 : LK RX0 54 mX0_hasDie ∨ LN RX0 54 mX0_hasDie := Or.inl (tb_in (List.mem_of_getElem? (i := 902) (by decide +kernel)) rfl)
theorem lX0_57 : LK RX0 57 mX0_wordOf ∨ LN RX0 57 mX0_wordOf := Or.inl (tb_in (List.mem_of_getElem? (i := 906) (by decide +kernel)) rfl)
theorem lX0_63 : LK RX0 63 mJ13_bitCount_95d88 ∨ LN RX0 63 mJ13_bitCount_95d88 := Or.inl (tb_in (List.mem_of_getElem? (i := 911) (by decide +kernel)) rfl)
theorem lX0_77 : LK RX0 77 mX5_isTorn ∨ LN RX0 77 mX5_isTorn := Or.inl (tb_in (List.mem_of_getElem? (i := 920) (by decide +kernel)) rfl)
theorem lX1_19 : LK RX1 19 mJ13_bitCount_95d88 ∨ LN RX1 19 mJ13_bitCount_95d88 := Or.inl (tb_in (List.mem_of_getElem? (i := 499) (by decide +kernel)) rfl)
theorem lX1_25 : LK RX1 25 mJ9_max_7cf53 ∨ LN RX1 25 mJ9_max_7cf53 := Or.inl (tb_in (List.mem_of_getElem? (i := 584) (by decide +kernel)) rfl)
theorem lX1_31 : LK RX1 31 mX1_has ∨ LN RX1 31 mX1_has := Or.inl (tb_in (List.mem_of_getElem? (i := 585) (by decide +kernel)) rfl)
theorem lX1_34 : LK RX1 34 mJ9_min_7cf53 ∨ LN RX1 34 mJ9_min_7cf53 := Or.inl (tb_in (List.mem_of_getElem? (i := 590) (by decide +kernel)) rfl)
theorem lX3_53 : LK RX3 53 mX5_isOn ∨ LN RX3 53 mX5_isOn := Or.inl (tb_in (List.mem_of_getElem? (i := 653) (by decide +kernel)) rfl)
theorem lX3_60 : LK RX3 60 mX10_spreadFrom ∨ LN RX3 60 mX10_spreadFrom := Or.inl (tb_in (List.mem_of_getElem? (i := 658) (by decide +kernel)) rfl)
theorem lX3_73 : LK RX3 73 mX1_firstFrom ∨ LN RX3 73 mX1_firstFrom := Or.inl (tb_in (List.mem_of_getElem? (i := 659) (by decide +kernel)) rfl)
theorem lX3_79 : LK RX3 79 mX1_lastTill ∨ LN RX3 79 mX1_lastTill := Or.inl (tb_in (List.mem_of_getElem? (i := 668) (by decide +kernel)) rfl)
theorem lX3_82 : LK RX3 82 mX10_drawBackFrom ∨ LN RX3 82 mX10_drawBackFrom := Or.inl (tb_in (List.mem_of_getElem? (i := 669) (by decide +kernel)) rfl)
theorem lX3_88 : LK RX3 88 mX3_endAllSets ∨ LN RX3 88 mX3_endAllSets := Or.inl (tb_in (List.mem_of_getElem? (i := 693) (by decide +kernel)) rfl)
theorem lX3_91 : LK RX3 91 mJ6_bitCount_0f7a4 ∨ LN RX3 91 mJ6_bitCount_0f7a4 := Or.inl (tb_in (List.mem_of_getElem? (i := 702) (by decide +kernel)) rfl)
theorem lX3_96 : LK RX3 96 mJ7_fill_53178 ∨ LN RX3 96 mJ7_fill_53178 := Or.inl (tb_in (List.mem_of_getElem? (i := 697) (by decide +kernel)) rfl)
theorem lX3_102 : LK RX3 102 mX3_lastOf ∨ LN RX3 102 mX3_lastOf := Or.inl (tb_in (List.mem_of_getElem? (i := 698) (by decide +kernel)) rfl)
theorem lX4_15 : LK RX4 15 mX4_ofDated ∨ LN RX4 15 mX4_ofDated := Or.inl (tb_in (List.mem_of_getElem? (i := 534) (by decide +kernel)) rfl)
theorem lX4_19 : LK RX4 19 mX4_ofRate ∨ LN RX4 19 mX4_ofRate := Or.inl (tb_in (List.mem_of_getElem? (i := 551) (by decide +kernel)) rfl)
theorem lX4_22 : LK RX4 22 mX4_ofThrough ∨ LN RX4 22 mX4_ofThrough := Or.inl (tb_in (List.mem_of_getElem? (i := 556) (by decide +kernel)) rfl)
theorem lX4_25 : LK RX4 25 mX4_ofStamp ∨ LN RX4 25 mX4_ofStamp := Or.inl (tb_in (List.mem_of_getElem? (i := 561) (by decide +kernel)) rfl)
theorem lX4_28 : LK RX4 28 mX4_ofDoubted ∨ LN RX4 28 mX4_ofDoubted := Or.inl (tb_in (List.mem_of_getElem? (i := 566) (by decide +kernel)) rfl)
theorem lX4_31 : LK RX4 31 mX4_ofMark ∨ LN RX4 31 mX4_ofMark := Or.inl (tb_in (List.mem_of_getElem? (i := 539) (by decide +kernel)) rfl)
theorem lX4_42 : LK RX4 42 mX5_readBytes ∨ LN RX4 42 mX5_readBytes := Or.inl (tb_in (List.mem_of_getElem? (i := 543) (by decide +kernel)) rfl)
theorem lX5_63 : LK RX5 63 mX5_fitsDate ∨ LN RX5 63 mX5_fitsDate := Or.inl (tb_in (List.mem_of_getElem? (i := 465) (by decide +kernel)) rfl)
theorem lX5_67 : LK RX5 67 mX5_fitsDie ∨ LN RX5 67 mX5_fitsDie := Or.inl (tb_in (List.mem_of_getElem? (i := 473) (by decide +kernel)) rfl)
theorem lX5_70 : LK RX5 70 mX1_add ∨ LN RX5 70 mX1_add := Or.inl (tb_in (List.mem_of_getElem? (i := 490) (by decide +kernel)) rfl)
theorem lX5_74 : LK RX5 74 mX1_size ∨ LN RX5 74 mX1_size := Or.inl (tb_in (List.mem_of_getElem? (i := 495) (by decide +kernel)) rfl)
theorem lX5_81 : LK RX5 81 mX5_mostDaysByFigure ∨ LN RX5 81 mX5_mostDaysByFigure := Or.inl (tb_in (List.mem_of_getElem? (i := 505) (by decide +kernel)) rfl)
theorem lX5_92 : LK RX5 92 mX2_strikesOn ∨ LN RX5 92 mX2_strikesOn := Or.inl (tb_in (List.mem_of_getElem? (i := 477) (by decide +kernel)) rfl)
theorem lX5_95 : LK RX5 95 mX2_hasInk ∨ LN RX5 95 mX2_hasInk := Or.inl (tb_in (List.mem_of_getElem? (i := 482) (by decide +kernel)) rfl)
theorem lX5_98 : LK RX5 98 mX2_fitsNick ∨ LN RX5 98 mX2_fitsNick := Or.inl (tb_in (List.mem_of_getElem? (i := 486) (by decide +kernel)) rfl)
theorem lX5_102 : LK RX5 102 mJ7_fill_53178 ∨ LN RX5 102 mJ7_fill_53178 := Or.inl (tb_in (List.mem_of_getElem? (i := 509) (by decide +kernel)) rfl)
theorem lX5_108 : LK RX5 108 mX1_has ∨ LN RX5 108 mX1_has := Or.inl (tb_in (List.mem_of_getElem? (i := 510) (by decide +kernel)) rfl)
theorem lX5_115 : LK RX5 115 mJ9_max_7cf53 ∨ LN RX5 115 mJ9_max_7cf53 := Or.inl (tb_in (List.mem_of_getElem? (i := 515) (by decide +kernel)) rfl)
theorem lX5_120 : LK RX5 120 mX5_isTorn ∨ LN RX5 120 mX5_isTorn := Or.inl (tb_in (List.mem_of_getElem? (i := 547) (by decide +kernel)) rfl)
theorem lX7_22 : LK RX7 22 mX9_holds ∨ LN RX7 22 mX9_holds := Or.inl (tb_in (List.mem_of_getElem? (i := 848) (by decide +kernel)) rfl)
theorem lX8_39 : LK RX8 39 mX8_step ∨ LN RX8 39 mX8_step := Or.inl (tb_in (List.mem_of_getElem? (i := 728) (by decide +kernel)) rfl)
theorem lX8_46 : LK RX8 46 mX9_forgetChoices ∨ LN RX8 46 mX9_forgetChoices := Or.inl (tb_in (List.mem_of_getElem? (i := 807) (by decide +kernel)) rfl)
theorem lX8_51 : LK RX8 51 mX8_readLandsAndDays ∨ LN RX8 51 mX8_readLandsAndDays := Or.inl (tb_in (List.mem_of_getElem? (i := 811) (by decide +kernel)) rfl)
theorem lX8_55 : LK RX8 55 mX8_readSums ∨ LN RX8 55 mX8_readSums := Or.inl (tb_in (List.mem_of_getElem? (i := 824) (by decide +kernel)) rfl)
theorem lX8_58 : LK RX8 58 mX8_readPart ∨ LN RX8 58 mX8_readPart := Or.inl (tb_in (List.mem_of_getElem? (i := 828) (by decide +kernel)) rfl)
theorem lX8_61 : LK RX8 61 mX8_readEnd ∨ LN RX8 61 mX8_readEnd := Or.inl (tb_in (List.mem_of_getElem? (i := 833) (by decide +kernel)) rfl)
theorem lX8_64 : LK RX8 64 mX8_take ∨ LN RX8 64 mX8_take := Or.inl (tb_in (List.mem_of_getElem? (i := 815) (by decide +kernel)) rfl)
theorem lX8_68 : LK RX8 68 mX8_takeNumber ∨ LN RX8 68 mX8_takeNumber := Or.inl (tb_in (List.mem_of_getElem? (i := 819) (by decide +kernel)) rfl)
theorem lX8_96 : LK RX8 96 mJ9_max_7cf53 ∨ LN RX8 96 mJ9_max_7cf53 := Or.inl (tb_in (List.mem_of_getElem? (i := 832) (by decide +kernel)) rfl)
theorem lX8_113 : LK RX8 113 mX8_isDigit ∨ LN RX8 113 mX8_isDigit := Or.inl (tb_in (List.mem_of_getElem? (i := 732) (by decide +kernel)) rfl)
theorem lX8_116 : LK RX8 116 mX8_stepNumber ∨ LN RX8 116 mX8_stepNumber := Or.inl (tb_in (List.mem_of_getElem? (i := 735) (by decide +kernel)) rfl)
theorem lX8_120 : LK RX8 120 mX8_isLetter ∨ LN RX8 120 mX8_isLetter := Or.inl (tb_in (List.mem_of_getElem? (i := 740) (by decide +kernel)) rfl)
theorem lX8_123 : LK RX8 123 mX8_stepWord ∨ LN RX8 123 mX8_stepWord := Or.inl (tb_in (List.mem_of_getElem? (i := 743) (by decide +kernel)) rfl)
theorem lX8_126 : LK RX8 126 mX8_isSign ∨ LN RX8 126 mX8_isSign := Or.inl (tb_in (List.mem_of_getElem? (i := 803) (by decide +kernel)) rfl)
theorem lX8_129 : LK RX8 129 mJ9_min_7cf53 ∨ LN RX8 129 mJ9_min_7cf53 := Or.inl (tb_in (List.mem_of_getElem? (i := 739) (by decide +kernel)) rfl)
theorem lX8_134 : LK RX8 134 mX8_spells ∨ LN RX8 134 mX8_spells := Or.inl (tb_in (List.mem_of_getElem? (i := 748) (by decide +kernel)) rfl)
theorem lX8_143 : LK RX8 143 mJ0_length_8abf5 ∨ LN RX8 143 mJ0_length_8abf5 := Or.inl (tb_in (List.mem_of_getElem? (i := 752) (by decide +kernel)) rfl)
theorem lX8_147 : LK RX8 147 mJ0_charAt_5068e ∨ LN RX8 147 mJ0_charAt_5068e := Or.inl (tb_in (List.mem_of_getElem? (i := 762) (by decide +kernel)) rfl)
theorem lX10_39 : LK RX10 39 mJ7_fill_53178 ∨ LN RX10 39 mJ7_fill_53178 := Or.inl (tb_in (List.mem_of_getElem? (i := 96) (by decide +kernel)) rfl)
theorem lX10_45 : LK RX10 45 mX10_spreadBySailings ∨ LN RX10 45 mX10_spreadBySailings := Or.inl (tb_in (List.mem_of_getElem? (i := 637) (by decide +kernel)) rfl)
theorem lX10_49 : LK RX10 49 mX10_spreadByRoads ∨ LN RX10 49 mX10_spreadByRoads := Or.inl (tb_in (List.mem_of_getElem? (i := 641) (by decide +kernel)) rfl)
theorem lX10_52 : LK RX10 52 mX10_drawBackBySailings ∨ LN RX10 52 mX10_drawBackBySailings := Or.inl (tb_in (List.mem_of_getElem? (i := 673) (by decide +kernel)) rfl)
theorem lX10_55 : LK RX10 55 mX10_drawBackByRoads ∨ LN RX10 55 mX10_drawBackByRoads := Or.inl (tb_in (List.mem_of_getElem? (i := 677) (by decide +kernel)) rfl)
theorem lL_9 : LK RL 9 mX11_init ∨ LN RL 9 mX11_init := Or.inl (tb_in (List.mem_of_getElem? (i := 47) (by decide +kernel)) rfl)
theorem lL_12 : LK RL 12 mX12_init ∨ LN RL 12 mX12_init := Or.inl (tb_in (List.mem_of_getElem? (i := 935) (by decide +kernel)) rfl)
theorem lL_13 : LK RL 13 mX11_town ∨ LN RL 13 mX11_town := Or.inl (tb_in (List.mem_of_getElem? (i := 300) (by decide +kernel)) rfl)
theorem lL_17 : LK RL 17 mX12_town ∨ LN RL 17 mX12_town := Or.inl (tb_in (List.mem_of_getElem? (i := 1058) (by decide +kernel)) rfl)
theorem lL_18 : LK RL 18 mX11_office ∨ LN RL 18 mX11_office := Or.inl (tb_in (List.mem_of_getElem? (i := 307) (by decide +kernel)) rfl)
theorem lL_22 : LK RL 22 mX12_office ∨ LN RL 22 mX12_office := Or.inl (tb_in (List.mem_of_getElem? (i := 1068) (by decide +kernel)) rfl)
theorem lL_23 : LK RL 23 mX11_die ∨ LN RL 23 mX11_die := Or.inl (tb_in (List.mem_of_getElem? (i := 335) (by decide +kernel)) rfl)
theorem lL_27 : LK RL 27 mX12_die ∨ LN RL 27 mX12_die := Or.inl (tb_in (List.mem_of_getElem? (i := 1075) (by decide +kernel)) rfl)
theorem lL_28 : LK RL 28 mX11_mark ∨ LN RL 28 mX11_mark := Or.inl (tb_in (List.mem_of_getElem? (i := 364) (by decide +kernel)) rfl)
theorem lL_32 : LK RL 32 mX12_mark ∨ LN RL 32 mX12_mark := Or.inl (tb_in (List.mem_of_getElem? (i := 1079) (by decide +kernel)) rfl)
theorem lL_33 : LK RL 33 mX11_lean ∨ LN RL 33 mX11_lean := Or.inl (tb_in (List.mem_of_getElem? (i := 522) (by decide +kernel)) rfl)
theorem lL_36 : LK RL 36 mX12_lean ∨ LN RL 36 mX12_lean := Or.inl (tb_in (List.mem_of_getElem? (i := 1090) (by decide +kernel)) rfl)
theorem lL_37 : LK RL 37 mX11_about ∨ LN RL 37 mX11_about := Or.inl (tb_in (List.mem_of_getElem? (i := 571) (by decide +kernel)) rfl)
theorem lL_40 : LK RL 40 mX12_about ∨ LN RL 40 mX12_about := Or.inl (tb_in (List.mem_of_getElem? (i := 1103) (by decide +kernel)) rfl)
theorem lL_41 : LK RL 41 mX11_span ∨ LN RL 41 mX11_span := Or.inl (tb_in (List.mem_of_getElem? (i := 575) (by decide +kernel)) rfl)
theorem lL_44 : LK RL 44 mX12_span ∨ LN RL 44 mX12_span := Or.inl (tb_in (List.mem_of_getElem? (i := 1107) (by decide +kernel)) rfl)
theorem lL_45 : LK RL 45 mX11_can ∨ LN RL 45 mX11_can := Or.inl (tb_in (List.mem_of_getElem? (i := 593) (by decide +kernel)) rfl)
theorem lL_48 : LK RL 48 mX12_can ∨ LN RL 48 mX12_can := Or.inl (tb_in (List.mem_of_getElem? (i := 1119) (by decide +kernel)) rfl)
theorem lL_49 : LK RL 49 mX11_marks ∨ LN RL 49 mX11_marks := Or.inl (tb_in (List.mem_of_getElem? (i := 598) (by decide +kernel)) rfl)
theorem lL_52 : LK RL 52 mX12_marks ∨ LN RL 52 mX12_marks := Or.inl (tb_in (List.mem_of_getElem? (i := 1123) (by decide +kernel)) rfl)
theorem lL_53 : LK RL 53 mX11_sail ∨ LN RL 53 mX11_sail := Or.inl (tb_in (List.mem_of_getElem? (i := 610) (by decide +kernel)) rfl)
theorem lL_57 : LK RL 57 mX12_sail ∨ LN RL 57 mX12_sail := Or.inl (tb_in (List.mem_of_getElem? (i := 1131) (by decide +kernel)) rfl)
theorem lL_58 : LK RL 58 mX11_late ∨ LN RL 58 mX11_late := Or.inl (tb_in (List.mem_of_getElem? (i := 621) (by decide +kernel)) rfl)
theorem lL_61 : LK RL 61 mX12_late ∨ LN RL 61 mX12_late := Or.inl (tb_in (List.mem_of_getElem? (i := 1135) (by decide +kernel)) rfl)
theorem lL_62 : LK RL 62 mX11_road ∨ LN RL 62 mX11_road := Or.inl (tb_in (List.mem_of_getElem? (i := 625) (by decide +kernel)) rfl)
theorem lL_65 : LK RL 65 mX12_road ∨ LN RL 65 mX12_road := Or.inl (tb_in (List.mem_of_getElem? (i := 1139) (by decide +kernel)) rfl)
theorem lL_66 : LK RL 66 mX11_soonest ∨ LN RL 66 mX11_soonest := Or.inl (tb_in (List.mem_of_getElem? (i := 629) (by decide +kernel)) rfl)
theorem lL_69 : LK RL 69 mX12_soonest ∨ LN RL 69 mX12_soonest := Or.inl (tb_in (List.mem_of_getElem? (i := 1143) (by decide +kernel)) rfl)
theorem lL_70 : LK RL 70 mX11_goes ∨ LN RL 70 mX11_goes := Or.inl (tb_in (List.mem_of_getElem? (i := 645) (by decide +kernel)) rfl)
theorem lL_73 : LK RL 73 mX12_goes ∨ LN RL 73 mX12_goes := Or.inl (tb_in (List.mem_of_getElem? (i := 1151) (by decide +kernel)) rfl)
theorem lL_74 : LK RL 74 mX11_when ∨ LN RL 74 mX11_when := Or.inl (tb_in (List.mem_of_getElem? (i := 660) (by decide +kernel)) rfl)
theorem lL_77 : LK RL 77 mX12_when ∨ LN RL 77 mX12_when := Or.inl (tb_in (List.mem_of_getElem? (i := 1171) (by decide +kernel)) rfl)
theorem lL_78 : LK RL 78 mX11_bars ∨ LN RL 78 mX11_bars := Or.inl (tb_in (List.mem_of_getElem? (i := 681) (by decide +kernel)) rfl)
theorem lL_81 : LK RL 81 mX12_bars ∨ LN RL 81 mX12_bars := Or.inl (tb_in (List.mem_of_getElem? (i := 1175) (by decide +kernel)) rfl)
theorem lL_82 : LK RL 82 mX11_fewest ∨ LN RL 82 mX11_fewest := Or.inl (tb_in (List.mem_of_getElem? (i := 685) (by decide +kernel)) rfl)
theorem lL_85 : LK RL 85 mX12_fewest ∨ LN RL 85 mX12_fewest := Or.inl (tb_in (List.mem_of_getElem? (i := 1179) (by decide +kernel)) rfl)
theorem lL_88 : LK RL 88 mX11_type ∨ LN RL 88 mX11_type := Or.inl (tb_in (List.mem_of_getElem? (i := 708) (by decide +kernel)) rfl)
theorem lL_92 : LK RL 92 mX12_type ∨ LN RL 92 mX12_type := Or.inl (tb_in (List.mem_of_getElem? (i := 1186) (by decide +kernel)) rfl)
theorem lL_93 : LK RL 93 mX11_clear ∨ LN RL 93 mX11_clear := Or.inl (tb_in (List.mem_of_getElem? (i := 716) (by decide +kernel)) rfl)
theorem lL_97 : LK RL 97 mX12_clear ∨ LN RL 97 mX12_clear := Or.inl (tb_in (List.mem_of_getElem? (i := 1191) (by decide +kernel)) rfl)
theorem lL_98 : LK RL 98 mX11_rates ∨ LN RL 98 mX11_rates := Or.inl (tb_in (List.mem_of_getElem? (i := 720) (by decide +kernel)) rfl)
theorem lL_101 : LK RL 101 mX12_rates ∨ LN RL 101 mX12_rates := Or.inl (tb_in (List.mem_of_getElem? (i := 1195) (by decide +kernel)) rfl)
theorem lL_102 : LK RL 102 mX11_owed ∨ LN RL 102 mX11_owed := Or.inl (tb_in (List.mem_of_getElem? (i := 837) (by decide +kernel)) rfl)
theorem lL_105 : LK RL 105 mX12_owed ∨ LN RL 105 mX12_owed := Or.inl (tb_in (List.mem_of_getElem? (i := 1245) (by decide +kernel)) rfl)
theorem lL_106 : LK RL 106 mX11_weights ∨ LN RL 106 mX11_weights := Or.inl (tb_in (List.mem_of_getElem? (i := 861) (by decide +kernel)) rfl)
theorem lL_109 : LK RL 109 mX12_weights ∨ LN RL 109 mX12_weights := Or.inl (tb_in (List.mem_of_getElem? (i := 1260) (by decide +kernel)) rfl)
theorem lL_110 : LK RL 110 mX11_mail ∨ LN RL 110 mX11_mail := Or.inl (tb_in (List.mem_of_getElem? (i := 866) (by decide +kernel)) rfl)
theorem lL_113 : LK RL 113 mX12_mail ∨ LN RL 113 mX12_mail := Or.inl (tb_in (List.mem_of_getElem? (i := 1265) (by decide +kernel)) rfl)
theorem lL_114 : LK RL 114 mX11_heap ∨ LN RL 114 mX11_heap := Or.inl (tb_in (List.mem_of_getElem? (i := 882) (by decide +kernel)) rfl)
theorem lL_117 : LK RL 117 mX12_heap ∨ LN RL 117 mX12_heap := Or.inl (tb_in (List.mem_of_getElem? (i := 1273) (by decide +kernel)) rfl)
theorem lL_118 : LK RL 118 mX11_many ∨ LN RL 118 mX11_many := Or.inl (tb_in (List.mem_of_getElem? (i := 894) (by decide +kernel)) rfl)
theorem lL_121 : LK RL 121 mX12_many ∨ LN RL 121 mX12_many := Or.inl (tb_in (List.mem_of_getElem? (i := 1277) (by decide +kernel)) rfl)
theorem lL_122 : LK RL 122 mX11_look ∨ LN RL 122 mX11_look := Or.inl (tb_in (List.mem_of_getElem? (i := 912) (by decide +kernel)) rfl)
theorem lL_125 : LK RL 125 mX12_look ∨ LN RL 125 mX12_look := Or.inl (tb_in (List.mem_of_getElem? (i := 1281) (by decide +kernel)) rfl)
theorem lL_126 : LK RL 126 mX11_count ∨ LN RL 126 mX11_count := Or.inl (tb_in (List.mem_of_getElem? (i := 921) (by decide +kernel)) rfl)
theorem lL_130 : LK RL 130 mX12_count ∨ LN RL 130 mX12_count := Or.inl (tb_in (List.mem_of_getElem? (i := 1285) (by decide +kernel)) rfl)
theorem lL_131 : LK RL 131 mX11_trace ∨ LN RL 131 mX11_trace := Or.inl (tb_in (List.mem_of_getElem? (i := 929) (by decide +kernel)) rfl)
theorem lL_135 : LK RL 135 mX12_trace ∨ LN RL 135 mX12_trace := Or.inl (tb_in (List.mem_of_getElem? (i := 1289) (by decide +kernel)) rfl)
theorem lX12_84 : LK RX12 84 mX12_in ∨ LN RX12 84 mX12_in := Or.inl (tb_in (List.mem_of_getElem? (i := 1065) (by decide +kernel)) rfl)
theorem lX12_91 : LK RX12 91 mX12_isTown ∨ LN RX12 91 mX12_isTown := Or.inl (tb_in (List.mem_of_getElem? (i := 1062) (by decide +kernel)) rfl)
theorem lX12_95 : LK RX12 95 mX12_isDay ∨ LN RX12 95 mX12_isDay := Or.inl (tb_in (List.mem_of_getElem? (i := 1072) (by decide +kernel)) rfl)
theorem lX12_104 : LK RX12 104 mX12_isCover ∨ LN RX12 104 mX12_isCover := Or.inl (tb_in (List.mem_of_getElem? (i := 1083) (by decide +kernel)) rfl)
theorem lX12_108 : LK RX12 108 mX12_isFigure ∨ LN RX12 108 mX12_isFigure := Or.inl (tb_in (List.mem_of_getElem? (i := 1087) (by decide +kernel)) rfl)
theorem lX12_111 : LK RX12 111 mX12_isMark ∨ LN RX12 111 mX12_isMark := Or.inl (tb_in (List.mem_of_getElem? (i := 1094) (by decide +kernel)) rfl)
theorem lX12_128 : LK RX12 128 mX12_canBe ∨ LN RX12 128 mX12_canBe := Or.inl (tb_in (List.mem_of_getElem? (i := 1115) (by decide +kernel)) rfl)
theorem lX12_132 : LK RX12 132 mX12_spanOf ∨ LN RX12 132 mX12_spanOf := Or.inl (tb_in (List.mem_of_getElem? (i := 1111) (by decide +kernel)) rfl)
theorem lX12_136 : LK RX12 136 mX12_isOf ∨ LN RX12 136 mX12_isOf := Or.inl (tb_in (List.mem_of_getElem? (i := 1127) (by decide +kernel)) rfl)
theorem lX12_142 : LK RX12 142 mX12_soonestOf ∨ LN RX12 142 mX12_soonestOf := Or.inl (tb_in (List.mem_of_getElem? (i := 1147) (by decide +kernel)) rfl)
theorem lX12_149 : LK RX12 149 mX12_townOf ∨ LN RX12 149 mX12_townOf := Or.inl (tb_in (List.mem_of_getElem? (i := 1167) (by decide +kernel)) rfl)
theorem lX12_155 : LK RX12 155 mX12_ways ∨ LN RX12 155 mX12_ways := Or.inl (tb_in (List.mem_of_getElem? (i := 1159) (by decide +kernel)) rfl)
theorem lX12_159 : LK RX12 159 mX12_refuses ∨ LN RX12 159 mX12_refuses := Or.inl (tb_in (List.mem_of_getElem? (i := 1155) (by decide +kernel)) rfl)
theorem lX12_162 : LK RX12 162 mX12_isGoing ∨ LN RX12 162 mX12_isGoing := Or.inl (tb_in (List.mem_of_getElem? (i := 1163) (by decide +kernel)) rfl)
theorem lX12_165 : LK RX12 165 mX12_ones ∨ LN RX12 165 mX12_ones := Or.inl (tb_in (List.mem_of_getElem? (i := 1183) (by decide +kernel)) rfl)
theorem lX12_173 : LK RX12 173 mX12_name ∨ LN RX12 173 mX12_name := Or.inl (tb_in (List.mem_of_getElem? (i := 1210) (by decide +kernel)) rfl)
theorem lX12_180 : LK RX12 180 mX12_byteAt ∨ LN RX12 180 mX12_byteAt := Or.inl (tb_in (List.mem_of_getElem? (i := 1203) (by decide +kernel)) rfl)
theorem lX12_189 : LK RX12 189 mX12_wordOf ∨ LN RX12 189 mX12_wordOf := Or.inl (tb_in (List.mem_of_getElem? (i := 1207) (by decide +kernel)) rfl)
theorem lX12_198 : LK RX12 198 mX12_isWell ∨ LN RX12 198 mX12_isWell := Or.inl (tb_in (List.mem_of_getElem? (i := 1213) (by decide +kernel)) rfl)
theorem lX12_202 : LK RX12 202 mX12_isSign ∨ LN RX12 202 mX12_isSign := Or.inl (tb_in (List.mem_of_getElem? (i := 1241) (by decide +kernel)) rfl)
theorem lX12_205 : LK RX12 205 mX12_advances ∨ LN RX12 205 mX12_advances := Or.inl (tb_in (List.mem_of_getElem? (i := 1199) (by decide +kernel)) rfl)
theorem lX12_208 : LK RX12 208 mX12_fails ∨ LN RX12 208 mX12_fails := Or.inl (tb_in (List.mem_of_getElem? (i := 1217) (by decide +kernel)) rfl)
theorem lX12_211 : LK RX12 211 mX12_isWord ∨ LN RX12 211 mX12_isWord := Or.inl (tb_in (List.mem_of_getElem? (i := 1229) (by decide +kernel)) rfl)
theorem lX12_214 : LK RX12 214 mX12_takesWord ∨ LN RX12 214 mX12_takesWord := Or.inl (tb_in (List.mem_of_getElem? (i := 1225) (by decide +kernel)) rfl)
theorem lX12_218 : LK RX12 218 mX12_takesNumber ∨ LN RX12 218 mX12_takesNumber := Or.inl (tb_in (List.mem_of_getElem? (i := 1233) (by decide +kernel)) rfl)
theorem lX12_221 : LK RX12 221 mX12_takesSign ∨ LN RX12 221 mX12_takesSign := Or.inl (tb_in (List.mem_of_getElem? (i := 1237) (by decide +kernel)) rfl)
theorem lX12_227 : LK RX12 227 mX12_readsRule ∨ LN RX12 227 mX12_readsRule := Or.inl (tb_in (List.mem_of_getElem? (i := 1221) (by decide +kernel)) rfl)
theorem lX12_233 : LK RX12 233 mX12_isLand ∨ LN RX12 233 mX12_isLand := Or.inl (tb_in (List.mem_of_getElem? (i := 1249) (by decide +kernel)) rfl)
theorem lX12_236 : LK RX12 236 mX12_ruleOf ∨ LN RX12 236 mX12_ruleOf := Or.inl (tb_in (List.mem_of_getElem? (i := 1252) (by decide +kernel)) rfl)
theorem lX12_239 : LK RX12 239 mX12_owedBy ∨ LN RX12 239 mX12_owedBy := Or.inl (tb_in (List.mem_of_getElem? (i := 1256) (by decide +kernel)) rfl)
theorem lX12_243 : LK RX12 243 mX12_isMail ∨ LN RX12 243 mX12_isMail := Or.inl (tb_in (List.mem_of_getElem? (i := 1269) (by decide +kernel)) rfl)
theorem lJ0_335 : LK RJ0 335 mJ0_coder_7d493 ∨ LN RJ0 335 mJ0_coder_7d493 := Or.inl (tb_in (List.mem_of_getElem? (i := 756) (by decide +kernel)) rfl)
theorem lJ0_492 : LK RJ0 492 mJ0_isLatin1_aae02 ∨ LN RJ0 492 mJ0_isLatin1_aae02 := Or.inl (tb_in (List.mem_of_getElem? (i := 766) (by decide +kernel)) rfl)
theorem lJ0_495 : LK RJ0 495 mJ1_charAt_3b067 ∨ LN RJ0 495 mJ1_charAt_3b067 := Or.inl (tb_in (List.mem_of_getElem? (i := 770) (by decide +kernel)) rfl)
theorem lJ0_498 : LK RJ0 498 mJ2_charAt_3b067 ∨ LN RJ0 498 mJ2_charAt_3b067 := Or.inl (tb_in (List.mem_of_getElem? (i := 781) (by decide +kernel)) rfl)
theorem lJ0_1059 : LK RJ0 1059 mJ3_checkIndex_8e157 ∨ LN RJ0 1059 mJ3_checkIndex_8e157 := Or.inl (tb_in (List.mem_of_getElem? (i := 778) (by decide +kernel)) rfl)
theorem lJ1_9 : LK RJ1 9 mJ0_checkIndex_df160 ∨ LN RJ1 9 mJ0_checkIndex_df160 := Or.inl (tb_in (List.mem_of_getElem? (i := 773) (by decide +kernel)) rfl)
theorem lJ2_48 : LK RJ2 48 mJ2_length_9d52b ∨ LN RJ2 48 mJ2_length_9d52b := Or.inl (tb_in (List.mem_of_getElem? (i := 787) (by decide +kernel)) rfl)
theorem lJ2_67 : LK RJ2 67 mJ2_checkIndex_2214a ∨ LN RJ2 67 mJ2_checkIndex_2214a := Or.inl (tb_in (List.mem_of_getElem? (i := 784) (by decide +kernel)) rfl)
theorem lJ2_71 : LK RJ2 71 mJ2_getChar_3b067 ∨ LN RJ2 71 mJ2_getChar_3b067 := Or.inl (tb_in (List.mem_of_getElem? (i := 791) (by decide +kernel)) rfl)
theorem lJ2_414 : LK RJ2 414 mJ0_checkIndex_df160 ∨ LN RJ2 414 mJ0_checkIndex_df160 := Or.inl (tb_in (List.mem_of_getElem? (i := 790) (by decide +kernel)) rfl)
theorem lX11_27 : LK RX11 27 mX0_init ∨ LN RX11 27 mX0_init := Or.inr (by unfold LN; decide +kernel)
theorem lX11_34 : LK RX11 34 mX4_init ∨ LN RX11 34 mX4_init := Or.inr (by unfold LN; decide +kernel)
theorem lX11_57 : LK RX11 57 mX8_init ∨ LN RX11 57 mX8_init := Or.inr (by unfold LN; decide +kernel)
theorem lX1_15 : LK RX1 15 mX11_isDay ∨ LN RX1 15 mX11_isDay := Or.inr (by unfold LN; decide +kernel)
theorem lX2_28 : LK RX2 28 mX11_within ∨ LN RX2 28 mX11_within := Or.inr (by unfold LN; decide +kernel)
theorem lX5_11 : LK RX5 11 mX1_init ∨ LN RX5 11 mX1_init := Or.inr (by unfold LN; decide +kernel)
theorem lX5_85 : LK RX5 85 mX11_byteOf ∨ LN RX5 85 mX11_byteOf := Or.inr (by unfold LN; decide +kernel)
theorem lX5_89 : LK RX5 89 mX11_figureOf ∨ LN RX5 89 mX11_figureOf := Or.inr (by unfold LN; decide +kernel)
theorem lX5_111 : LK RX5 111 mX11_within ∨ LN RX5 111 mX11_within := Or.inr (by unfold LN; decide +kernel)
theorem lX7_21 : LK RX7 21 mX9_init ∨ LN RX7 21 mX9_init := Or.inr (by unfold LN; decide +kernel)
theorem lX8_109 : LK RX8 109 mX11_within ∨ LN RX8 109 mX11_within := Or.inr (by unfold LN; decide +kernel)
theorem lX9_34 : LK RX9 34 mX11_within ∨ LN RX9 34 mX11_within := Or.inr (by unfold LN; decide +kernel)
theorem nX11_13 : NW RX11 13 6 := ⟨tb_in (List.mem_of_getElem? (i := 53) (by decide +kernel)) rfl, tb_in (List.mem_of_getElem? (i := 317) (by decide +kernel)) rfl, tb_in (List.mem_of_getElem? (i := 34) (by decide +kernel)) rfl⟩
theorem nX11_19 : NW RX11 19 2 := ⟨tb_in (List.mem_of_getElem? (i := 55) (by decide +kernel)) rfl, tb_in (List.mem_of_getElem? (i := 342) (by decide +kernel)) rfl, tb_in (List.mem_of_getElem? (i := 35) (by decide +kernel)) rfl⟩
theorem nX11_25 : NW RX11 25 0 := ⟨tb_in (List.mem_of_getElem? (i := 57) (by decide +kernel)) rfl, tb_in (List.mem_of_getElem? (i := 58) (by decide +kernel)) rfl, tb_in (List.mem_of_getElem? (i := 25) (by decide +kernel)) rfl⟩
theorem nX11_32 : NW RX11 32 4 := ⟨tb_in (List.mem_of_getElem? (i := 77) (by decide +kernel)) rfl, tb_in (List.mem_of_getElem? (i := 78) (by decide +kernel)) rfl, tb_in (List.mem_of_getElem? (i := 26) (by decide +kernel)) rfl⟩
theorem nX11_39 : NW RX11 39 10 := ⟨tb_in (List.mem_of_getElem? (i := 88) (by decide +kernel)) rfl, tb_in (List.mem_of_getElem? (i := 89) (by decide +kernel)) rfl, tb_in (List.mem_of_getElem? (i := 27) (by decide +kernel)) rfl⟩
theorem nX11_46 : NW RX11 46 3 := ⟨tb_in (List.mem_of_getElem? (i := 131) (by decide +kernel)) rfl, tb_in (List.mem_of_getElem? (i := 132) (by decide +kernel)) rfl, tb_in (List.mem_of_getElem? (i := 29) (by decide +kernel)) rfl⟩
theorem nX11_55 : NW RX11 55 8 := ⟨tb_in (List.mem_of_getElem? (i := 168) (by decide +kernel)) rfl, tb_in (List.mem_of_getElem? (i := 169) (by decide +kernel)) rfl, tb_in (List.mem_of_getElem? (i := 30) (by decide +kernel)) rfl⟩
theorem nX11_62 : NW RX11 62 7 := ⟨tb_in (List.mem_of_getElem? (i := 198) (by decide +kernel)) rfl, tb_in (List.mem_of_getElem? (i := 199) (by decide +kernel)) rfl, tb_in (List.mem_of_getElem? (i := 31) (by decide +kernel)) rfl⟩
theorem nX11_109 : NW RX11 109 5 := ⟨tb_in (List.mem_of_getElem? (i := 378) (by decide +kernel)) rfl, tb_in (List.mem_of_getElem? (i := 379) (by decide +kernel)) rfl, tb_in (List.mem_of_getElem? (i := 36) (by decide +kernel)) rfl⟩
theorem nX0_9 : Cond.classLink RX0 9 (clN 5) ∈ tb ∧ FieldType.object (clN 5) ∈ overT := ⟨tb_in (List.mem_of_getElem? (i := 63) (by decide +kernel)) rfl, by decide⟩
theorem nX3_9 : Cond.classLink RX3 9 (clN 5) ∈ tb ∧ FieldType.object (clN 5) ∈ overT := ⟨tb_in (List.mem_of_getElem? (i := 137) (by decide +kernel)) rfl, by decide⟩
theorem nX5_9 : NW RX5 9 1 := ⟨tb_in (List.mem_of_getElem? (i := 384) (by decide +kernel)) rfl, tb_in (List.mem_of_getElem? (i := 385) (by decide +kernel)) rfl, tb_in (List.mem_of_getElem? (i := 37) (by decide +kernel)) rfl⟩
theorem nX7_9 : NW RX7 9 9 := ⟨tb_in (List.mem_of_getElem? (i := 204) (by decide +kernel)) rfl, tb_in (List.mem_of_getElem? (i := 206) (by decide +kernel)) rfl, tb_in (List.mem_of_getElem? (i := 32) (by decide +kernel)) rfl⟩
theorem nL_7 : NW RL 7 11 := ⟨tb_in (List.mem_of_getElem? (i := 45) (by decide +kernel)) rfl, tb_in (List.mem_of_getElem? (i := 46) (by decide +kernel)) rfl, tb_in (List.mem_of_getElem? (i := 24) (by decide +kernel)) rfl⟩
theorem nL_10 : NW RL 10 12 := ⟨tb_in (List.mem_of_getElem? (i := 933) (by decide +kernel)) rfl, tb_in (List.mem_of_getElem? (i := 934) (by decide +kernel)) rfl, tb_in (List.mem_of_getElem? (i := 33) (by decide +kernel)) rfl⟩
theorem kX11_264 : Cond.constant RX11 264 (Int32.ofInt (2000000)) ∈ tb := tb_in (List.mem_of_getElem? (i := 865) (by decide +kernel)) rfl
theorem kX11_284 : Cond.constant RX11 284 (Int32.ofInt (16777215)) ∈ tb := tb_in (List.mem_of_getElem? (i := 374) (by decide +kernel)) rfl
theorem kX12_107 : Cond.constant RX12 107 (Int32.ofInt (16777215)) ∈ tb := tb_in (List.mem_of_getElem? (i := 1086) (by decide +kernel)) rfl
theorem kX12_242 : Cond.constant RX12 242 (Int32.ofInt (2000000)) ∈ tb := tb_in (List.mem_of_getElem? (i := 1264) (by decide +kernel)) rfl
theorem kJ6_265 : Cond.constant RJ6 265 (Int32.ofInt (1431655765)) ∈ tb := tb_in (List.mem_of_getElem? (i := 705) (by decide +kernel)) rfl
theorem kJ6_266 : Cond.constant RJ6 266 (Int32.ofInt (858993459)) ∈ tb := tb_in (List.mem_of_getElem? (i := 706) (by decide +kernel)) rfl
theorem kJ6_267 : Cond.constant RJ6 267 (Int32.ofInt (252645135)) ∈ tb := tb_in (List.mem_of_getElem? (i := 707) (by decide +kernel)) rfl
theorem kX0_61 : Cond.constantLong RX0 61 (-1) ∈ tb := tb_in (List.mem_of_getElem? (i := 910) (by decide +kernel)) rfl
theorem kX4_40 : Cond.constantLong RX4 40 (10) ∈ tb := tb_in (List.mem_of_getElem? (i := 538) (by decide +kernel)) rfl
theorem kX4_46 : Cond.constantLong RX4 46 (100) ∈ tb := tb_in (List.mem_of_getElem? (i := 555) (by decide +kernel)) rfl
theorem kX4_52 : Cond.constantLong RX4 52 (1000) ∈ tb := tb_in (List.mem_of_getElem? (i := 560) (by decide +kernel)) rfl
theorem kX4_54 : Cond.constantLong RX4 54 (10000) ∈ tb := tb_in (List.mem_of_getElem? (i := 565) (by decide +kernel)) rfl
theorem kX4_59 : Cond.constantLong RX4 59 (100000) ∈ tb := tb_in (List.mem_of_getElem? (i := 570) (by decide +kernel)) rfl
theorem kL_86 : Cond.constantLong RL 86 (4294967295) ∈ tb := tb_in (List.mem_of_getElem? (i := 1293) (by decide +kernel)) rfl
theorem kX12_118 : Cond.constantLong RX12 118 (10) ∈ tb := tb_in (List.mem_of_getElem? (i := 1098) (by decide +kernel)) rfl
theorem kX12_120 : Cond.constantLong RX12 120 (100) ∈ tb := tb_in (List.mem_of_getElem? (i := 1099) (by decide +kernel)) rfl
theorem kX12_122 : Cond.constantLong RX12 122 (1000) ∈ tb := tb_in (List.mem_of_getElem? (i := 1100) (by decide +kernel)) rfl
theorem kX12_124 : Cond.constantLong RX12 124 (10000) ∈ tb := tb_in (List.mem_of_getElem? (i := 1101) (by decide +kernel)) rfl
theorem kX12_126 : Cond.constantLong RX12 126 (100000) ∈ tb := tb_in (List.mem_of_getElem? (i := 1102) (by decide +kernel)) rfl
theorem kX12_171 : Cond.constantLong RX12 171 (255) ∈ tb := tb_in (List.mem_of_getElem? (i := 1190) (by decide +kernel)) rfl
theorem kJ13_314 : Cond.constantLong RJ13 314 (6148914691236517205) ∈ tb := tb_in (List.mem_of_getElem? (i := 502) (by decide +kernel)) rfl
theorem kJ13_316 : Cond.constantLong RJ13 316 (3689348814741910323) ∈ tb := tb_in (List.mem_of_getElem? (i := 503) (by decide +kernel)) rfl
theorem kJ13_318 : Cond.constantLong RJ13 318 (1085102592571150095) ∈ tb := tb_in (List.mem_of_getElem? (i := 504) (by decide +kernel)) rfl
theorem ac_int : Cond.arrayClass .int ∈ tb := tb_in (List.mem_of_getElem? (i := 76) (by decide +kernel)) rfl
theorem ac_long : Cond.arrayClass .long ∈ tb := tb_in (List.mem_of_getElem? (i := 395) (by decide +kernel)) rfl
theorem ac_byte : Cond.arrayClass .byte ∈ tb := tb_in (List.mem_of_getElem? (i := 197) (by decide +kernel)) rfl
theorem ac_boolean : Cond.arrayClass .boolean ∈ tb := tb_in (List.mem_of_getElem? (i := 1057) (by decide +kernel)) rfl
