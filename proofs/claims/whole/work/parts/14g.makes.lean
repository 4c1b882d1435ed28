def H_m (g : GH) : GH := (gR (gN (gR (gN (gR (gN (gR (gN (gR (gN (gR (gN (gR (gN (gR (gN (gR (gN (gR (gN (gR (gN (gR (gN (gR (gN (gR (gN (gR (gN (gR (gN (gR (gN (gR (gN (gR (gN (gR (gN (gR (gN (gR (gN (gR (gN g 1002 (Sum.inr (.int, 6))) 1000 2 (some 1002)) 1004 (Sum.inr (.int, 8))) 1000 4 (some 1004)) 1005 (Sum.inr (.int, 8))) 1000 5 (some 1005)) 1006 (Sum.inr (.int, 8))) 1000 6 (some 1006)) 1008 (Sum.inr (.int, 12))) 1000 8 (some 1008)) 1009 (Sum.inr (.int, 12))) 1000 9 (some 1009)) 1010 (Sum.inr (.int, 12))) 1000 10 (some 1010)) 1011 (Sum.inr (.int, 12))) 1000 11 (some 1011)) 1012 (Sum.inr (.int, 12))) 1000 12 (some 1012)) 1014 (Sum.inr (.int, 400))) 1000 14 (some 1014)) 1016 (Sum.inr (.int, 20))) 1000 16 (some 1016)) 1017 (Sum.inr (.int, 20))) 1000 17 (some 1017)) 1018 (Sum.inr (.int, 20))) 1000 18 (some 1018)) 1019 (Sum.inr (.int, 20))) 1000 19 (some 1019)) 1020 (Sum.inr (.int, 36))) 1000 20 (some 1020)) 1021 (Sum.inr (.int, 6))) 1000 21 (some 1021)) 1022 (Sum.inr (.boolean, 6))) 1000 22 (some 1022)) 1024 (Sum.inr (.int, 40))) 1000 24 (some 1024)) 1025 (Sum.inr (.int, 40))) 1000 25 (some 1025)) 1026 (Sum.inr (.int, 40))) 1000 26 (some 1026)) 1028 (Sum.inr (.int, 600))) 1000 28 (some 1028)) 1037 (Sum.inr (.int, 240))) 1000 37 (some 1037)) 1038 (Sum.inr (.int, 1000))) 1000 38 (some 1038))
def g02 : GH := gN (H_h g01) 1000 (Sum.inl 12)
def g03 : GH := gF (H_m g02) 1020 36 (-9)
set_option maxHeartbeats 4000000 in
set_option maxRecDepth 100000 in
theorem c12_init (g : GH) (hg : g = g02) : AMet mX12_init g [vA 1000] (fun _ g' => g' = g03) := by
  refine AMet.of [vA 1000, none] (by decide) rfl (Nat.le_of_ble_eq_true rfl) ?_
  subst hg
  refine a_aload_n 1 dX12_init_0 rfl rfl ?_
  refine a_objInit 4 dX12_init_1 oiX12_1 ⟨by decide, by decide⟩ (Nat.le_of_ble_eq_true rfl) rfl ?_
  refine a_aload_n 5 dX12_init_4 rfl rfl ?_
  refine a_bipush (z := 6) 7 dX12_init_5 rfl (zrl rfl) rfl ?_
  refine a_newa .int (1002) 9 dX12_init_7 rfl ac_int (by decide) ⟨rfl, rfl⟩ (by decide) (by decide) rfl (by decide) (by decide) (by decide) rfl ?_
  refine a_putR 12 dX12_init_9 fX12_7 (Or.inr ⟨rfl, rfl, rfl⟩) rfl rfl rfl ?_
  refine a_aload_n 13 dX12_init_12 rfl rfl ?_
  refine a_bipush (z := 8) 15 dX12_init_13 rfl (zrl rfl) rfl ?_
  refine a_newa .int (1004) 17 dX12_init_15 rfl ac_int (by decide) ⟨rfl, rfl⟩ (by decide) (by decide) rfl (by decide) (by decide) (by decide) rfl ?_
  refine a_putR 20 dX12_init_17 fX12_13 (Or.inr ⟨rfl, rfl, rfl⟩) rfl rfl rfl ?_
  refine a_aload_n 21 dX12_init_20 rfl rfl ?_
  refine a_bipush (z := 8) 23 dX12_init_21 rfl (zrl rfl) rfl ?_
  refine a_newa .int (1005) 25 dX12_init_23 rfl ac_int (by decide) ⟨rfl, rfl⟩ (by decide) (by decide) rfl (by decide) (by decide) (by decide) rfl ?_
  refine a_putR 28 dX12_init_25 fX12_16 (Or.inr ⟨rfl, rfl, rfl⟩) rfl rfl rfl ?_
  refine a_aload_n 29 dX12_init_28 rfl rfl ?_
  refine a_bipush (z := 8) 31 dX12_init_29 rfl (zrl rfl) rfl ?_
  refine a_newa .int (1006) 33 dX12_init_31 rfl ac_int (by decide) ⟨rfl, rfl⟩ (by decide) (by decide) rfl (by decide) (by decide) (by decide) rfl ?_
  refine a_putR 36 dX12_init_33 fX12_19 (Or.inr ⟨rfl, rfl, rfl⟩) rfl rfl rfl ?_
  refine a_aload_n 37 dX12_init_36 rfl rfl ?_
  refine a_bipush (z := 12) 39 dX12_init_37 rfl (zrl rfl) rfl ?_
  refine a_newa .int (1008) 41 dX12_init_39 rfl ac_int (by decide) ⟨rfl, rfl⟩ (by decide) (by decide) rfl (by decide) (by decide) (by decide) rfl ?_
  refine a_putR 44 dX12_init_41 fX12_22 (Or.inr ⟨rfl, rfl, rfl⟩) rfl rfl rfl ?_
  refine a_aload_n 45 dX12_init_44 rfl rfl ?_
  refine a_bipush (z := 12) 47 dX12_init_45 rfl (zrl rfl) rfl ?_
  refine a_newa .int (1009) 49 dX12_init_47 rfl ac_int (by decide) ⟨rfl, rfl⟩ (by decide) (by decide) rfl (by decide) (by decide) (by decide) rfl ?_
  refine a_putR 52 dX12_init_49 fX12_25 (Or.inr ⟨rfl, rfl, rfl⟩) rfl rfl rfl ?_
  refine a_aload_n 53 dX12_init_52 rfl rfl ?_
  refine a_bipush (z := 12) 55 dX12_init_53 rfl (zrl rfl) rfl ?_
  refine a_newa .int (1010) 57 dX12_init_55 rfl ac_int (by decide) ⟨rfl, rfl⟩ (by decide) (by decide) rfl (by decide) (by decide) (by decide) rfl ?_
  refine a_putR 60 dX12_init_57 fX12_28 (Or.inr ⟨rfl, rfl, rfl⟩) rfl rfl rfl ?_
  refine a_aload_n 61 dX12_init_60 rfl rfl ?_
  refine a_bipush (z := 12) 63 dX12_init_61 rfl (zrl rfl) rfl ?_
  refine a_newa .int (1011) 65 dX12_init_63 rfl ac_int (by decide) ⟨rfl, rfl⟩ (by decide) (by decide) rfl (by decide) (by decide) (by decide) rfl ?_
  refine a_putR 68 dX12_init_65 fX12_31 (Or.inr ⟨rfl, rfl, rfl⟩) rfl rfl rfl ?_
  refine a_aload_n 69 dX12_init_68 rfl rfl ?_
  refine a_bipush (z := 12) 71 dX12_init_69 rfl (zrl rfl) rfl ?_
  refine a_newa .int (1012) 73 dX12_init_71 rfl ac_int (by decide) ⟨rfl, rfl⟩ (by decide) (by decide) rfl (by decide) (by decide) (by decide) rfl ?_
  refine a_putR 76 dX12_init_73 fX12_34 (Or.inr ⟨rfl, rfl, rfl⟩) rfl rfl rfl ?_
  refine a_aload_n 77 dX12_init_76 rfl rfl ?_
  refine a_sipush (z := 400) 80 dX12_init_77 rfl (zrl rfl) rfl ?_
  refine a_newa .int (1014) 82 dX12_init_80 rfl ac_int (by decide) ⟨rfl, rfl⟩ (by decide) (by decide) rfl (by decide) (by decide) (by decide) rfl ?_
  refine a_putR 85 dX12_init_82 fX12_37 (Or.inr ⟨rfl, rfl, rfl⟩) rfl rfl rfl ?_
  refine a_aload_n 86 dX12_init_85 rfl rfl ?_
  refine a_bipush (z := 20) 88 dX12_init_86 rfl (zrl rfl) rfl ?_
  refine a_newa .int (1016) 90 dX12_init_88 rfl ac_int (by decide) ⟨rfl, rfl⟩ (by decide) (by decide) rfl (by decide) (by decide) (by decide) rfl ?_
  refine a_putR 93 dX12_init_90 fX12_40 (Or.inr ⟨rfl, rfl, rfl⟩) rfl rfl rfl ?_
  refine a_aload_n 94 dX12_init_93 rfl rfl ?_
  refine a_bipush (z := 20) 96 dX12_init_94 rfl (zrl rfl) rfl ?_
  refine a_newa .int (1017) 98 dX12_init_96 rfl ac_int (by decide) ⟨rfl, rfl⟩ (by decide) (by decide) rfl (by decide) (by decide) (by decide) rfl ?_
  refine a_putR 101 dX12_init_98 fX12_43 (Or.inr ⟨rfl, rfl, rfl⟩) rfl rfl rfl ?_
  refine a_aload_n 102 dX12_init_101 rfl rfl ?_
  refine a_bipush (z := 20) 104 dX12_init_102 rfl (zrl rfl) rfl ?_
  refine a_newa .int (1018) 106 dX12_init_104 rfl ac_int (by decide) ⟨rfl, rfl⟩ (by decide) (by decide) rfl (by decide) (by decide) (by decide) rfl ?_
  refine a_putR 109 dX12_init_106 fX12_46 (Or.inr ⟨rfl, rfl, rfl⟩) rfl rfl rfl ?_
  refine a_aload_n 110 dX12_init_109 rfl rfl ?_
  refine a_bipush (z := 20) 112 dX12_init_110 rfl (zrl rfl) rfl ?_
  refine a_newa .int (1019) 114 dX12_init_112 rfl ac_int (by decide) ⟨rfl, rfl⟩ (by decide) (by decide) rfl (by decide) (by decide) (by decide) rfl ?_
  refine a_putR 117 dX12_init_114 fX12_49 (Or.inr ⟨rfl, rfl, rfl⟩) rfl rfl rfl ?_
  refine a_aload_n 118 dX12_init_117 rfl rfl ?_
  refine a_bipush (z := 36) 120 dX12_init_118 rfl (zrl rfl) rfl ?_
  refine a_newa .int (1020) 122 dX12_init_120 rfl ac_int (by decide) ⟨rfl, rfl⟩ (by decide) (by decide) rfl (by decide) (by decide) (by decide) rfl ?_
  refine a_putR 125 dX12_init_122 fX12_52 (Or.inr ⟨rfl, rfl, rfl⟩) rfl rfl rfl ?_
  refine a_aload_n 126 dX12_init_125 rfl rfl ?_
  refine a_bipush (z := 6) 128 dX12_init_126 rfl (zrl rfl) rfl ?_
  refine a_newa .int (1021) 130 dX12_init_128 rfl ac_int (by decide) ⟨rfl, rfl⟩ (by decide) (by decide) rfl (by decide) (by decide) (by decide) rfl ?_
  refine a_putR 133 dX12_init_130 fX12_55 (Or.inr ⟨rfl, rfl, rfl⟩) rfl rfl rfl ?_
  refine a_aload_n 134 dX12_init_133 rfl rfl ?_
  refine a_bipush (z := 6) 136 dX12_init_134 rfl (zrl rfl) rfl ?_
  refine a_newa .boolean (1022) 138 dX12_init_136 rfl ac_boolean (by decide) ⟨rfl, rfl⟩ (by decide) (by decide) rfl (by decide) (by decide) (by decide) rfl ?_
  refine a_putR 141 dX12_init_138 fX12_58 (Or.inr ⟨rfl, rfl, rfl⟩) rfl rfl rfl ?_
  refine a_aload_n 142 dX12_init_141 rfl rfl ?_
  refine a_bipush (z := 40) 144 dX12_init_142 rfl (zrl rfl) rfl ?_
  refine a_newa .int (1024) 146 dX12_init_144 rfl ac_int (by decide) ⟨rfl, rfl⟩ (by decide) (by decide) rfl (by decide) (by decide) (by decide) rfl ?_
  refine a_putR 149 dX12_init_146 fX12_62 (Or.inr ⟨rfl, rfl, rfl⟩) rfl rfl rfl ?_
  refine a_aload_n 150 dX12_init_149 rfl rfl ?_
  refine a_bipush (z := 40) 152 dX12_init_150 rfl (zrl rfl) rfl ?_
  refine a_newa .int (1025) 154 dX12_init_152 rfl ac_int (by decide) ⟨rfl, rfl⟩ (by decide) (by decide) rfl (by decide) (by decide) (by decide) rfl ?_
  refine a_putR 157 dX12_init_154 fX12_65 (Or.inr ⟨rfl, rfl, rfl⟩) rfl rfl rfl ?_
  refine a_aload_n 158 dX12_init_157 rfl rfl ?_
  refine a_bipush (z := 40) 160 dX12_init_158 rfl (zrl rfl) rfl ?_
  refine a_newa .int (1026) 162 dX12_init_160 rfl ac_int (by decide) ⟨rfl, rfl⟩ (by decide) (by decide) rfl (by decide) (by decide) (by decide) rfl ?_
  refine a_putR 165 dX12_init_162 fX12_68 (Or.inr ⟨rfl, rfl, rfl⟩) rfl rfl rfl ?_
  refine a_aload_n 166 dX12_init_165 rfl rfl ?_
  refine a_sipush (z := 600) 169 dX12_init_166 rfl (zrl rfl) rfl ?_
  refine a_newa .int (1028) 171 dX12_init_169 rfl ac_int (by decide) ⟨rfl, rfl⟩ (by decide) (by decide) rfl (by decide) (by decide) (by decide) rfl ?_
  refine a_putR 174 dX12_init_171 fX12_71 (Or.inr ⟨rfl, rfl, rfl⟩) rfl rfl rfl ?_
  refine a_aload_n 175 dX12_init_174 rfl rfl ?_
  refine a_sipush (z := 240) 178 dX12_init_175 rfl (zrl rfl) rfl ?_
  refine a_newa .int (1037) 180 dX12_init_178 rfl ac_int (by decide) ⟨rfl, rfl⟩ (by decide) (by decide) rfl (by decide) (by decide) (by decide) rfl ?_
  refine a_putR 183 dX12_init_180 fX12_74 (Or.inr ⟨rfl, rfl, rfl⟩) rfl rfl rfl ?_
  refine a_aload_n 184 dX12_init_183 rfl rfl ?_
  refine a_sipush (z := 1000) 187 dX12_init_184 rfl (zrl rfl) rfl ?_
  refine a_newa .int (1038) 189 dX12_init_187 rfl ac_int (by decide) ⟨rfl, rfl⟩ (by decide) (by decide) rfl (by decide) (by decide) (by decide) rfl ?_
  refine a_putR 192 dX12_init_189 fX12_77 (Or.inr ⟨rfl, rfl, rfl⟩) rfl rfl rfl ?_
  show AW _ _ _ (H_m g02) _ _ _
  have h1 : (H_m g02).1 1000 = some (Sum.inl 12) := rfl
  have h2 : (H_m g02).2.2.2 1000 20 = some 1020 := rfl
  have h3 : (H_m g02).1 1020 = some (Sum.inr (.int, 36)) := rfl
  rw [← gF_0 (g := H_m g02) (a := 1020) (z := -9)]
  refine a_iconst (z := 0) 193 dX12_init_192 rfl (zrl rfl) rfl ?_
  refine a_istore_n 194 dX12_init_193 (by decide) rfl rfl ?_
  refine AW.loop (α := Nat) (fun p => 36 - p) (fun p => p ≤ 36) (fun p => gF (H_m g02) 1020 p (-9)) (fun p => [vA 1000, vI (p : Int)]) (fun p => []) ?_ 0 ?_
  · rintro r hr ih194
    try dsimp only at hI ih ⊢
    try dsimp only at hr ih194 ⊢
    refine a_iload_n 195 dX12_init_194 rfl rfl ?_
    refine a_bipush (z := 36) 197 dX12_init_195 rfl (zrl rfl) rfl ?_
    refine a_icmp_ge 214 200 dX12_init_197 (by decide) rfl (fun c197 => ?_) (fun c197 => ?_)
    · skip
      refine a_return dX12_init_214 rfl ⟨by decide, by decide⟩ ?_
      have e : r = 36 := by omega
      subst e
      rfl
    · skip
      refine a_aload_n 201 dX12_init_200 rfl rfl ?_
      refine a_getR 204 dX12_init_201 fX12_52 h1 rfl h2 rfl ?_
      refine a_iload_n 205 dX12_init_204 rfl rfl ?_
      refine a_bipush (z := (-9)) 207 dX12_init_205 rfl (zrl rfl) rfl ?_
      refine a_iast 208 dX12_init_207 h3 (by omega) (by omega) rfl ?_
      refine a_iinc 211 dX12_init_208 rfl (by unfold zr; omega) (by decide) rfl rfl ?_
      refine a_goto 194 dX12_init_211 (by decide) ?_
      rw [Int.toNat_natCast, gF_s]
      exact ih194 (r + 1) (by omega) (by omega)
  · omega
