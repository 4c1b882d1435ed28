def H_a (g : GH) : GH := (gR (gN (gR (gN (gR (gN g 2 (Sum.inr (.int, 6))) 1 0 (some 2)) 3 (Sum.inr (.object RX6, 8))) 1 1 (some 3)) 4 (Sum.inr (.object RX2, 12))) 1 2 (some 4))
def H_b (g : GH) : GH := (gR (gI (gR (gN (gN (H_a g) 5 (Sum.inl 0)) 6 (Sum.inr (.object RX5, 40))) 5 0 (some 6)) 5 1 0) 1 3 (some 5))
def H_c (g : GH) : GH := (gR (gL (gN (H_b g) 7 (Sum.inl 4)) 7 0 0) 1 4 (some 7))
def H_d (g : GH) : GH := (gR (wyN (gN (H_c g) 8 (Sum.inl 10)) 6) 1 5 (some 8))
def H_e (g : GH) : GH := (gR (gR (gI (gI (gI (gI (gR (gN (gR (gN (gR (gN (gN (H_d g) 22 (Sum.inl 3)) 23 (Sum.inr (.object RX5, 10))) 22 1 (some 23)) 24 (Sum.inr (.int, 10))) 22 2 (some 24)) 25 (Sum.inr (.int, 1024))) 22 3 (some 25)) 22 4 0) 22 5 0) 22 6 0) 22 7 0) 22 0 (some 8)) 1 6 (some 22))
def H_f (g : GH) : GH := (gR (gI (gI (gI (gI (gI (gI (gR (gN (gN (H_e g) 26 (Sum.inl 8)) 27 (Sum.inr (.byte, 600))) 26 0 (some 27)) 26 1 0) 26 2 0) 26 3 0) 26 4 1) 26 5 0) 26 6 0) 1 7 (some 26))
def H_g (g : GH) : GH := (gR (bkN (gN (H_f g) 28 (Sum.inl 7)) 28 12) 1 8 (some 28))
def H_h (g : GH) : GH := (gI (gI (gR (bkN (gN (H_g g) 42 (Sum.inl 7)) 42 12) 1 9 (some 42)) 1 10 0) 1 11 0)
def g00 : GH := (fun _ => none, fun _ _ => 0, fun _ _ => 0, fun _ _ => none)
def g01 : GH := gN g00 1 (Sum.inl 11)
set_option maxHeartbeats 4000000 in
set_option maxRecDepth 100000 in
theorem c11_init (g : GH) (hg : g = g01) : AMet mX11_init g [vA 1] (fun _ g' => g' = H_h g01) := by
  refine AMet.of [vA 1] (by decide) rfl (Nat.le_of_ble_eq_true rfl) ?_
  subst hg
  refine a_aload_n 1 dX11_init_0 rfl rfl ?_
  refine a_objInit 4 dX11_init_1 oiX11_1 ⟨by decide, by decide⟩ (Nat.le_of_ble_eq_true rfl) rfl ?_
  refine a_aload_n 5 dX11_init_4 rfl rfl ?_
  refine a_bipush (z := 6) 7 dX11_init_5 rfl (zrl rfl) rfl ?_
  refine a_newa .int (2) 9 dX11_init_7 rfl ac_int (by decide) ⟨rfl, rfl⟩ (by decide) (by decide) rfl (by decide) (by decide) (by decide) rfl ?_
  refine a_putR 12 dX11_init_9 fX11_9 (Or.inr ⟨rfl, rfl, rfl⟩) rfl rfl rfl ?_
  refine a_aload_n 13 dX11_init_12 rfl rfl ?_
  refine a_bipush (z := 8) 15 dX11_init_13 rfl (zrl rfl) rfl ?_
  refine a_anew (ci := 6) (3) 18 dX11_init_15 ⟨nX11_13.1, by decide⟩ (by decide) (by decide) (by decide) rfl (by decide) (by decide) (by decide) rfl ?_
  refine a_putR 21 dX11_init_18 fX11_15 (Or.inr ⟨rfl, rfl, rfl⟩) rfl rfl rfl ?_
  refine a_aload_n 22 dX11_init_21 rfl rfl ?_
  refine a_bipush (z := 12) 24 dX11_init_22 rfl (zrl rfl) rfl ?_
  refine a_anew (ci := 2) (4) 27 dX11_init_24 ⟨nX11_19.1, by decide⟩ (by decide) (by decide) (by decide) rfl (by decide) (by decide) (by decide) rfl ?_
  refine a_putR 30 dX11_init_27 fX11_21 (Or.inr ⟨rfl, rfl, rfl⟩) rfl rfl rfl ?_
  show AW _ _ _ (H_a g01) _ _ _
  refine a_aload_n 31 dX11_init_30 rfl rfl ?_
  refine a_new (5) 34 dX11_init_31 nX11_25 (by decide) rfl (by decide) (by decide) (by decide) rfl ?_
  refine a_dup 35 dX11_init_34 (by intro w h; cases h) rfl ?_
  refine a_callIA 38 (c0_init _ rfl rfl) cdX0_init lX11_27 dX11_init_35 rfl rfl ⟨by decide, by decide, by decide, by decide⟩ (Nat.le_of_ble_eq_true rfl) rfl ?_
  rintro _ _ - rfl -
  refine a_putR 41 dX11_init_38 fX11_28 (Or.inr ⟨rfl, rfl, rfl⟩) rfl rfl rfl ?_
  show AW _ _ _ (H_b g01) _ _ _
  refine a_aload_n 42 dX11_init_41 rfl rfl ?_
  refine a_new (7) 45 dX11_init_42 nX11_32 (by decide) rfl (by decide) (by decide) (by decide) rfl ?_
  refine a_dup 46 dX11_init_45 (by intro w h; cases h) rfl ?_
  refine a_callIA 49 (c4_init _ rfl) cdX4_init lX11_34 dX11_init_46 rfl rfl ⟨by decide, by decide, by decide, by decide⟩ (Nat.le_of_ble_eq_true rfl) rfl ?_
  rintro _ _ - rfl -
  refine a_putR 52 dX11_init_49 fX11_35 (Or.inr ⟨rfl, rfl, rfl⟩) rfl rfl rfl ?_
  show AW _ _ _ (H_c g01) _ _ _
  refine a_aload_n 53 dX11_init_52 rfl rfl ?_
  refine a_new (8) 56 dX11_init_53 nX11_39 (by decide) rfl (by decide) (by decide) (by decide) rfl ?_
  refine a_dup 57 dX11_init_56 (by intro w h; cases h) rfl ?_
  refine a_callIA 60 (c10_init _ rfl (by intro a h1 h2; have h : a = 9 ∨ a = 10 ∨ a = 11 ∨ a = 12 ∨ a = 13 ∨ a = 14 ∨ a = 15 ∨ a = 16 ∨ a = 17 ∨ a = 18 ∨ a = 19 ∨ a = 20 ∨ a = 21 := (by omega); rcases h with rfl | rfl | rfl | rfl | rfl | rfl | rfl | rfl | rfl | rfl | rfl | rfl | rfl <;> rfl)) cdX10_init lX11_41 dX11_init_57 rfl rfl ⟨by decide, by decide, by decide, by decide⟩ (Nat.le_of_ble_eq_true rfl) rfl ?_
  rintro _ _ - rfl -
  refine a_putR 63 dX11_init_60 fX11_42 (Or.inr ⟨rfl, rfl, rfl⟩) rfl rfl rfl ?_
  show AW _ _ _ (H_d g01) _ _ _
  refine a_aload_n 64 dX11_init_63 rfl rfl ?_
  refine a_new (22) 67 dX11_init_64 nX11_46 (by decide) rfl (by decide) (by decide) (by decide) rfl ?_
  refine a_dup 68 dX11_init_67 (by intro w h; cases h) rfl ?_
  refine a_aload_n 69 dX11_init_68 rfl rfl ?_
  refine a_getR 72 dX11_init_69 fX11_42 rfl rfl rfl rfl ?_
  refine a_callIA 75 (c3_init _ rfl rfl rfl rfl) cdX3_init lX11_48 dX11_init_72 rfl rfl ⟨by decide, by decide, by decide, by decide⟩ (Nat.le_of_ble_eq_true rfl) rfl ?_
  rintro _ _ - rfl -
  refine a_putR 78 dX11_init_75 fX11_51 (Or.inr ⟨rfl, rfl, rfl⟩) rfl rfl rfl ?_
  show AW _ _ _ (H_e g01) _ _ _
  refine a_aload_n 79 dX11_init_78 rfl rfl ?_
  refine a_new (26) 82 dX11_init_79 nX11_55 (by decide) rfl (by decide) (by decide) (by decide) rfl ?_
  refine a_dup 83 dX11_init_82 (by intro w h; cases h) rfl ?_
  refine a_callIA 86 (c8_init _ rfl rfl) cdX8_init lX11_57 dX11_init_83 rfl rfl ⟨by decide, by decide, by decide, by decide⟩ (Nat.le_of_ble_eq_true rfl) rfl ?_
  rintro _ _ - rfl -
  refine a_putR 89 dX11_init_86 fX11_58 (Or.inr ⟨rfl, rfl, rfl⟩) rfl rfl rfl ?_
  show AW _ _ _ (H_f g01) _ _ _
  refine a_aload_n 90 dX11_init_89 rfl rfl ?_
  refine a_new (28) 93 dX11_init_90 nX11_62 (by decide) rfl (by decide) (by decide) (by decide) rfl ?_
  refine a_dup 94 dX11_init_93 (by intro w h; cases h) rfl ?_
  refine a_callIA 97 (c7_init _ (b := 28) rfl (by intro i h1; have h : i = 0 ∨ i = 1 ∨ i = 2 ∨ i = 3 ∨ i = 4 ∨ i = 5 ∨ i = 6 ∨ i = 7 ∨ i = 8 ∨ i = 9 ∨ i = 10 ∨ i = 11 ∨ i = 12 := (by omega); rcases h with rfl | rfl | rfl | rfl | rfl | rfl | rfl | rfl | rfl | rfl | rfl | rfl | rfl <;> rfl) (by decide)) cdX7_init lX11_64 dX11_init_94 rfl rfl ⟨by decide, by decide, by decide, by decide⟩ (Nat.le_of_ble_eq_true rfl) rfl ?_
  rintro _ _ - rfl -
  refine a_putR 100 dX11_init_97 fX11_65 (Or.inl rfl) rfl rfl rfl ?_
  show AW _ _ _ (H_g g01) _ _ _
  refine a_aload_n 101 dX11_init_100 rfl rfl ?_
  refine a_new (42) 104 dX11_init_101 nX11_62 (by decide) rfl (by decide) (by decide) (by decide) rfl ?_
  refine a_dup 105 dX11_init_104 (by intro w h; cases h) rfl ?_
  refine a_callIA 108 (c7_init _ (b := 42) rfl (by intro i h1; have h : i = 0 ∨ i = 1 ∨ i = 2 ∨ i = 3 ∨ i = 4 ∨ i = 5 ∨ i = 6 ∨ i = 7 ∨ i = 8 ∨ i = 9 ∨ i = 10 ∨ i = 11 ∨ i = 12 := (by omega); rcases h with rfl | rfl | rfl | rfl | rfl | rfl | rfl | rfl | rfl | rfl | rfl | rfl | rfl <;> rfl) (by decide)) cdX7_init lX11_64 dX11_init_105 rfl rfl ⟨by decide, by decide, by decide, by decide⟩ (Nat.le_of_ble_eq_true rfl) rfl ?_
  rintro _ _ - rfl -
  refine a_putR 111 dX11_init_108 fX11_69 (Or.inl rfl) rfl rfl rfl ?_
  refine a_aload_n 112 dX11_init_111 rfl rfl ?_
  refine a_iconst (z := 0) 113 dX11_init_112 rfl (zrl rfl) rfl ?_
  refine a_putI 116 dX11_init_113 fX11_72 (Or.inl rfl) rfl (Or.inl rfl) rfl ?_
  refine a_aload_n 117 dX11_init_116 rfl rfl ?_
  refine a_iconst (z := 0) 118 dX11_init_117 rfl (zrl rfl) rfl ?_
  refine a_putI 121 dX11_init_118 fX11_76 (Or.inl rfl) rfl (Or.inl rfl) rfl ?_
  refine a_return dX11_init_121 rfl ⟨by decide, by decide⟩ ?_
  rfl
