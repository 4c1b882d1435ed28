theorem gR_n {g : GH} {a k a' k' : Nat} {r : Option Nat} (h : a' ≠ a ∨ k' ≠ k) : (gR g a k r).2.2.2 a' k' = g.2.2.2 a' k' := u2_n h
theorem gR_s {g : GH} {a k : Nat} {r : Option Nat} : (gR g a k r).2.2.2 a k = r := u2_s
set_option maxHeartbeats 4000000 in
set_option maxRecDepth 100000 in
theorem c11_town (g : GH) (t v : Int) (hP : CPL g) : AMet mX11_town g [vA 1, vI t, vI v] (fun r g' => (((0 ≤ t ∧ t ≤ 5) ∧ (0 ≤ v ∧ v ≤ 2)) ∧ r = vI (g.2.1 1002 t.toNat) ∧ g' = gI g 2 t.toNat v) ∨ (¬ ((0 ≤ t ∧ t ≤ 5) ∧ (0 ≤ v ∧ v ≤ 2)) ∧ r = vI (-1) ∧ g = g')) := by
  refine AMet.of [vA 1, vI t, vI v, none] (by decide) rfl (Nat.le_of_ble_eq_true rfl) ?_
  obtain ⟨⟨hM, hV⟩, ⟨hO, hl⟩, ⟨hof, hdi⟩, ⟨hC, hw, hv, hG⟩, ⟨hT, hTr, hF⟩, bk, hB, hBv⟩ := id hP
  have hcn := hV.1
  unfold MVc at hcn
  have hn : 0 ≤ g.2.1 1000 13 ∧ g.2.1 1000 13 ≤ 40 := hcn.2.2.1
  refine a_iload_n 1 dX11_town_0 rfl rfl ?_
  refine a_iconst (z := 0) 2 dX11_town_1 rfl (zrl rfl) rfl ?_
  refine a_iconst (z := 5) 3 dX11_town_2 rfl (zrl rfl) rfl ?_
  refine a_callS 6 (c11_within _ _ _ _) cdX11_within lX11_79 dX11_town_3 rfl rfl ⟨by decide, by decide, rfl, rfl⟩ ⟨Nat.zero_le _, Nat.zero_le _⟩ (Nat.le_of_ble_eq_true rfl) rfl ?_
  rintro _ _ - ⟨b3, rfl, rfl, h3⟩ -
  refine a_if_eq 18 9 dX11_town_6 (by decide) rfl (fun c6 => ?_) (fun c6 => ?_)
  · skip
    refine a_iconst (z := (-1)) 19 dX11_town_18 rfl (zrl rfl) rfl ?_
    refine a_ireturn dX11_town_19 rfl ⟨Nat.zero_le _, Nat.zero_le _⟩ ?_
    refine Or.inr ⟨fun z => ?_, rfl, rfl⟩
    first
    | exact isN h3 (by omega) z.1
    | exact isN h12 (by omega) z.2
  · skip
    refine a_iload_n 10 dX11_town_9 rfl rfl ?_
    refine a_iconst (z := 0) 11 dX11_town_10 rfl (zrl rfl) rfl ?_
    refine a_iconst (z := 2) 12 dX11_town_11 rfl (zrl rfl) rfl ?_
    refine a_callS 15 (c11_within _ _ _ _) cdX11_within lX11_79 dX11_town_12 rfl rfl ⟨by decide, by decide, rfl, rfl⟩ ⟨Nat.zero_le _, Nat.zero_le _⟩ (Nat.le_of_ble_eq_true rfl) rfl ?_
    rintro _ _ - ⟨b12, rfl, rfl, h12⟩ -
    refine a_if_ne 20 18 dX11_town_15 (by decide) rfl (fun c15 => ?_) (fun c15 => ?_)
    · skip
      have ht := isT h3 c6
      refine a_aload_n 21 dX11_town_20 rfl rfl ?_
      refine a_getR 24 dX11_town_21 fX11_9 hO.1.1 rfl hO.1.2.1 rfl ?_
      refine a_iload_n 25 dX11_town_24 rfl rfl ?_
      refine a_ialdz (g.2.1 1002 t.toNat) 26 dX11_town_25 hO.2.1 (by omega) (by omega) (hl _ (by omega)) rfl ?_
      refine a_istore_n 27 dX11_town_26 (by decide) rfl rfl ?_
      refine a_aload_n 28 dX11_town_27 rfl rfl ?_
      refine a_getR 31 dX11_town_28 fX11_9 hO.1.1 rfl hO.1.2.1 rfl ?_
      refine a_iload_n 32 dX11_town_31 rfl rfl ?_
      refine a_iload_n 33 dX11_town_32 rfl rfl ?_
      refine a_iast 34 dX11_town_33 hO.2.1 (by omega) (by omega) rfl ?_
      refine a_iload_n 35 dX11_town_34 rfl rfl ?_
      refine a_ireturn dX11_town_35 rfl ⟨Nat.zero_le _, Nat.zero_le _⟩ ?_
      exact Or.inl ⟨⟨ht, isT h12 c15⟩, rfl, rfl⟩
    · skip
      refine a_iconst (z := (-1)) 19 dX11_town_18 rfl (zrl rfl) rfl ?_
      refine a_ireturn dX11_town_19 rfl ⟨Nat.zero_le _, Nat.zero_le _⟩ ?_
      refine Or.inr ⟨fun z => ?_, rfl, rfl⟩
      first
      | exact isN h3 (by omega) z.1
      | exact isN h12 (by omega) z.2
set_option maxHeartbeats 4000000 in
set_option maxRecDepth 100000 in
theorem c11_office (g : GH) (t f e : Int) (hP : CPL g) : AMet mX11_office g [vA 1, vI t, vI f, vI e] (fun r g' => (((0 ≤ t ∧ t ≤ 5) ∧ (0 ≤ f ∧ f ≤ 999) ∧ (f ≤ e ∧ e ≤ 999)) ∧ g.2.1 1000 3 ≠ 8 ∧ r = vI (g.2.1 1000 3) ∧ g' = gI (gR (gI (gI (gI (gN g (60 + (g.2.1 1000 3).toNat) (Sum.inl 6)) (60 + (g.2.1 1000 3).toNat) 0 t) (60 + (g.2.1 1000 3).toNat) 1 f) (60 + (g.2.1 1000 3).toNat) 2 e) 3 (g.2.1 1000 3).toNat (some (60 + (g.2.1 1000 3).toNat))) 1 10 (g.2.1 1000 3 + 1)) ∨ (((0 ≤ t ∧ t ≤ 5) ∧ (0 ≤ f ∧ f ≤ 999) ∧ (f ≤ e ∧ e ≤ 999)) ∧ g.2.1 1000 3 = 8 ∧ r = vI (-3) ∧ g = g') ∨ (¬ ((0 ≤ t ∧ t ≤ 5) ∧ (0 ≤ f ∧ f ≤ 999) ∧ (f ≤ e ∧ e ≤ 999)) ∧ r = vI (-1) ∧ g = g')) := by
  refine AMet.of [vA 1, vI t, vI f, vI e] (by decide) rfl (Nat.le_of_ble_eq_true rfl) ?_
  obtain ⟨⟨hM, hV⟩, ⟨hO, hl⟩, ⟨hof, hdi⟩, ⟨hC, hw, hv, hG⟩, ⟨hT, hTr, hF⟩, bk, hB, hBv⟩ := id hP
  have hcn := hV.1
  unfold MVc at hcn
  have hn : 0 ≤ g.2.1 1000 13 ∧ g.2.1 1000 13 ≤ 40 := hcn.2.2.1
  refine a_iload_n 1 dX11_office_0 rfl rfl ?_
  refine a_iconst (z := 0) 2 dX11_office_1 rfl (zrl rfl) rfl ?_
  refine a_iconst (z := 5) 3 dX11_office_2 rfl (zrl rfl) rfl ?_
  refine a_callS 6 (c11_within _ _ _ _) cdX11_within lX11_79 dX11_office_3 rfl rfl ⟨by decide, by decide, rfl, rfl⟩ ⟨Nat.zero_le _, Nat.zero_le _⟩ (Nat.le_of_ble_eq_true rfl) rfl ?_
  rintro _ _ - ⟨b3, rfl, rfl, h3⟩ -
  refine a_if_eq 17 9 dX11_office_6 (by decide) rfl (fun c6 => ?_) (fun c6 => ?_)
  · skip
    refine a_iconst (z := (-1)) 18 dX11_office_17 rfl (zrl rfl) rfl ?_
    refine a_ireturn dX11_office_18 rfl ⟨Nat.zero_le _, Nat.zero_le _⟩ ?_
    refine Or.inr (Or.inr ⟨fun z => ?_, rfl, rfl⟩)
    first
    | exact isN h3 (by omega) z.1
    | exact isN h11 (by omega) (by omega)
  · skip
    refine a_iload_n 10 dX11_office_9 rfl rfl ?_
    refine a_iload_n 11 dX11_office_10 rfl rfl ?_
    refine a_callS 14 (c11_isStretch _ _ _) cdX11_isStretch lX11_83 dX11_office_11 rfl rfl ⟨by decide, by decide, rfl, rfl⟩ ⟨Nat.zero_le _, Nat.zero_le _⟩ (Nat.le_of_ble_eq_true rfl) rfl ?_
    rintro _ _ - ⟨b11, rfl, rfl, h11⟩ -
    refine a_if_ne 19 17 dX11_office_14 (by decide) rfl (fun c14 => ?_) (fun c14 => ?_)
    · skip
      refine a_aload_n 20 dX11_office_19 rfl rfl ?_
      refine a_getIz (g.2.1 1000 3) 23 dX11_office_20 fX11_72 hO.1.1 rfl hof.1 rfl ?_
      refine a_bipush (z := 8) 25 dX11_office_23 rfl (zrl rfl) rfl ?_
      refine a_icmp_lt 31 28 dX11_office_25 (by decide) rfl (fun c25 => ?_) (fun c25 => ?_)
      · skip
        obtain ⟨n, hn0⟩ : ∃ n : Nat, g.2.1 1000 3 = n := ⟨(g.2.1 1000 3).toNat, by omega⟩
        have hn8 : n < 8 := by omega
        refine a_aload_n 32 dX11_office_31 rfl rfl ?_
        refine a_getR 35 dX11_office_32 fX11_15 hO.1.1 rfl hO.1.2.2.1 rfl ?_
        refine a_aload_n 36 dX11_office_35 rfl rfl ?_
        refine a_getIz ((n : Int)) 39 dX11_office_36 fX11_72 hO.1.1 rfl (hof.1.trans hn0) rfl ?_
        refine a_new (60 + n) 42 dX11_office_39 nX11_13 (by decide) (hF.1 n (by omega) hn8) (by omega) (by decide) (by decide) rfl ?_
        skip
        refine a_dup 43 dX11_office_42 (by intro w h; cases h) rfl ?_
        refine a_iload_n 44 dX11_office_43 rfl rfl ?_
        refine a_iload_n 45 dX11_office_44 rfl rfl ?_
        refine a_iload_n 46 dX11_office_45 rfl rfl ?_
        refine a_callIA 49 (c6_init _ _ _ _ (a := 60 + n) u1_s) cdX6_init lX11_87 dX11_office_46 rfl rfl ⟨by decide, by decide, by decide, by decide⟩ (Nat.le_of_ble_eq_true rfl) rfl ?_
        rintro _ _ - rfl -
        refine a_aast (ci := 6) 50 dX11_office_49 ((u1_n (by omega)).trans hO.2.2.1) u1_s (by omega) (by omega) rfl ?_
        refine a_aload_n 51 dX11_office_50 rfl rfl ?_
        refine a_dup 52 dX11_office_51 (by intro w h; cases h) rfl ?_
        refine a_getIz ((n : Int)) 55 dX11_office_52 fX11_72 ((u1_n (by omega)).trans hO.1.1) rfl ((gI_n (Or.inl (by omega))).trans ((gI_n (Or.inl (by omega))).trans ((gI_n (Or.inl (by omega))).trans ((congrFun (u1_n (by omega)) 10).trans (hof.1.trans hn0))))) rfl ?_
        refine a_dup_x1 56 dX11_office_55 (by intro w h; cases h) (by intro w h; cases h) rfl ?_
        refine a_iconst (z := 1) 57 dX11_office_56 rfl (zrl rfl) rfl ?_
        refine a_iadd 58 dX11_office_57 (by unfold zr; omega) rfl ?_
        refine a_putI 61 dX11_office_58 fX11_72 (Or.inl rfl) ((u1_n (by omega)).trans hO.1.1) (Or.inl rfl) rfl ?_
        refine a_ireturn dX11_office_61 rfl ⟨by decide, by decide⟩ ?_
        refine Or.inl ⟨⟨isT h3 c6, by have := isT h11 c14; omega, by have := isT h11 c14; omega⟩, by omega, congrArg vI hn0.symm, ?_⟩
        rw [hn0, Int.toNat_natCast]
      · skip
        refine a_bipush (z := (-3)) 30 dX11_office_28 rfl (zrl rfl) rfl ?_
        refine a_ireturn dX11_office_30 rfl ⟨Nat.zero_le _, Nat.zero_le _⟩ ?_
        exact Or.inr (Or.inl ⟨⟨isT h3 c6, by have := isT h11 c14; omega, by have := isT h11 c14; omega⟩, by omega, rfl, rfl⟩)
    · skip
      refine a_iconst (z := (-1)) 18 dX11_office_17 rfl (zrl rfl) rfl ?_
      refine a_ireturn dX11_office_18 rfl ⟨Nat.zero_le _, Nat.zero_le _⟩ ?_
      refine Or.inr (Or.inr ⟨fun z => ?_, rfl, rfl⟩)
      first
      | exact isN h3 (by omega) z.1
      | exact isN h11 (by omega) (by omega)
set_option maxHeartbeats 4000000 in
set_option maxRecDepth 100000 in
theorem c11_die (g : GH) (f k a e n : Int) (hP : CPL g) : AMet mX11_die g [vA 1, vI f, vI k, vI a, vI e, vI n] (fun r g' => (((0 ≤ f ∧ f < g.2.1 1000 3) ∧ (0 ≤ k ∧ k ≤ 15) ∧ (0 ≤ a ∧ a ≤ 999) ∧ (a ≤ e ∧ e ≤ 999) ∧ (n = -9 ∨ (0 ≤ n ∧ n ≤ 999))) ∧ g.2.1 1000 7 ≠ 12 ∧ r = vI (g.2.1 1000 7) ∧ g' = gI (gR (gI (gI (gI (gI (gR (gN g (80 + (g.2.1 1000 7).toNat) (Sum.inl 2)) (80 + (g.2.1 1000 7).toNat) 0 (some (60 + f.toNat))) (80 + (g.2.1 1000 7).toNat) 1 k) (80 + (g.2.1 1000 7).toNat) 2 a) (80 + (g.2.1 1000 7).toNat) 3 e) (80 + (g.2.1 1000 7).toNat) 4 n) 4 (g.2.1 1000 7).toNat (some (80 + (g.2.1 1000 7).toNat))) 1 11 (g.2.1 1000 7 + 1)) ∨ (((0 ≤ f ∧ f < g.2.1 1000 3) ∧ (0 ≤ k ∧ k ≤ 15) ∧ (0 ≤ a ∧ a ≤ 999) ∧ (a ≤ e ∧ e ≤ 999) ∧ (n = -9 ∨ (0 ≤ n ∧ n ≤ 999))) ∧ g.2.1 1000 7 = 12 ∧ r = vI (-3) ∧ g = g') ∨ (¬ ((0 ≤ f ∧ f < g.2.1 1000 3) ∧ (0 ≤ k ∧ k ≤ 15) ∧ (0 ≤ a ∧ a ≤ 999) ∧ (a ≤ e ∧ e ≤ 999) ∧ (n = -9 ∨ (0 ≤ n ∧ n ≤ 999))) ∧ r = vI (-1) ∧ g = g')) := by
  refine AMet.of [vA 1, vI f, vI k, vI a, vI e, vI n] (by decide) rfl (Nat.le_of_ble_eq_true rfl) ?_
  obtain ⟨⟨hM, hV⟩, ⟨hO, hl⟩, ⟨hof, hdi⟩, ⟨hC, hw, hv, hG⟩, ⟨hT, hTr, hF⟩, bk, hB, hBv⟩ := id hP
  have hcn := hV.1
  unfold MVc at hcn
  have hn : 0 ≤ g.2.1 1000 13 ∧ g.2.1 1000 13 ≤ 40 := hcn.2.2.1
  refine a_iload_n 1 dX11_die_0 rfl rfl ?_
  refine a_iconst (z := 0) 2 dX11_die_1 rfl (zrl rfl) rfl ?_
  refine a_aload_n 3 dX11_die_2 rfl rfl ?_
  refine a_getIz (g.2.1 1000 3) 6 dX11_die_3 fX11_72 hO.1.1 rfl hof.1 rfl ?_
  refine a_iconst (z := 1) 7 dX11_die_6 rfl (zrl rfl) rfl ?_
  refine a_isub 8 dX11_die_7 (by unfold zr; omega) rfl ?_
  refine a_callS 11 (c11_within _ _ _ _) cdX11_within lX11_79 dX11_die_8 rfl rfl ⟨by decide, by decide, rfl, rfl⟩ ⟨Nat.zero_le _, Nat.zero_le _⟩ (Nat.le_of_ble_eq_true rfl) rfl ?_
  rintro _ _ - ⟨b8, rfl, rfl, h8⟩ -
  refine a_if_eq 24 14 dX11_die_11 (by decide) rfl (fun c11 => ?_) (fun c11 => ?_)
  · skip
    refine a_iconst (z := (-1)) 25 dX11_die_24 rfl (zrl rfl) rfl ?_
    refine a_ireturn dX11_die_25 rfl ⟨Nat.zero_le _, Nat.zero_le _⟩ ?_
    refine Or.inr (Or.inr ⟨fun z => ?_, rfl, rfl⟩)
    first
    | exact isN h8 (by omega) (by omega)
    | exact isN h18 (by omega) z.2.1
  · skip
    refine a_iload_n 15 dX11_die_14 rfl rfl ?_
    refine a_iconst (z := 0) 16 dX11_die_15 rfl (zrl rfl) rfl ?_
    refine a_bipush (z := 15) 18 dX11_die_16 rfl (zrl rfl) rfl ?_
    refine a_callS 21 (c11_within _ _ _ _) cdX11_within lX11_79 dX11_die_18 rfl rfl ⟨by decide, by decide, rfl, rfl⟩ ⟨Nat.zero_le _, Nat.zero_le _⟩ (Nat.le_of_ble_eq_true rfl) rfl ?_
    rintro _ _ - ⟨b18, rfl, rfl, h18⟩ -
    refine a_if_ne 26 24 dX11_die_21 (by decide) rfl (fun c21 => ?_) (fun c21 => ?_)
    · skip
      refine a_iload_n 27 dX11_die_26 rfl rfl ?_
      refine a_iload 29 dX11_die_27 rfl rfl ?_
      refine a_callS 32 (c11_isStretch _ _ _) cdX11_isStretch lX11_83 dX11_die_29 rfl rfl ⟨by decide, by decide, rfl, rfl⟩ ⟨Nat.zero_le _, Nat.zero_le _⟩ (Nat.le_of_ble_eq_true rfl) rfl ?_
      rintro _ _ - ⟨b29, rfl, rfl, h29⟩ -
      refine a_if_eq 43 35 dX11_die_32 (by decide) rfl (fun c32 => ?_) (fun c32 => ?_)
      · skip
        refine a_iconst (z := (-1)) 44 dX11_die_43 rfl (zrl rfl) rfl ?_
        refine a_ireturn dX11_die_44 rfl ⟨Nat.zero_le _, Nat.zero_le _⟩ ?_
        refine Or.inr (Or.inr ⟨fun z => ?_, rfl, rfl⟩)
        first
        | exact isN h29 (by omega) (by omega)
        | exact isN h37 (by omega) z.2.2.2.2
      · skip
        refine a_iload 37 dX11_die_35 rfl rfl ?_
        refine a_callS 40 (c11_isDayOrNone _ _) cdX11_isDayOrNone lX11_90 dX11_die_37 rfl rfl ⟨by decide, by decide, rfl, rfl⟩ ⟨Nat.zero_le _, Nat.zero_le _⟩ (Nat.le_of_ble_eq_true rfl) rfl ?_
        rintro _ _ - ⟨b37, rfl, rfl, h37⟩ -
        refine a_if_ne 45 43 dX11_die_40 (by decide) rfl (fun c40 => ?_) (fun c40 => ?_)
        · skip
          refine a_aload_n 46 dX11_die_45 rfl rfl ?_
          refine a_getIz (g.2.1 1000 7) 49 dX11_die_46 fX11_76 hO.1.1 rfl hdi.1 rfl ?_
          refine a_bipush (z := 12) 51 dX11_die_49 rfl (zrl rfl) rfl ?_
          refine a_icmp_lt 57 54 dX11_die_51 (by decide) rfl (fun c51 => ?_) (fun c51 => ?_)
          · skip
            obtain ⟨m, hn0⟩ : ∃ m : Nat, g.2.1 1000 7 = m := ⟨(g.2.1 1000 7).toNat, by omega⟩
            have hn8 : m < 12 := by omega
            have hf8 := isT h8 c11
            refine a_aload_n 58 dX11_die_57 rfl rfl ?_
            refine a_getR 61 dX11_die_58 fX11_21 hO.1.1 rfl hO.1.2.2.2.1 rfl ?_
            refine a_aload_n 62 dX11_die_61 rfl rfl ?_
            refine a_getIz ((m : Int)) 65 dX11_die_62 fX11_76 hO.1.1 rfl (hdi.1.trans hn0) rfl ?_
            refine a_new (80 + m) 68 dX11_die_65 nX11_19 (by decide) (hF.2.1 m (by omega) hn8) (by omega) (by decide) (by decide) rfl ?_
            skip
            refine a_dup 69 dX11_die_68 (by intro w h; cases h) rfl ?_
            refine a_aload_n 70 dX11_die_69 rfl rfl ?_
            refine a_getR 73 dX11_die_70 fX11_15 ((u1_n (by omega)).trans hO.1.1) rfl ((congrFun (u1_n (by omega)) _).trans hO.1.2.2.1) rfl ?_
            refine a_iload_n 74 dX11_die_73 rfl rfl ?_
            refine a_aald 75 dX11_die_74 ((u1_n (by omega)).trans hO.2.2.1) rfl (by omega) (by omega) ((congrFun (u1_n (by omega)) _).trans (hof.2 f.toNat (by omega)).1) rfl ?_
            refine a_iload_n 76 dX11_die_75 rfl rfl ?_
            refine a_iload_n 77 dX11_die_76 rfl rfl ?_
            refine a_iload 79 dX11_die_77 rfl rfl ?_
            refine a_iload 81 dX11_die_79 rfl rfl ?_
            refine a_callIA 84 (c2_init _ _ _ _ _ (e := 80 + m) (f := 60 + f.toNat) u1_s) cdX2_init lX11_94 dX11_die_81 rfl rfl ⟨by decide, by decide, by decide, by decide⟩ (Nat.le_of_ble_eq_true rfl) rfl ?_
            rintro _ _ - rfl -
            refine a_aast (ci := 2) 85 dX11_die_84 ((u1_n (by omega)).trans hO.2.2.2.1) u1_s (by omega) (by omega) rfl ?_
            refine a_aload_n 86 dX11_die_85 rfl rfl ?_
            refine a_dup 87 dX11_die_86 (by intro w h; cases h) rfl ?_
            refine a_getIz ((m : Int)) 90 dX11_die_87 fX11_76 ((u1_n (by omega)).trans hO.1.1) rfl ((gI_n (Or.inl (by omega))).trans ((gI_n (Or.inl (by omega))).trans ((gI_n (Or.inl (by omega))).trans ((gI_n (Or.inl (by omega))).trans ((congrFun (u1_n (by omega)) 11).trans (hdi.1.trans hn0)))))) rfl ?_
            refine a_dup_x1 91 dX11_die_90 (by intro w h; cases h) (by intro w h; cases h) rfl ?_
            refine a_iconst (z := 1) 92 dX11_die_91 rfl (zrl rfl) rfl ?_
            refine a_iadd 93 dX11_die_92 (by unfold zr; omega) rfl ?_
            refine a_putI 96 dX11_die_93 fX11_76 (Or.inl rfl) ((u1_n (by omega)).trans hO.1.1) (Or.inl rfl) rfl ?_
            refine a_ireturn dX11_die_96 rfl ⟨by decide, by decide⟩ ?_
            refine Or.inl ⟨⟨by omega, isT h18 c21, by have := isT h29 c32; omega, by have := isT h29 c32; omega, isT h37 c40⟩, by omega, congrArg vI hn0.symm, ?_⟩
            rw [hn0, Int.toNat_natCast]
          · skip
            refine a_bipush (z := (-3)) 56 dX11_die_54 rfl (zrl rfl) rfl ?_
            refine a_ireturn dX11_die_56 rfl ⟨Nat.zero_le _, Nat.zero_le _⟩ ?_
            exact Or.inr (Or.inl ⟨⟨by have := isT h8 c11; omega, isT h18 c21, by have := isT h29 c32; omega, by have := isT h29 c32; omega, isT h37 c40⟩, by omega, rfl, rfl⟩)
        · skip
          refine a_iconst (z := (-1)) 44 dX11_die_43 rfl (zrl rfl) rfl ?_
          refine a_ireturn dX11_die_44 rfl ⟨Nat.zero_le _, Nat.zero_le _⟩ ?_
          refine Or.inr (Or.inr ⟨fun z => ?_, rfl, rfl⟩)
          first
          | exact isN h29 (by omega) (by omega)
          | exact isN h37 (by omega) z.2.2.2.2
    · skip
      refine a_iconst (z := (-1)) 25 dX11_die_24 rfl (zrl rfl) rfl ?_
      refine a_ireturn dX11_die_25 rfl ⟨Nat.zero_le _, Nat.zero_le _⟩ ?_
      refine Or.inr (Or.inr ⟨fun z => ?_, rfl, rfl⟩)
      first
      | exact isN h8 (by omega) (by omega)
      | exact isN h18 (by omega) z.2.1
set_option maxHeartbeats 4000000 in
set_option maxRecDepth 100000 in
theorem c11_sail (g : GH) (f k a e : Int) (hP : CPL g) : AMet mX11_sail g [vA 1, vI f, vI k, vI a, vI e] (fun r g' => (((0 ≤ f ∧ f ≤ 5) ∧ (0 ≤ k ∧ k ≤ 5) ∧ f ≠ k ∧ (0 ≤ a ∧ a ≤ 999) ∧ (a ≤ e ∧ e ≤ 999)) ∧ g.2.1 1000 15 ≠ 20 ∧ r = vI (g.2.1 1000 15) ∧ g' = gI (gI (gI (gI (gI g 9 (g.2.1 1000 15).toNat f) 10 (g.2.1 1000 15).toNat k) 11 (g.2.1 1000 15).toNat a) 12 (g.2.1 1000 15).toNat e) 8 7 (g.2.1 1000 15 + 1)) ∨ (((0 ≤ f ∧ f ≤ 5) ∧ (0 ≤ k ∧ k ≤ 5) ∧ f ≠ k ∧ (0 ≤ a ∧ a ≤ 999) ∧ (a ≤ e ∧ e ≤ 999)) ∧ g.2.1 1000 15 = 20 ∧ r = vI (-3) ∧ g = g') ∨ (¬ ((0 ≤ f ∧ f ≤ 5) ∧ (0 ≤ k ∧ k ≤ 5) ∧ f ≠ k ∧ (0 ≤ a ∧ a ≤ 999) ∧ (a ≤ e ∧ e ≤ 999)) ∧ r = vI (-1) ∧ g = g')) := by
  refine AMet.of [vA 1, vI f, vI k, vI a, vI e] (by decide) rfl (Nat.le_of_ble_eq_true rfl) ?_
  obtain ⟨⟨hM, hV⟩, ⟨hO, hl⟩, ⟨hof, hdi⟩, ⟨hC, hw, hv, hG⟩, ⟨hT, hTr, hF⟩, bk, hB, hBv⟩ := id hP
  have hcn := hV.1
  unfold MVc at hcn
  have hn : 0 ≤ g.2.1 1000 13 ∧ g.2.1 1000 13 ≤ 40 := hcn.2.2.1
  refine a_iload_n 1 dX11_sail_0 rfl rfl ?_
  refine a_iload_n 2 dX11_sail_1 rfl rfl ?_
  refine a_callS 5 (c11_areTwoTowns _ _ _) cdX11_areTwoTowns lX11_177 dX11_sail_2 rfl rfl ⟨by decide, by decide, rfl, rfl⟩ ⟨Nat.zero_le _, Nat.zero_le _⟩ (Nat.le_of_ble_eq_true rfl) rfl ?_
  rintro _ _ - ⟨b2, rfl, rfl, h2⟩ -
  refine a_if_eq 17 8 dX11_sail_5 (by decide) rfl (fun c5 => ?_) (fun c5 => ?_)
  · skip
    refine a_iconst (z := (-1)) 18 dX11_sail_17 rfl (zrl rfl) rfl ?_
    refine a_ireturn dX11_sail_18 rfl ⟨Nat.zero_le _, Nat.zero_le _⟩ ?_
    refine Or.inr (Or.inr ⟨fun z => ?_, rfl, rfl⟩)
    first
    | exact isN h2 (by omega) ⟨z.1, z.2.1, z.2.2.1⟩
    | exact isN h11 (by omega) (by omega)
  · skip
    refine a_iload_n 9 dX11_sail_8 rfl rfl ?_
    refine a_iload 11 dX11_sail_9 rfl rfl ?_
    refine a_callS 14 (c11_isStretch _ _ _) cdX11_isStretch lX11_83 dX11_sail_11 rfl rfl ⟨by decide, by decide, rfl, rfl⟩ ⟨Nat.zero_le _, Nat.zero_le _⟩ (Nat.le_of_ble_eq_true rfl) rfl ?_
    rintro _ _ - ⟨b11, rfl, rfl, h11⟩ -
    refine a_if_ne 19 17 dX11_sail_14 (by decide) rfl (fun c14 => ?_) (fun c14 => ?_)
    · skip
      refine a_aload_n 20 dX11_sail_19 rfl rfl ?_
      refine a_getR 23 dX11_sail_20 fX11_42 hO.1.1 rfl hO.1.2.2.2.2.2.2.1 rfl ?_
      refine a_getIz (g.2.1 1000 15) 26 dX11_sail_23 fX11_180 hw.1 rfl hv.1 rfl ?_
      refine a_bipush (z := 20) 28 dX11_sail_26 rfl (zrl rfl) rfl ?_
      refine a_icmp_lt 34 31 dX11_sail_28 (by decide) rfl (fun c28 => ?_) (fun c28 => ?_)
      · skip
        refine a_aload_n 35 dX11_sail_34 rfl rfl ?_
        refine a_getR 38 dX11_sail_35 fX11_42 hO.1.1 rfl hO.1.2.2.2.2.2.2.1 rfl ?_
        refine a_iload_n 39 dX11_sail_38 rfl rfl ?_
        refine a_iload_n 40 dX11_sail_39 rfl rfl ?_
        refine a_iload_n 41 dX11_sail_40 rfl rfl ?_
        refine a_iload 43 dX11_sail_41 rfl rfl ?_
        refine a_callV 46 (c10_addSailing _ _ _ _ _ (n := g.2.1 1000 15) hw hv.1 ⟨hcn.2.2.2.1.1, by omega⟩) cdX10_addSailing lX11_183 dX11_sail_43 rfl hw.1 rfl ⟨by decide, by decide, rfl, rfl⟩ ⟨Nat.zero_le _, Nat.zero_le _⟩ (Nat.le_of_ble_eq_true rfl) rfl ?_
        rintro _ _ - ⟨rfl, rfl⟩ -
        refine a_ireturn dX11_sail_46 rfl ⟨Nat.zero_le _, Nat.zero_le _⟩ ?_
        exact Or.inl ⟨⟨(isT h2 c5).1, (isT h2 c5).2.1, (isT h2 c5).2.2, by have := isT h11 c14; omega, by have := isT h11 c14; omega⟩, by omega, rfl, rfl⟩
      · skip
        refine a_bipush (z := (-3)) 33 dX11_sail_31 rfl (zrl rfl) rfl ?_
        refine a_ireturn dX11_sail_33 rfl ⟨Nat.zero_le _, Nat.zero_le _⟩ ?_
        exact Or.inr (Or.inl ⟨⟨(isT h2 c5).1, (isT h2 c5).2.1, (isT h2 c5).2.2, by have := isT h11 c14; omega, by have := isT h11 c14; omega⟩, by omega, rfl, rfl⟩)
    · skip
      refine a_iconst (z := (-1)) 18 dX11_sail_17 rfl (zrl rfl) rfl ?_
      refine a_ireturn dX11_sail_18 rfl ⟨Nat.zero_le _, Nat.zero_le _⟩ ?_
      refine Or.inr (Or.inr ⟨fun z => ?_, rfl, rfl⟩)
      first
      | exact isN h2 (by omega) ⟨z.1, z.2.1, z.2.2.1⟩
      | exact isN h11 (by omega) (by omega)
set_option maxHeartbeats 4000000 in
set_option maxRecDepth 100000 in
theorem c11_late (g : GH) (s c : Int) (hP : CPL g) : AMet mX11_late g [vA 1, vI s, vI c] (fun r g' => (((0 ≤ s ∧ s < g.2.1 1000 15) ∧ (c = -9 ∨ (g.2.1 1018 s.toNat ≤ c ∧ c ≤ 999))) ∧ r = vI (g.2.1 1019 s.toNat) ∧ g' = gI g 12 s.toNat c) ∨ (¬ ((0 ≤ s ∧ s < g.2.1 1000 15) ∧ (c = -9 ∨ (g.2.1 1018 s.toNat ≤ c ∧ c ≤ 999))) ∧ r = vI (-1) ∧ g = g')) := by
  refine AMet.of [vA 1, vI s, vI c, none] (by decide) rfl (Nat.le_of_ble_eq_true rfl) ?_
  obtain ⟨⟨hM, hV⟩, ⟨hO, hl⟩, ⟨hof, hdi⟩, ⟨hC, hw, hv, hG⟩, ⟨hT, hTr, hF⟩, bk, hB, hBv⟩ := id hP
  have hcn := hV.1
  unfold MVc at hcn
  have hn : 0 ≤ g.2.1 1000 13 ∧ g.2.1 1000 13 ≤ 40 := hcn.2.2.1
  refine a_iload_n 1 dX11_late_0 rfl rfl ?_
  refine a_iconst (z := 0) 2 dX11_late_1 rfl (zrl rfl) rfl ?_
  refine a_aload_n 3 dX11_late_2 rfl rfl ?_
  refine a_getR 6 dX11_late_3 fX11_42 hO.1.1 rfl hO.1.2.2.2.2.2.2.1 rfl ?_
  refine a_getIz (g.2.1 1000 15) 9 dX11_late_6 fX11_180 hw.1 rfl hv.1 rfl ?_
  refine a_iconst (z := 1) 10 dX11_late_9 rfl (zrl rfl) rfl ?_
  refine a_isub 11 dX11_late_10 (by unfold zr; omega) rfl ?_
  refine a_callS 14 (c11_within _ _ _ _) cdX11_within lX11_79 dX11_late_11 rfl rfl ⟨by decide, by decide, rfl, rfl⟩ ⟨Nat.zero_le _, Nat.zero_le _⟩ (Nat.le_of_ble_eq_true rfl) rfl ?_
  rintro _ _ - ⟨b11, rfl, rfl, h11⟩ -
  refine a_if_ne 19 17 dX11_late_14 (by decide) rfl (fun c14 => ?_) (fun c14 => ?_)
  · skip
    have hs := isT h11 c14
    obtain ⟨n, rfl⟩ : ∃ n : Nat, s = n := ⟨s.toNat, by omega⟩
    have hcw := hv.2.1 n (by omega)
    have hms := hV.2.2.2.2.1 n (by omega)
    refine a_iload_n 20 dX11_late_19 rfl rfl ?_
    refine a_bipush (z := (-9)) 22 dX11_late_20 rfl (zrl rfl) rfl ?_
    refine a_icmp_eq 43 25 dX11_late_22 (by decide) rfl (fun c22 => ?_) (fun c22 => ?_)
    · skip
      refine a_aload_n 44 dX11_late_43 rfl rfl ?_
      refine a_getR 47 dX11_late_44 fX11_42 hO.1.1 rfl hO.1.2.2.2.2.2.2.1 rfl ?_
      refine a_getR 50 dX11_late_47 fX11_190 hw.1 rfl hw.2.1.2.2.2.1 rfl ?_
      refine a_iload_n 51 dX11_late_50 rfl rfl ?_
      refine a_ialdz (g.2.1 1019 n) 52 dX11_late_51 hw.2.2.1.2.2.2.1 (by omega) (by omega) hcw.2.2.2 rfl ?_
      refine a_istore_n 53 dX11_late_52 (by decide) rfl rfl ?_
      refine a_aload_n 54 dX11_late_53 rfl rfl ?_
      refine a_getR 57 dX11_late_54 fX11_42 hO.1.1 rfl hO.1.2.2.2.2.2.2.1 rfl ?_
      refine a_getR 60 dX11_late_57 fX11_190 hw.1 rfl hw.2.1.2.2.2.1 rfl ?_
      refine a_iload_n 61 dX11_late_60 rfl rfl ?_
      refine a_iload_n 62 dX11_late_61 rfl rfl ?_
      refine a_iast 63 dX11_late_62 hw.2.2.1.2.2.2.1 (by omega) (by omega) rfl ?_
      refine a_iload_n 64 dX11_late_63 rfl rfl ?_
      refine a_ireturn dX11_late_64 rfl ⟨Nat.zero_le _, Nat.zero_le _⟩ ?_
      refine Or.inl ⟨⟨by omega, ?_⟩, rfl, rfl⟩
      first
      | exact Or.inl c22
      | exact Or.inr (by have := isT h35 c38; rw [Int.toNat_natCast]; omega)
    · skip
      refine a_aload_n 26 dX11_late_25 rfl rfl ?_
      refine a_getR 29 dX11_late_26 fX11_42 hO.1.1 rfl hO.1.2.2.2.2.2.2.1 rfl ?_
      refine a_getR 32 dX11_late_29 fX11_187 hw.1 rfl hw.2.1.2.2.1 rfl ?_
      refine a_iload_n 33 dX11_late_32 rfl rfl ?_
      refine a_ialdz (g.2.1 1018 n) 34 dX11_late_33 hw.2.2.1.2.2.1 (by omega) (by omega) hcw.2.2.1 rfl ?_
      refine a_iload_n 35 dX11_late_34 rfl rfl ?_
      refine a_callS 38 (c11_isStretch _ _ _) cdX11_isStretch lX11_83 dX11_late_35 rfl rfl ⟨by decide, by decide, rfl, rfl⟩ ⟨Nat.zero_le _, Nat.zero_le _⟩ (Nat.le_of_ble_eq_true rfl) rfl ?_
      rintro _ _ - ⟨b35, rfl, rfl, h35⟩ -
      refine a_if_ne 43 41 dX11_late_38 (by decide) rfl (fun c38 => ?_) (fun c38 => ?_)
      · skip
        refine a_aload_n 44 dX11_late_43 rfl rfl ?_
        refine a_getR 47 dX11_late_44 fX11_42 hO.1.1 rfl hO.1.2.2.2.2.2.2.1 rfl ?_
        refine a_getR 50 dX11_late_47 fX11_190 hw.1 rfl hw.2.1.2.2.2.1 rfl ?_
        refine a_iload_n 51 dX11_late_50 rfl rfl ?_
        refine a_ialdz (g.2.1 1019 n) 52 dX11_late_51 hw.2.2.1.2.2.2.1 (by omega) (by omega) hcw.2.2.2 rfl ?_
        refine a_istore_n 53 dX11_late_52 (by decide) rfl rfl ?_
        refine a_aload_n 54 dX11_late_53 rfl rfl ?_
        refine a_getR 57 dX11_late_54 fX11_42 hO.1.1 rfl hO.1.2.2.2.2.2.2.1 rfl ?_
        refine a_getR 60 dX11_late_57 fX11_190 hw.1 rfl hw.2.1.2.2.2.1 rfl ?_
        refine a_iload_n 61 dX11_late_60 rfl rfl ?_
        refine a_iload_n 62 dX11_late_61 rfl rfl ?_
        refine a_iast 63 dX11_late_62 hw.2.2.1.2.2.2.1 (by omega) (by omega) rfl ?_
        refine a_iload_n 64 dX11_late_63 rfl rfl ?_
        refine a_ireturn dX11_late_64 rfl ⟨Nat.zero_le _, Nat.zero_le _⟩ ?_
        refine Or.inl ⟨⟨by omega, ?_⟩, rfl, rfl⟩
        first
        | exact Or.inl c22
        | exact Or.inr (by have := isT h35 c38; rw [Int.toNat_natCast]; omega)
      · skip
        refine a_iconst (z := (-1)) 42 dX11_late_41 rfl (zrl rfl) rfl ?_
        refine a_ireturn dX11_late_42 rfl ⟨Nat.zero_le _, Nat.zero_le _⟩ ?_
        refine Or.inr ⟨fun z => ?_, rfl, rfl⟩
        rw [Int.toNat_natCast] at z
        rcases z.2 with y | y
        · exact c22 y
        · exact isN h35 (by omega) (by omega)
  · skip
    refine a_iconst (z := (-1)) 18 dX11_late_17 rfl (zrl rfl) rfl ?_
    refine a_ireturn dX11_late_18 rfl ⟨Nat.zero_le _, Nat.zero_le _⟩ ?_
    exact Or.inr ⟨fun z => isN h11 (by omega) (by omega), rfl, rfl⟩
set_option maxHeartbeats 4000000 in
set_option maxRecDepth 100000 in
theorem c11_road (g : GH) (a b n : Int) (hP : CPL g) : AMet mX11_road g [vA 1, vI a, vI b, vI n] (fun r g' => (((0 ≤ a ∧ a ≤ 5) ∧ (0 ≤ b ∧ b ≤ 5) ∧ a ≠ b ∧ (n = -9 ∨ (1 ≤ n ∧ n ≤ 30))) ∧ r = vI (g.2.1 1020 (6 * a + b).toNat) ∧ g' = gI (gI g (14 + a.toNat) b.toNat n) (14 + b.toNat) a.toNat n) ∨ (¬ ((0 ≤ a ∧ a ≤ 5) ∧ (0 ≤ b ∧ b ≤ 5) ∧ a ≠ b ∧ (n = -9 ∨ (1 ≤ n ∧ n ≤ 30))) ∧ r = vI (-1) ∧ g = g')) := by
  refine AMet.of [vA 1, vI a, vI b, vI n, none] (by decide) rfl (Nat.le_of_ble_eq_true rfl) ?_
  obtain ⟨⟨hM, hV⟩, ⟨hO, hl⟩, ⟨hof, hdi⟩, ⟨hC, hw, hv, hG⟩, ⟨hT, hTr, hF⟩, bk, hB, hBv⟩ := id hP
  have hcn := hV.1
  unfold MVc at hcn
  have hn : 0 ≤ g.2.1 1000 13 ∧ g.2.1 1000 13 ≤ 40 := hcn.2.2.1
  refine a_iload_n 1 dX11_road_0 rfl rfl ?_
  refine a_iload_n 2 dX11_road_1 rfl rfl ?_
  refine a_callS 5 (c11_areTwoTowns _ _ _) cdX11_areTwoTowns lX11_177 dX11_road_2 rfl rfl ⟨by decide, by decide, rfl, rfl⟩ ⟨Nat.zero_le _, Nat.zero_le _⟩ (Nat.le_of_ble_eq_true rfl) rfl ?_
  rintro _ _ - ⟨b2, rfl, rfl, h2⟩ -
  refine a_if_eq 24 8 dX11_road_5 (by decide) rfl (fun c5 => ?_) (fun c5 => ?_)
  · skip
    refine a_iconst (z := (-1)) 25 dX11_road_24 rfl (zrl rfl) rfl ?_
    refine a_ireturn dX11_road_25 rfl ⟨Nat.zero_le _, Nat.zero_le _⟩ ?_
    refine Or.inr ⟨fun z => ?_, rfl, rfl⟩
    first
    | exact isN h2 (by omega) ⟨z.1, z.2.1, z.2.2.1⟩
    | (rcases z.2.2.2 with y | y
       · exact c11 y
       · exact isN h18 (by omega) y)
  · skip
    refine a_iload_n 9 dX11_road_8 rfl rfl ?_
    refine a_bipush (z := (-9)) 11 dX11_road_9 rfl (zrl rfl) rfl ?_
    refine a_icmp_eq 26 14 dX11_road_11 (by decide) rfl (fun c11 => ?_) (fun c11 => ?_)
    · skip
      have hab := isT h2 c5
      refine a_aload_n 27 dX11_road_26 rfl rfl ?_
      refine a_getR 30 dX11_road_27 fX11_42 hO.1.1 rfl hO.1.2.2.2.2.2.2.1 rfl ?_
      refine a_getR 33 dX11_road_30 fX11_193 hw.1 rfl hw.2.1.2.2.2.2.1 rfl ?_
      refine a_iload_n 34 dX11_road_33 rfl rfl ?_
      refine a_aald 35 dX11_road_34 hw.2.2.1.2.2.2.2.1 rfl (by omega) (by omega) (hw.2.2.2 a.toNat (by omega)).1 rfl ?_
      refine a_iload_n 36 dX11_road_35 rfl rfl ?_
      refine a_ialdz (g.2.1 1020 (6 * a + b).toNat) 37 dX11_road_36 (hw.2.2.2 a.toNat (by omega)).2 (by omega) (by omega) ((hv.2.2 a.toNat b.toNat (by omega) (by omega)).trans (congrArg (g.2.1 1020) (by omega))) rfl ?_
      refine a_istore 39 dX11_road_37 (by decide) rfl rfl ?_
      refine a_aload_n 40 dX11_road_39 rfl rfl ?_
      refine a_getR 43 dX11_road_40 fX11_42 hO.1.1 rfl hO.1.2.2.2.2.2.2.1 rfl ?_
      refine a_getR 46 dX11_road_43 fX11_193 hw.1 rfl hw.2.1.2.2.2.2.1 rfl ?_
      refine a_iload_n 47 dX11_road_46 rfl rfl ?_
      refine a_aald 48 dX11_road_47 hw.2.2.1.2.2.2.2.1 rfl (by omega) (by omega) (hw.2.2.2 a.toNat (by omega)).1 rfl ?_
      refine a_iload_n 49 dX11_road_48 rfl rfl ?_
      refine a_iload_n 50 dX11_road_49 rfl rfl ?_
      refine a_iast 51 dX11_road_50 (hw.2.2.2 a.toNat (by omega)).2 (by omega) (by omega) rfl ?_
      refine a_aload_n 52 dX11_road_51 rfl rfl ?_
      refine a_getR 55 dX11_road_52 fX11_42 hO.1.1 rfl hO.1.2.2.2.2.2.2.1 rfl ?_
      refine a_getR 58 dX11_road_55 fX11_193 hw.1 rfl hw.2.1.2.2.2.2.1 rfl ?_
      refine a_iload_n 59 dX11_road_58 rfl rfl ?_
      refine a_aald 60 dX11_road_59 hw.2.2.1.2.2.2.2.1 rfl (by omega) (by omega) (hw.2.2.2 b.toNat (by omega)).1 rfl ?_
      refine a_iload_n 61 dX11_road_60 rfl rfl ?_
      refine a_iload_n 62 dX11_road_61 rfl rfl ?_
      refine a_iast 63 dX11_road_62 (hw.2.2.2 b.toNat (by omega)).2 (by omega) (by omega) rfl ?_
      refine a_iload 65 dX11_road_63 rfl rfl ?_
      refine a_ireturn dX11_road_65 rfl ⟨Nat.zero_le _, Nat.zero_le _⟩ ?_
      refine Or.inl ⟨⟨hab.1, hab.2.1, hab.2.2, ?_⟩, rfl, rfl⟩
      first
      | exact Or.inl c11
      | exact Or.inr (isT h18 c21)
    · skip
      refine a_iload_n 15 dX11_road_14 rfl rfl ?_
      refine a_iconst (z := 1) 16 dX11_road_15 rfl (zrl rfl) rfl ?_
      refine a_bipush (z := 30) 18 dX11_road_16 rfl (zrl rfl) rfl ?_
      refine a_callS 21 (c11_within _ _ _ _) cdX11_within lX11_79 dX11_road_18 rfl rfl ⟨by decide, by decide, rfl, rfl⟩ ⟨Nat.zero_le _, Nat.zero_le _⟩ (Nat.le_of_ble_eq_true rfl) rfl ?_
      rintro _ _ - ⟨b18, rfl, rfl, h18⟩ -
      refine a_if_ne 26 24 dX11_road_21 (by decide) rfl (fun c21 => ?_) (fun c21 => ?_)
      · skip
        have hab := isT h2 c5
        refine a_aload_n 27 dX11_road_26 rfl rfl ?_
        refine a_getR 30 dX11_road_27 fX11_42 hO.1.1 rfl hO.1.2.2.2.2.2.2.1 rfl ?_
        refine a_getR 33 dX11_road_30 fX11_193 hw.1 rfl hw.2.1.2.2.2.2.1 rfl ?_
        refine a_iload_n 34 dX11_road_33 rfl rfl ?_
        refine a_aald 35 dX11_road_34 hw.2.2.1.2.2.2.2.1 rfl (by omega) (by omega) (hw.2.2.2 a.toNat (by omega)).1 rfl ?_
        refine a_iload_n 36 dX11_road_35 rfl rfl ?_
        refine a_ialdz (g.2.1 1020 (6 * a + b).toNat) 37 dX11_road_36 (hw.2.2.2 a.toNat (by omega)).2 (by omega) (by omega) ((hv.2.2 a.toNat b.toNat (by omega) (by omega)).trans (congrArg (g.2.1 1020) (by omega))) rfl ?_
        refine a_istore 39 dX11_road_37 (by decide) rfl rfl ?_
        refine a_aload_n 40 dX11_road_39 rfl rfl ?_
        refine a_getR 43 dX11_road_40 fX11_42 hO.1.1 rfl hO.1.2.2.2.2.2.2.1 rfl ?_
        refine a_getR 46 dX11_road_43 fX11_193 hw.1 rfl hw.2.1.2.2.2.2.1 rfl ?_
        refine a_iload_n 47 dX11_road_46 rfl rfl ?_
        refine a_aald 48 dX11_road_47 hw.2.2.1.2.2.2.2.1 rfl (by omega) (by omega) (hw.2.2.2 a.toNat (by omega)).1 rfl ?_
        refine a_iload_n 49 dX11_road_48 rfl rfl ?_
        refine a_iload_n 50 dX11_road_49 rfl rfl ?_
        refine a_iast 51 dX11_road_50 (hw.2.2.2 a.toNat (by omega)).2 (by omega) (by omega) rfl ?_
        refine a_aload_n 52 dX11_road_51 rfl rfl ?_
        refine a_getR 55 dX11_road_52 fX11_42 hO.1.1 rfl hO.1.2.2.2.2.2.2.1 rfl ?_
        refine a_getR 58 dX11_road_55 fX11_193 hw.1 rfl hw.2.1.2.2.2.2.1 rfl ?_
        refine a_iload_n 59 dX11_road_58 rfl rfl ?_
        refine a_aald 60 dX11_road_59 hw.2.2.1.2.2.2.2.1 rfl (by omega) (by omega) (hw.2.2.2 b.toNat (by omega)).1 rfl ?_
        refine a_iload_n 61 dX11_road_60 rfl rfl ?_
        refine a_iload_n 62 dX11_road_61 rfl rfl ?_
        refine a_iast 63 dX11_road_62 (hw.2.2.2 b.toNat (by omega)).2 (by omega) (by omega) rfl ?_
        refine a_iload 65 dX11_road_63 rfl rfl ?_
        refine a_ireturn dX11_road_65 rfl ⟨Nat.zero_le _, Nat.zero_le _⟩ ?_
        refine Or.inl ⟨⟨hab.1, hab.2.1, hab.2.2, ?_⟩, rfl, rfl⟩
        first
        | exact Or.inl c11
        | exact Or.inr (isT h18 c21)
      · skip
        refine a_iconst (z := (-1)) 25 dX11_road_24 rfl (zrl rfl) rfl ?_
        refine a_ireturn dX11_road_25 rfl ⟨Nat.zero_le _, Nat.zero_le _⟩ ?_
        refine Or.inr ⟨fun z => ?_, rfl, rfl⟩
        first
        | exact isN h2 (by omega) ⟨z.1, z.2.1, z.2.2.1⟩
        | (rcases z.2.2.2 with y | y
           · exact c11 y
           · exact isN h18 (by omega) y)
set_option maxHeartbeats 4000000 in
set_option maxRecDepth 100000 in
theorem c11_type (g : GH) (n : Int) (v : Int64) (hP : CPL g) : AMet mX11_type g [vA 1, vL v, vI n] (fun r g' => ((1 ≤ n ∧ n ≤ 8) ∧ g.2.1 1000 29 + n ≤ 600 ∧ r = vI (g.2.1 1000 29 + n) ∧ sameB xA g g' ∧ g'.2.1 26 1 = g.2.1 1000 29 + n ∧ ∀ k : Nat, g'.2.1 27 k = if g.2.1 1000 29 ≤ k ∧ (k : Int) < g.2.1 1000 29 + n then sg (byt v (n - 1 - (k - g.2.1 1000 29))) else g.2.1 27 k) ∨ ((1 ≤ n ∧ n ≤ 8) ∧ 600 < g.2.1 1000 29 + n ∧ r = vI (-3) ∧ g = g') ∨ (¬ (1 ≤ n ∧ n ≤ 8) ∧ r = vI (-1) ∧ g = g')) := by
  refine AMet.of [vA 1, vL v, none, vI n] (by decide) rfl (Nat.le_of_ble_eq_true rfl) ?_
  obtain ⟨⟨hM, hV⟩, ⟨hO, hl⟩, ⟨hof, hdi⟩, ⟨hC, hw, hv, hG⟩, ⟨hT, hTr, hF⟩, bk, hB, hBv⟩ := id hP
  have hcn := hV.1
  unfold MVc at hcn
  have hn : 0 ≤ g.2.1 1000 13 ∧ g.2.1 1000 13 ≤ 40 := hcn.2.2.1
  refine a_iload_n 1 dX11_type_0 rfl rfl ?_
  refine a_iconst (z := 1) 2 dX11_type_1 rfl (zrl rfl) rfl ?_
  refine a_bipush (z := 8) 4 dX11_type_2 rfl (zrl rfl) rfl ?_
  refine a_callS 7 (c11_within _ _ _ _) cdX11_within lX11_79 dX11_type_4 rfl rfl ⟨by decide, by decide, rfl, rfl⟩ ⟨Nat.zero_le _, Nat.zero_le _⟩ (Nat.le_of_ble_eq_true rfl) rfl ?_
  rintro _ _ - ⟨b4, rfl, rfl, h4⟩ -
  refine a_if_ne 12 10 dX11_type_7 (by decide) rfl (fun c7 => ?_) (fun c7 => ?_)
  · skip
    have hn8 := isT h4 c7
    refine a_aload_n 13 dX11_type_12 rfl rfl ?_
    refine a_getR 16 dX11_type_13 fX11_58 hO.1.1 rfl hO.1.2.2.2.2.2.2.2.2 rfl ?_
    refine a_getIz (g.2.1 1000 29) 19 dX11_type_16 fX11_231 hT.1.1 rfl hT.2.2.1 rfl ?_
    refine a_iload_n 20 dX11_type_19 rfl rfl ?_
    refine a_iadd 21 dX11_type_20 (by unfold zr; omega) rfl ?_
    refine a_sipush (z := 600) 24 dX11_type_21 rfl (zrl rfl) rfl ?_
    refine a_icmp_le 30 27 dX11_type_24 (by decide) rfl (fun c24 => ?_) (fun c24 => ?_)
    · skip
      refine a_aload_n 31 dX11_type_30 rfl rfl ?_
      refine a_getR 34 dX11_type_31 fX11_58 hO.1.1 rfl hO.1.2.2.2.2.2.2.2.2 rfl ?_
      refine a_lload_n 35 dX11_type_34 rfl rfl ?_
      refine a_iload_n 36 dX11_type_35 rfl rfl ?_
      refine a_callV 39 (c8_addBytes _ _ _ (L := g.2.1 1000 29) hT.1 hT.2.2.1 hcn.2.2.2.2.1.1 (isT h4 c7) c24) cdX8_addBytes lX11_232 dX11_type_36 rfl hT.1.1 rfl ⟨by decide, by decide, rfl, rfl⟩ ⟨Nat.zero_le _, Nat.zero_le _⟩ (Nat.le_of_ble_eq_true rfl) rfl ?_
      rintro _ g1 - ⟨s1, a1, a2⟩ -
      refine a_aload_n 40 dX11_type_39 rfl rfl ?_
      refine a_getR 43 dX11_type_40 fX11_58 (s1.sh hO.1.1) rfl (s1.rr hO.1.2.2.2.2.2.2.2.2) rfl ?_
      refine a_getIz (g.2.1 1000 29 + n) 46 dX11_type_43 fX11_231 (s1.sh hT.1.1) rfl a1 rfl ?_
      refine a_ireturn dX11_type_46 rfl ⟨Nat.zero_le _, Nat.zero_le _⟩ ?_
      exact Or.inl ⟨hn8, c24, rfl, s1, a1, a2⟩
    · skip
      refine a_bipush (z := (-3)) 29 dX11_type_27 rfl (zrl rfl) rfl ?_
      refine a_ireturn dX11_type_29 rfl ⟨Nat.zero_le _, Nat.zero_le _⟩ ?_
      exact Or.inr (Or.inl ⟨hn8, c24, rfl, rfl⟩)
  · skip
    refine a_iconst (z := (-1)) 11 dX11_type_10 rfl (zrl rfl) rfl ?_
    refine a_ireturn dX11_type_11 rfl ⟨Nat.zero_le _, Nat.zero_le _⟩ ?_
    exact Or.inr (Or.inr ⟨isN h4 (by omega), rfl, rfl⟩)
set_option maxHeartbeats 4000000 in
set_option maxRecDepth 100000 in
theorem c11_clear (g : GH) (hP : CPL g) : AMet mX11_clear g [vA 1] (fun r g' => r = vI (g.2.1 1000 29) ∧ g' = gI g 26 1 0) := by
  refine AMet.of [vA 1, none] (by decide) rfl (Nat.le_of_ble_eq_true rfl) ?_
  obtain ⟨⟨hM, hV⟩, ⟨hO, hl⟩, ⟨hof, hdi⟩, ⟨hC, hw, hv, hG⟩, ⟨hT, hTr, hF⟩, bk, hB, hBv⟩ := id hP
  have hcn := hV.1
  unfold MVc at hcn
  have hn : 0 ≤ g.2.1 1000 13 ∧ g.2.1 1000 13 ≤ 40 := hcn.2.2.1
  refine a_aload_n 1 dX11_clear_0 rfl rfl ?_
  refine a_getR 4 dX11_clear_1 fX11_58 hO.1.1 rfl hO.1.2.2.2.2.2.2.2.2 rfl ?_
  refine a_getIz (g.2.1 1000 29) 7 dX11_clear_4 fX11_231 hT.1.1 rfl hT.2.2.1 rfl ?_
  refine a_istore_n 8 dX11_clear_7 (by decide) rfl rfl ?_
  refine a_aload_n 9 dX11_clear_8 rfl rfl ?_
  refine a_getR 12 dX11_clear_9 fX11_58 hO.1.1 rfl hO.1.2.2.2.2.2.2.2.2 rfl ?_
  refine a_iconst (z := 0) 13 dX11_clear_12 rfl (zrl rfl) rfl ?_
  refine a_putI 16 dX11_clear_13 fX11_231 (Or.inl rfl) hT.1.1 (Or.inl rfl) rfl ?_
  refine a_iload_n 17 dX11_clear_16 rfl rfl ?_
  refine a_ireturn dX11_clear_17 rfl ⟨Nat.zero_le _, Nat.zero_le _⟩ ?_
  exact ⟨rfl, rfl⟩
set_option maxHeartbeats 4000000 in
set_option maxRecDepth 100000 in
theorem c11_rates (g : GH) (hP : CPL g) : AMet mX11_rates g [vA 1] (fun r g' => ∃ bk g1 d, CB g bk ∧ sameB (xB (70 - bk)) g g1 ∧ rtE (tx g.2.1) (g.2.1 1000 33) d ∧ ((ftE (tx g.2.1) (g.2.1 1000 33) d < 0 ∧ r = vI d ∧ g1.2.1 (70 - bk) 1 = d ∧ (∀ i, i < d → ∀ j, j < 10 → g1.2.1 (70 - bk + 2 + i) j = vr (tx g.2.1) (rs (tx g.2.1) (g.2.1 1000 33) i) j) ∧ CBv g.2.1 bk ∧ g' = gI (gR (gR g1 1 9 (some bk)) 1 8 (some (70 - bk))) 26 1 0) ∨ (0 ≤ ftE (tx g.2.1) (g.2.1 1000 33) d ∧ r = vI (-10 - ftE (tx g.2.1) (g.2.1 1000 33) d) ∧ CBv g.2.1 bk ∧ g' = g1))) := by
  refine AMet.of [vA 1, none, none] (by decide) rfl (Nat.le_of_ble_eq_true rfl) ?_
  obtain ⟨⟨hM, hV⟩, ⟨hO, hl⟩, ⟨hof, hdi⟩, ⟨hC, hw, hv, hG⟩, ⟨hT, hTr, hF⟩, bk, hB, hBv⟩ := id hP
  have hcn := hV.1
  unfold MVc at hcn
  have hn : 0 ≤ g.2.1 1000 13 ∧ g.2.1 1000 13 ≤ 40 := hcn.2.2.1
  refine a_aload_n 1 dX11_rates_0 rfl rfl ?_
  refine a_getR 4 dX11_rates_1 fX11_58 hO.1.1 rfl hO.1.2.2.2.2.2.2.2.2 rfl ?_
  refine a_aload_n 5 dX11_rates_4 rfl rfl ?_
  refine a_getR 8 dX11_rates_5 fX11_69 hO.1.1 rfl hB.2.1.2 rfl ?_
  refine a_callV 11 (c8_readInto _ (T := (tx g.2.1)) (L := g.2.1 1000 29) (u := (g.2.1 1000 33)) (b := 70 - bk) hT.1 hT.2 (by have := hB.1; omega) hB.s) cdX8_readInto lX11_236 dX11_rates_8 rfl hT.1.1 rfl ⟨by decide, by decide, rfl, rfl⟩ ⟨Nat.zero_le _, Nat.zero_le _⟩ (Nat.le_of_ble_eq_true rfl) rfl ?_
  rintro r g1 - ⟨s1, d, hd, hres⟩ -
  obtain ⟨z, rfl, hz⟩ : ∃ z, r = vI z ∧ ((ftE (tx g.2.1) (g.2.1 1000 33) d < 0 ∧ z = -9 ∧ g1.2.1 (70 - bk) 1 = d ∧ ∀ i, i < d → ∀ j, j < 10 → g1.2.1 (70 - bk + 2 + i) j = vr (tx g.2.1) (rs (tx g.2.1) (g.2.1 1000 33) i) j) ∨ (0 ≤ ftE (tx g.2.1) (g.2.1 1000 33) d ∧ z = ftE (tx g.2.1) (g.2.1 1000 33) d ∧ z ≤ 600)) := by
    rcases hres with ⟨q1, rfl, q2⟩ | ⟨q1, rfl⟩
    · exact ⟨_, rfl, Or.inl ⟨q1, rfl, q2⟩⟩
    · exact ⟨_, rfl, Or.inr ⟨q1.1, rfl, q1.2⟩⟩
  refine a_istore_n 12 dX11_rates_11 (by decide) rfl rfl ?_
  refine a_iload_n 13 dX11_rates_12 rfl rfl ?_
  refine a_bipush (z := (-9)) 15 dX11_rates_13 rfl (zrl rfl) rfl ?_
  refine a_icmp_eq 23 18 dX11_rates_15 (by decide) rfl (fun c15 => ?_) (fun c15 => ?_)
  · skip
    obtain ⟨q1, -, hd1, hdc⟩ := hz.resolve_right (fun q => by have := q.1; have := q.2.1; omega)
    refine a_aload_n 24 dX11_rates_23 rfl rfl ?_
    refine a_getR 27 dX11_rates_24 fX11_69 (s1.sh hO.1.1) rfl (s1.rr hB.2.1.2) rfl ?_
    refine a_astore_n 28 dX11_rates_27 (by decide) rfl rfl ?_
    refine a_aload_n 29 dX11_rates_28 rfl rfl ?_
    refine a_aload_n 30 dX11_rates_29 rfl rfl ?_
    refine a_getR 33 dX11_rates_30 fX11_65 (s1.sh hO.1.1) rfl (s1.rr hB.2.1.1) rfl ?_
    refine a_putR 36 dX11_rates_33 fX11_69 (Or.inl rfl) (s1.sh hO.1.1) rfl rfl ?_
    refine a_aload_n 37 dX11_rates_36 rfl rfl ?_
    refine a_aload_n 38 dX11_rates_37 rfl rfl ?_
    refine a_putR 41 dX11_rates_38 fX11_65 (Or.inl rfl) (s1.sh hO.1.1) rfl rfl ?_
    skip
    refine a_aload_n 42 dX11_rates_41 rfl rfl ?_
    refine a_getR 45 dX11_rates_42 fX11_58 (s1.sh hO.1.1) rfl ((gR_n (Or.inr (by decide))).trans ((gR_n (Or.inr (by decide))).trans (s1.rr hO.1.2.2.2.2.2.2.2.2))) rfl ?_
    refine a_iconst (z := 0) 46 dX11_rates_45 rfl (zrl rfl) rfl ?_
    refine a_putI 49 dX11_rates_46 fX11_231 (Or.inl rfl) (s1.sh hT.1.1) (Or.inl rfl) rfl ?_
    refine a_aload_n 50 dX11_rates_49 rfl rfl ?_
    refine a_getR 53 dX11_rates_50 fX11_65 (s1.sh hO.1.1) rfl (gR_s (g := gR g1 1 9 (some bk)) (a := 1) (k := 8) (r := some (70 - bk))) rfl ?_
    refine a_getIz ((d : Int)) 56 dX11_rates_53 fX11_240 (s1.sh hB.s.1) rfl ((gI_n (Or.inl (by have := hB.1; omega))).trans hd1) rfl ?_
    refine a_ireturn dX11_rates_56 rfl ⟨Nat.zero_le _, Nat.zero_le _⟩ ?_
    exact ⟨bk, g1, d, hB, s1, hd, Or.inl ⟨q1, rfl, hd1, hdc, hBv, rfl⟩⟩
  · skip
    refine a_bipush (z := (-10)) 20 dX11_rates_18 rfl (zrl rfl) rfl ?_
    refine a_iload_n 21 dX11_rates_20 rfl rfl ?_
    refine a_isub 22 dX11_rates_21 (by unfold zr; omega) rfl ?_
    refine a_ireturn dX11_rates_22 rfl ⟨Nat.zero_le _, Nat.zero_le _⟩ ?_
    obtain ⟨q1, q2, q3⟩ := hz.resolve_left (fun q => c15 q.2.1)
    exact ⟨bk, g1, d, hB, s1, hd, Or.inr ⟨q1, congrArg vI (by rw [q2]), hBv, rfl⟩⟩
