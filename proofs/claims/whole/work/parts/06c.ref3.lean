theorem MV_keep {X : Nat → Nat → Prop} {g g' : GH} (hx : ∀ a k, X a k → scr a k) (h : sameB X g g') (hV : MV g.2.1) : MV g'.2.1 := by
  have e : ∀ a k, ¬ scr a k → g'.2.1 a k = g.2.1 a k := fun a k q => h.2.2 a k (fun z => q (hx a k z))
  have e1 : ∀ k, k = 3 ∨ k = 7 ∨ k = 13 ∨ k = 15 ∨ k = 29 ∨ k = 35 → g'.2.1 1000 k = g.2.1 1000 k := fun k hk => e 1000 k (by unfold scr; omega)
  have e2 : ∀ a k, a = 1002 ∨ (1004 ≤ a ∧ a ≤ 1020) ∨ a = 1028 → g'.2.1 a k = g.2.1 a k := fun a k hk => e a k (by unfold scr; omega)
  have e3 : ∀ k, k < 120 → g'.2.1 1037 k = g.2.1 1037 k := fun k hk => e 1037 k (by unfold scr; omega)
  obtain ⟨h1, h2, h3, h4, h5, h6, h7, h8, h9⟩ := hV
  have k3 := e1 3 (by omega); have k7 := e1 7 (by omega); have k13 := e1 13 (by omega); have k15 := e1 15 (by omega); have k29 := e1 29 (by omega); have k35 := e1 35 (by omega)
  refine ⟨?_, ?_, ?_, ?_, ?_, ?_, ?_, ?_, ?_⟩
  · unfold MVc at h1 ⊢; rw [k3, k7, k13, k15, k29, k35]; exact h1
  · intro i hi; rw [k3] at hi; rw [e2 1004 i (by omega), e2 1005 i (by omega), e2 1006 i (by omega)]; exact h2 i hi
  · intro i hi; rw [k7] at hi; rw [e2 1008 i (by omega), e2 1009 i (by omega), e2 1010 i (by omega), e2 1011 i (by omega), e2 1012 i (by omega), k3]; exact h3 i hi
  · intro m h0 hm; rw [k13] at hm; simp only [e2 1014 _ (by omega : (1014 = 1002 ∨ (1004 ≤ 1014 ∧ 1014 ≤ 1020) ∨ 1014 = 1028)), k7]; exact h4 m h0 hm
  · intro i hi; rw [k15] at hi; rw [e2 1016 i (by omega), e2 1017 i (by omega), e2 1018 i (by omega), e2 1019 i (by omega)]; exact h5 i hi
  · intro k hk; rw [e2 1020 k (by omega)]; exact h6 k hk
  · intro k hk; rw [e2 1002 k (by omega)]; exact h7 k hk
  · intro k hk; rw [k29] at hk; rw [e2 1028 k (by omega)]; exact h8 k hk
  · intro i hi; rw [k35] at hi
    have hi2 := h9 i hi
    have hb : i < 12 := by have := h1.2.2.2.2.2.2; omega
    unfold rulB at hi2 ⊢
    rw [e3 (10 * i) (by omega), e3 (10 * i + 1) (by omega), e3 (10 * i + 2) (by omega), e3 (10 * i + 3) (by omega), e3 (10 * i + 4) (by omega), e3 (10 * i + 5) (by omega), e3 (10 * i + 6) (by omega), e3 (10 * i + 7) (by omega), e3 (10 * i + 8) (by omega), e3 (10 * i + 9) (by omega)]
    exact hi2
theorem MV_th {g : GH} (hV : MV g.2.1) : MV (gI g 1000 0 0).2.1 := MV_keep (fun _ _ h => h) keep_th hV
/-- the heap behind 'thrown = 0' -/
abbrev g0 (g : GH) : GH := gI g 1000 0 0
set_option maxHeartbeats 4000000 in
set_option maxRecDepth 100000 in
theorem r_town (g : GH) (t v : Int) (hM : MR g) (hV : MV g.2.1) : AMet mX12_town g [vA 1000, vI t, vI v] (fun r g' => (((0 ≤ t ∧ t ≤ 5) ∧ (0 ≤ v ∧ v ≤ 2)) ∧ r = vI ((gI g 1000 0 0).2.1 1002 t.toNat) ∧ g' = gI (gI g 1000 0 0) 1002 t.toNat v) ∨ (¬ ((0 ≤ t ∧ t ≤ 5) ∧ (0 ≤ v ∧ v ≤ 2)) ∧ r = vI (-1) ∧ g' = gI g 1000 0 0)) := by
  refine AMet.of [vA 1000, vI t, vI v, none] (by decide) rfl (Nat.le_of_ble_eq_true rfl) ?_
  refine a_aload_n 1 dX12_town_0 rfl rfl ?_
  refine a_iconst (z := 0) 2 dX12_town_1 rfl (zrl rfl) rfl ?_
  refine a_putI 5 dX12_town_2 fX12_80 (Or.inl rfl) hM.1 (Or.inl rfl) rfl ?_
  have hM : MR (gI g 1000 0 0) := hM
  have hV : MV (gI g 1000 0 0).2.1 := MV_th hV
  have hc := hV.1
  unfold MVc at hc
  generalize gI g 1000 0 0 = g1 at hM hV hc ⊢
  refine a_iload_n 6 dX12_town_5 rfl rfl ?_
  refine a_callS 9 (r_isTown _ _) cdX12_isTown lX12_91 dX12_town_6 rfl rfl ⟨by decide, by decide, rfl, rfl⟩ ⟨Nat.zero_le _, Nat.zero_le _⟩ (Nat.le_of_ble_eq_true rfl) rfl ?_
  rintro _ _ - ⟨b6, rfl, rfl, h6⟩ -
  refine a_if_eq 21 12 dX12_town_9 (by decide) rfl (fun c9 => ?_) (fun c9 => ?_)
  · skip
    refine a_iconst (z := (-1)) 22 dX12_town_21 rfl (zrl rfl) rfl ?_
    refine a_ireturn dX12_town_22 rfl ⟨Nat.zero_le _, Nat.zero_le _⟩ ?_
    first | exact Or.inl ⟨by omega, rfl, rfl⟩ | exact Or.inr ⟨by omega, rfl, rfl⟩
  · skip
    refine a_iload_n 13 dX12_town_12 rfl rfl ?_
    refine a_iconst (z := 0) 14 dX12_town_13 rfl (zrl rfl) rfl ?_
    refine a_iconst (z := 2) 15 dX12_town_14 rfl (zrl rfl) rfl ?_
    refine a_callS 18 (r_in _ _ _ _) cdX12_in lX12_84 dX12_town_15 rfl rfl ⟨by decide, by decide, rfl, rfl⟩ ⟨Nat.zero_le _, Nat.zero_le _⟩ (Nat.le_of_ble_eq_true rfl) rfl ?_
    rintro _ _ - ⟨b15, rfl, rfl, h15⟩ -
    refine a_if_ne 23 21 dX12_town_18 (by decide) rfl (fun c18 => ?_) (fun c18 => ?_)
    · skip
      refine a_aload_n 24 dX12_town_23 rfl rfl ?_
      refine a_getR 27 dX12_town_24 fX12_7 hM.1 rfl (mr_2 hM).1 rfl ?_
      refine a_iload_n 28 dX12_town_27 rfl rfl ?_
      refine a_iald 29 dX12_town_28 (mr_2 hM).2 (by omega) (by omega) rfl ?_
      refine a_istore_n 30 dX12_town_29 (by decide) rfl rfl ?_
      refine a_aload_n 31 dX12_town_30 rfl rfl ?_
      refine a_getR 34 dX12_town_31 fX12_7 hM.1 rfl (mr_2 hM).1 rfl ?_
      refine a_iload_n 35 dX12_town_34 rfl rfl ?_
      refine a_iload_n 36 dX12_town_35 rfl rfl ?_
      refine a_iast 37 dX12_town_36 (mr_2 hM).2 (by omega) (by omega) rfl ?_
      refine a_iload_n 38 dX12_town_37 rfl rfl ?_
      refine a_ireturn dX12_town_38 rfl ⟨Nat.zero_le _, Nat.zero_le _⟩ ?_
      first | exact Or.inl ⟨by omega, rfl, rfl⟩ | exact Or.inr ⟨by omega, rfl, rfl⟩
    · skip
      refine a_iconst (z := (-1)) 22 dX12_town_21 rfl (zrl rfl) rfl ?_
      refine a_ireturn dX12_town_22 rfl ⟨Nat.zero_le _, Nat.zero_le _⟩ ?_
      first | exact Or.inl ⟨by omega, rfl, rfl⟩ | exact Or.inr ⟨by omega, rfl, rfl⟩
set_option maxHeartbeats 4000000 in
set_option maxRecDepth 100000 in
theorem r_office (g : GH) (t f e : Int) (hM : MR g) (hV : MV g.2.1) : AMet mX12_office g [vA 1000, vI t, vI f, vI e] (fun r g' => (((0 ≤ t ∧ t ≤ 5) ∧ (0 ≤ f ∧ f ≤ 999) ∧ (f ≤ e ∧ e ≤ 999)) ∧ (gI g 1000 0 0).2.1 1000 3 ≠ 8 ∧ r = vI ((gI g 1000 0 0).2.1 1000 3) ∧ g' = gI (gI (gI (gI (gI g 1000 0 0) 1004 ((gI g 1000 0 0).2.1 1000 3).toNat t) 1005 ((gI g 1000 0 0).2.1 1000 3).toNat f) 1006 ((gI g 1000 0 0).2.1 1000 3).toNat e) 1000 3 ((gI g 1000 0 0).2.1 1000 3 + 1)) ∨ (((0 ≤ t ∧ t ≤ 5) ∧ (0 ≤ f ∧ f ≤ 999) ∧ (f ≤ e ∧ e ≤ 999)) ∧ (gI g 1000 0 0).2.1 1000 3 = 8 ∧ r = vI (-3) ∧ g' = gI g 1000 0 0) ∨ (¬ ((0 ≤ t ∧ t ≤ 5) ∧ (0 ≤ f ∧ f ≤ 999) ∧ (f ≤ e ∧ e ≤ 999)) ∧ r = vI (-1) ∧ g' = gI g 1000 0 0)) := by
  refine AMet.of [vA 1000, vI t, vI f, vI e] (by decide) rfl (Nat.le_of_ble_eq_true rfl) ?_
  refine a_aload_n 1 dX12_office_0 rfl rfl ?_
  refine a_iconst (z := 0) 2 dX12_office_1 rfl (zrl rfl) rfl ?_
  refine a_putI 5 dX12_office_2 fX12_80 (Or.inl rfl) hM.1 (Or.inl rfl) rfl ?_
  have hM : MR (gI g 1000 0 0) := hM
  have hV : MV (gI g 1000 0 0).2.1 := MV_th hV
  have hc := hV.1
  unfold MVc at hc
  generalize gI g 1000 0 0 = g1 at hM hV hc ⊢
  refine a_iload_n 6 dX12_office_5 rfl rfl ?_
  refine a_callS 9 (r_isTown _ _) cdX12_isTown lX12_91 dX12_office_6 rfl rfl ⟨by decide, by decide, rfl, rfl⟩ ⟨Nat.zero_le _, Nat.zero_le _⟩ (Nat.le_of_ble_eq_true rfl) rfl ?_
  rintro _ _ - ⟨b6, rfl, rfl, h6⟩ -
  refine a_if_eq 30 12 dX12_office_9 (by decide) rfl (fun c9 => ?_) (fun c9 => ?_)
  · skip
    refine a_iconst (z := (-1)) 31 dX12_office_30 rfl (zrl rfl) rfl ?_
    refine a_ireturn dX12_office_31 rfl ⟨Nat.zero_le _, Nat.zero_le _⟩ ?_
    first | exact Or.inr (Or.inr ⟨by omega, rfl, rfl⟩) | exact Or.inr (Or.inl ⟨by omega, by omega, rfl, rfl⟩) | exact Or.inl ⟨by omega, by omega, congrArg vI (by omega), rfl⟩
  · skip
    refine a_iload_n 13 dX12_office_12 rfl rfl ?_
    refine a_callS 16 (r_isDay _ _) cdX12_isDay lX12_95 dX12_office_13 rfl rfl ⟨by decide, by decide, rfl, rfl⟩ ⟨Nat.zero_le _, Nat.zero_le _⟩ (Nat.le_of_ble_eq_true rfl) rfl ?_
    rintro _ _ - ⟨b13, rfl, rfl, h13⟩ -
    refine a_if_eq 30 19 dX12_office_16 (by decide) rfl (fun c16 => ?_) (fun c16 => ?_)
    · skip
      refine a_iconst (z := (-1)) 31 dX12_office_30 rfl (zrl rfl) rfl ?_
      refine a_ireturn dX12_office_31 rfl ⟨Nat.zero_le _, Nat.zero_le _⟩ ?_
      first | exact Or.inr (Or.inr ⟨by omega, rfl, rfl⟩) | exact Or.inr (Or.inl ⟨by omega, by omega, rfl, rfl⟩) | exact Or.inl ⟨by omega, by omega, congrArg vI (by omega), rfl⟩
    · skip
      refine a_iload_n 20 dX12_office_19 rfl rfl ?_
      refine a_iload_n 21 dX12_office_20 rfl rfl ?_
      refine a_sipush (z := 999) 24 dX12_office_21 rfl (zrl rfl) rfl ?_
      refine a_callS 27 (r_in _ _ _ _) cdX12_in lX12_84 dX12_office_24 rfl rfl ⟨by decide, by decide, rfl, rfl⟩ ⟨Nat.zero_le _, Nat.zero_le _⟩ (Nat.le_of_ble_eq_true rfl) rfl ?_
      rintro _ _ - ⟨b24, rfl, rfl, h24⟩ -
      refine a_if_ne 32 30 dX12_office_27 (by decide) rfl (fun c27 => ?_) (fun c27 => ?_)
      · skip
        refine a_aload_n 33 dX12_office_32 rfl rfl ?_
        refine a_getIz (g1.2.1 1000 3) 36 dX12_office_33 fX12_98 hM.1 rfl rfl rfl ?_
        refine a_bipush (z := 8) 38 dX12_office_36 rfl (zrl rfl) rfl ?_
        refine a_icmp_ne 44 41 dX12_office_38 (by decide) rfl (fun c38 => ?_) (fun c38 => ?_)
        · skip
          refine a_aload_n 45 dX12_office_44 rfl rfl ?_
          refine a_getR 48 dX12_office_45 fX12_13 hM.1 rfl (mr_4 hM).1 rfl ?_
          refine a_aload_n 49 dX12_office_48 rfl rfl ?_
          refine a_getIz (g1.2.1 1000 3) 52 dX12_office_49 fX12_98 hM.1 rfl rfl rfl ?_
          refine a_iload_n 53 dX12_office_52 rfl rfl ?_
          refine a_iast 54 dX12_office_53 (mr_4 hM).2 (by omega) (by omega) rfl ?_
          refine a_aload_n 55 dX12_office_54 rfl rfl ?_
          refine a_getR 58 dX12_office_55 fX12_16 hM.1 rfl (mr_5 hM).1 rfl ?_
          refine a_aload_n 59 dX12_office_58 rfl rfl ?_
          refine a_getIz (g1.2.1 1000 3) 62 dX12_office_59 fX12_98 hM.1 rfl rfl rfl ?_
          refine a_iload_n 63 dX12_office_62 rfl rfl ?_
          refine a_iast 64 dX12_office_63 (mr_5 hM).2 (by omega) (by omega) rfl ?_
          refine a_aload_n 65 dX12_office_64 rfl rfl ?_
          refine a_getR 68 dX12_office_65 fX12_19 hM.1 rfl (mr_6 hM).1 rfl ?_
          refine a_aload_n 69 dX12_office_68 rfl rfl ?_
          refine a_getIz (g1.2.1 1000 3) 72 dX12_office_69 fX12_98 hM.1 rfl rfl rfl ?_
          refine a_iload_n 73 dX12_office_72 rfl rfl ?_
          refine a_iast 74 dX12_office_73 (mr_6 hM).2 (by omega) (by omega) rfl ?_
          refine a_aload_n 75 dX12_office_74 rfl rfl ?_
          refine a_dup 76 dX12_office_75 (by intro w h; cases h) rfl ?_
          refine a_getIz (g1.2.1 1000 3) 79 dX12_office_76 fX12_98 hM.1 rfl rfl rfl ?_
          refine a_iconst (z := 1) 80 dX12_office_79 rfl (zrl rfl) rfl ?_
          refine a_iadd 81 dX12_office_80 (by unfold zr; omega) rfl ?_
          refine a_putI 84 dX12_office_81 fX12_98 (Or.inl rfl) hM.1 (Or.inl rfl) rfl ?_
          refine a_aload_n 85 dX12_office_84 rfl rfl ?_
          refine a_getIz (g1.2.1 1000 3 + 1) 88 dX12_office_85 fX12_98 hM.1 rfl rfl rfl ?_
          refine a_iconst (z := 1) 89 dX12_office_88 rfl (zrl rfl) rfl ?_
          refine a_isub 90 dX12_office_89 (by unfold zr; omega) rfl ?_
          refine a_ireturn dX12_office_90 rfl ⟨Nat.zero_le _, Nat.zero_le _⟩ ?_
          first | exact Or.inr (Or.inr ⟨by omega, rfl, rfl⟩) | exact Or.inr (Or.inl ⟨by omega, by omega, rfl, rfl⟩) | exact Or.inl ⟨by omega, by omega, congrArg vI (by omega), rfl⟩
        · skip
          refine a_bipush (z := (-3)) 43 dX12_office_41 rfl (zrl rfl) rfl ?_
          refine a_ireturn dX12_office_43 rfl ⟨Nat.zero_le _, Nat.zero_le _⟩ ?_
          first | exact Or.inr (Or.inr ⟨by omega, rfl, rfl⟩) | exact Or.inr (Or.inl ⟨by omega, by omega, rfl, rfl⟩) | exact Or.inl ⟨by omega, by omega, congrArg vI (by omega), rfl⟩
      · skip
        refine a_iconst (z := (-1)) 31 dX12_office_30 rfl (zrl rfl) rfl ?_
        refine a_ireturn dX12_office_31 rfl ⟨Nat.zero_le _, Nat.zero_le _⟩ ?_
        first | exact Or.inr (Or.inr ⟨by omega, rfl, rfl⟩) | exact Or.inr (Or.inl ⟨by omega, by omega, rfl, rfl⟩) | exact Or.inl ⟨by omega, by omega, congrArg vI (by omega), rfl⟩
set_option maxHeartbeats 4000000 in
set_option maxRecDepth 100000 in
theorem r_die (g : GH) (f k a e n : Int) (hM : MR g) (hV : MV g.2.1) : AMet mX12_die g [vA 1000, vI f, vI k, vI a, vI e, vI n] (fun r g' => (((0 ≤ f ∧ f < (gI g 1000 0 0).2.1 1000 3) ∧ (0 ≤ k ∧ k ≤ 15) ∧ (0 ≤ a ∧ a ≤ 999) ∧ (a ≤ e ∧ e ≤ 999) ∧ (n = -9 ∨ (0 ≤ n ∧ n ≤ 999))) ∧ (gI g 1000 0 0).2.1 1000 7 ≠ 12 ∧ r = vI ((gI g 1000 0 0).2.1 1000 7) ∧ g' = gI (gI (gI (gI (gI (gI (gI g 1000 0 0) 1008 ((gI g 1000 0 0).2.1 1000 7).toNat f) 1009 ((gI g 1000 0 0).2.1 1000 7).toNat k) 1010 ((gI g 1000 0 0).2.1 1000 7).toNat a) 1011 ((gI g 1000 0 0).2.1 1000 7).toNat e) 1012 ((gI g 1000 0 0).2.1 1000 7).toNat n) 1000 7 ((gI g 1000 0 0).2.1 1000 7 + 1)) ∨ (((0 ≤ f ∧ f < (gI g 1000 0 0).2.1 1000 3) ∧ (0 ≤ k ∧ k ≤ 15) ∧ (0 ≤ a ∧ a ≤ 999) ∧ (a ≤ e ∧ e ≤ 999) ∧ (n = -9 ∨ (0 ≤ n ∧ n ≤ 999))) ∧ (gI g 1000 0 0).2.1 1000 7 = 12 ∧ r = vI (-3) ∧ g' = gI g 1000 0 0) ∨ (¬ ((0 ≤ f ∧ f < (gI g 1000 0 0).2.1 1000 3) ∧ (0 ≤ k ∧ k ≤ 15) ∧ (0 ≤ a ∧ a ≤ 999) ∧ (a ≤ e ∧ e ≤ 999) ∧ (n = -9 ∨ (0 ≤ n ∧ n ≤ 999))) ∧ r = vI (-1) ∧ g' = gI g 1000 0 0)) := by
  refine AMet.of [vA 1000, vI f, vI k, vI a, vI e, vI n] (by decide) rfl (Nat.le_of_ble_eq_true rfl) ?_
  refine a_aload_n 1 dX12_die_0 rfl rfl ?_
  refine a_iconst (z := 0) 2 dX12_die_1 rfl (zrl rfl) rfl ?_
  refine a_putI 5 dX12_die_2 fX12_80 (Or.inl rfl) hM.1 (Or.inl rfl) rfl ?_
  have hM : MR (gI g 1000 0 0) := hM
  have hV : MV (gI g 1000 0 0).2.1 := MV_th hV
  have hc := hV.1
  unfold MVc at hc
  generalize gI g 1000 0 0 = g1 at hM hV hc ⊢
  refine a_iload_n 6 dX12_die_5 rfl rfl ?_
  refine a_iconst (z := 0) 7 dX12_die_6 rfl (zrl rfl) rfl ?_
  refine a_aload_n 8 dX12_die_7 rfl rfl ?_
  refine a_getIz (g1.2.1 1000 3) 11 dX12_die_8 fX12_98 hM.1 rfl rfl rfl ?_
  refine a_iconst (z := 1) 12 dX12_die_11 rfl (zrl rfl) rfl ?_
  refine a_isub 13 dX12_die_12 (by unfold zr; omega) rfl ?_
  refine a_callS 16 (r_in _ _ _ _) cdX12_in lX12_84 dX12_die_13 rfl rfl ⟨by decide, by decide, rfl, rfl⟩ ⟨Nat.zero_le _, Nat.zero_le _⟩ (Nat.le_of_ble_eq_true rfl) rfl ?_
  rintro _ _ - ⟨b13, rfl, rfl, h13⟩ -
  refine a_if_eq 63 19 dX12_die_16 (by decide) rfl (fun c16 => ?_) (fun c16 => ?_)
  · skip
    refine a_iconst (z := (-1)) 64 dX12_die_63 rfl (zrl rfl) rfl ?_
    refine a_ireturn dX12_die_64 rfl ⟨Nat.zero_le _, Nat.zero_le _⟩ ?_
    first | exact Or.inr (Or.inr ⟨by omega, rfl, rfl⟩) | exact Or.inr (Or.inl ⟨by omega, by omega, rfl, rfl⟩) | exact Or.inl ⟨by omega, by omega, congrArg vI (by omega), rfl⟩
  · skip
    refine a_iload_n 20 dX12_die_19 rfl rfl ?_
    refine a_iconst (z := 0) 21 dX12_die_20 rfl (zrl rfl) rfl ?_
    refine a_bipush (z := 15) 23 dX12_die_21 rfl (zrl rfl) rfl ?_
    refine a_callS 26 (r_in _ _ _ _) cdX12_in lX12_84 dX12_die_23 rfl rfl ⟨by decide, by decide, rfl, rfl⟩ ⟨Nat.zero_le _, Nat.zero_le _⟩ (Nat.le_of_ble_eq_true rfl) rfl ?_
    rintro _ _ - ⟨b23, rfl, rfl, h23⟩ -
    refine a_if_eq 63 29 dX12_die_26 (by decide) rfl (fun c26 => ?_) (fun c26 => ?_)
    · skip
      refine a_iconst (z := (-1)) 64 dX12_die_63 rfl (zrl rfl) rfl ?_
      refine a_ireturn dX12_die_64 rfl ⟨Nat.zero_le _, Nat.zero_le _⟩ ?_
      first | exact Or.inr (Or.inr ⟨by omega, rfl, rfl⟩) | exact Or.inr (Or.inl ⟨by omega, by omega, rfl, rfl⟩) | exact Or.inl ⟨by omega, by omega, congrArg vI (by omega), rfl⟩
    · skip
      refine a_iload_n 30 dX12_die_29 rfl rfl ?_
      refine a_callS 33 (r_isDay _ _) cdX12_isDay lX12_95 dX12_die_30 rfl rfl ⟨by decide, by decide, rfl, rfl⟩ ⟨Nat.zero_le _, Nat.zero_le _⟩ (Nat.le_of_ble_eq_true rfl) rfl ?_
      rintro _ _ - ⟨b30, rfl, rfl, h30⟩ -
      refine a_if_eq 63 36 dX12_die_33 (by decide) rfl (fun c33 => ?_) (fun c33 => ?_)
      · skip
        refine a_iconst (z := (-1)) 64 dX12_die_63 rfl (zrl rfl) rfl ?_
        refine a_ireturn dX12_die_64 rfl ⟨Nat.zero_le _, Nat.zero_le _⟩ ?_
        first | exact Or.inr (Or.inr ⟨by omega, rfl, rfl⟩) | exact Or.inr (Or.inl ⟨by omega, by omega, rfl, rfl⟩) | exact Or.inl ⟨by omega, by omega, congrArg vI (by omega), rfl⟩
      · skip
        refine a_iload 38 dX12_die_36 rfl rfl ?_
        refine a_iload_n 39 dX12_die_38 rfl rfl ?_
        refine a_sipush (z := 999) 42 dX12_die_39 rfl (zrl rfl) rfl ?_
        refine a_callS 45 (r_in _ _ _ _) cdX12_in lX12_84 dX12_die_42 rfl rfl ⟨by decide, by decide, rfl, rfl⟩ ⟨Nat.zero_le _, Nat.zero_le _⟩ (Nat.le_of_ble_eq_true rfl) rfl ?_
        rintro _ _ - ⟨b42, rfl, rfl, h42⟩ -
        refine a_if_eq 63 48 dX12_die_45 (by decide) rfl (fun c45 => ?_) (fun c45 => ?_)
        · skip
          refine a_iconst (z := (-1)) 64 dX12_die_63 rfl (zrl rfl) rfl ?_
          refine a_ireturn dX12_die_64 rfl ⟨Nat.zero_le _, Nat.zero_le _⟩ ?_
          first | exact Or.inr (Or.inr ⟨by omega, rfl, rfl⟩) | exact Or.inr (Or.inl ⟨by omega, by omega, rfl, rfl⟩) | exact Or.inl ⟨by omega, by omega, congrArg vI (by omega), rfl⟩
        · skip
          refine a_iload 50 dX12_die_48 rfl rfl ?_
          refine a_bipush (z := (-9)) 52 dX12_die_50 rfl (zrl rfl) rfl ?_
          refine a_icmp_eq 65 55 dX12_die_52 (by decide) rfl (fun c52 => ?_) (fun c52 => ?_)
          · skip
            refine a_aload_n 66 dX12_die_65 rfl rfl ?_
            refine a_getIz (g1.2.1 1000 7) 69 dX12_die_66 fX12_101 hM.1 rfl rfl rfl ?_
            refine a_bipush (z := 12) 71 dX12_die_69 rfl (zrl rfl) rfl ?_
            refine a_icmp_ne 77 74 dX12_die_71 (by decide) rfl (fun c71 => ?_) (fun c71 => ?_)
            · skip
              refine a_aload_n 78 dX12_die_77 rfl rfl ?_
              refine a_getR 81 dX12_die_78 fX12_22 hM.1 rfl (mr_8 hM).1 rfl ?_
              refine a_aload_n 82 dX12_die_81 rfl rfl ?_
              refine a_getIz (g1.2.1 1000 7) 85 dX12_die_82 fX12_101 hM.1 rfl rfl rfl ?_
              refine a_iload_n 86 dX12_die_85 rfl rfl ?_
              refine a_iast 87 dX12_die_86 (mr_8 hM).2 (by omega) (by omega) rfl ?_
              refine a_aload_n 88 dX12_die_87 rfl rfl ?_
              refine a_getR 91 dX12_die_88 fX12_25 hM.1 rfl (mr_9 hM).1 rfl ?_
              refine a_aload_n 92 dX12_die_91 rfl rfl ?_
              refine a_getIz (g1.2.1 1000 7) 95 dX12_die_92 fX12_101 hM.1 rfl rfl rfl ?_
              refine a_iload_n 96 dX12_die_95 rfl rfl ?_
              refine a_iast 97 dX12_die_96 (mr_9 hM).2 (by omega) (by omega) rfl ?_
              refine a_aload_n 98 dX12_die_97 rfl rfl ?_
              refine a_getR 101 dX12_die_98 fX12_28 hM.1 rfl (mr_10 hM).1 rfl ?_
              refine a_aload_n 102 dX12_die_101 rfl rfl ?_
              refine a_getIz (g1.2.1 1000 7) 105 dX12_die_102 fX12_101 hM.1 rfl rfl rfl ?_
              refine a_iload_n 106 dX12_die_105 rfl rfl ?_
              refine a_iast 107 dX12_die_106 (mr_10 hM).2 (by omega) (by omega) rfl ?_
              refine a_aload_n 108 dX12_die_107 rfl rfl ?_
              refine a_getR 111 dX12_die_108 fX12_31 hM.1 rfl (mr_11 hM).1 rfl ?_
              refine a_aload_n 112 dX12_die_111 rfl rfl ?_
              refine a_getIz (g1.2.1 1000 7) 115 dX12_die_112 fX12_101 hM.1 rfl rfl rfl ?_
              refine a_iload 117 dX12_die_115 rfl rfl ?_
              refine a_iast 118 dX12_die_117 (mr_11 hM).2 (by omega) (by omega) rfl ?_
              refine a_aload_n 119 dX12_die_118 rfl rfl ?_
              refine a_getR 122 dX12_die_119 fX12_34 hM.1 rfl (mr_12 hM).1 rfl ?_
              refine a_aload_n 123 dX12_die_122 rfl rfl ?_
              refine a_getIz (g1.2.1 1000 7) 126 dX12_die_123 fX12_101 hM.1 rfl rfl rfl ?_
              refine a_iload 128 dX12_die_126 rfl rfl ?_
              refine a_iast 129 dX12_die_128 (mr_12 hM).2 (by omega) (by omega) rfl ?_
              refine a_aload_n 130 dX12_die_129 rfl rfl ?_
              refine a_dup 131 dX12_die_130 (by intro w h; cases h) rfl ?_
              refine a_getIz (g1.2.1 1000 7) 134 dX12_die_131 fX12_101 hM.1 rfl rfl rfl ?_
              refine a_iconst (z := 1) 135 dX12_die_134 rfl (zrl rfl) rfl ?_
              refine a_iadd 136 dX12_die_135 (by unfold zr; omega) rfl ?_
              refine a_putI 139 dX12_die_136 fX12_101 (Or.inl rfl) hM.1 (Or.inl rfl) rfl ?_
              refine a_aload_n 140 dX12_die_139 rfl rfl ?_
              refine a_getIz (g1.2.1 1000 7 + 1) 143 dX12_die_140 fX12_101 hM.1 rfl rfl rfl ?_
              refine a_iconst (z := 1) 144 dX12_die_143 rfl (zrl rfl) rfl ?_
              refine a_isub 145 dX12_die_144 (by unfold zr; omega) rfl ?_
              refine a_ireturn dX12_die_145 rfl ⟨Nat.zero_le _, Nat.zero_le _⟩ ?_
              first | exact Or.inr (Or.inr ⟨by omega, rfl, rfl⟩) | exact Or.inr (Or.inl ⟨by omega, by omega, rfl, rfl⟩) | exact Or.inl ⟨by omega, by omega, congrArg vI (by omega), rfl⟩
            · skip
              refine a_bipush (z := (-3)) 76 dX12_die_74 rfl (zrl rfl) rfl ?_
              refine a_ireturn dX12_die_76 rfl ⟨Nat.zero_le _, Nat.zero_le _⟩ ?_
              first | exact Or.inr (Or.inr ⟨by omega, rfl, rfl⟩) | exact Or.inr (Or.inl ⟨by omega, by omega, rfl, rfl⟩) | exact Or.inl ⟨by omega, by omega, congrArg vI (by omega), rfl⟩
          · skip
            refine a_iload 57 dX12_die_55 rfl rfl ?_
            refine a_callS 60 (r_isDay _ _) cdX12_isDay lX12_95 dX12_die_57 rfl rfl ⟨by decide, by decide, rfl, rfl⟩ ⟨Nat.zero_le _, Nat.zero_le _⟩ (Nat.le_of_ble_eq_true rfl) rfl ?_
            rintro _ _ - ⟨b57, rfl, rfl, h57⟩ -
            refine a_if_ne 65 63 dX12_die_60 (by decide) rfl (fun c60 => ?_) (fun c60 => ?_)
            · skip
              refine a_aload_n 66 dX12_die_65 rfl rfl ?_
              refine a_getIz (g1.2.1 1000 7) 69 dX12_die_66 fX12_101 hM.1 rfl rfl rfl ?_
              refine a_bipush (z := 12) 71 dX12_die_69 rfl (zrl rfl) rfl ?_
              refine a_icmp_ne 77 74 dX12_die_71 (by decide) rfl (fun c71 => ?_) (fun c71 => ?_)
              · skip
                refine a_aload_n 78 dX12_die_77 rfl rfl ?_
                refine a_getR 81 dX12_die_78 fX12_22 hM.1 rfl (mr_8 hM).1 rfl ?_
                refine a_aload_n 82 dX12_die_81 rfl rfl ?_
                refine a_getIz (g1.2.1 1000 7) 85 dX12_die_82 fX12_101 hM.1 rfl rfl rfl ?_
                refine a_iload_n 86 dX12_die_85 rfl rfl ?_
                refine a_iast 87 dX12_die_86 (mr_8 hM).2 (by omega) (by omega) rfl ?_
                refine a_aload_n 88 dX12_die_87 rfl rfl ?_
                refine a_getR 91 dX12_die_88 fX12_25 hM.1 rfl (mr_9 hM).1 rfl ?_
                refine a_aload_n 92 dX12_die_91 rfl rfl ?_
                refine a_getIz (g1.2.1 1000 7) 95 dX12_die_92 fX12_101 hM.1 rfl rfl rfl ?_
                refine a_iload_n 96 dX12_die_95 rfl rfl ?_
                refine a_iast 97 dX12_die_96 (mr_9 hM).2 (by omega) (by omega) rfl ?_
                refine a_aload_n 98 dX12_die_97 rfl rfl ?_
                refine a_getR 101 dX12_die_98 fX12_28 hM.1 rfl (mr_10 hM).1 rfl ?_
                refine a_aload_n 102 dX12_die_101 rfl rfl ?_
                refine a_getIz (g1.2.1 1000 7) 105 dX12_die_102 fX12_101 hM.1 rfl rfl rfl ?_
                refine a_iload_n 106 dX12_die_105 rfl rfl ?_
                refine a_iast 107 dX12_die_106 (mr_10 hM).2 (by omega) (by omega) rfl ?_
                refine a_aload_n 108 dX12_die_107 rfl rfl ?_
                refine a_getR 111 dX12_die_108 fX12_31 hM.1 rfl (mr_11 hM).1 rfl ?_
                refine a_aload_n 112 dX12_die_111 rfl rfl ?_
                refine a_getIz (g1.2.1 1000 7) 115 dX12_die_112 fX12_101 hM.1 rfl rfl rfl ?_
                refine a_iload 117 dX12_die_115 rfl rfl ?_
                refine a_iast 118 dX12_die_117 (mr_11 hM).2 (by omega) (by omega) rfl ?_
                refine a_aload_n 119 dX12_die_118 rfl rfl ?_
                refine a_getR 122 dX12_die_119 fX12_34 hM.1 rfl (mr_12 hM).1 rfl ?_
                refine a_aload_n 123 dX12_die_122 rfl rfl ?_
                refine a_getIz (g1.2.1 1000 7) 126 dX12_die_123 fX12_101 hM.1 rfl rfl rfl ?_
                refine a_iload 128 dX12_die_126 rfl rfl ?_
                refine a_iast 129 dX12_die_128 (mr_12 hM).2 (by omega) (by omega) rfl ?_
                refine a_aload_n 130 dX12_die_129 rfl rfl ?_
                refine a_dup 131 dX12_die_130 (by intro w h; cases h) rfl ?_
                refine a_getIz (g1.2.1 1000 7) 134 dX12_die_131 fX12_101 hM.1 rfl rfl rfl ?_
                refine a_iconst (z := 1) 135 dX12_die_134 rfl (zrl rfl) rfl ?_
                refine a_iadd 136 dX12_die_135 (by unfold zr; omega) rfl ?_
                refine a_putI 139 dX12_die_136 fX12_101 (Or.inl rfl) hM.1 (Or.inl rfl) rfl ?_
                refine a_aload_n 140 dX12_die_139 rfl rfl ?_
                refine a_getIz (g1.2.1 1000 7 + 1) 143 dX12_die_140 fX12_101 hM.1 rfl rfl rfl ?_
                refine a_iconst (z := 1) 144 dX12_die_143 rfl (zrl rfl) rfl ?_
                refine a_isub 145 dX12_die_144 (by unfold zr; omega) rfl ?_
                refine a_ireturn dX12_die_145 rfl ⟨Nat.zero_le _, Nat.zero_le _⟩ ?_
                first | exact Or.inr (Or.inr ⟨by omega, rfl, rfl⟩) | exact Or.inr (Or.inl ⟨by omega, by omega, rfl, rfl⟩) | exact Or.inl ⟨by omega, by omega, congrArg vI (by omega), rfl⟩
              · skip
                refine a_bipush (z := (-3)) 76 dX12_die_74 rfl (zrl rfl) rfl ?_
                refine a_ireturn dX12_die_76 rfl ⟨Nat.zero_le _, Nat.zero_le _⟩ ?_
                first | exact Or.inr (Or.inr ⟨by omega, rfl, rfl⟩) | exact Or.inr (Or.inl ⟨by omega, by omega, rfl, rfl⟩) | exact Or.inl ⟨by omega, by omega, congrArg vI (by omega), rfl⟩
            · skip
              refine a_iconst (z := (-1)) 64 dX12_die_63 rfl (zrl rfl) rfl ?_
              refine a_ireturn dX12_die_64 rfl ⟨Nat.zero_le _, Nat.zero_le _⟩ ?_
              first | exact Or.inr (Or.inr ⟨by omega, rfl, rfl⟩) | exact Or.inr (Or.inl ⟨by omega, by omega, rfl, rfl⟩) | exact Or.inl ⟨by omega, by omega, congrArg vI (by omega), rfl⟩
set_option maxHeartbeats 4000000 in
set_option maxRecDepth 100000 in
theorem r_sail (g : GH) (f k a e : Int) (hM : MR g) (hV : MV g.2.1) : AMet mX12_sail g [vA 1000, vI f, vI k, vI a, vI e] (fun r g' => (((0 ≤ f ∧ f ≤ 5) ∧ (0 ≤ k ∧ k ≤ 5) ∧ f ≠ k ∧ (0 ≤ a ∧ a ≤ 999) ∧ (a ≤ e ∧ e ≤ 999)) ∧ (gI g 1000 0 0).2.1 1000 15 ≠ 20 ∧ r = vI ((gI g 1000 0 0).2.1 1000 15) ∧ g' = gI (gI (gI (gI (gI (gI g 1000 0 0) 1016 ((gI g 1000 0 0).2.1 1000 15).toNat f) 1017 ((gI g 1000 0 0).2.1 1000 15).toNat k) 1018 ((gI g 1000 0 0).2.1 1000 15).toNat a) 1019 ((gI g 1000 0 0).2.1 1000 15).toNat e) 1000 15 ((gI g 1000 0 0).2.1 1000 15 + 1)) ∨ (((0 ≤ f ∧ f ≤ 5) ∧ (0 ≤ k ∧ k ≤ 5) ∧ f ≠ k ∧ (0 ≤ a ∧ a ≤ 999) ∧ (a ≤ e ∧ e ≤ 999)) ∧ (gI g 1000 0 0).2.1 1000 15 = 20 ∧ r = vI (-3) ∧ g' = gI g 1000 0 0) ∨ (¬ ((0 ≤ f ∧ f ≤ 5) ∧ (0 ≤ k ∧ k ≤ 5) ∧ f ≠ k ∧ (0 ≤ a ∧ a ≤ 999) ∧ (a ≤ e ∧ e ≤ 999)) ∧ r = vI (-1) ∧ g' = gI g 1000 0 0)) := by
  refine AMet.of [vA 1000, vI f, vI k, vI a, vI e] (by decide) rfl (Nat.le_of_ble_eq_true rfl) ?_
  refine a_aload_n 1 dX12_sail_0 rfl rfl ?_
  refine a_iconst (z := 0) 2 dX12_sail_1 rfl (zrl rfl) rfl ?_
  refine a_putI 5 dX12_sail_2 fX12_80 (Or.inl rfl) hM.1 (Or.inl rfl) rfl ?_
  have hM : MR (gI g 1000 0 0) := hM
  have hV : MV (gI g 1000 0 0).2.1 := MV_th hV
  have hc := hV.1
  unfold MVc at hc
  generalize gI g 1000 0 0 = g1 at hM hV hc ⊢
  refine a_iload_n 6 dX12_sail_5 rfl rfl ?_
  refine a_callS 9 (r_isTown _ _) cdX12_isTown lX12_91 dX12_sail_6 rfl rfl ⟨by decide, by decide, rfl, rfl⟩ ⟨Nat.zero_le _, Nat.zero_le _⟩ (Nat.le_of_ble_eq_true rfl) rfl ?_
  rintro _ _ - ⟨b6, rfl, rfl, h6⟩ -
  refine a_if_eq 43 12 dX12_sail_9 (by decide) rfl (fun c9 => ?_) (fun c9 => ?_)
  · skip
    refine a_iconst (z := (-1)) 44 dX12_sail_43 rfl (zrl rfl) rfl ?_
    refine a_ireturn dX12_sail_44 rfl ⟨Nat.zero_le _, Nat.zero_le _⟩ ?_
    first | exact Or.inr (Or.inr ⟨by omega, rfl, rfl⟩) | exact Or.inr (Or.inl ⟨by omega, by omega, rfl, rfl⟩) | exact Or.inl ⟨by omega, by omega, congrArg vI (by omega), rfl⟩
  · skip
    refine a_iload_n 13 dX12_sail_12 rfl rfl ?_
    refine a_callS 16 (r_isTown _ _) cdX12_isTown lX12_91 dX12_sail_13 rfl rfl ⟨by decide, by decide, rfl, rfl⟩ ⟨Nat.zero_le _, Nat.zero_le _⟩ (Nat.le_of_ble_eq_true rfl) rfl ?_
    rintro _ _ - ⟨b13, rfl, rfl, h13⟩ -
    refine a_if_eq 43 19 dX12_sail_16 (by decide) rfl (fun c16 => ?_) (fun c16 => ?_)
    · skip
      refine a_iconst (z := (-1)) 44 dX12_sail_43 rfl (zrl rfl) rfl ?_
      refine a_ireturn dX12_sail_44 rfl ⟨Nat.zero_le _, Nat.zero_le _⟩ ?_
      first | exact Or.inr (Or.inr ⟨by omega, rfl, rfl⟩) | exact Or.inr (Or.inl ⟨by omega, by omega, rfl, rfl⟩) | exact Or.inl ⟨by omega, by omega, congrArg vI (by omega), rfl⟩
    · skip
      refine a_iload_n 20 dX12_sail_19 rfl rfl ?_
      refine a_iload_n 21 dX12_sail_20 rfl rfl ?_
      refine a_icmp_eq 43 24 dX12_sail_21 (by decide) rfl (fun c21 => ?_) (fun c21 => ?_)
      · skip
        refine a_iconst (z := (-1)) 44 dX12_sail_43 rfl (zrl rfl) rfl ?_
        refine a_ireturn dX12_sail_44 rfl ⟨Nat.zero_le _, Nat.zero_le _⟩ ?_
        first | exact Or.inr (Or.inr ⟨by omega, rfl, rfl⟩) | exact Or.inr (Or.inl ⟨by omega, by omega, rfl, rfl⟩) | exact Or.inl ⟨by omega, by omega, congrArg vI (by omega), rfl⟩
      · skip
        refine a_iload_n 25 dX12_sail_24 rfl rfl ?_
        refine a_callS 28 (r_isDay _ _) cdX12_isDay lX12_95 dX12_sail_25 rfl rfl ⟨by decide, by decide, rfl, rfl⟩ ⟨Nat.zero_le _, Nat.zero_le _⟩ (Nat.le_of_ble_eq_true rfl) rfl ?_
        rintro _ _ - ⟨b25, rfl, rfl, h25⟩ -
        refine a_if_eq 43 31 dX12_sail_28 (by decide) rfl (fun c28 => ?_) (fun c28 => ?_)
        · skip
          refine a_iconst (z := (-1)) 44 dX12_sail_43 rfl (zrl rfl) rfl ?_
          refine a_ireturn dX12_sail_44 rfl ⟨Nat.zero_le _, Nat.zero_le _⟩ ?_
          first | exact Or.inr (Or.inr ⟨by omega, rfl, rfl⟩) | exact Or.inr (Or.inl ⟨by omega, by omega, rfl, rfl⟩) | exact Or.inl ⟨by omega, by omega, congrArg vI (by omega), rfl⟩
        · skip
          refine a_iload 33 dX12_sail_31 rfl rfl ?_
          refine a_iload_n 34 dX12_sail_33 rfl rfl ?_
          refine a_sipush (z := 999) 37 dX12_sail_34 rfl (zrl rfl) rfl ?_
          refine a_callS 40 (r_in _ _ _ _) cdX12_in lX12_84 dX12_sail_37 rfl rfl ⟨by decide, by decide, rfl, rfl⟩ ⟨Nat.zero_le _, Nat.zero_le _⟩ (Nat.le_of_ble_eq_true rfl) rfl ?_
          rintro _ _ - ⟨b37, rfl, rfl, h37⟩ -
          refine a_if_ne 45 43 dX12_sail_40 (by decide) rfl (fun c40 => ?_) (fun c40 => ?_)
          · skip
            refine a_aload_n 46 dX12_sail_45 rfl rfl ?_
            refine a_getIz (g1.2.1 1000 15) 49 dX12_sail_46 fX12_139 hM.1 rfl rfl rfl ?_
            refine a_bipush (z := 20) 51 dX12_sail_49 rfl (zrl rfl) rfl ?_
            refine a_icmp_ne 57 54 dX12_sail_51 (by decide) rfl (fun c51 => ?_) (fun c51 => ?_)
            · skip
              refine a_aload_n 58 dX12_sail_57 rfl rfl ?_
              refine a_getR 61 dX12_sail_58 fX12_40 hM.1 rfl (mr_16 hM).1 rfl ?_
              refine a_aload_n 62 dX12_sail_61 rfl rfl ?_
              refine a_getIz (g1.2.1 1000 15) 65 dX12_sail_62 fX12_139 hM.1 rfl rfl rfl ?_
              refine a_iload_n 66 dX12_sail_65 rfl rfl ?_
              refine a_iast 67 dX12_sail_66 (mr_16 hM).2 (by omega) (by omega) rfl ?_
              refine a_aload_n 68 dX12_sail_67 rfl rfl ?_
              refine a_getR 71 dX12_sail_68 fX12_43 hM.1 rfl (mr_17 hM).1 rfl ?_
              refine a_aload_n 72 dX12_sail_71 rfl rfl ?_
              refine a_getIz (g1.2.1 1000 15) 75 dX12_sail_72 fX12_139 hM.1 rfl rfl rfl ?_
              refine a_iload_n 76 dX12_sail_75 rfl rfl ?_
              refine a_iast 77 dX12_sail_76 (mr_17 hM).2 (by omega) (by omega) rfl ?_
              refine a_aload_n 78 dX12_sail_77 rfl rfl ?_
              refine a_getR 81 dX12_sail_78 fX12_46 hM.1 rfl (mr_18 hM).1 rfl ?_
              refine a_aload_n 82 dX12_sail_81 rfl rfl ?_
              refine a_getIz (g1.2.1 1000 15) 85 dX12_sail_82 fX12_139 hM.1 rfl rfl rfl ?_
              refine a_iload_n 86 dX12_sail_85 rfl rfl ?_
              refine a_iast 87 dX12_sail_86 (mr_18 hM).2 (by omega) (by omega) rfl ?_
              refine a_aload_n 88 dX12_sail_87 rfl rfl ?_
              refine a_getR 91 dX12_sail_88 fX12_49 hM.1 rfl (mr_19 hM).1 rfl ?_
              refine a_aload_n 92 dX12_sail_91 rfl rfl ?_
              refine a_getIz (g1.2.1 1000 15) 95 dX12_sail_92 fX12_139 hM.1 rfl rfl rfl ?_
              refine a_iload 97 dX12_sail_95 rfl rfl ?_
              refine a_iast 98 dX12_sail_97 (mr_19 hM).2 (by omega) (by omega) rfl ?_
              refine a_aload_n 99 dX12_sail_98 rfl rfl ?_
              refine a_dup 100 dX12_sail_99 (by intro w h; cases h) rfl ?_
              refine a_getIz (g1.2.1 1000 15) 103 dX12_sail_100 fX12_139 hM.1 rfl rfl rfl ?_
              refine a_iconst (z := 1) 104 dX12_sail_103 rfl (zrl rfl) rfl ?_
              refine a_iadd 105 dX12_sail_104 (by unfold zr; omega) rfl ?_
              refine a_putI 108 dX12_sail_105 fX12_139 (Or.inl rfl) hM.1 (Or.inl rfl) rfl ?_
              refine a_aload_n 109 dX12_sail_108 rfl rfl ?_
              refine a_getIz (g1.2.1 1000 15 + 1) 112 dX12_sail_109 fX12_139 hM.1 rfl rfl rfl ?_
              refine a_iconst (z := 1) 113 dX12_sail_112 rfl (zrl rfl) rfl ?_
              refine a_isub 114 dX12_sail_113 (by unfold zr; omega) rfl ?_
              refine a_ireturn dX12_sail_114 rfl ⟨Nat.zero_le _, Nat.zero_le _⟩ ?_
              first | exact Or.inr (Or.inr ⟨by omega, rfl, rfl⟩) | exact Or.inr (Or.inl ⟨by omega, by omega, rfl, rfl⟩) | exact Or.inl ⟨by omega, by omega, congrArg vI (by omega), rfl⟩
            · skip
              refine a_bipush (z := (-3)) 56 dX12_sail_54 rfl (zrl rfl) rfl ?_
              refine a_ireturn dX12_sail_56 rfl ⟨Nat.zero_le _, Nat.zero_le _⟩ ?_
              first | exact Or.inr (Or.inr ⟨by omega, rfl, rfl⟩) | exact Or.inr (Or.inl ⟨by omega, by omega, rfl, rfl⟩) | exact Or.inl ⟨by omega, by omega, congrArg vI (by omega), rfl⟩
          · skip
            refine a_iconst (z := (-1)) 44 dX12_sail_43 rfl (zrl rfl) rfl ?_
            refine a_ireturn dX12_sail_44 rfl ⟨Nat.zero_le _, Nat.zero_le _⟩ ?_
            first | exact Or.inr (Or.inr ⟨by omega, rfl, rfl⟩) | exact Or.inr (Or.inl ⟨by omega, by omega, rfl, rfl⟩) | exact Or.inl ⟨by omega, by omega, congrArg vI (by omega), rfl⟩
set_option maxHeartbeats 4000000 in
set_option maxRecDepth 100000 in
theorem r_late (g : GH) (s c : Int) (hM : MR g) (hV : MV g.2.1) : AMet mX12_late g [vA 1000, vI s, vI c] (fun r g' => (((0 ≤ s ∧ s < (gI g 1000 0 0).2.1 1000 15) ∧ (c = -9 ∨ ((gI g 1000 0 0).2.1 1018 s.toNat ≤ c ∧ c ≤ 999))) ∧ r = vI ((gI g 1000 0 0).2.1 1019 s.toNat) ∧ g' = gI (gI g 1000 0 0) 1019 s.toNat c) ∨ (¬ ((0 ≤ s ∧ s < (gI g 1000 0 0).2.1 1000 15) ∧ (c = -9 ∨ ((gI g 1000 0 0).2.1 1018 s.toNat ≤ c ∧ c ≤ 999))) ∧ r = vI (-1) ∧ g' = gI g 1000 0 0)) := by
  refine AMet.of [vA 1000, vI s, vI c, none] (by decide) rfl (Nat.le_of_ble_eq_true rfl) ?_
  refine a_aload_n 1 dX12_late_0 rfl rfl ?_
  refine a_iconst (z := 0) 2 dX12_late_1 rfl (zrl rfl) rfl ?_
  refine a_putI 5 dX12_late_2 fX12_80 (Or.inl rfl) hM.1 (Or.inl rfl) rfl ?_
  have hM : MR (gI g 1000 0 0) := hM
  have hV : MV (gI g 1000 0 0).2.1 := MV_th hV
  have hc := hV.1
  unfold MVc at hc
  generalize gI g 1000 0 0 = g1 at hM hV hc ⊢
  refine a_iload_n 6 dX12_late_5 rfl rfl ?_
  refine a_iconst (z := 0) 7 dX12_late_6 rfl (zrl rfl) rfl ?_
  refine a_aload_n 8 dX12_late_7 rfl rfl ?_
  refine a_getIz (g1.2.1 1000 15) 11 dX12_late_8 fX12_139 hM.1 rfl rfl rfl ?_
  refine a_iconst (z := 1) 12 dX12_late_11 rfl (zrl rfl) rfl ?_
  refine a_isub 13 dX12_late_12 (by unfold zr; omega) rfl ?_
  refine a_callS 16 (r_in _ _ _ _) cdX12_in lX12_84 dX12_late_13 rfl rfl ⟨by decide, by decide, rfl, rfl⟩ ⟨Nat.zero_le _, Nat.zero_le _⟩ (Nat.le_of_ble_eq_true rfl) rfl ?_
  rintro _ _ - ⟨b13, rfl, rfl, h13⟩ -
  refine a_if_eq 41 19 dX12_late_16 (by decide) rfl (fun c16 => ?_) (fun c16 => ?_)
  · skip
    refine a_iconst (z := (-1)) 42 dX12_late_41 rfl (zrl rfl) rfl ?_
    refine a_ireturn dX12_late_42 rfl ⟨Nat.zero_le _, Nat.zero_le _⟩ ?_
    first | exact Or.inl ⟨by omega, rfl, rfl⟩ | exact Or.inr ⟨by omega, rfl, rfl⟩
  · skip
    refine a_iload_n 20 dX12_late_19 rfl rfl ?_
    refine a_bipush (z := (-9)) 22 dX12_late_20 rfl (zrl rfl) rfl ?_
    refine a_icmp_eq 43 25 dX12_late_22 (by decide) rfl (fun c22 => ?_) (fun c22 => ?_)
    · skip
      refine a_aload_n 44 dX12_late_43 rfl rfl ?_
      refine a_getR 47 dX12_late_44 fX12_49 hM.1 rfl (mr_19 hM).1 rfl ?_
      refine a_iload_n 48 dX12_late_47 rfl rfl ?_
      refine a_iald 49 dX12_late_48 (mr_19 hM).2 (by omega) (by omega) rfl ?_
      refine a_istore_n 50 dX12_late_49 (by decide) rfl rfl ?_
      refine a_aload_n 51 dX12_late_50 rfl rfl ?_
      refine a_getR 54 dX12_late_51 fX12_49 hM.1 rfl (mr_19 hM).1 rfl ?_
      refine a_iload_n 55 dX12_late_54 rfl rfl ?_
      refine a_iload_n 56 dX12_late_55 rfl rfl ?_
      refine a_iast 57 dX12_late_56 (mr_19 hM).2 (by omega) (by omega) rfl ?_
      refine a_iload_n 58 dX12_late_57 rfl rfl ?_
      refine a_ireturn dX12_late_58 rfl ⟨Nat.zero_le _, Nat.zero_le _⟩ ?_
      first | exact Or.inl ⟨by omega, rfl, rfl⟩ | exact Or.inr ⟨by omega, rfl, rfl⟩
    · skip
      refine a_iload_n 26 dX12_late_25 rfl rfl ?_
      refine a_aload_n 27 dX12_late_26 rfl rfl ?_
      refine a_getR 30 dX12_late_27 fX12_46 hM.1 rfl (mr_18 hM).1 rfl ?_
      refine a_iload_n 31 dX12_late_30 rfl rfl ?_
      refine a_iald 32 dX12_late_31 (mr_18 hM).2 (by omega) (by omega) rfl ?_
      refine a_sipush (z := 999) 35 dX12_late_32 rfl (zrl rfl) rfl ?_
      refine a_callS 38 (r_in _ _ _ _) cdX12_in lX12_84 dX12_late_35 rfl rfl ⟨by decide, by decide, rfl, rfl⟩ ⟨Nat.zero_le _, Nat.zero_le _⟩ (Nat.le_of_ble_eq_true rfl) rfl ?_
      rintro _ _ - ⟨b35, rfl, rfl, h35⟩ -
      refine a_if_ne 43 41 dX12_late_38 (by decide) rfl (fun c38 => ?_) (fun c38 => ?_)
      · skip
        refine a_aload_n 44 dX12_late_43 rfl rfl ?_
        refine a_getR 47 dX12_late_44 fX12_49 hM.1 rfl (mr_19 hM).1 rfl ?_
        refine a_iload_n 48 dX12_late_47 rfl rfl ?_
        refine a_iald 49 dX12_late_48 (mr_19 hM).2 (by omega) (by omega) rfl ?_
        refine a_istore_n 50 dX12_late_49 (by decide) rfl rfl ?_
        refine a_aload_n 51 dX12_late_50 rfl rfl ?_
        refine a_getR 54 dX12_late_51 fX12_49 hM.1 rfl (mr_19 hM).1 rfl ?_
        refine a_iload_n 55 dX12_late_54 rfl rfl ?_
        refine a_iload_n 56 dX12_late_55 rfl rfl ?_
        refine a_iast 57 dX12_late_56 (mr_19 hM).2 (by omega) (by omega) rfl ?_
        refine a_iload_n 58 dX12_late_57 rfl rfl ?_
        refine a_ireturn dX12_late_58 rfl ⟨Nat.zero_le _, Nat.zero_le _⟩ ?_
        first | exact Or.inl ⟨by omega, rfl, rfl⟩ | exact Or.inr ⟨by omega, rfl, rfl⟩
      · skip
        refine a_iconst (z := (-1)) 42 dX12_late_41 rfl (zrl rfl) rfl ?_
        refine a_ireturn dX12_late_42 rfl ⟨Nat.zero_le _, Nat.zero_le _⟩ ?_
        first | exact Or.inl ⟨by omega, rfl, rfl⟩ | exact Or.inr ⟨by omega, rfl, rfl⟩
set_option maxHeartbeats 4000000 in
set_option maxRecDepth 100000 in
theorem r_road (g : GH) (a b n : Int) (hM : MR g) (hV : MV g.2.1) : AMet mX12_road g [vA 1000, vI a, vI b, vI n] (fun r g' => (((0 ≤ a ∧ a ≤ 5) ∧ (0 ≤ b ∧ b ≤ 5) ∧ a ≠ b ∧ (n = -9 ∨ (1 ≤ n ∧ n ≤ 30))) ∧ r = vI ((gI g 1000 0 0).2.1 1020 (6 * a + b).toNat) ∧ g' = gI (gI (gI g 1000 0 0) 1020 (6 * a + b).toNat n) 1020 (6 * b + a).toNat n) ∨ (¬ ((0 ≤ a ∧ a ≤ 5) ∧ (0 ≤ b ∧ b ≤ 5) ∧ a ≠ b ∧ (n = -9 ∨ (1 ≤ n ∧ n ≤ 30))) ∧ r = vI (-1) ∧ g' = gI g 1000 0 0)) := by
  refine AMet.of [vA 1000, vI a, vI b, vI n, none] (by decide) rfl (Nat.le_of_ble_eq_true rfl) ?_
  refine a_aload_n 1 dX12_road_0 rfl rfl ?_
  refine a_iconst (z := 0) 2 dX12_road_1 rfl (zrl rfl) rfl ?_
  refine a_putI 5 dX12_road_2 fX12_80 (Or.inl rfl) hM.1 (Or.inl rfl) rfl ?_
  have hM : MR (gI g 1000 0 0) := hM
  have hV : MV (gI g 1000 0 0).2.1 := MV_th hV
  have hc := hV.1
  unfold MVc at hc
  generalize gI g 1000 0 0 = g1 at hM hV hc ⊢
  refine a_iload_n 6 dX12_road_5 rfl rfl ?_
  refine a_callS 9 (r_isTown _ _) cdX12_isTown lX12_91 dX12_road_6 rfl rfl ⟨by decide, by decide, rfl, rfl⟩ ⟨Nat.zero_le _, Nat.zero_le _⟩ (Nat.le_of_ble_eq_true rfl) rfl ?_
  rintro _ _ - ⟨b6, rfl, rfl, h6⟩ -
  refine a_if_eq 40 12 dX12_road_9 (by decide) rfl (fun c9 => ?_) (fun c9 => ?_)
  · skip
    refine a_iconst (z := (-1)) 41 dX12_road_40 rfl (zrl rfl) rfl ?_
    refine a_ireturn dX12_road_41 rfl ⟨Nat.zero_le _, Nat.zero_le _⟩ ?_
    first | exact Or.inl ⟨by omega, rfl, rfl⟩ | exact Or.inr ⟨by omega, rfl, rfl⟩
  · skip
    refine a_iload_n 13 dX12_road_12 rfl rfl ?_
    refine a_callS 16 (r_isTown _ _) cdX12_isTown lX12_91 dX12_road_13 rfl rfl ⟨by decide, by decide, rfl, rfl⟩ ⟨Nat.zero_le _, Nat.zero_le _⟩ (Nat.le_of_ble_eq_true rfl) rfl ?_
    rintro _ _ - ⟨b13, rfl, rfl, h13⟩ -
    refine a_if_eq 40 19 dX12_road_16 (by decide) rfl (fun c16 => ?_) (fun c16 => ?_)
    · skip
      refine a_iconst (z := (-1)) 41 dX12_road_40 rfl (zrl rfl) rfl ?_
      refine a_ireturn dX12_road_41 rfl ⟨Nat.zero_le _, Nat.zero_le _⟩ ?_
      first | exact Or.inl ⟨by omega, rfl, rfl⟩ | exact Or.inr ⟨by omega, rfl, rfl⟩
    · skip
      refine a_iload_n 20 dX12_road_19 rfl rfl ?_
      refine a_iload_n 21 dX12_road_20 rfl rfl ?_
      refine a_icmp_eq 40 24 dX12_road_21 (by decide) rfl (fun c21 => ?_) (fun c21 => ?_)
      · skip
        refine a_iconst (z := (-1)) 41 dX12_road_40 rfl (zrl rfl) rfl ?_
        refine a_ireturn dX12_road_41 rfl ⟨Nat.zero_le _, Nat.zero_le _⟩ ?_
        first | exact Or.inl ⟨by omega, rfl, rfl⟩ | exact Or.inr ⟨by omega, rfl, rfl⟩
      · skip
        refine a_iload_n 25 dX12_road_24 rfl rfl ?_
        refine a_bipush (z := (-9)) 27 dX12_road_25 rfl (zrl rfl) rfl ?_
        refine a_icmp_eq 42 30 dX12_road_27 (by decide) rfl (fun c27 => ?_) (fun c27 => ?_)
        · skip
          refine a_aload_n 43 dX12_road_42 rfl rfl ?_
          refine a_getR 46 dX12_road_43 fX12_52 hM.1 rfl (mr_20 hM).1 rfl ?_
          refine a_bipush (z := 6) 48 dX12_road_46 rfl (zrl rfl) rfl ?_
          refine a_iload_n 49 dX12_road_48 rfl rfl ?_
          refine a_imul 50 dX12_road_49 (by unfold zr; omega) rfl ?_
          refine a_iload_n 51 dX12_road_50 rfl rfl ?_
          refine a_iadd 52 dX12_road_51 (by unfold zr; omega) rfl ?_
          refine a_iald 53 dX12_road_52 (mr_20 hM).2 (by omega) (by omega) rfl ?_
          refine a_istore 55 dX12_road_53 (by decide) rfl rfl ?_
          refine a_aload_n 56 dX12_road_55 rfl rfl ?_
          refine a_getR 59 dX12_road_56 fX12_52 hM.1 rfl (mr_20 hM).1 rfl ?_
          refine a_bipush (z := 6) 61 dX12_road_59 rfl (zrl rfl) rfl ?_
          refine a_iload_n 62 dX12_road_61 rfl rfl ?_
          refine a_imul 63 dX12_road_62 (by unfold zr; omega) rfl ?_
          refine a_iload_n 64 dX12_road_63 rfl rfl ?_
          refine a_iadd 65 dX12_road_64 (by unfold zr; omega) rfl ?_
          refine a_iload_n 66 dX12_road_65 rfl rfl ?_
          refine a_iast 67 dX12_road_66 (mr_20 hM).2 (by omega) (by omega) rfl ?_
          refine a_aload_n 68 dX12_road_67 rfl rfl ?_
          refine a_getR 71 dX12_road_68 fX12_52 hM.1 rfl (mr_20 hM).1 rfl ?_
          refine a_bipush (z := 6) 73 dX12_road_71 rfl (zrl rfl) rfl ?_
          refine a_iload_n 74 dX12_road_73 rfl rfl ?_
          refine a_imul 75 dX12_road_74 (by unfold zr; omega) rfl ?_
          refine a_iload_n 76 dX12_road_75 rfl rfl ?_
          refine a_iadd 77 dX12_road_76 (by unfold zr; omega) rfl ?_
          refine a_iload_n 78 dX12_road_77 rfl rfl ?_
          refine a_iast 79 dX12_road_78 (mr_20 hM).2 (by omega) (by omega) rfl ?_
          refine a_iload 81 dX12_road_79 rfl rfl ?_
          refine a_ireturn dX12_road_81 rfl ⟨Nat.zero_le _, Nat.zero_le _⟩ ?_
          first | exact Or.inl ⟨by omega, rfl, rfl⟩ | exact Or.inr ⟨by omega, rfl, rfl⟩
        · skip
          refine a_iload_n 31 dX12_road_30 rfl rfl ?_
          refine a_iconst (z := 1) 32 dX12_road_31 rfl (zrl rfl) rfl ?_
          refine a_bipush (z := 30) 34 dX12_road_32 rfl (zrl rfl) rfl ?_
          refine a_callS 37 (r_in _ _ _ _) cdX12_in lX12_84 dX12_road_34 rfl rfl ⟨by decide, by decide, rfl, rfl⟩ ⟨Nat.zero_le _, Nat.zero_le _⟩ (Nat.le_of_ble_eq_true rfl) rfl ?_
          rintro _ _ - ⟨b34, rfl, rfl, h34⟩ -
          refine a_if_ne 42 40 dX12_road_37 (by decide) rfl (fun c37 => ?_) (fun c37 => ?_)
          · skip
            refine a_aload_n 43 dX12_road_42 rfl rfl ?_
            refine a_getR 46 dX12_road_43 fX12_52 hM.1 rfl (mr_20 hM).1 rfl ?_
            refine a_bipush (z := 6) 48 dX12_road_46 rfl (zrl rfl) rfl ?_
            refine a_iload_n 49 dX12_road_48 rfl rfl ?_
            refine a_imul 50 dX12_road_49 (by unfold zr; omega) rfl ?_
            refine a_iload_n 51 dX12_road_50 rfl rfl ?_
            refine a_iadd 52 dX12_road_51 (by unfold zr; omega) rfl ?_
            refine a_iald 53 dX12_road_52 (mr_20 hM).2 (by omega) (by omega) rfl ?_
            refine a_istore 55 dX12_road_53 (by decide) rfl rfl ?_
            refine a_aload_n 56 dX12_road_55 rfl rfl ?_
            refine a_getR 59 dX12_road_56 fX12_52 hM.1 rfl (mr_20 hM).1 rfl ?_
            refine a_bipush (z := 6) 61 dX12_road_59 rfl (zrl rfl) rfl ?_
            refine a_iload_n 62 dX12_road_61 rfl rfl ?_
            refine a_imul 63 dX12_road_62 (by unfold zr; omega) rfl ?_
            refine a_iload_n 64 dX12_road_63 rfl rfl ?_
            refine a_iadd 65 dX12_road_64 (by unfold zr; omega) rfl ?_
            refine a_iload_n 66 dX12_road_65 rfl rfl ?_
            refine a_iast 67 dX12_road_66 (mr_20 hM).2 (by omega) (by omega) rfl ?_
            refine a_aload_n 68 dX12_road_67 rfl rfl ?_
            refine a_getR 71 dX12_road_68 fX12_52 hM.1 rfl (mr_20 hM).1 rfl ?_
            refine a_bipush (z := 6) 73 dX12_road_71 rfl (zrl rfl) rfl ?_
            refine a_iload_n 74 dX12_road_73 rfl rfl ?_
            refine a_imul 75 dX12_road_74 (by unfold zr; omega) rfl ?_
            refine a_iload_n 76 dX12_road_75 rfl rfl ?_
            refine a_iadd 77 dX12_road_76 (by unfold zr; omega) rfl ?_
            refine a_iload_n 78 dX12_road_77 rfl rfl ?_
            refine a_iast 79 dX12_road_78 (mr_20 hM).2 (by omega) (by omega) rfl ?_
            refine a_iload 81 dX12_road_79 rfl rfl ?_
            refine a_ireturn dX12_road_81 rfl ⟨Nat.zero_le _, Nat.zero_le _⟩ ?_
            first | exact Or.inl ⟨by omega, rfl, rfl⟩ | exact Or.inr ⟨by omega, rfl, rfl⟩
          · skip
            refine a_iconst (z := (-1)) 41 dX12_road_40 rfl (zrl rfl) rfl ?_
            refine a_ireturn dX12_road_41 rfl ⟨Nat.zero_le _, Nat.zero_le _⟩ ?_
            first | exact Or.inl ⟨by omega, rfl, rfl⟩ | exact Or.inr ⟨by omega, rfl, rfl⟩
set_option maxHeartbeats 4000000 in
set_option maxRecDepth 100000 in
theorem r_about (g : GH) (m w : Int) (hM : MR g) (hV : MV g.2.1) : AMet mX12_about g [vA 1000, vI m, vI w] (fun r g' => (((0 ≤ m ∧ m < (gI g 1000 0 0).2.1 1000 13) ∧ (0 ≤ w ∧ w ≤ 4)) ∧ r = vI ((gI g 1000 0 0).2.1 1014 (if w < 3 then 10 * m + w else if w = 3 then 10 * m + 8 else 10 * m + 9).toNat) ∧ g' = gI g 1000 0 0) ∨ (¬ ((0 ≤ m ∧ m < (gI g 1000 0 0).2.1 1000 13) ∧ (0 ≤ w ∧ w ≤ 4)) ∧ r = vI (-1) ∧ g' = gI g 1000 0 0)) := by
  refine AMet.of [vA 1000, vI m, vI w, none] (by decide) rfl (Nat.le_of_ble_eq_true rfl) ?_
  refine a_aload_n 1 dX12_about_0 rfl rfl ?_
  refine a_iconst (z := 0) 2 dX12_about_1 rfl (zrl rfl) rfl ?_
  refine a_putI 5 dX12_about_2 fX12_80 (Or.inl rfl) hM.1 (Or.inl rfl) rfl ?_
  have hM : MR (gI g 1000 0 0) := hM
  have hV : MV (gI g 1000 0 0).2.1 := MV_th hV
  have hc := hV.1
  unfold MVc at hc
  generalize gI g 1000 0 0 = g1 at hM hV hc ⊢
  refine a_aload_n 6 dX12_about_5 rfl rfl ?_
  refine a_iload_n 7 dX12_about_6 rfl rfl ?_
  refine a_callV 10 (r_isMark _ _ hM (by omega)) cdX12_isMark lX12_111 dX12_about_7 rfl hM.1 rfl ⟨by decide, by decide, rfl, rfl⟩ ⟨Nat.zero_le _, Nat.zero_le _⟩ (Nat.le_of_ble_eq_true rfl) rfl ?_
  rintro _ _ - ⟨b7, rfl, rfl, h7⟩ -
  refine a_if_eq 22 13 dX12_about_10 (by decide) rfl (fun c10 => ?_) (fun c10 => ?_)
  · skip
    refine a_iconst (z := (-1)) 23 dX12_about_22 rfl (zrl rfl) rfl ?_
    refine a_ireturn dX12_about_23 rfl ⟨Nat.zero_le _, Nat.zero_le _⟩ ?_
    first | exact Or.inr ⟨by omega, rfl, rfl⟩ | exact Or.inl ⟨by omega, congrArg vI (congrArg (fun z : Int => g1.2.1 1014 z.toNat) (by split <;> (try split) <;> omega)), rfl⟩
  · skip
    refine a_iload_n 14 dX12_about_13 rfl rfl ?_
    refine a_iconst (z := 0) 15 dX12_about_14 rfl (zrl rfl) rfl ?_
    refine a_iconst (z := 4) 16 dX12_about_15 rfl (zrl rfl) rfl ?_
    refine a_callS 19 (r_in _ _ _ _) cdX12_in lX12_84 dX12_about_16 rfl rfl ⟨by decide, by decide, rfl, rfl⟩ ⟨Nat.zero_le _, Nat.zero_le _⟩ (Nat.le_of_ble_eq_true rfl) rfl ?_
    rintro _ _ - ⟨b16, rfl, rfl, h16⟩ -
    refine a_if_ne 24 22 dX12_about_19 (by decide) rfl (fun c19 => ?_) (fun c19 => ?_)
    · skip
      refine a_bipush (z := 10) 26 dX12_about_24 rfl (zrl rfl) rfl ?_
      refine a_iload_n 27 dX12_about_26 rfl rfl ?_
      refine a_imul 28 dX12_about_27 (by unfold zr; omega) rfl ?_
      refine a_istore_n 29 dX12_about_28 (by decide) rfl rfl ?_
      refine a_iload_n 30 dX12_about_29 rfl rfl ?_
      refine a_iconst (z := 3) 31 dX12_about_30 rfl (zrl rfl) rfl ?_
      refine a_icmp_ge 45 34 dX12_about_31 (by decide) rfl (fun c31 => ?_) (fun c31 => ?_)
      · skip
        refine a_iload_n 46 dX12_about_45 rfl rfl ?_
        refine a_iconst (z := 3) 47 dX12_about_46 rfl (zrl rfl) rfl ?_
        refine a_icmp_ne 62 50 dX12_about_47 (by decide) rfl (fun c47 => ?_) (fun c47 => ?_)
        · skip
          refine a_aload_n 63 dX12_about_62 rfl rfl ?_
          refine a_getR 66 dX12_about_63 fX12_37 hM.1 rfl (mr_14 hM).1 rfl ?_
          refine a_iload_n 67 dX12_about_66 rfl rfl ?_
          refine a_bipush (z := 9) 69 dX12_about_67 rfl (zrl rfl) rfl ?_
          refine a_iadd 70 dX12_about_69 (by unfold zr; omega) rfl ?_
          refine a_iald 71 dX12_about_70 (mr_14 hM).2 (by omega) (by omega) rfl ?_
          refine a_ireturn dX12_about_71 rfl ⟨Nat.zero_le _, Nat.zero_le _⟩ ?_
          first | exact Or.inr ⟨by omega, rfl, rfl⟩ | exact Or.inl ⟨by omega, congrArg vI (congrArg (fun z : Int => g1.2.1 1014 z.toNat) (by split <;> (try split) <;> omega)), rfl⟩
        · skip
          refine a_aload_n 51 dX12_about_50 rfl rfl ?_
          refine a_getR 54 dX12_about_51 fX12_37 hM.1 rfl (mr_14 hM).1 rfl ?_
          refine a_iload_n 55 dX12_about_54 rfl rfl ?_
          refine a_bipush (z := 8) 57 dX12_about_55 rfl (zrl rfl) rfl ?_
          refine a_iadd 58 dX12_about_57 (by unfold zr; omega) rfl ?_
          refine a_iald 59 dX12_about_58 (mr_14 hM).2 (by omega) (by omega) rfl ?_
          refine a_goto 71 dX12_about_59 (by decide) ?_
          refine a_ireturn dX12_about_71 rfl ⟨Nat.zero_le _, Nat.zero_le _⟩ ?_
          first | exact Or.inr ⟨by omega, rfl, rfl⟩ | exact Or.inl ⟨by omega, congrArg vI (congrArg (fun z : Int => g1.2.1 1014 z.toNat) (by split <;> (try split) <;> omega)), rfl⟩
      · skip
        refine a_aload_n 35 dX12_about_34 rfl rfl ?_
        refine a_getR 38 dX12_about_35 fX12_37 hM.1 rfl (mr_14 hM).1 rfl ?_
        refine a_iload_n 39 dX12_about_38 rfl rfl ?_
        refine a_iload_n 40 dX12_about_39 rfl rfl ?_
        refine a_iadd 41 dX12_about_40 (by unfold zr; omega) rfl ?_
        refine a_iald 42 dX12_about_41 (mr_14 hM).2 (by omega) (by omega) rfl ?_
        refine a_goto 71 dX12_about_42 (by decide) ?_
        refine a_ireturn dX12_about_71 rfl ⟨Nat.zero_le _, Nat.zero_le _⟩ ?_
        first | exact Or.inr ⟨by omega, rfl, rfl⟩ | exact Or.inl ⟨by omega, congrArg vI (congrArg (fun z : Int => g1.2.1 1014 z.toNat) (by split <;> (try split) <;> omega)), rfl⟩
    · skip
      refine a_iconst (z := (-1)) 23 dX12_about_22 rfl (zrl rfl) rfl ?_
      refine a_ireturn dX12_about_23 rfl ⟨Nat.zero_le _, Nat.zero_le _⟩ ?_
      first | exact Or.inr ⟨by omega, rfl, rfl⟩ | exact Or.inl ⟨by omega, congrArg vI (congrArg (fun z : Int => g1.2.1 1014 z.toNat) (by split <;> (try split) <;> omega)), rfl⟩
set_option maxHeartbeats 4000000 in
set_option maxRecDepth 100000 in
theorem r_can (g : GH) (m d : Int) (hM : MR g) (hV : MV g.2.1) : AMet mX12_can g [vA 1000, vI m, vI d] (fun r g' => (((0 ≤ m ∧ m < (gI g 1000 0 0).2.1 1000 13) ∧ (0 ≤ d ∧ d ≤ 999)) ∧ (∃ b, r = vI b ∧ isb b (canB (gI g 1000 0 0).2.1 m d)) ∧ g' = gI g 1000 0 0) ∨ (¬ ((0 ≤ m ∧ m < (gI g 1000 0 0).2.1 1000 13) ∧ (0 ≤ d ∧ d ≤ 999)) ∧ r = vI (-1) ∧ g' = gI g 1000 0 0)) := by
  refine AMet.of [vA 1000, vI m, vI d] (by decide) rfl (Nat.le_of_ble_eq_true rfl) ?_
  refine a_aload_n 1 dX12_can_0 rfl rfl ?_
  refine a_iconst (z := 0) 2 dX12_can_1 rfl (zrl rfl) rfl ?_
  refine a_putI 5 dX12_can_2 fX12_80 (Or.inl rfl) hM.1 (Or.inl rfl) rfl ?_
  have hM : MR (gI g 1000 0 0) := hM
  have hV : MV (gI g 1000 0 0).2.1 := MV_th hV
  have hc := hV.1
  unfold MVc at hc
  generalize gI g 1000 0 0 = g1 at hM hV hc ⊢
  refine a_aload_n 6 dX12_can_5 rfl rfl ?_
  refine a_iload_n 7 dX12_can_6 rfl rfl ?_
  refine a_callV 10 (r_isMark _ _ hM (by omega)) cdX12_isMark lX12_111 dX12_can_7 rfl hM.1 rfl ⟨by decide, by decide, rfl, rfl⟩ ⟨Nat.zero_le _, Nat.zero_le _⟩ (Nat.le_of_ble_eq_true rfl) rfl ?_
  rintro _ _ - ⟨b7, rfl, rfl, h7⟩ -
  refine a_if_eq 20 13 dX12_can_10 (by decide) rfl (fun c10 => ?_) (fun c10 => ?_)
  · skip
    refine a_iconst (z := (-1)) 21 dX12_can_20 rfl (zrl rfl) rfl ?_
    refine a_goto 38 dX12_can_21 (by decide) ?_
    refine a_ireturn dX12_can_38 rfl ⟨Nat.zero_le _, Nat.zero_le _⟩ ?_
    first | exact Or.inr ⟨by omega, rfl, rfl⟩ | exact Or.inl ⟨by omega, ⟨_, rfl, by grind⟩, rfl⟩
  · skip
    refine a_iload_n 14 dX12_can_13 rfl rfl ?_
    refine a_callS 17 (r_isDay _ _) cdX12_isDay lX12_95 dX12_can_14 rfl rfl ⟨by decide, by decide, rfl, rfl⟩ ⟨Nat.zero_le _, Nat.zero_le _⟩ (Nat.le_of_ble_eq_true rfl) rfl ?_
    rintro _ _ - ⟨b14, rfl, rfl, h14⟩ -
    refine a_if_ne 24 20 dX12_can_17 (by decide) rfl (fun c17 => ?_) (fun c17 => ?_)
    · skip
      refine a_aload_n 25 dX12_can_24 rfl rfl ?_
      refine a_iload_n 26 dX12_can_25 rfl rfl ?_
      refine a_iload_n 27 dX12_can_26 rfl rfl ?_
      refine a_callV 30 (r_canBe _ _ _ hM hV (by omega) (by omega)) cdX12_canBe lX12_128 dX12_can_27 rfl hM.1 rfl ⟨by decide, by decide, rfl, rfl⟩ ⟨Nat.zero_le _, Nat.zero_le _⟩ (Nat.le_of_ble_eq_true rfl) rfl ?_
      rintro _ _ - ⟨b27, rfl, rfl, h27⟩ -
      refine a_if_eq 37 33 dX12_can_30 (by decide) rfl (fun c30 => ?_) (fun c30 => ?_)
      · skip
        refine a_iconst (z := 0) 38 dX12_can_37 rfl (zrl rfl) rfl ?_
        refine a_ireturn dX12_can_38 rfl ⟨Nat.zero_le _, Nat.zero_le _⟩ ?_
        first | exact Or.inr ⟨by omega, rfl, rfl⟩ | exact Or.inl ⟨by omega, ⟨_, rfl, by grind⟩, rfl⟩
      · skip
        refine a_iconst (z := 1) 34 dX12_can_33 rfl (zrl rfl) rfl ?_
        refine a_goto 38 dX12_can_34 (by decide) ?_
        refine a_ireturn dX12_can_38 rfl ⟨Nat.zero_le _, Nat.zero_le _⟩ ?_
        first | exact Or.inr ⟨by omega, rfl, rfl⟩ | exact Or.inl ⟨by omega, ⟨_, rfl, by grind⟩, rfl⟩
    · skip
      refine a_iconst (z := (-1)) 21 dX12_can_20 rfl (zrl rfl) rfl ?_
      refine a_goto 38 dX12_can_21 (by decide) ?_
      refine a_ireturn dX12_can_38 rfl ⟨Nat.zero_le _, Nat.zero_le _⟩ ?_
      first | exact Or.inr ⟨by omega, rfl, rfl⟩ | exact Or.inl ⟨by omega, ⟨_, rfl, by grind⟩, rfl⟩
set_option maxHeartbeats 4000000 in
set_option maxRecDepth 100000 in
theorem r_clear (g : GH) (hM : MR g) (hV : MV g.2.1) : AMet mX12_clear g [vA 1000] (fun r g' => r = vI ((gI g 1000 0 0).2.1 1000 29) ∧ g' = gI (gI g 1000 0 0) 1000 29 0) := by
  refine AMet.of [vA 1000, none] (by decide) rfl (Nat.le_of_ble_eq_true rfl) ?_
  refine a_aload_n 1 dX12_clear_0 rfl rfl ?_
  refine a_iconst (z := 0) 2 dX12_clear_1 rfl (zrl rfl) rfl ?_
  refine a_putI 5 dX12_clear_2 fX12_80 (Or.inl rfl) hM.1 (Or.inl rfl) rfl ?_
  have hM : MR (gI g 1000 0 0) := hM
  have hV : MV (gI g 1000 0 0).2.1 := MV_th hV
  have hc := hV.1
  unfold MVc at hc
  generalize gI g 1000 0 0 = g1 at hM hV hc ⊢
  refine a_aload_n 6 dX12_clear_5 rfl rfl ?_
  refine a_getIz (g1.2.1 1000 29) 9 dX12_clear_6 fX12_168 hM.1 rfl rfl rfl ?_
  refine a_istore_n 10 dX12_clear_9 (by decide) rfl rfl ?_
  refine a_aload_n 11 dX12_clear_10 rfl rfl ?_
  refine a_iconst (z := 0) 12 dX12_clear_11 rfl (zrl rfl) rfl ?_
  refine a_putI 15 dX12_clear_12 fX12_168 (Or.inl rfl) hM.1 (Or.inl rfl) rfl ?_
  refine a_iload_n 16 dX12_clear_15 rfl rfl ?_
  refine a_ireturn dX12_clear_16 rfl ⟨Nat.zero_le _, Nat.zero_le _⟩ ?_
  exact ⟨rfl, rfl⟩
set_option maxHeartbeats 4000000 in
set_option maxRecDepth 100000 in
theorem r_trace (g : GH) (hM : MR g) (hV : MV g.2.1) : AMet mX12_trace g [vA 1000] (fun r g' => r = vL ((gI g 1000 0 0).2.2.1 1000 1) ∧ g' = gI g 1000 0 0) := by
  refine AMet.of [vA 1000] (by decide) rfl (Nat.le_of_ble_eq_true rfl) ?_
  refine a_aload_n 1 dX12_trace_0 rfl rfl ?_
  refine a_iconst (z := 0) 2 dX12_trace_1 rfl (zrl rfl) rfl ?_
  refine a_putI 5 dX12_trace_2 fX12_80 (Or.inl rfl) hM.1 (Or.inl rfl) rfl ?_
  have hM : MR (gI g 1000 0 0) := hM
  have hV : MV (gI g 1000 0 0).2.1 := MV_th hV
  have hc := hV.1
  unfold MVc at hc
  generalize gI g 1000 0 0 = g1 at hM hV hc ⊢
  refine a_aload_n 6 dX12_trace_5 rfl rfl ?_
  refine a_getL 9 dX12_trace_6 fX12_114 hM.1 rfl rfl ?_
  refine a_lreturn dX12_trace_9 rfl ⟨Nat.zero_le _, Nat.zero_le _⟩ ?_
  exact ⟨rfl, rfl⟩
set_option maxHeartbeats 4000000 in
set_option maxRecDepth 100000 in
theorem r_townOf (g : GH) (m : Int) (hM : MR g) (hV : MV g.2.1) (hm : 0 ≤ m ∧ m < g.2.1 1000 13) (hd : g.2.1 1014 (10 * m + 2).toNat ≠ -9) : AMet mX12_townOf g [vA 1000, vI m] (pZ g (g.2.1 1004 (g.2.1 1008 (g.2.1 1014 (10 * m + 2).toNat).toNat).toNat)) := by
  refine AMet.of [vA 1000, vI m] (by decide) rfl (Nat.le_of_ble_eq_true rfl) ?_
  have hc := hV.1
  unfold MVc at hc
  have hm9 := hV.2.2.2.1 m hm.1 hm.2
  have hd9 := hV.2.2.1.at (i := g.2.1 1014 (10 * m + 2).toNat) (by omega) (by omega)
  refine a_aload_n 1 dX12_townOf_0 rfl rfl ?_
  refine a_getR 4 dX12_townOf_1 fX12_13 hM.1 rfl (mr_4 hM).1 rfl ?_
  refine a_aload_n 5 dX12_townOf_4 rfl rfl ?_
  refine a_getR 8 dX12_townOf_5 fX12_22 hM.1 rfl (mr_8 hM).1 rfl ?_
  refine a_aload_n 9 dX12_townOf_8 rfl rfl ?_
  refine a_getR 12 dX12_townOf_9 fX12_37 hM.1 rfl (mr_14 hM).1 rfl ?_
  refine a_bipush (z := 10) 14 dX12_townOf_12 rfl (zrl rfl) rfl ?_
  refine a_iload_n 15 dX12_townOf_14 rfl rfl ?_
  refine a_imul 16 dX12_townOf_15 (by unfold zr; omega) rfl ?_
  refine a_iconst (z := 2) 17 dX12_townOf_16 rfl (zrl rfl) rfl ?_
  refine a_iadd 18 dX12_townOf_17 (by unfold zr; omega) rfl ?_
  refine a_iald 19 dX12_townOf_18 (mr_14 hM).2 (by omega) (by omega) rfl ?_
  refine a_iald 20 dX12_townOf_19 (mr_8 hM).2 (by omega) (by omega) rfl ?_
  refine a_iald 21 dX12_townOf_20 (mr_4 hM).2 (by omega) (by omega) rfl ?_
  refine a_ireturn dX12_townOf_21 rfl ⟨Nat.zero_le _, Nat.zero_le _⟩ ?_
  exact ⟨rfl, rfl⟩
