set_option maxHeartbeats 4000000 in
set_option maxRecDepth 100000 in
theorem r_spanOf (g : GH) (m : Int) (hM : MR g) (hV : MV g.2.1) (hm : 0 ≤ m ∧ m < g.2.1 1000 13) : AMet mX12_spanOf g [vA 1000, vI m] (pZ g (cnt (canB g.2.1 m) 1000)) := by
  refine AMet.of [vA 1000, vI m, none, none] (by decide) rfl (Nat.le_of_ble_eq_true rfl) ?_
  have hc := hV.1
  unfold MVc at hc
  refine a_iconst (z := 0) 1 dX12_spanOf_0 rfl (zrl rfl) rfl ?_
  refine a_istore_n 2 dX12_spanOf_1 (by decide) rfl rfl ?_
  refine a_iconst (z := 0) 3 dX12_spanOf_2 rfl (zrl rfl) rfl ?_
  refine a_istore_n 4 dX12_spanOf_3 (by decide) rfl rfl ?_
  refine AW.loop (α := Nat) (fun p => 1000 - p) (fun p => p ≤ 1000) (fun p => g) (fun p => [vA 1000, vI m, vI (cnt (canB g.2.1 m) p), vI (p : Int)]) (fun p => []) ?_ 0 ?_
  · intro d hI ih
    try dsimp only at hI ih ⊢
    have hb := cnt_le (canB g.2.1 m) d
    refine a_iload_n 5 dX12_spanOf_4 rfl rfl ?_
    refine a_sipush (z := 999) 8 dX12_spanOf_5 rfl (zrl rfl) rfl ?_
    refine a_icmp_gt 34 11 dX12_spanOf_8 (by decide) rfl (fun c8 => ?_) (fun c8 => ?_)
    · skip
      refine a_iload_n 35 dX12_spanOf_34 rfl rfl ?_
      refine a_ireturn dX12_spanOf_35 rfl ⟨Nat.zero_le _, Nat.zero_le _⟩ ?_
      have e : d = 1000 := by omega
      subst e
      exact ⟨rfl, rfl⟩
    · skip
      refine a_iload_n 12 dX12_spanOf_11 rfl rfl ?_
      refine AW.cut (J := 26) (P := fun z => z = ci (canB g.2.1 m d)) ?_ (fun J26 => ?_)
      · intro z26 h26
        have h9 := ci_01 (canB g.2.1 m d)
        refine a_iadd 27 dX12_spanOf_26 (by unfold zr; omega) rfl ?_
        refine a_istore_n 28 dX12_spanOf_27 (by decide) rfl rfl ?_
        refine a_iinc 31 dX12_spanOf_28 rfl (by unfold zr; omega) (by decide) rfl rfl ?_
        refine a_goto 4 dX12_spanOf_31 (by decide) ?_
        have e : cnt (canB g.2.1 m) d + z26 = cnt (canB g.2.1 m) (d + 1) := by show _ = cnt (canB g.2.1 m) d + ci _; rw [h26]
        rw [e]
        exact ih (d + 1) (by omega) (by omega)
      · skip
        refine a_aload_n 13 dX12_spanOf_12 rfl rfl ?_
        refine a_iload_n 14 dX12_spanOf_13 rfl rfl ?_
        refine a_iload_n 15 dX12_spanOf_14 rfl rfl ?_
        refine a_callV 18 (r_canBe _ _ _ hM hV (by omega) (by omega)) cdX12_canBe lX12_128 dX12_spanOf_15 rfl hM.1 rfl ⟨by decide, by decide, rfl, rfl⟩ ⟨Nat.zero_le _, Nat.zero_le _⟩ (Nat.le_of_ble_eq_true rfl) rfl ?_
        rintro _ _ - ⟨b15, rfl, rfl, h15⟩ -
        refine a_if_eq 25 21 dX12_spanOf_18 (by decide) rfl (fun c18 => ?_) (fun c18 => ?_)
        · skip
          refine a_iconst (z := 0) 26 dX12_spanOf_25 rfl (zrl rfl) rfl ?_
          exact J26 _ (by first | exact ci1 h15 c18 | exact ci0 h15 c18)
        · skip
          refine a_iconst (z := 1) 22 dX12_spanOf_21 rfl (zrl rfl) rfl ?_
          refine a_goto 26 dX12_spanOf_22 (by decide) ?_
          exact J26 _ (by first | exact ci1 h15 c18 | exact ci0 h15 c18)
  · exact Nat.zero_le _
set_option maxHeartbeats 4000000 in
set_option maxRecDepth 100000 in
theorem r_ones (g : GH) (x : Int) (hx : 0 ≤ x) : AMet mX12_ones g [vI x] (pZ g (onesU x 10)) := by
  refine AMet.of [vI x, none, none] (by decide) rfl (Nat.le_of_ble_eq_true rfl) ?_
  refine a_iconst (z := 0) 1 dX12_ones_0 rfl (zrl rfl) rfl ?_
  refine a_istore_n 2 dX12_ones_1 (by decide) rfl rfl ?_
  refine a_iconst (z := 0) 3 dX12_ones_2 rfl (zrl rfl) rfl ?_
  refine a_istore_n 4 dX12_ones_3 (by decide) rfl rfl ?_
  refine AW.loop (α := Nat) (fun p => 10 - p) (fun p => p ≤ 10) (fun p => g) (fun p => [vI x, vI (onesU x p), vI (p : Int)]) (fun p => []) ?_ 0 ?_
  · intro d hI ih
    try dsimp only at hI ih ⊢
    have hb := onesU_le x d
    refine a_iload_n 5 dX12_ones_4 rfl rfl ?_
    refine a_bipush (z := 10) 7 dX12_ones_5 rfl (zrl rfl) rfl ?_
    refine a_icmp_ge 24 10 dX12_ones_7 (by decide) rfl (fun c7 => ?_) (fun c7 => ?_)
    · skip
      refine a_iload_n 25 dX12_ones_24 rfl rfl ?_
      refine a_ireturn dX12_ones_25 rfl ⟨Nat.zero_le _, Nat.zero_le _⟩ ?_
      have e : d = 10 := by omega
      subst e
      exact ⟨rfl, rfl⟩
    · skip
      refine a_iload_n 11 dX12_ones_10 rfl rfl ?_
      refine a_iload_n 12 dX12_ones_11 rfl rfl ?_
      refine a_iload_n 13 dX12_ones_12 rfl rfl ?_
      refine a_ishr (x / 2 ^ d) 14 dX12_ones_13 (v_shr (y := (d : Int)) hx (by omega) (by omega)) rfl ?_
      refine a_iconst (z := 1) 15 dX12_ones_14 rfl (zrl rfl) rfl ?_
      refine a_iand _ 16 dX12_ones_15 v_and1 rfl ?_
      refine a_iadd 17 dX12_ones_16 (by unfold zr; omega) rfl ?_
      refine a_istore_n 18 dX12_ones_17 (by decide) rfl rfl ?_
      refine a_iinc 21 dX12_ones_18 rfl (by unfold zr; omega) (by decide) rfl rfl ?_
      refine a_goto 4 dX12_ones_21 (by decide) ?_
      exact ih (d + 1) (by omega) (by omega)
  · exact Nat.zero_le _
set_option maxHeartbeats 4000000 in
set_option maxRecDepth 100000 in
theorem r_name (g : GH) (a b c d : Int) (h : (0 ≤ a ∧ a ≤ 127) ∧ (0 ≤ b ∧ b ≤ 255) ∧ (0 ≤ c ∧ c ≤ 255) ∧ (0 ≤ d ∧ d ≤ 255)) : AMet mX12_name g [vI a, vI b, vI c, vI d] (pZ g (if d = 0 then 256 * (256 * a + b) + c else 256 * (256 * (256 * a + b) + c) + d)) := by
  refine AMet.of [vI a, vI b, vI c, vI d, none] (by decide) rfl (Nat.le_of_ble_eq_true rfl) ?_
  refine a_sipush (z := 256) 3 dX12_name_0 rfl (zrl rfl) rfl ?_
  refine a_sipush (z := 256) 6 dX12_name_3 rfl (zrl rfl) rfl ?_
  refine a_iload_n 7 dX12_name_6 rfl rfl ?_
  refine a_imul 8 dX12_name_7 (by unfold zr; omega) rfl ?_
  refine a_iload_n 9 dX12_name_8 rfl rfl ?_
  refine a_iadd 10 dX12_name_9 (by unfold zr; omega) rfl ?_
  refine a_imul 11 dX12_name_10 (by unfold zr; omega) rfl ?_
  refine a_iload_n 12 dX12_name_11 rfl rfl ?_
  refine a_iadd 13 dX12_name_12 (by unfold zr; omega) rfl ?_
  refine a_istore 15 dX12_name_13 (by decide) rfl rfl ?_
  refine a_iload_n 16 dX12_name_15 rfl rfl ?_
  refine a_if_ne 24 19 dX12_name_16 (by decide) rfl (fun c16 => ?_) (fun c16 => ?_)
  · skip
    refine a_sipush (z := 256) 27 dX12_name_24 rfl (zrl rfl) rfl ?_
    refine a_iload 29 dX12_name_27 rfl rfl ?_
    refine a_imul 30 dX12_name_29 (by unfold zr; omega) rfl ?_
    refine a_iload_n 31 dX12_name_30 rfl rfl ?_
    refine a_iadd 32 dX12_name_31 (by unfold zr; omega) rfl ?_
    refine a_ireturn dX12_name_32 rfl ⟨Nat.zero_le _, Nat.zero_le _⟩ ?_
    first | exact ⟨by rw [if_pos (by omega)], rfl⟩ | exact ⟨by rw [if_neg (by omega)], rfl⟩
  · skip
    refine a_iload 21 dX12_name_19 rfl rfl ?_
    refine a_goto 32 dX12_name_21 (by decide) ?_
    refine a_ireturn dX12_name_32 rfl ⟨Nat.zero_le _, Nat.zero_le _⟩ ?_
    first | exact ⟨by rw [if_pos (by omega)], rfl⟩ | exact ⟨by rw [if_neg (by omega)], rfl⟩
def wOf (v : Int) : Int := if v = 1918989413 then 0 else if v = 7366002 then 1 else if v = 1885434484 then 2 else if v = 6583653 then 3 else -9
set_option maxHeartbeats 4000000 in
set_option maxRecDepth 100000 in
theorem r_wordOf (g : GH) (v : Int)  : AMet mX12_wordOf g [vI v] (pZ g (wOf v)) := by
  refine AMet.of [vI v] (by decide) rfl (Nat.le_of_ble_eq_true rfl) ?_
  refine a_iload_n 1 dX12_wordOf_0 rfl rfl ?_
  refine a_bipush (z := 114) 3 dX12_wordOf_1 rfl (zrl rfl) rfl ?_
  refine a_bipush (z := 97) 5 dX12_wordOf_3 rfl (zrl rfl) rfl ?_
  refine a_bipush (z := 116) 7 dX12_wordOf_5 rfl (zrl rfl) rfl ?_
  refine a_bipush (z := 101) 9 dX12_wordOf_7 rfl (zrl rfl) rfl ?_
  refine a_callS 12 (r_name _ _ _ _ _ (by omega)) cdX12_name lX12_173 dX12_wordOf_9 rfl rfl ⟨by decide, by decide, rfl, rfl⟩ ⟨Nat.zero_le _, Nat.zero_le _⟩ (Nat.le_of_ble_eq_true rfl) rfl ?_
  rintro _ _ - ⟨rfl, rfl⟩ -
  refine a_icmp_ne 19 15 dX12_wordOf_12 (by decide) rfl (fun c12 => ?_) (fun c12 => ?_)
  · skip
    refine a_iload_n 20 dX12_wordOf_19 rfl rfl ?_
    refine a_bipush (z := 112) 22 dX12_wordOf_20 rfl (zrl rfl) rfl ?_
    refine a_bipush (z := 101) 24 dX12_wordOf_22 rfl (zrl rfl) rfl ?_
    refine a_bipush (z := 114) 26 dX12_wordOf_24 rfl (zrl rfl) rfl ?_
    refine a_iconst (z := 0) 27 dX12_wordOf_26 rfl (zrl rfl) rfl ?_
    refine a_callS 30 (r_name _ _ _ _ _ (by omega)) cdX12_name lX12_173 dX12_wordOf_27 rfl rfl ⟨by decide, by decide, rfl, rfl⟩ ⟨Nat.zero_le _, Nat.zero_le _⟩ (Nat.le_of_ble_eq_true rfl) rfl ?_
    rintro _ _ - ⟨rfl, rfl⟩ -
    refine a_icmp_ne 37 33 dX12_wordOf_30 (by decide) rfl (fun c30 => ?_) (fun c30 => ?_)
    · skip
      refine a_iload_n 38 dX12_wordOf_37 rfl rfl ?_
      refine a_bipush (z := 112) 40 dX12_wordOf_38 rfl (zrl rfl) rfl ?_
      refine a_bipush (z := 97) 42 dX12_wordOf_40 rfl (zrl rfl) rfl ?_
      refine a_bipush (z := 114) 44 dX12_wordOf_42 rfl (zrl rfl) rfl ?_
      refine a_bipush (z := 116) 46 dX12_wordOf_44 rfl (zrl rfl) rfl ?_
      refine a_callS 49 (r_name _ _ _ _ _ (by omega)) cdX12_name lX12_173 dX12_wordOf_46 rfl rfl ⟨by decide, by decide, rfl, rfl⟩ ⟨Nat.zero_le _, Nat.zero_le _⟩ (Nat.le_of_ble_eq_true rfl) rfl ?_
      rintro _ _ - ⟨rfl, rfl⟩ -
      refine a_icmp_ne 56 52 dX12_wordOf_49 (by decide) rfl (fun c49 => ?_) (fun c49 => ?_)
      · skip
        refine a_iload_n 57 dX12_wordOf_56 rfl rfl ?_
        refine a_bipush (z := 100) 59 dX12_wordOf_57 rfl (zrl rfl) rfl ?_
        refine a_bipush (z := 117) 61 dX12_wordOf_59 rfl (zrl rfl) rfl ?_
        refine a_bipush (z := 101) 63 dX12_wordOf_61 rfl (zrl rfl) rfl ?_
        refine a_iconst (z := 0) 64 dX12_wordOf_63 rfl (zrl rfl) rfl ?_
        refine a_callS 67 (r_name _ _ _ _ _ (by omega)) cdX12_name lX12_173 dX12_wordOf_64 rfl rfl ⟨by decide, by decide, rfl, rfl⟩ ⟨Nat.zero_le _, Nat.zero_le _⟩ (Nat.le_of_ble_eq_true rfl) rfl ?_
        rintro _ _ - ⟨rfl, rfl⟩ -
        refine a_icmp_ne 74 70 dX12_wordOf_67 (by decide) rfl (fun c67 => ?_) (fun c67 => ?_)
        · skip
          refine a_bipush (z := (-9)) 76 dX12_wordOf_74 rfl (zrl rfl) rfl ?_
          refine a_ireturn dX12_wordOf_76 rfl ⟨Nat.zero_le _, Nat.zero_le _⟩ ?_
          exact ⟨congrArg vI (by unfold wOf; repeat (first | rw [if_pos (by omega)] | rw [if_neg (by omega)])), rfl⟩
        · skip
          refine a_iconst (z := 3) 71 dX12_wordOf_70 rfl (zrl rfl) rfl ?_
          refine a_goto 76 dX12_wordOf_71 (by decide) ?_
          refine a_ireturn dX12_wordOf_76 rfl ⟨Nat.zero_le _, Nat.zero_le _⟩ ?_
          exact ⟨congrArg vI (by unfold wOf; repeat (first | rw [if_pos (by omega)] | rw [if_neg (by omega)])), rfl⟩
      · skip
        refine a_iconst (z := 2) 53 dX12_wordOf_52 rfl (zrl rfl) rfl ?_
        refine a_goto 76 dX12_wordOf_53 (by decide) ?_
        refine a_ireturn dX12_wordOf_76 rfl ⟨Nat.zero_le _, Nat.zero_le _⟩ ?_
        exact ⟨congrArg vI (by unfold wOf; repeat (first | rw [if_pos (by omega)] | rw [if_neg (by omega)])), rfl⟩
    · skip
      refine a_iconst (z := 1) 34 dX12_wordOf_33 rfl (zrl rfl) rfl ?_
      refine a_goto 76 dX12_wordOf_34 (by decide) ?_
      refine a_ireturn dX12_wordOf_76 rfl ⟨Nat.zero_le _, Nat.zero_le _⟩ ?_
      exact ⟨congrArg vI (by unfold wOf; repeat (first | rw [if_pos (by omega)] | rw [if_neg (by omega)])), rfl⟩
  · skip
    refine a_iconst (z := 0) 16 dX12_wordOf_15 rfl (zrl rfl) rfl ?_
    refine a_goto 76 dX12_wordOf_16 (by decide) ?_
    refine a_ireturn dX12_wordOf_76 rfl ⟨Nat.zero_le _, Nat.zero_le _⟩ ?_
    exact ⟨congrArg vI (by unfold wOf; repeat (first | rw [if_pos (by omega)] | rw [if_neg (by omega)])), rfl⟩
set_option maxHeartbeats 4000000 in
set_option maxRecDepth 100000 in
theorem r_marks (g : GH) (c d : Int) (hM : MR g) (hV : MV g.2.1) : AMet mX12_marks g [vA 1000, vI c, vI d] (fun r g' => (((0 ≤ c ∧ c ≤ 7) ∧ (0 ≤ d ∧ d ≤ 999)) ∧ r = vI (cnt (isOfB (gI g 1000 0 0).2.1 c d) ((gI g 1000 0 0).2.1 1000 13).toNat) ∧ g' = gI g 1000 0 0) ∨ (¬ ((0 ≤ c ∧ c ≤ 7) ∧ (0 ≤ d ∧ d ≤ 999)) ∧ r = vI (-1) ∧ g' = gI g 1000 0 0)) := by
  refine AMet.of [vA 1000, vI c, vI d, none, none] (by decide) rfl (Nat.le_of_ble_eq_true rfl) ?_
  refine a_aload_n 1 dX12_marks_0 rfl rfl ?_
  refine a_iconst (z := 0) 2 dX12_marks_1 rfl (zrl rfl) rfl ?_
  refine a_putI 5 dX12_marks_2 fX12_80 (Or.inl rfl) hM.1 (Or.inl rfl) rfl ?_
  have hM : MR (gI g 1000 0 0) := hM
  have hV : MV (gI g 1000 0 0).2.1 := MV_th hV
  have hc := hV.1
  unfold MVc at hc
  generalize gI g 1000 0 0 = g1 at hM hV hc ⊢
  refine a_iload_n 6 dX12_marks_5 rfl rfl ?_
  refine a_callS 9 (r_isCover _ _) cdX12_isCover lX12_104 dX12_marks_6 rfl rfl ⟨by decide, by decide, rfl, rfl⟩ ⟨Nat.zero_le _, Nat.zero_le _⟩ (Nat.le_of_ble_eq_true rfl) rfl ?_
  rintro _ _ - ⟨b6, rfl, rfl, h6⟩ -
  refine a_if_eq 19 12 dX12_marks_9 (by decide) rfl (fun c9 => ?_) (fun c9 => ?_)
  · skip
    refine a_iconst (z := (-1)) 20 dX12_marks_19 rfl (zrl rfl) rfl ?_
    refine a_ireturn dX12_marks_20 rfl ⟨Nat.zero_le _, Nat.zero_le _⟩ ?_
    exact Or.inr ⟨by omega, rfl, rfl⟩
  · skip
    refine a_iload_n 13 dX12_marks_12 rfl rfl ?_
    refine a_callS 16 (r_isDay _ _) cdX12_isDay lX12_95 dX12_marks_13 rfl rfl ⟨by decide, by decide, rfl, rfl⟩ ⟨Nat.zero_le _, Nat.zero_le _⟩ (Nat.le_of_ble_eq_true rfl) rfl ?_
    rintro _ _ - ⟨b13, rfl, rfl, h13⟩ -
    refine a_if_ne 21 19 dX12_marks_16 (by decide) rfl (fun c16 => ?_) (fun c16 => ?_)
    · skip
      refine a_iconst (z := 0) 22 dX12_marks_21 rfl (zrl rfl) rfl ?_
      refine a_istore_n 23 dX12_marks_22 (by decide) rfl rfl ?_
      refine a_iconst (z := 0) 24 dX12_marks_23 rfl (zrl rfl) rfl ?_
      refine a_istore 26 dX12_marks_24 (by decide) rfl rfl ?_
      refine AW.loop (α := Nat) (fun p => (g1.2.1 1000 13).toNat - p) (fun p => (p : Int) ≤ g1.2.1 1000 13) (fun p => g1) (fun p => [vA 1000, vI c, vI d, vI (cnt (isOfB g1.2.1 c d) p), vI (p : Int)]) (fun p => []) ?_ 0 ?_
      · intro m hI ih
        try dsimp only at hI ih ⊢
        have hb := cnt_le (isOfB g1.2.1 c d) m
        refine a_iload 28 dX12_marks_26 rfl rfl ?_
        refine a_aload_n 29 dX12_marks_28 rfl rfl ?_
        refine a_getIz (g1.2.1 1000 13) 32 dX12_marks_29 fX12_88 hM.1 rfl rfl rfl ?_
        refine a_icmp_ge 60 35 dX12_marks_32 (by decide) rfl (fun c32 => ?_) (fun c32 => ?_)
        · skip
          refine a_iload_n 61 dX12_marks_60 rfl rfl ?_
          refine a_ireturn dX12_marks_61 rfl ⟨Nat.zero_le _, Nat.zero_le _⟩ ?_
          have e : m = (g1.2.1 1000 13).toNat := by omega
          subst e
          exact Or.inl ⟨by omega, rfl, rfl⟩
        · skip
          refine a_iload_n 36 dX12_marks_35 rfl rfl ?_
          refine AW.cut (J := 52) (P := fun z => z = ci (isOfB g1.2.1 c d m)) ?_ (fun J52 => ?_)
          · intro z52 h52
            have h9 := ci_01 (isOfB g1.2.1 c d m)
            refine a_iadd 53 dX12_marks_52 (by unfold zr; omega) rfl ?_
            refine a_istore_n 54 dX12_marks_53 (by decide) rfl rfl ?_
            refine a_iinc 57 dX12_marks_54 rfl (by unfold zr; omega) (by decide) rfl rfl ?_
            refine a_goto 26 dX12_marks_57 (by decide) ?_
            have e : cnt (isOfB g1.2.1 c d) m + z52 = cnt (isOfB g1.2.1 c d) (m + 1) := by show _ = cnt (isOfB g1.2.1 c d) m + ci _; rw [h52]
            rw [e]
            exact ih (m + 1) (by omega) (by omega)
          · skip
            refine a_aload_n 37 dX12_marks_36 rfl rfl ?_
            refine a_iload 39 dX12_marks_37 rfl rfl ?_
            refine a_iload_n 40 dX12_marks_39 rfl rfl ?_
            refine a_iload_n 41 dX12_marks_40 rfl rfl ?_
            refine a_callV 44 (r_isOf _ _ _ _ hM (by omega)) cdX12_isOf lX12_136 dX12_marks_41 rfl hM.1 rfl ⟨by decide, by decide, rfl, rfl⟩ ⟨Nat.zero_le _, Nat.zero_le _⟩ (Nat.le_of_ble_eq_true rfl) rfl ?_
            rintro _ _ - ⟨b41, rfl, rfl, h41⟩ -
            refine a_if_eq 51 47 dX12_marks_44 (by decide) rfl (fun c44 => ?_) (fun c44 => ?_)
            · skip
              refine a_iconst (z := 0) 52 dX12_marks_51 rfl (zrl rfl) rfl ?_
              exact J52 _ (by first | exact ci1 h41 c44 | exact ci0 h41 c44)
            · skip
              refine a_iconst (z := 1) 48 dX12_marks_47 rfl (zrl rfl) rfl ?_
              refine a_goto 52 dX12_marks_48 (by decide) ?_
              exact J52 _ (by first | exact ci1 h41 c44 | exact ci0 h41 c44)
      · (try dsimp only); omega
    · skip
      refine a_iconst (z := (-1)) 20 dX12_marks_19 rfl (zrl rfl) rfl ?_
      refine a_ireturn dX12_marks_20 rfl ⟨Nat.zero_le _, Nat.zero_le _⟩ ?_
      exact Or.inr ⟨by omega, rfl, rfl⟩
set_option maxHeartbeats 4000000 in
set_option maxRecDepth 100000 in
theorem r_count (g : GH) (w : Int) (hM : MR g) (hV : MV g.2.1) : AMet mX12_count g [vA 1000, vI w] (fun r g' => r = vI (if w = 0 then (gI g 1000 0 0).2.1 1000 3 else if w = 1 then (gI g 1000 0 0).2.1 1000 7 else if w = 2 then (gI g 1000 0 0).2.1 1000 13 else if w = 3 then (gI g 1000 0 0).2.1 1000 15 else if w = 4 then (gI g 1000 0 0).2.1 1000 35 else if w = 5 then (gI g 1000 0 0).2.1 1000 29 else if w = 6 then cnt (fun s => (gI g 1000 0 0).2.1 1019 s.toNat = -9) ((gI g 1000 0 0).2.1 1000 15).toNat else -1) ∧ g' = gI g 1000 0 0) := by
  refine AMet.of [vA 1000, vI w, none, none] (by decide) rfl (Nat.le_of_ble_eq_true rfl) ?_
  refine a_aload_n 1 dX12_count_0 rfl rfl ?_
  refine a_iconst (z := 0) 2 dX12_count_1 rfl (zrl rfl) rfl ?_
  refine a_putI 5 dX12_count_2 fX12_80 (Or.inl rfl) hM.1 (Or.inl rfl) rfl ?_
  have hM : MR (gI g 1000 0 0) := hM
  have hV : MV (gI g 1000 0 0).2.1 := MV_th hV
  have hc := hV.1
  unfold MVc at hc
  generalize gI g 1000 0 0 = g1 at hM hV hc ⊢
  refine a_iconst (z := 0) 6 dX12_count_5 rfl (zrl rfl) rfl ?_
  refine a_istore_n 7 dX12_count_6 (by decide) rfl rfl ?_
  refine a_iconst (z := 0) 8 dX12_count_7 rfl (zrl rfl) rfl ?_
  refine a_istore_n 9 dX12_count_8 (by decide) rfl rfl ?_
  refine AW.loop (α := Nat) (fun p => (g1.2.1 1000 15).toNat - p) (fun p => (p : Int) ≤ g1.2.1 1000 15) (fun p => g1) (fun p => [vA 1000, vI w, vI (cnt (fun s => g1.2.1 1019 s.toNat = -9) p), vI (p : Int)]) (fun p => []) ?_ 0 ?_
  · intro m hI ih
    try dsimp only at hI ih ⊢
    have hb := cnt_le (fun s => g1.2.1 1019 s.toNat = -9) m
    refine a_iload_n 10 dX12_count_9 rfl rfl ?_
    refine a_aload_n 11 dX12_count_10 rfl rfl ?_
    refine a_getIz (g1.2.1 1000 15) 14 dX12_count_11 fX12_139 hM.1 rfl rfl rfl ?_
    refine a_icmp_ge 42 17 dX12_count_14 (by decide) rfl (fun c14 => ?_) (fun c14 => ?_)
    · skip
      refine a_iload_n 43 dX12_count_42 rfl rfl ?_
      refine a_if_ne 53 46 dX12_count_43 (by decide) rfl (fun c43 => ?_) (fun c43 => ?_)
      · skip
        refine a_iload_n 54 dX12_count_53 rfl rfl ?_
        refine a_iconst (z := 1) 55 dX12_count_54 rfl (zrl rfl) rfl ?_
        refine a_icmp_ne 65 58 dX12_count_55 (by decide) rfl (fun c55 => ?_) (fun c55 => ?_)
        · skip
          refine a_iload_n 66 dX12_count_65 rfl rfl ?_
          refine a_iconst (z := 2) 67 dX12_count_66 rfl (zrl rfl) rfl ?_
          refine a_icmp_ne 77 70 dX12_count_67 (by decide) rfl (fun c67 => ?_) (fun c67 => ?_)
          · skip
            refine a_iload_n 78 dX12_count_77 rfl rfl ?_
            refine a_iconst (z := 3) 79 dX12_count_78 rfl (zrl rfl) rfl ?_
            refine a_icmp_ne 89 82 dX12_count_79 (by decide) rfl (fun c79 => ?_) (fun c79 => ?_)
            · skip
              refine a_iload_n 90 dX12_count_89 rfl rfl ?_
              refine a_iconst (z := 4) 91 dX12_count_90 rfl (zrl rfl) rfl ?_
              refine a_icmp_ne 101 94 dX12_count_91 (by decide) rfl (fun c91 => ?_) (fun c91 => ?_)
              · skip
                refine a_iload_n 102 dX12_count_101 rfl rfl ?_
                refine a_iconst (z := 5) 103 dX12_count_102 rfl (zrl rfl) rfl ?_
                refine a_icmp_ne 113 106 dX12_count_103 (by decide) rfl (fun c103 => ?_) (fun c103 => ?_)
                · skip
                  refine a_iload_n 114 dX12_count_113 rfl rfl ?_
                  refine a_bipush (z := 6) 116 dX12_count_114 rfl (zrl rfl) rfl ?_
                  refine a_icmp_ne 123 119 dX12_count_116 (by decide) rfl (fun c116 => ?_) (fun c116 => ?_)
                  · skip
                    refine a_iconst (z := (-1)) 124 dX12_count_123 rfl (zrl rfl) rfl ?_
                    refine a_ireturn dX12_count_124 rfl ⟨Nat.zero_le _, Nat.zero_le _⟩ ?_
                    have e : m = (g1.2.1 1000 15).toNat := by omega
                    subst e
                    exact ⟨congrArg vI (by repeat (first | rw [if_pos (by omega)] | rw [if_neg (by omega)])), rfl⟩
                  · skip
                    refine a_iload_n 120 dX12_count_119 rfl rfl ?_
                    refine a_goto 124 dX12_count_120 (by decide) ?_
                    refine a_ireturn dX12_count_124 rfl ⟨Nat.zero_le _, Nat.zero_le _⟩ ?_
                    have e : m = (g1.2.1 1000 15).toNat := by omega
                    subst e
                    exact ⟨congrArg vI (by repeat (first | rw [if_pos (by omega)] | rw [if_neg (by omega)])), rfl⟩
                · skip
                  refine a_aload_n 107 dX12_count_106 rfl rfl ?_
                  refine a_getIz (g1.2.1 1000 29) 110 dX12_count_107 fX12_168 hM.1 rfl rfl rfl ?_
                  refine a_goto 124 dX12_count_110 (by decide) ?_
                  refine a_ireturn dX12_count_124 rfl ⟨Nat.zero_le _, Nat.zero_le _⟩ ?_
                  have e : m = (g1.2.1 1000 15).toNat := by omega
                  subst e
                  exact ⟨congrArg vI (by repeat (first | rw [if_pos (by omega)] | rw [if_neg (by omega)])), rfl⟩
              · skip
                refine a_aload_n 95 dX12_count_94 rfl rfl ?_
                refine a_getIz (g1.2.1 1000 35) 98 dX12_count_95 fX12_230 hM.1 rfl rfl rfl ?_
                refine a_goto 124 dX12_count_98 (by decide) ?_
                refine a_ireturn dX12_count_124 rfl ⟨Nat.zero_le _, Nat.zero_le _⟩ ?_
                have e : m = (g1.2.1 1000 15).toNat := by omega
                subst e
                exact ⟨congrArg vI (by repeat (first | rw [if_pos (by omega)] | rw [if_neg (by omega)])), rfl⟩
            · skip
              refine a_aload_n 83 dX12_count_82 rfl rfl ?_
              refine a_getIz (g1.2.1 1000 15) 86 dX12_count_83 fX12_139 hM.1 rfl rfl rfl ?_
              refine a_goto 124 dX12_count_86 (by decide) ?_
              refine a_ireturn dX12_count_124 rfl ⟨Nat.zero_le _, Nat.zero_le _⟩ ?_
              have e : m = (g1.2.1 1000 15).toNat := by omega
              subst e
              exact ⟨congrArg vI (by repeat (first | rw [if_pos (by omega)] | rw [if_neg (by omega)])), rfl⟩
          · skip
            refine a_aload_n 71 dX12_count_70 rfl rfl ?_
            refine a_getIz (g1.2.1 1000 13) 74 dX12_count_71 fX12_88 hM.1 rfl rfl rfl ?_
            refine a_goto 124 dX12_count_74 (by decide) ?_
            refine a_ireturn dX12_count_124 rfl ⟨Nat.zero_le _, Nat.zero_le _⟩ ?_
            have e : m = (g1.2.1 1000 15).toNat := by omega
            subst e
            exact ⟨congrArg vI (by repeat (first | rw [if_pos (by omega)] | rw [if_neg (by omega)])), rfl⟩
        · skip
          refine a_aload_n 59 dX12_count_58 rfl rfl ?_
          refine a_getIz (g1.2.1 1000 7) 62 dX12_count_59 fX12_101 hM.1 rfl rfl rfl ?_
          refine a_goto 124 dX12_count_62 (by decide) ?_
          refine a_ireturn dX12_count_124 rfl ⟨Nat.zero_le _, Nat.zero_le _⟩ ?_
          have e : m = (g1.2.1 1000 15).toNat := by omega
          subst e
          exact ⟨congrArg vI (by repeat (first | rw [if_pos (by omega)] | rw [if_neg (by omega)])), rfl⟩
      · skip
        refine a_aload_n 47 dX12_count_46 rfl rfl ?_
        refine a_getIz (g1.2.1 1000 3) 50 dX12_count_47 fX12_98 hM.1 rfl rfl rfl ?_
        refine a_goto 124 dX12_count_50 (by decide) ?_
        refine a_ireturn dX12_count_124 rfl ⟨Nat.zero_le _, Nat.zero_le _⟩ ?_
        have e : m = (g1.2.1 1000 15).toNat := by omega
        subst e
        exact ⟨congrArg vI (by repeat (first | rw [if_pos (by omega)] | rw [if_neg (by omega)])), rfl⟩
    · skip
      refine a_iload_n 18 dX12_count_17 rfl rfl ?_
      refine AW.cut (J := 34) (P := fun z => z = ci (g1.2.1 1019 (m : Int).toNat = -9)) ?_ (fun J34 => ?_)
      · intro z34 h34
        have h9 := ci_01 (g1.2.1 1019 (m : Int).toNat = -9)
        refine a_iadd 35 dX12_count_34 (by unfold zr; omega) rfl ?_
        refine a_istore_n 36 dX12_count_35 (by decide) rfl rfl ?_
        refine a_iinc 39 dX12_count_36 rfl (by unfold zr; omega) (by decide) rfl rfl ?_
        refine a_goto 9 dX12_count_39 (by decide) ?_
        have e : cnt (fun s => g1.2.1 1019 s.toNat = -9) m + z34 = cnt (fun s => g1.2.1 1019 s.toNat = -9) (m + 1) := by show _ = cnt (fun s => g1.2.1 1019 s.toNat = -9) m + ci _; rw [h34]
        rw [e]
        exact ih (m + 1) (by omega) (by omega)
      · skip
        refine a_aload_n 19 dX12_count_18 rfl rfl ?_
        refine a_getR 22 dX12_count_19 fX12_49 hM.1 rfl (mr_19 hM).1 rfl ?_
        refine a_iload_n 23 dX12_count_22 rfl rfl ?_
        refine a_iald 24 dX12_count_23 (mr_19 hM).2 (by omega) (by omega) rfl ?_
        refine a_bipush (z := (-9)) 26 dX12_count_24 rfl (zrl rfl) rfl ?_
        refine a_icmp_ne 33 29 dX12_count_26 (by decide) rfl (fun c26 => ?_) (fun c26 => ?_)
        · skip
          refine a_iconst (z := 0) 34 dX12_count_33 rfl (zrl rfl) rfl ?_
          exact J34 _ (by first | (rw [ci_t (by omega)]) | (rw [ci_f (by omega)]))
        · skip
          refine a_iconst (z := 1) 30 dX12_count_29 rfl (zrl rfl) rfl ?_
          refine a_goto 34 dX12_count_30 (by decide) ?_
          exact J34 _ (by first | (rw [ci_t (by omega)]) | (rw [ci_f (by omega)]))
  · (try dsimp only); omega
