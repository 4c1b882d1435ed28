theorem pow2N {n m : Nat} (h : n ≤ m) : (1 : Int) ≤ 2 ^ n ∧ (2 : Int) ^ n ≤ 2 ^ m := by
  have h1 : (1 : Nat) ≤ 2 ^ n := Nat.one_le_two_pow
  have h2 : (2 : Nat) ^ n ≤ 2 ^ m := Nat.pow_le_pow_right (by decide) h
  exact ⟨by exact_mod_cast h1, by exact_mod_cast h2⟩
theorem v_shl1 {n : Nat} (hn : n ≤ 10) : zr 1 → zr (n : Int) → (Int32.ofInt 1 <<< (Int32.ofInt (n : Int) &&& 31)) = Int32.ofInt (2 ^ n) ∧ zr (2 ^ n) := by
  intro h1 h2
  have h3 := pow2N hn
  have := v_shl (x := 1) (y := (n : Int)) (by decide) (by omega) (by omega) (by rw [Int.toNat_natCast]; omega) h1 h2
  rw [Int.toNat_natCast, Int.one_mul] at this
  exact this
abbrev okCD (c D : Int) : Prop := (0 ≤ c ∧ c ≤ 7) ∧ (0 ≤ D ∧ D ≤ 999)
noncomputable def goesR (h : Nat → Nat → Int) (c D L : Int) : Int := if ¬ okCD c D then -1 else if 10 < (WS h c D).length then -2 else if ¬ (0 ≤ L ∧ L ≤ 2 ^ (WS h c D).length - 1) then -1 else ci ((gst h (wk h c D) L (WS h c D).length).2.2 = -9)
noncomputable def barsR (h : Nat → Nat → Int) (c D : Int) : Int := if ¬ okCD c D then -1 else if 10 < (WS h c D).length then -2 else (gst h (wk h c D) 0 (WS h c D).length).2.2
theorem wOK_of {h h' : Nat → Nat → Int} {c D : Int} (q : wayB h c D h') (hk : HK h h') (hl : (WS h c D).length ≤ 10) : wOK h' (wk h c D) (WS h c D).length := by
  refine ⟨q.1, hl, fun i hi => ⟨q.2 i hi, ?_⟩⟩
  have := wk_ok hi
  rw [hk.row (a := 1014) (by omega), hk.cnt (k := 13) (by omega)]
  exact ⟨⟨this.1, this.2.1⟩, this.2.2⟩
set_option maxHeartbeats 4000000 in
set_option maxRecDepth 100000 in
theorem r_refuses (g : GH) (c D : Int) (hM : MR g) (hV : MV g.2.1)  : AMet mX12_refuses g [vA 1000, vI c, vI D] (fun r g' => (¬ okCD c D ∧ r = vI (-1) ∧ g' = g) ∨ (okCD c D ∧ sameB wX g g' ∧ wayB g.2.1 c D g'.2.1 ∧ ((10 < (WS g.2.1 c D).length ∧ r = vI (-2)) ∨ ((WS g.2.1 c D).length ≤ 10 ∧ r = vI 0)))) := by
  refine AMet.of [vA 1000, vI c, vI D] (by decide) rfl (Nat.le_of_ble_eq_true rfl) ?_
  have hc := hV.1
  unfold MVc at hc
  refine a_iload_n 1 dX12_refuses_0 rfl rfl ?_
  refine a_callS 4 (r_isCover _ _) cdX12_isCover lX12_104 dX12_refuses_1 rfl rfl ⟨by decide, by decide, rfl, rfl⟩ ⟨Nat.zero_le _, Nat.zero_le _⟩ (Nat.le_of_ble_eq_true rfl) rfl ?_
  rintro _ _ - ⟨b1, rfl, rfl, h1⟩ -
  refine a_if_eq 14 7 dX12_refuses_4 (by decide) rfl (fun c4 => ?_) (fun c4 => ?_)
  · skip
    refine a_iconst (z := (-1)) 15 dX12_refuses_14 rfl (zrl rfl) rfl ?_
    refine a_goto 35 dX12_refuses_15 (by decide) ?_
    refine a_ireturn dX12_refuses_35 rfl ⟨Nat.zero_le _, Nat.zero_le _⟩ ?_
    first | exact Or.inl ⟨by unfold okCD; omega, rfl, rfl⟩ | exact Or.inr ⟨by unfold okCD; omega, hk21, hw21, Or.inl ⟨by omega, rfl⟩⟩ | exact Or.inr ⟨by unfold okCD; omega, hk21, hw21, Or.inr ⟨by omega, rfl⟩⟩
  · skip
    refine a_iload_n 8 dX12_refuses_7 rfl rfl ?_
    refine a_callS 11 (r_isDay _ _) cdX12_isDay lX12_95 dX12_refuses_8 rfl rfl ⟨by decide, by decide, rfl, rfl⟩ ⟨Nat.zero_le _, Nat.zero_le _⟩ (Nat.le_of_ble_eq_true rfl) rfl ?_
    rintro _ _ - ⟨b8, rfl, rfl, h8⟩ -
    refine a_if_ne 18 14 dX12_refuses_11 (by decide) rfl (fun c11 => ?_) (fun c11 => ?_)
    · skip
      refine a_aload_n 19 dX12_refuses_18 rfl rfl ?_
      refine a_iload_n 20 dX12_refuses_19 rfl rfl ?_
      refine a_iload_n 21 dX12_refuses_20 rfl rfl ?_
      refine a_callV 24 (r_ways _ _ _ hM hV) cdX12_ways lX12_155 dX12_refuses_21 rfl hM.1 rfl ⟨by decide, by decide, rfl, rfl⟩ ⟨Nat.zero_le _, Nat.zero_le _⟩ (Nat.le_of_ble_eq_true rfl) rfl ?_
      rintro _ g21 - ⟨rfl, hk21, hw21⟩ -
      refine a_bipush (z := 10) 26 dX12_refuses_24 rfl (zrl rfl) rfl ?_
      refine a_icmp_le 34 29 dX12_refuses_26 (by decide) rfl (fun c26 => ?_) (fun c26 => ?_)
      · skip
        refine a_iconst (z := 0) 35 dX12_refuses_34 rfl (zrl rfl) rfl ?_
        refine a_ireturn dX12_refuses_35 rfl ⟨Nat.zero_le _, Nat.zero_le _⟩ ?_
        first | exact Or.inl ⟨by unfold okCD; omega, rfl, rfl⟩ | exact Or.inr ⟨by unfold okCD; omega, hk21, hw21, Or.inl ⟨by omega, rfl⟩⟩ | exact Or.inr ⟨by unfold okCD; omega, hk21, hw21, Or.inr ⟨by omega, rfl⟩⟩
      · skip
        refine a_bipush (z := (-2)) 31 dX12_refuses_29 rfl (zrl rfl) rfl ?_
        refine a_goto 35 dX12_refuses_31 (by decide) ?_
        refine a_ireturn dX12_refuses_35 rfl ⟨Nat.zero_le _, Nat.zero_le _⟩ ?_
        first | exact Or.inl ⟨by unfold okCD; omega, rfl, rfl⟩ | exact Or.inr ⟨by unfold okCD; omega, hk21, hw21, Or.inl ⟨by omega, rfl⟩⟩ | exact Or.inr ⟨by unfold okCD; omega, hk21, hw21, Or.inr ⟨by omega, rfl⟩⟩
    · skip
      refine a_iconst (z := (-1)) 15 dX12_refuses_14 rfl (zrl rfl) rfl ?_
      refine a_goto 35 dX12_refuses_15 (by decide) ?_
      refine a_ireturn dX12_refuses_35 rfl ⟨Nat.zero_le _, Nat.zero_le _⟩ ?_
      first | exact Or.inl ⟨by unfold okCD; omega, rfl, rfl⟩ | exact Or.inr ⟨by unfold okCD; omega, hk21, hw21, Or.inl ⟨by omega, rfl⟩⟩ | exact Or.inr ⟨by unfold okCD; omega, hk21, hw21, Or.inr ⟨by omega, rfl⟩⟩
set_option maxHeartbeats 4000000 in
set_option maxRecDepth 100000 in
theorem r_goes (g : GH) (c D L : Int) (hM : MR g) (hV : MV g.2.1) : AMet mX12_goes g [vA 1000, vI c, vI D, vI L] (fun r g' => r = vI (goesR (gI g 1000 0 0).2.1 c D L) ∧ Keep (gI g 1000 0 0) g') := by
  refine AMet.of [vA 1000, vI c, vI D, vI L, none] (by decide) rfl (Nat.le_of_ble_eq_true rfl) ?_
  refine a_aload_n 1 dX12_goes_0 rfl rfl ?_
  refine a_iconst (z := 0) 2 dX12_goes_1 rfl (zrl rfl) rfl ?_
  refine a_putI 5 dX12_goes_2 fX12_80 (Or.inl rfl) hM.1 (Or.inl rfl) rfl ?_
  have hM : MR (gI g 1000 0 0) := hM
  have hV : MV (gI g 1000 0 0).2.1 := MV_th hV
  have hc := hV.1
  unfold MVc at hc
  generalize gI g 1000 0 0 = g1 at hM hV hc ⊢
  refine a_aload_n 6 dX12_goes_5 rfl rfl ?_
  refine a_iload_n 7 dX12_goes_6 rfl rfl ?_
  refine a_iload_n 8 dX12_goes_7 rfl rfl ?_
  refine a_callV 11 (r_refuses _ _ _ hM hV) cdX12_refuses lX12_159 dX12_goes_8 rfl hM.1 rfl ⟨by decide, by decide, rfl, rfl⟩ ⟨Nat.zero_le _, Nat.zero_le _⟩ (Nat.le_of_ble_eq_true rfl) rfl ?_
  rintro r8 g8 - ref8 -
  obtain ⟨rv, rfl, hrv⟩ : ∃ rv, r8 = vI rv ∧ ((¬ okCD c D ∧ rv = -1 ∧ g8 = g1) ∨ (okCD c D ∧ sameB wX g1 g8 ∧ wayB g1.2.1 c D g8.2.1 ∧ ((10 < (WS g1.2.1 c D).length ∧ rv = -2) ∨ ((WS g1.2.1 c D).length ≤ 10 ∧ rv = 0)))) := by
    rcases ref8 with ⟨z1, z2, z3⟩ | ⟨z1, z2, z3, ⟨z4, z5⟩ | ⟨z4, z5⟩⟩
    · exact ⟨_, z2, Or.inl ⟨z1, rfl, z3⟩⟩
    · exact ⟨_, z5, Or.inr ⟨z1, z2, z3, Or.inl ⟨z4, rfl⟩⟩⟩
    · exact ⟨_, z5, Or.inr ⟨z1, z2, z3, Or.inr ⟨z4, rfl⟩⟩⟩
  have hk0 : sameB wX g1 g8 := by
    rcases hrv with ⟨-, -, z3⟩ | ⟨-, z2, -⟩
    · rw [z3]; exact sameB.rf
    · exact z2
  clear ref8
  refine a_istore 13 dX12_goes_11 (by decide) rfl rfl ?_
  refine a_iload 15 dX12_goes_13 rfl rfl ?_
  refine a_if_ge 21 18 dX12_goes_15 (by decide) rfl (fun c15 => ?_) (fun c15 => ?_)
  · skip
    have hok : okCD c D ∧ wayB g1.2.1 c D g8.2.1 ∧ (WS g1.2.1 c D).length ≤ 10 := by
      rcases hrv with ⟨-, z2, -⟩ | ⟨z1, z2, z3, ⟨z4, z5⟩ | ⟨z4, z5⟩⟩
      · omega
      · omega
      · exact ⟨z1, z3, z4⟩
    have hh0 := hk0.hk wX_scr
    have hwo := wOK_of hok.2.1 hh0 hok.2.2
    have hV0 := MV_keep wX_scr hk0 hV
    have hp2 := pow2N hok.2.2
    refine a_iload_n 22 dX12_goes_21 rfl rfl ?_
    refine a_iconst (z := 0) 23 dX12_goes_22 rfl (zrl rfl) rfl ?_
    refine a_iconst (z := 1) 24 dX12_goes_23 rfl (zrl rfl) rfl ?_
    refine a_aload_n 25 dX12_goes_24 rfl rfl ?_
    refine a_getIz (((WS g1.2.1 c D).length : Int)) 28 dX12_goes_25 fX12_146 (hk0.MR hM).1 rfl hok.2.1.1 rfl ?_
    refine a_ishl _ 29 dX12_goes_28 (v_shl1 hok.2.2) rfl ?_
    refine a_iconst (z := 1) 30 dX12_goes_29 rfl (zrl rfl) rfl ?_
    refine a_isub 31 dX12_goes_30 (by unfold zr; omega) rfl ?_
    refine a_callS 34 (r_in _ _ _ _) cdX12_in lX12_84 dX12_goes_31 rfl rfl ⟨by decide, by decide, rfl, rfl⟩ ⟨Nat.zero_le _, Nat.zero_le _⟩ (Nat.le_of_ble_eq_true rfl) rfl ?_
    rintro _ _ - ⟨b31, rfl, rfl, h31⟩ -
    refine a_if_ne 41 37 dX12_goes_34 (by decide) rfl (fun c34 => ?_) (fun c34 => ?_)
    · skip
      refine a_aload_n 42 dX12_goes_41 rfl rfl ?_
      refine a_iload_n 43 dX12_goes_42 rfl rfl ?_
      refine a_callV 46 (r_isGoing _ _ _ _ (hk0.MR hM) hV0 hwo (by omega)) cdX12_isGoing lX12_162 dX12_goes_43 rfl (hk0.MR hM).1 rfl ⟨by decide, by decide, rfl, rfl⟩ ⟨Nat.zero_le _, Nat.zero_le _⟩ (Nat.le_of_ble_eq_true rfl) rfl ?_
      rintro _ g43 - ⟨⟨b43, rfl, h43⟩, hk43, hb43, hf43⟩ -
      rw [hh0.gst] at h43 hb43 hf43
      refine a_if_eq 53 49 dX12_goes_46 (by decide) rfl (fun c46 => ?_) (fun c46 => ?_)
      · skip
        refine a_iconst (z := 0) 54 dX12_goes_53 rfl (zrl rfl) rfl ?_
        refine a_ireturn dX12_goes_54 rfl ⟨Nat.zero_le _, Nat.zero_le _⟩ ?_
        first
        | exact ⟨congrArg vI (by unfold goesR; rw [if_neg (fun z => z hok.1), if_neg (by omega), if_pos (by omega)]), hk0.mono wX_scr⟩
        | exact ⟨congrArg vI (by unfold goesR; rw [if_neg (fun z => z hok.1), if_neg (by omega), if_neg (by omega)]; first | exact ci1 h43 c46 | exact ci0 h43 c46), (hk0.mono wX_scr).tr (hk43.mono iX_scr)⟩
      · skip
        refine a_iconst (z := 1) 50 dX12_goes_49 rfl (zrl rfl) rfl ?_
        refine a_goto 54 dX12_goes_50 (by decide) ?_
        refine a_ireturn dX12_goes_54 rfl ⟨Nat.zero_le _, Nat.zero_le _⟩ ?_
        first
        | exact ⟨congrArg vI (by unfold goesR; rw [if_neg (fun z => z hok.1), if_neg (by omega), if_pos (by omega)]), hk0.mono wX_scr⟩
        | exact ⟨congrArg vI (by unfold goesR; rw [if_neg (fun z => z hok.1), if_neg (by omega), if_neg (by omega)]; first | exact ci1 h43 c46 | exact ci0 h43 c46), (hk0.mono wX_scr).tr (hk43.mono iX_scr)⟩
    · skip
      refine a_iconst (z := (-1)) 38 dX12_goes_37 rfl (zrl rfl) rfl ?_
      refine a_goto 54 dX12_goes_38 (by decide) ?_
      refine a_ireturn dX12_goes_54 rfl ⟨Nat.zero_le _, Nat.zero_le _⟩ ?_
      first
      | exact ⟨congrArg vI (by unfold goesR; rw [if_neg (fun z => z hok.1), if_neg (by omega), if_pos (by omega)]), hk0.mono wX_scr⟩
      | exact ⟨congrArg vI (by unfold goesR; rw [if_neg (fun z => z hok.1), if_neg (by omega), if_neg (by omega)]; first | exact ci1 h43 c46 | exact ci0 h43 c46), (hk0.mono wX_scr).tr (hk43.mono iX_scr)⟩
  · skip
    refine a_iload 20 dX12_goes_18 rfl rfl ?_
    refine a_ireturn dX12_goes_20 rfl ⟨Nat.zero_le _, Nat.zero_le _⟩ ?_
    rcases hrv with ⟨z1, z2, z3⟩ | ⟨z1, z2, z3, ⟨z4, z5⟩ | ⟨z4, z5⟩⟩
    · exact ⟨congrArg vI (by unfold goesR; rw [if_pos z1]; exact z2), hk0.mono wX_scr⟩
    · exact ⟨congrArg vI (by unfold goesR; rw [if_neg (fun z => z z1), if_pos z4]; exact z5), hk0.mono wX_scr⟩
    · omega
set_option maxHeartbeats 4000000 in
set_option maxRecDepth 100000 in
theorem r_bars (g : GH) (c D : Int) (hM : MR g) (hV : MV g.2.1) : AMet mX12_bars g [vA 1000, vI c, vI D] (fun r g' => r = vI (barsR (gI g 1000 0 0).2.1 c D) ∧ Keep (gI g 1000 0 0) g') := by
  refine AMet.of [vA 1000, vI c, vI D, none] (by decide) rfl (Nat.le_of_ble_eq_true rfl) ?_
  refine a_aload_n 1 dX12_bars_0 rfl rfl ?_
  refine a_iconst (z := 0) 2 dX12_bars_1 rfl (zrl rfl) rfl ?_
  refine a_putI 5 dX12_bars_2 fX12_80 (Or.inl rfl) hM.1 (Or.inl rfl) rfl ?_
  have hM : MR (gI g 1000 0 0) := hM
  have hV : MV (gI g 1000 0 0).2.1 := MV_th hV
  have hc := hV.1
  unfold MVc at hc
  generalize gI g 1000 0 0 = g1 at hM hV hc ⊢
  refine a_aload_n 6 dX12_bars_5 rfl rfl ?_
  refine a_iload_n 7 dX12_bars_6 rfl rfl ?_
  refine a_iload_n 8 dX12_bars_7 rfl rfl ?_
  refine a_callV 11 (r_refuses _ _ _ hM hV) cdX12_refuses lX12_159 dX12_bars_8 rfl hM.1 rfl ⟨by decide, by decide, rfl, rfl⟩ ⟨Nat.zero_le _, Nat.zero_le _⟩ (Nat.le_of_ble_eq_true rfl) rfl ?_
  rintro r8 g8 - ref8 -
  obtain ⟨rv, rfl, hrv⟩ : ∃ rv, r8 = vI rv ∧ ((¬ okCD c D ∧ rv = -1 ∧ g8 = g1) ∨ (okCD c D ∧ sameB wX g1 g8 ∧ wayB g1.2.1 c D g8.2.1 ∧ ((10 < (WS g1.2.1 c D).length ∧ rv = -2) ∨ ((WS g1.2.1 c D).length ≤ 10 ∧ rv = 0)))) := by
    rcases ref8 with ⟨z1, z2, z3⟩ | ⟨z1, z2, z3, ⟨z4, z5⟩ | ⟨z4, z5⟩⟩
    · exact ⟨_, z2, Or.inl ⟨z1, rfl, z3⟩⟩
    · exact ⟨_, z5, Or.inr ⟨z1, z2, z3, Or.inl ⟨z4, rfl⟩⟩⟩
    · exact ⟨_, z5, Or.inr ⟨z1, z2, z3, Or.inr ⟨z4, rfl⟩⟩⟩
  have hk0 : sameB wX g1 g8 := by
    rcases hrv with ⟨-, -, z3⟩ | ⟨-, z2, -⟩
    · rw [z3]; exact sameB.rf
    · exact z2
  clear ref8
  refine a_istore_n 12 dX12_bars_11 (by decide) rfl rfl ?_
  refine a_iload_n 13 dX12_bars_12 rfl rfl ?_
  refine a_if_ge 18 16 dX12_bars_13 (by decide) rfl (fun c13 => ?_) (fun c13 => ?_)
  · skip
    have hok : okCD c D ∧ wayB g1.2.1 c D g8.2.1 ∧ (WS g1.2.1 c D).length ≤ 10 := by
      rcases hrv with ⟨-, z2, -⟩ | ⟨z1, z2, z3, ⟨z4, z5⟩ | ⟨z4, z5⟩⟩
      · omega
      · omega
      · exact ⟨z1, z3, z4⟩
    have hh0 := hk0.hk wX_scr
    have hwo := wOK_of hok.2.1 hh0 hok.2.2
    have hV0 := MV_keep wX_scr hk0 hV
    refine a_aload_n 19 dX12_bars_18 rfl rfl ?_
    refine a_iconst (z := 0) 20 dX12_bars_19 rfl (zrl rfl) rfl ?_
    refine a_callV 23 (r_isGoing _ _ _ _ (hk0.MR hM) hV0 hwo (by omega)) cdX12_isGoing lX12_162 dX12_bars_20 rfl (hk0.MR hM).1 rfl ⟨by decide, by decide, rfl, rfl⟩ ⟨Nat.zero_le _, Nat.zero_le _⟩ (Nat.le_of_ble_eq_true rfl) rfl ?_
    rintro _ g20 - ⟨⟨b20, rfl, h20⟩, hk20, hb20, hf20⟩ -
    rw [hh0.gst] at h20 hb20 hf20
    refine a_pop 24 dX12_bars_23 (by intro w h; cases h) rfl ?_
    refine a_aload_n 25 dX12_bars_24 rfl rfl ?_
    refine a_getI 28 dX12_bars_25 fX12_152 (hk20.MR (hk0.MR hM)).1 rfl rfl ?_
    refine a_ireturn dX12_bars_28 rfl ⟨Nat.zero_le _, Nat.zero_le _⟩ ?_
    exact ⟨congrArg vI (by unfold barsR; rw [if_neg (fun z => z hok.1), if_neg (by omega), ← hb20]), (hk0.mono wX_scr).tr (hk20.mono iX_scr)⟩
  · skip
    refine a_iload_n 17 dX12_bars_16 rfl rfl ?_
    refine a_ireturn dX12_bars_17 rfl ⟨Nat.zero_le _, Nat.zero_le _⟩ ?_
    rcases hrv with ⟨z1, z2, z3⟩ | ⟨z1, z2, z3, ⟨z4, z5⟩ | ⟨z4, z5⟩⟩
    · exact ⟨congrArg vI (by unfold barsR; rw [if_pos z1]; exact z2), hk0.mono wX_scr⟩
    · exact ⟨congrArg vI (by unfold barsR; rw [if_neg (fun z => z z1), if_pos z4]; exact z5), hk0.mono wX_scr⟩
    · omega
