set_option maxHeartbeats 4000000 in
set_option maxRecDepth 100000 in
theorem c8_readSums (g : GH) {T : Int → Int} {L : Int} {s : PS} {ru : Nat} (hru : g.1 ru = some (Sum.inl 9)) (hr6 : ru ≠ 26) (hr7 : ru ≠ 27) (hR : RP g T L (q8 T s)) (hz6 : g.2.1 ru 6 = 0) : AMet mX8_readSums g [vA 26, vA ru] (fun r g' => ∃ b : Int, r = vI b ∧ sameB (xR ru 4 6) g g' ∧ ((b = 1 ∧ RP g' T L (q13 T s) ∧ RC (vr T s) ru 4 7 g') ∨ (b = 0 ∧ (q13 T s).2.2.2.2 = g'.2.1 26 3 ∧ (0 ≤ (q13 T s).2.2.2.2 ∧ (q13 T s).2.2.2.2 ≤ 600)))) := by
  refine AMet.of [vA 26, vA ru] (by decide) rfl (Nat.le_of_ble_eq_true rfl) ?_
  have hT : sameB (xR ru 4 6) g g := sameB.rf
  have hC : RC (vr T s) ru 4 4 g := fun i a b => absurd b (by omega)
  refine a_aload_n 1 dX8_readSums_0 rfl rfl ?_
  refine a_bipush (z := 58) 3 dX8_readSums_1 rfl (zrl rfl) rfl ?_
  refine a_callV 6 (c8_take _ _ (s := (q8 T s)) hR (hR.sg (c := 58) (by decide))) cdX8_take lX8_64 dX8_readSums_3 rfl hR.1.1 rfl ⟨by decide, by decide, rfl, rfl⟩ ⟨Nat.zero_le _, Nat.zero_le _⟩ (Nat.le_of_ble_eq_true rfl) rfl ?_
  rintro _ G9 - ⟨b9, rfl, hb9, z9, y9⟩ -
  refine a_if_eq 20 9 dX8_readSums_6 (by decide) rfl (fun c6 => ?_) (fun c6 => ?_)
  · skip
    refine a_iconst (z := 0) 21 dX8_readSums_20 rfl (zrl rfl) rfl ?_
    refine a_breturn dX8_readSums_21 rfl (by omega) ⟨Nat.zero_le _, Nat.zero_le _⟩ ?_
    have z9e := z9 c6
    subst z9e
    have f9 : q9 T s = fl (q8 T s) := if_neg (isN hb9 c6)
    have v9 : (q9 T s).2.2.2.2 = (q8 T s).2.2.1 := by rw [f9]; exact fl_f hR.2.2.2
    have u9 := hR.st
    have f10 : q10 T s = q9 T s := tN_st (by rw [v9]; exact u9.2.1)
    have v10 : (q10 T s).2.2.2.2 = (q8 T s).2.2.1 := by rw [f10]; exact v9
    have f11 : q11 T s = q10 T s := tW_st (by rw [v10]; exact u9.2.1)
    have v11 : (q11 T s).2.2.2.2 = (q8 T s).2.2.1 := by rw [f11]; exact v10
    have f12 : q12 T s = q11 T s := tN_st (by rw [v11]; exact u9.2.1)
    have v12 : (q12 T s).2.2.2.2 = (q8 T s).2.2.1 := by rw [f12]; exact v11
    have f13 : q13 T s = q12 T s := if_neg (fun z => by have := z.1; omega)
    have v13 : (q13 T s).2.2.2.2 = (q8 T s).2.2.1 := by rw [f13]; exact v12
    exact ⟨_, rfl, hT, Or.inr ⟨rfl, by rw [v13]; exact u9.1.symm, by rw [v13]; exact u9.2⟩⟩
  · skip
    obtain ⟨w9, R9⟩ := y9 (isb1 hb9 c6)
    have p9 := isT hb9 c6
    have e9 : q9 T s = adv T (q8 T s) := if_pos p9
    rw [← e9] at R9
    have T9 : sameB (xR ru 4 6) g G9 := hT.tr (w9.mono xT_R)
    have C9 := hC.keep hr6 w9
    refine a_aload_n 10 dX8_readSums_9 rfl rfl ?_
    refine a_iconst (z := 0) 11 dX8_readSums_10 rfl (zrl rfl) rfl ?_
    refine a_sipush (z := 999) 14 dX8_readSums_11 rfl (zrl rfl) rfl ?_
    refine a_callV 17 (c8_takeNumber _ _ _ (s := (q9 T s)) R9) cdX8_takeNumber lX8_68 dX8_readSums_14 rfl R9.1.1 rfl ⟨by decide, by decide, rfl, rfl⟩ ⟨Nat.zero_le _, Nat.zero_le _⟩ (Nat.le_of_ble_eq_true rfl) rfl ?_
    rintro _ G10 - ⟨b10, rfl, hb10, z10, y10⟩ -
    refine a_if_ne 22 20 dX8_readSums_17 (by decide) rfl (fun c17 => ?_) (fun c17 => ?_)
    · skip
      obtain ⟨w10, R10, k10⟩ := y10 (isb1 hb10 c17)
      have p10 := isT hb10 c17
      have e10 : q10 T s = adv T (q9 T s) := if_pos p10
      rw [← e10] at R10
      have T10 : sameB (xR ru 4 6) g G10 := T9.tr (w10.mono xT_R)
      have C10 := C9.keep hr6 w10
      refine a_aload_n 23 dX8_readSums_22 rfl rfl ?_
      refine a_aload_n 24 dX8_readSums_23 rfl rfl ?_
      refine a_getIz (tNv 0 999 (q9 T s)) 27 dX8_readSums_24 fX8_31 R10.1.1 rfl (k10.trans (if_pos p10).symm) rfl ?_
      refine a_putI 30 dX8_readSums_27 fX8_84 (Or.inl rfl) (T10.sh hru) (Or.inl rfl) rfl ?_
      have R10w := R10.wr (k := 4) (z := tNv 0 999 (q9 T s)) hr6 hr7
      have T10w : sameB (xR ru 4 6) g (gI G10 ru 4 (tNv 0 999 (q9 T s))) := T10.wr (Or.inr ⟨rfl, by omega, by omega⟩)
      have C10w : RC (vr T s) ru 4 5 (gI G10 ru 4 (tNv 0 999 (q9 T s))) := C10.put rfl
      refine a_aload_n 31 dX8_readSums_30 rfl rfl ?_
      refine a_iconst (z := 4) 32 dX8_readSums_31 rfl (zrl rfl) rfl ?_
      refine a_callV 35 (c8_take _ _ (s := (q10 T s)) R10w (R10w.wd (c := 1) (by decide) (by decide))) cdX8_take lX8_64 dX8_readSums_32 rfl R10.1.1 rfl ⟨by decide, by decide, rfl, rfl⟩ ⟨Nat.zero_le _, Nat.zero_le _⟩ (Nat.le_of_ble_eq_true rfl) rfl ?_
      rintro _ G11 - ⟨b11, rfl, hb11, z11, y11⟩ -
      refine a_if_eq 49 38 dX8_readSums_35 (by decide) rfl (fun c35 => ?_) (fun c35 => ?_)
      · skip
        refine a_iconst (z := 0) 50 dX8_readSums_49 rfl (zrl rfl) rfl ?_
        refine a_breturn dX8_readSums_50 rfl (by omega) ⟨Nat.zero_le _, Nat.zero_le _⟩ ?_
        have z11e := z11 c35
        subst z11e
        have f11 : q11 T s = fl (q10 T s) := if_neg (isN hb11 c35)
        have v11 : (q11 T s).2.2.2.2 = (q10 T s).2.2.1 := by rw [f11]; exact fl_f R10w.2.2.2
        have u11 := R10w.st
        have f12 : q12 T s = q11 T s := tN_st (by rw [v11]; exact u11.2.1)
        have v12 : (q12 T s).2.2.2.2 = (q10 T s).2.2.1 := by rw [f12]; exact v11
        have f13 : q13 T s = q12 T s := if_neg (fun z => by have := z.1; omega)
        have v13 : (q13 T s).2.2.2.2 = (q10 T s).2.2.1 := by rw [f13]; exact v12
        exact ⟨_, rfl, T10w, Or.inr ⟨rfl, by rw [v13]; exact u11.1.symm, by rw [v13]; exact u11.2⟩⟩
      · skip
        obtain ⟨w11, R11⟩ := y11 (isb1 hb11 c35)
        have p11 := isT hb11 c35
        have e11 : q11 T s = adv T (q10 T s) := if_pos p11
        rw [← e11] at R11
        have T11 : sameB (xR ru 4 6) g G11 := T10w.tr (w11.mono xT_R)
        have C11 := C10w.keep hr6 w11
        refine a_aload_n 39 dX8_readSums_38 rfl rfl ?_
        refine a_iconst (z := 1) 40 dX8_readSums_39 rfl (zrl rfl) rfl ?_
        refine a_sipush (z := 500) 43 dX8_readSums_40 rfl (zrl rfl) rfl ?_
        refine a_callV 46 (c8_takeNumber _ _ _ (s := (q11 T s)) R11) cdX8_takeNumber lX8_68 dX8_readSums_43 rfl R11.1.1 rfl ⟨by decide, by decide, rfl, rfl⟩ ⟨Nat.zero_le _, Nat.zero_le _⟩ (Nat.le_of_ble_eq_true rfl) rfl ?_
        rintro _ G12 - ⟨b12, rfl, hb12, z12, y12⟩ -
        refine a_if_ne 51 49 dX8_readSums_46 (by decide) rfl (fun c46 => ?_) (fun c46 => ?_)
        · skip
          obtain ⟨w12, R12, k12⟩ := y12 (isb1 hb12 c46)
          have p12 := isT hb12 c46
          have e12 : q12 T s = adv T (q11 T s) := if_pos p12
          rw [← e12] at R12
          have T12 : sameB (xR ru 4 6) g G12 := T11.tr (w12.mono xT_R)
          have C12 := C11.keep hr6 w12
          refine a_aload_n 52 dX8_readSums_51 rfl rfl ?_
          refine a_aload_n 53 dX8_readSums_52 rfl rfl ?_
          refine a_getIz (tNv 1 500 (q11 T s)) 56 dX8_readSums_53 fX8_31 R12.1.1 rfl (k12.trans (if_pos p12).symm) rfl ?_
          refine a_putI 59 dX8_readSums_56 fX8_87 (Or.inl rfl) (T12.sh hru) (Or.inl rfl) rfl ?_
          have R12w := R12.wr (k := 5) (z := tNv 1 500 (q11 T s)) hr6 hr7
          have T12w : sameB (xR ru 4 6) g (gI G12 ru 5 (tNv 1 500 (q11 T s))) := T12.wr (Or.inr ⟨rfl, by omega, by omega⟩)
          have C12w : RC (vr T s) ru 4 6 (gI G12 ru 5 (tNv 1 500 (q11 T s))) := C12.put rfl
          refine a_aload_n 60 dX8_readSums_59 rfl rfl ?_
          refine a_bipush (z := 43) 62 dX8_readSums_60 rfl (zrl rfl) rfl ?_
          refine a_callV 65 (c8_take _ _ (s := (q12 T s)) R12w (R12w.sg (c := 43) (by decide))) cdX8_take lX8_64 dX8_readSums_62 rfl R12.1.1 rfl ⟨by decide, by decide, rfl, rfl⟩ ⟨Nat.zero_le _, Nat.zero_le _⟩ (Nat.le_of_ble_eq_true rfl) rfl ?_
          rintro _ G13 - ⟨b13, rfl, hb13, z13, y13⟩ -
          refine a_if_ne 70 68 dX8_readSums_65 (by decide) rfl (fun c65 => ?_) (fun c65 => ?_)
          · skip
            obtain ⟨w13, R13⟩ := y13 (isb1 hb13 c65)
            have p13 := isT hb13 c65
            have T13 : sameB (xR ru 4 6) g G13 := T12w.tr (w13.mono xT_R)
            have C13 := C12w.keep hr6 w13
            refine a_aload_n 71 dX8_readSums_70 rfl rfl ?_
            refine a_iconst (z := 0) 72 dX8_readSums_71 rfl (zrl rfl) rfl ?_
            refine a_sipush (z := 999) 75 dX8_readSums_72 rfl (zrl rfl) rfl ?_
            refine a_callV 78 (c8_takeNumber _ _ _ (s := (adv T (q12 T s))) R13) cdX8_takeNumber lX8_68 dX8_readSums_75 rfl R13.1.1 rfl ⟨by decide, by decide, rfl, rfl⟩ ⟨Nat.zero_le _, Nat.zero_le _⟩ (Nat.le_of_ble_eq_true rfl) rfl ?_
            rintro _ G14 - ⟨b14, rfl, hb14, z14, y14⟩ -
            refine a_if_ne 83 81 dX8_readSums_78 (by decide) rfl (fun c78 => ?_) (fun c78 => ?_)
            · skip
              obtain ⟨w14, R14, k14⟩ := y14 (isb1 hb14 c78)
              have p14 := isT hb14 c78
              have T14 : sameB (xR ru 4 6) g G14 := T13.tr (w14.mono xT_R)
              have C14 := C13.keep hr6 w14
              refine a_aload_n 84 dX8_readSums_83 rfl rfl ?_
              refine a_aload_n 85 dX8_readSums_84 rfl rfl ?_
              refine a_getIz (tNv 0 999 (adv T (q12 T s))) 88 dX8_readSums_85 fX8_31 R14.1.1 rfl (k14.trans (if_pos p14).symm) rfl ?_
              refine a_putI 91 dX8_readSums_88 fX8_90 (Or.inl rfl) (T14.sh hru) (Or.inl rfl) rfl ?_
              have R14w := R14.wr (k := 6) (z := tNv 0 999 (adv T (q12 T s))) hr6 hr7
              have T14w : sameB (xR ru 4 6) g (gI G14 ru 6 (tNv 0 999 (adv T (q12 T s)))) := T14.wr (Or.inr ⟨rfl, by omega, by omega⟩)
              have C14w : RC (vr T s) ru 4 7 (gI G14 ru 6 (tNv 0 999 (adv T (q12 T s)))) := C14.put (if_pos p13).symm
              refine a_iconst (z := 1) 92 dX8_readSums_91 rfl (zrl rfl) rfl ?_
              refine a_breturn dX8_readSums_92 rfl (by omega) ⟨Nat.zero_le _, Nat.zero_le _⟩ ?_
              have e13 : q13 T s = adv T (adv T (q12 T s)) := (if_pos p13).trans (if_pos p14)
              exact ⟨_, rfl, T14w, Or.inl ⟨rfl, by rw [e13]; exact R14w, C14w⟩⟩
            · skip
              refine a_iconst (z := 0) 82 dX8_readSums_81 rfl (zrl rfl) rfl ?_
              refine a_breturn dX8_readSums_82 rfl (by omega) ⟨Nat.zero_le _, Nat.zero_le _⟩ ?_
              have z14e := z14 (by omega)
              subst z14e
              have e13 : q13 T s = fl (adv T (q12 T s)) := (if_pos p13).trans (if_neg (isN hb14 (by omega)))
              have v13 : (q13 T s).2.2.2.2 = (adv T (q12 T s)).2.2.1 := by rw [e13]; exact fl_f R13.2.2.2
              exact ⟨_, rfl, T13, Or.inr ⟨rfl, by rw [v13]; exact R13.st.1.symm, by rw [v13]; exact R13.st.2⟩⟩
          · skip
            refine a_iconst (z := 1) 69 dX8_readSums_68 rfl (zrl rfl) rfl ?_
            refine a_breturn dX8_readSums_69 rfl (by omega) ⟨Nat.zero_le _, Nat.zero_le _⟩ ?_
            have z13e := z13 (by omega)
            subst z13e
            have e13 : q13 T s = q12 T s := if_neg (isN hb13 (by omega))
            refine ⟨_, rfl, T12w, Or.inl ⟨rfl, by rw [e13]; exact R12w, fun i a b => ?_⟩⟩
            by_cases e : i = 6
            · subst e
              have h0 : (vr T s 6) = 0 := if_neg (isN hb13 (by omega))
              rw [h0, ← hz6]
              exact (gI_n (Or.inr (by decide))).trans ((w12.2.2 ru 6 (by unfold xT; omega)).trans ((w11.2.2 ru 6 (by unfold xT; omega)).trans ((gI_n (Or.inr (by decide))).trans ((w10.2.2 ru 6 (by unfold xT; omega)).trans (w9.2.2 ru 6 (by unfold xT; omega))))))
            · exact C12w i a (by omega)
        · skip
          refine a_iconst (z := 0) 50 dX8_readSums_49 rfl (zrl rfl) rfl ?_
          refine a_breturn dX8_readSums_50 rfl (by omega) ⟨Nat.zero_le _, Nat.zero_le _⟩ ?_
          have z12e := z12 (by omega)
          subst z12e
          have f12 : q12 T s = fl (q11 T s) := if_neg (isN hb12 (by omega))
          have v12 : (q12 T s).2.2.2.2 = (q11 T s).2.2.1 := by rw [f12]; exact fl_f R11.2.2.2
          have u12 := R11.st
          have f13 : q13 T s = q12 T s := if_neg (fun z => by have := z.1; omega)
          have v13 : (q13 T s).2.2.2.2 = (q11 T s).2.2.1 := by rw [f13]; exact v12
          exact ⟨_, rfl, T11, Or.inr ⟨rfl, by rw [v13]; exact u12.1.symm, by rw [v13]; exact u12.2⟩⟩
    · skip
      refine a_iconst (z := 0) 21 dX8_readSums_20 rfl (zrl rfl) rfl ?_
      refine a_breturn dX8_readSums_21 rfl (by omega) ⟨Nat.zero_le _, Nat.zero_le _⟩ ?_
      have z10e := z10 (by omega)
      subst z10e
      have f10 : q10 T s = fl (q9 T s) := if_neg (isN hb10 (by omega))
      have v10 : (q10 T s).2.2.2.2 = (q9 T s).2.2.1 := by rw [f10]; exact fl_f R9.2.2.2
      have u10 := R9.st
      have f11 : q11 T s = q10 T s := tW_st (by rw [v10]; exact u10.2.1)
      have v11 : (q11 T s).2.2.2.2 = (q9 T s).2.2.1 := by rw [f11]; exact v10
      have f12 : q12 T s = q11 T s := tN_st (by rw [v11]; exact u10.2.1)
      have v12 : (q12 T s).2.2.2.2 = (q9 T s).2.2.1 := by rw [f12]; exact v11
      have f13 : q13 T s = q12 T s := if_neg (fun z => by have := z.1; omega)
      have v13 : (q13 T s).2.2.2.2 = (q9 T s).2.2.1 := by rw [f13]; exact v12
      exact ⟨_, rfl, T9, Or.inr ⟨rfl, by rw [v13]; exact u10.1.symm, by rw [v13]; exact u10.2⟩⟩
set_option maxHeartbeats 4000000 in
set_option maxRecDepth 100000 in
theorem c8_readPart (g : GH) {T : Int → Int} {L : Int} {s : PS} {ru : Nat} (hru : g.1 ru = some (Sum.inl 9)) (hr6 : ru ≠ 26) (hr7 : ru ≠ 27) (hR : RP g T L (q13 T s)) (hz7 : g.2.1 ru 7 = 1) (hz8 : g.2.1 ru 8 = 1) : AMet mX8_readPart g [vA 26, vA ru] (fun r g' => ∃ b : Int, r = vI b ∧ sameB (xR ru 7 8) g g' ∧ ((b = 1 ∧ RP g' T L (q14 T s) ∧ RC (vr T s) ru 7 9 g') ∨ (b = 0 ∧ (q14 T s).2.2.2.2 = g'.2.1 26 3 ∧ (0 ≤ (q14 T s).2.2.2.2 ∧ (q14 T s).2.2.2.2 ≤ 600)))) := by
  refine AMet.of [vA 26, vA ru] (by decide) rfl (Nat.le_of_ble_eq_true rfl) ?_
  have hT : sameB (xR ru 7 8) g g := sameB.rf
  have hC : RC (vr T s) ru 7 7 g := fun i a b => absurd b (by omega)
  refine a_aload_n 1 dX8_readPart_0 rfl rfl ?_
  refine a_iconst (z := 5) 2 dX8_readPart_1 rfl (zrl rfl) rfl ?_
  refine a_callV 5 (c8_take _ _ (s := (q13 T s)) hR (hR.wd (c := 2) (by decide) (by decide))) cdX8_take lX8_64 dX8_readPart_2 rfl hR.1.1 rfl ⟨by decide, by decide, rfl, rfl⟩ ⟨Nat.zero_le _, Nat.zero_le _⟩ (Nat.le_of_ble_eq_true rfl) rfl ?_
  rintro _ G13 - ⟨b13, rfl, hb13, z13, y13⟩ -
  refine a_if_ne 10 8 dX8_readPart_5 (by decide) rfl (fun c5 => ?_) (fun c5 => ?_)
  · skip
    obtain ⟨w13, R13⟩ := y13 (isb1 hb13 c5)
    have p13 := isT hb13 c5
    have T13 : sameB (xR ru 7 8) g G13 := hT.tr (w13.mono xT_R)
    have C13 := hC.keep hr6 w13
    refine a_aload_n 11 dX8_readPart_10 rfl rfl ?_
    refine a_iconst (z := 0) 12 dX8_readPart_11 rfl (zrl rfl) rfl ?_
    refine a_bipush (z := 99) 14 dX8_readPart_12 rfl (zrl rfl) rfl ?_
    refine a_callV 17 (c8_takeNumber _ _ _ (s := (adv T (q13 T s))) R13) cdX8_takeNumber lX8_68 dX8_readPart_14 rfl R13.1.1 rfl ⟨by decide, by decide, rfl, rfl⟩ ⟨Nat.zero_le _, Nat.zero_le _⟩ (Nat.le_of_ble_eq_true rfl) rfl ?_
    rintro _ G14 - ⟨b14, rfl, hb14, z14, y14⟩ -
    refine a_if_ne 22 20 dX8_readPart_17 (by decide) rfl (fun c17 => ?_) (fun c17 => ?_)
    · skip
      obtain ⟨w14, R14, k14⟩ := y14 (isb1 hb14 c17)
      have p14 := isT hb14 c17
      have e14 : tN T 0 99 (adv T (q13 T s)) = adv T (adv T (q13 T s)) := if_pos p14
      rw [← e14] at R14
      have T14 : sameB (xR ru 7 8) g G14 := T13.tr (w14.mono xT_R)
      have C14 := C13.keep hr6 w14
      refine a_aload_n 23 dX8_readPart_22 rfl rfl ?_
      refine a_aload_n 24 dX8_readPart_23 rfl rfl ?_
      refine a_getIz (tNv 0 99 (adv T (q13 T s))) 27 dX8_readPart_24 fX8_31 R14.1.1 rfl (k14.trans (if_pos p14).symm) rfl ?_
      refine a_putI 30 dX8_readPart_27 fX8_93 (Or.inl rfl) (T14.sh hru) (Or.inl rfl) rfl ?_
      have R14w := R14.wr (k := 7) (z := tNv 0 99 (adv T (q13 T s))) hr6 hr7
      have T14w : sameB (xR ru 7 8) g (gI G14 ru 7 (tNv 0 99 (adv T (q13 T s)))) := T14.wr (Or.inr ⟨rfl, by omega, by omega⟩)
      have C14w : RC (vr T s) ru 7 8 (gI G14 ru 7 (tNv 0 99 (adv T (q13 T s)))) := C14.put (if_pos p13).symm
      refine a_aload_n 31 dX8_readPart_30 rfl rfl ?_
      refine a_bipush (z := 47) 33 dX8_readPart_31 rfl (zrl rfl) rfl ?_
      refine a_callV 36 (c8_take _ _ (s := (tN T 0 99 (adv T (q13 T s)))) R14w (R14w.sg (c := 47) (by decide))) cdX8_take lX8_64 dX8_readPart_33 rfl R14.1.1 rfl ⟨by decide, by decide, rfl, rfl⟩ ⟨Nat.zero_le _, Nat.zero_le _⟩ (Nat.le_of_ble_eq_true rfl) rfl ?_
      rintro _ G15 - ⟨b15, rfl, hb15, z15, y15⟩ -
      refine a_if_eq 56 39 dX8_readPart_36 (by decide) rfl (fun c36 => ?_) (fun c36 => ?_)
      · skip
        refine a_iconst (z := 0) 57 dX8_readPart_56 rfl (zrl rfl) rfl ?_
        refine a_breturn dX8_readPart_57 rfl (by omega) ⟨Nat.zero_le _, Nat.zero_le _⟩ ?_
        have z15e := z15 c36
        subst z15e
        have e15 : (tS T 47 (tN T 0 99 (adv T (q13 T s)))) = fl (tN T 0 99 (adv T (q13 T s))) := if_neg (isN hb15 c36)
        have v15 : (tS T 47 (tN T 0 99 (adv T (q13 T s)))).2.2.2.2 = (tN T 0 99 (adv T (q13 T s))).2.2.1 := by rw [e15]; exact fl_f R14w.2.2.2
        have e16 : q14 T s = (tS T 47 (tN T 0 99 (adv T (q13 T s)))) := (if_pos p13).trans (tN_st (by rw [v15]; exact R14w.st.2.1))
        exact ⟨_, rfl, T14w, Or.inr ⟨rfl, by rw [e16, v15]; exact R14w.st.1.symm, by rw [e16, v15]; exact R14w.st.2⟩⟩
      · skip
        obtain ⟨w15, R15⟩ := y15 (isb1 hb15 c36)
        have p15 := isT hb15 c36
        have e15 : tS T 47 (tN T 0 99 (adv T (q13 T s))) = adv T (tN T 0 99 (adv T (q13 T s))) := if_pos p15
        rw [← e15] at R15
        have T15 : sameB (xR ru 7 8) g G15 := T14w.tr (w15.mono xT_R)
        have C15 := C14w.keep hr6 w15
        refine a_aload_n 40 dX8_readPart_39 rfl rfl ?_
        refine a_iconst (z := 1) 41 dX8_readPart_40 rfl (zrl rfl) rfl ?_
        refine a_aload_n 42 dX8_readPart_41 rfl rfl ?_
        refine a_getIz (tNv 0 99 (adv T (q13 T s))) 45 dX8_readPart_42 fX8_93 (T15.sh hru) rfl ((C15 7 (by omega) (by omega)).trans (if_pos p13)) rfl ?_
        refine a_max 48 klX8_96 dX8_readPart_45 ⟨by decide, by decide, rfl, rfl⟩ ⟨Nat.zero_le _, Nat.zero_le _⟩ (Nat.le_of_ble_eq_true rfl) rfl ?_
        rw [show (if 1 < tNv 0 99 (adv T (q13 T s)) then tNv 0 99 (adv T (q13 T s)) else 1) = (mx1 (tNv 0 99 (adv T (q13 T s)))) from by unfold mx1; by_cases q : 1 < tNv 0 99 (adv T (q13 T s)); rw [if_pos q, if_neg (by omega)]; by_cases q2 : tNv 0 99 (adv T (q13 T s)) < 1; rw [if_neg q, if_pos q2]; rw [if_neg q, if_neg q2]; omega]
        refine a_bipush (z := 99) 50 dX8_readPart_48 rfl (zrl rfl) rfl ?_
        refine a_callV 53 (c8_takeNumber _ _ _ (s := (tS T 47 (tN T 0 99 (adv T (q13 T s))))) R15) cdX8_takeNumber lX8_68 dX8_readPart_50 rfl R15.1.1 rfl ⟨by decide, by decide, rfl, rfl⟩ ⟨Nat.zero_le _, Nat.zero_le _⟩ (Nat.le_of_ble_eq_true rfl) rfl ?_
        rintro _ G16 - ⟨b16, rfl, hb16, z16, y16⟩ -
        refine a_if_ne 58 56 dX8_readPart_53 (by decide) rfl (fun c53 => ?_) (fun c53 => ?_)
        · skip
          obtain ⟨w16, R16, k16⟩ := y16 (isb1 hb16 c53)
          have p16 := isT hb16 c53
          have e16 : tN T (mx1 (tNv 0 99 (adv T (q13 T s)))) 99 (tS T 47 (tN T 0 99 (adv T (q13 T s)))) = adv T (tS T 47 (tN T 0 99 (adv T (q13 T s)))) := if_pos p16
          rw [← e16] at R16
          have T16 : sameB (xR ru 7 8) g G16 := T15.tr (w16.mono xT_R)
          have C16 := C15.keep hr6 w16
          refine a_aload_n 59 dX8_readPart_58 rfl rfl ?_
          refine a_aload_n 60 dX8_readPart_59 rfl rfl ?_
          refine a_getIz (tNv (mx1 (tNv 0 99 (adv T (q13 T s)))) 99 (tS T 47 (tN T 0 99 (adv T (q13 T s))))) 63 dX8_readPart_60 fX8_31 R16.1.1 rfl (k16.trans (if_pos p16).symm) rfl ?_
          refine a_putI 66 dX8_readPart_63 fX8_102 (Or.inl rfl) (T16.sh hru) (Or.inl rfl) rfl ?_
          have R16w := R16.wr (k := 8) (z := tNv (mx1 (tNv 0 99 (adv T (q13 T s)))) 99 (tS T 47 (tN T 0 99 (adv T (q13 T s))))) hr6 hr7
          have T16w : sameB (xR ru 7 8) g (gI G16 ru 8 (tNv (mx1 (tNv 0 99 (adv T (q13 T s)))) 99 (tS T 47 (tN T 0 99 (adv T (q13 T s)))))) := T16.wr (Or.inr ⟨rfl, by omega, by omega⟩)
          have C16w : RC (vr T s) ru 7 9 (gI G16 ru 8 (tNv (mx1 (tNv 0 99 (adv T (q13 T s)))) 99 (tS T 47 (tN T 0 99 (adv T (q13 T s)))))) := C16.put (if_pos p13).symm
          refine a_iconst (z := 1) 67 dX8_readPart_66 rfl (zrl rfl) rfl ?_
          refine a_breturn dX8_readPart_67 rfl (by omega) ⟨Nat.zero_le _, Nat.zero_le _⟩ ?_
          have e14 : q14 T s = tN T (mx1 (tNv 0 99 (adv T (q13 T s)))) 99 (tS T 47 (tN T 0 99 (adv T (q13 T s)))) := if_pos p13
          exact ⟨_, rfl, T16w, Or.inl ⟨rfl, by rw [e14]; exact R16w, C16w⟩⟩
        · skip
          refine a_iconst (z := 0) 57 dX8_readPart_56 rfl (zrl rfl) rfl ?_
          refine a_breturn dX8_readPart_57 rfl (by omega) ⟨Nat.zero_le _, Nat.zero_le _⟩ ?_
          have z16e := z16 (by omega)
          subst z16e
          have e16 : q14 T s = fl (tS T 47 (tN T 0 99 (adv T (q13 T s)))) := (if_pos p13).trans (if_neg (isN hb16 (by omega)))
          have v16 : (q14 T s).2.2.2.2 = (tS T 47 (tN T 0 99 (adv T (q13 T s)))).2.2.1 := by rw [e16]; exact fl_f R15.2.2.2
          exact ⟨_, rfl, T15, Or.inr ⟨rfl, by rw [v16]; exact R15.st.1.symm, by rw [v16]; exact R15.st.2⟩⟩
    · skip
      refine a_iconst (z := 0) 21 dX8_readPart_20 rfl (zrl rfl) rfl ?_
      refine a_breturn dX8_readPart_21 rfl (by omega) ⟨Nat.zero_le _, Nat.zero_le _⟩ ?_
      have z14e := z14 (by omega)
      subst z14e
      have e14 : (tN T 0 99 (adv T (q13 T s))) = fl (adv T (q13 T s)) := if_neg (isN hb14 (by omega))
      have v14 : (tN T 0 99 (adv T (q13 T s))).2.2.2.2 = (adv T (q13 T s)).2.2.1 := by rw [e14]; exact fl_f R13.2.2.2
      have e15 : (tS T 47 (tN T 0 99 (adv T (q13 T s)))) = (tN T 0 99 (adv T (q13 T s))) := tS_st (by rw [v14]; exact R13.st.2.1)
      have e16 : q14 T s = (tN T 0 99 (adv T (q13 T s))) := (if_pos p13).trans ((tN_st (by rw [e15, v14]; exact R13.st.2.1)).trans e15)
      exact ⟨_, rfl, T13, Or.inr ⟨rfl, by rw [e16, v14]; exact R13.st.1.symm, by rw [e16, v14]; exact R13.st.2⟩⟩
  · skip
    refine a_iconst (z := 1) 9 dX8_readPart_8 rfl (zrl rfl) rfl ?_
    refine a_breturn dX8_readPart_9 rfl (by omega) ⟨Nat.zero_le _, Nat.zero_le _⟩ ?_
    have z13e := z13 (by omega)
    subst z13e
    have n13 := isN hb13 (by omega)
    have e14 : q14 T s = q13 T s := if_neg n13
    refine ⟨_, rfl, hT, Or.inl ⟨rfl, by rw [e14]; exact hR, fun i a b => ?_⟩⟩
    have e78 : i = 7 ∨ i = 8 := by omega
    rcases e78 with rfl | rfl
    · exact hz7.trans (if_neg n13).symm
    · exact hz8.trans (if_neg n13).symm
set_option maxHeartbeats 4000000 in
set_option maxRecDepth 100000 in
theorem c8_readEnd (g : GH) {T : Int → Int} {L : Int} {s : PS} {ru : Nat} (hru : g.1 ru = some (Sum.inl 9)) (hr6 : ru ≠ 26) (hr7 : ru ≠ 27) (hR : RP g T L (q14 T s)) : AMet mX8_readEnd g [vA 26, vA ru] (fun r g' => ∃ b : Int, r = vI b ∧ sameB (xR ru 9 9) g g' ∧ ((b = 1 ∧ RP g' T L (q16 T s) ∧ RC (vr T s) ru 9 10 g') ∨ (b = 0 ∧ (q16 T s).2.2.2.2 = g'.2.1 26 3 ∧ (0 ≤ (q16 T s).2.2.2.2 ∧ (q16 T s).2.2.2.2 ≤ 600)))) := by
  refine AMet.of [vA 26, vA ru] (by decide) rfl (Nat.le_of_ble_eq_true rfl) ?_
  refine a_aload_n 1 dX8_readEnd_0 rfl rfl ?_
  refine a_aload_n 2 dX8_readEnd_1 rfl rfl ?_
  refine a_bipush (z := 6) 4 dX8_readEnd_2 rfl (zrl rfl) rfl ?_
  refine a_callV 7 (c8_take _ _ (s := q14 T s) hR (hR.wd (c := 3) (by decide) (by decide))) cdX8_take lX8_64 dX8_readEnd_4 rfl hR.1.1 rfl ⟨by decide, by decide, rfl, rfl⟩ ⟨Nat.zero_le _, Nat.zero_le _⟩ (Nat.le_of_ble_eq_true rfl) rfl ?_
  rintro _ G15 - ⟨b15, rfl, hb15, z15, y15⟩ -
  have hbb : b15 = 0 ∨ b15 = 1 := by rcases hb15 with q | q; exact Or.inr q.1; exact Or.inl q.1
  have hc15 : (sameB xT g G15 ∧ RP G15 T L (q15 T s)) ∧ b15 = vr T s 9 := by
    rcases hb15 with q | q
    · obtain ⟨w, R⟩ := y15 q.1
      have e : q15 T s = adv T (q14 T s) := if_pos q.2
      exact ⟨⟨w, by rw [e]; exact R⟩, q.1.trans (if_pos q.2).symm⟩
    · have e := z15 q.1
      subst e
      have e : q15 T s = q14 T s := if_neg q.2
      exact ⟨⟨sameB.rf, by rw [e]; exact hR⟩, q.1.trans (if_neg q.2).symm⟩
  obtain ⟨⟨w15, R15⟩, hv9⟩ := hc15
  have T15 : sameB (xR ru 9 9) g G15 := w15.mono xT_R
  refine a_putI 10 dX8_readEnd_7 fX8_105 (Or.inl rfl) (T15.sh hru) (Or.inr ⟨rfl, hbb⟩) rfl ?_
  have R15w := R15.wr (k := 9) (z := b15) hr6 hr7
  have T15w : sameB (xR ru 9 9) g (gI G15 ru 9 b15) := T15.wr (Or.inr ⟨rfl, by omega, by omega⟩)
  have C15w : RC (vr T s) ru 9 10 (gI G15 ru 9 b15) := RC.put (n := 9) (fun i a b => absurd b (by omega)) hv9
  refine a_aload_n 11 dX8_readEnd_10 rfl rfl ?_
  refine a_bipush (z := 59) 13 dX8_readEnd_11 rfl (zrl rfl) rfl ?_
  refine a_callV 16 (c8_take _ _ (s := q15 T s) R15w (R15w.sg (c := 59) (by decide))) cdX8_take lX8_64 dX8_readEnd_13 rfl R15.1.1 rfl ⟨by decide, by decide, rfl, rfl⟩ ⟨Nat.zero_le _, Nat.zero_le _⟩ (Nat.le_of_ble_eq_true rfl) rfl ?_
  rintro _ G16 - ⟨b16, rfl, hb16, z16, y16⟩ -
  refine a_breturn dX8_readEnd_16 rfl (by rcases hb16 with q | q; exact Or.inr q.1; exact Or.inl q.1) ⟨Nat.zero_le _, Nat.zero_le _⟩ ?_
  rcases hb16 with q | q
  · obtain ⟨w16, R16⟩ := y16 q.1
    have e : q16 T s = adv T (q15 T s) := if_pos q.2
    exact ⟨_, rfl, T15w.tr (w16.mono xT_R), Or.inl ⟨q.1, by rw [e]; exact R16, C15w.keep hr6 w16⟩⟩
  · have e := z16 q.1
    subst e
    have e : q16 T s = fl (q15 T s) := if_neg q.2
    have v : (q16 T s).2.2.2.2 = (q15 T s).2.2.1 := by rw [e]; exact fl_f R15w.2.2.2
    exact ⟨_, rfl, T15w, Or.inr ⟨q.1, by rw [v]; exact R15w.st.1.symm, by rw [v]; exact R15w.st.2⟩⟩
