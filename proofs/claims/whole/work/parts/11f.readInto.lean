/-- behind a fault all stands -/
theorem q_st14 {T : Int → Int} {s : PS} (h : 0 ≤ (q14 T s).2.2.2.2) : q16 T s = q14 T s := by
  have e1 : q15 T s = q14 T s := if_neg (fun z => by have := z.1; omega)
  have e2 : q16 T s = q15 T s := tS_st (by rw [e1]; exact h)
  exact e2.trans e1
theorem q_st13 {T : Int → Int} {s : PS} (h : 0 ≤ (q13 T s).2.2.2.2) : q16 T s = q13 T s := by
  have e1 : q14 T s = q13 T s := if_neg (fun z => by have := z.1; omega)
  exact (q_st14 (by rw [e1]; exact h)).trans e1
theorem q_st8 {T : Int → Int} {s : PS} (h : 0 ≤ (q8 T s).2.2.2.2) : q16 T s = q8 T s := by
  have e1 : q9 T s = q8 T s := tS_st h
  have e2 : q10 T s = q9 T s := tN_st (by rw [e1]; exact h)
  have e3 : q11 T s = q10 T s := tW_st (by rw [e2, e1]; exact h)
  have e4 : q12 T s = q11 T s := tN_st (by rw [e3, e2, e1]; exact h)
  have e5 : q12 T s = q8 T s := by rw [e4, e3, e2, e1]
  have e6 : q13 T s = q12 T s := if_neg (fun z => by have := z.1; rw [e5] at this; omega)
  have e7 : q13 T s = q8 T s := e6.trans e5
  exact (q_st13 (by rw [e7]; exact h)).trans e7
/-- what reading into the book at b writes -/
def xB (b a k : Nat) : Prop := xT a k ∨ (a = b ∧ k = 1) ∨ (b + 2 ≤ a ∧ a ≤ b + 13 ∧ k ≤ 9)
theorem xT_B {b : Nat} : ∀ a k, xT a k → xB b a k := fun _ _ h => Or.inl h
theorem xR_B {b r lo hi : Nat} (hr : r < 12) (h9 : hi ≤ 9) : ∀ a k, xR (b + 2 + r) lo hi a k → xB b a k := by unfold xR xB xT; omega
theorem RC.R {V : Nat → Int} {r r' lo n lo' hi' : Nat} {g g' : GH} (h : sameB (xR r' lo' hi') g g') (h6 : r ≠ 26) (hd : r ≠ r' ∨ n ≤ lo' ∨ hi' < lo) (q : RC V r lo n g) : RC V r lo n g' := fun i a b => (h.2.2 r i (by unfold xR xT; omega)).trans (q i a b)
theorem ft_neg {T : Int → Int} {u : Int} {d : Nat} (h : (rs T u d).2.1 = 0) : ftE T u d = (rs T u d).2.2.2.2 := if_neg (fun z => z.2 h)
set_option maxHeartbeats 4000000 in
set_option maxRecDepth 100000 in
theorem c8_readInto (g : GH) {T : Int → Int} {L : Int} (hs : TXs g) (hc : TXc g T L) {u : Int} {b : Nat} (hb28 : 28 ≤ b) (hb : BK g b (b + 1) (fun i => b + 2 + i)) : AMet mX8_readInto g [vA 26, vA b] (fun r g' => sameB (xB b) g g' ∧ ∃ d, rtE T u d ∧ ((ftE T u d < 0 ∧ r = vI (-9) ∧ g'.2.1 b 1 = d ∧ ∀ i, i < d → ∀ j, j < 10 → g'.2.1 (b + 2 + i) j = vr T (rs T u i) j) ∨ ((0 ≤ ftE T u d ∧ ftE T u d ≤ 600) ∧ r = vI (ftE T u d)))) := by
  refine AMet.of [vA 26, vA b, none, none] (by decide) rfl (Nat.le_of_ble_eq_true rfl) ?_
  refine a_aload_n 1 dX8_readInto_0 rfl rfl ?_
  refine a_iconst (z := 0) 2 dX8_readInto_1 rfl (zrl rfl) rfl ?_
  refine a_putI 5 dX8_readInto_2 fX8_19 (Or.inl rfl) hs.1 (Or.inl rfl) rfl ?_
  refine a_aload_n 6 dX8_readInto_5 rfl rfl ?_
  refine a_iconst (z := 0) 7 dX8_readInto_6 rfl (zrl rfl) rfl ?_
  refine a_putI 10 dX8_readInto_7 fX8_34 (Or.inl rfl) hb.1 (Or.inl rfl) rfl ?_
  have h0 : sameB (xB b) g (gI (gI g 26 2 0) b 1 0) := (sameB.rf.wr (by unfold xB xT; omega)).wr (by unfold xB; omega)
  refine a_aload_n 11 dX8_readInto_10 rfl rfl ?_
  refine a_callV 14 (c8_step _ (T := T) (L := L) (TXs.keep h0 hs) (hc.keep h0 (by unfold xB xT; omega) (fun k => by unfold xB xT; omega)) (u := 0) ⟨Int.le_refl _, hc.1.1⟩ ((gI_n (Or.inl (by omega))).trans gI_s)) cdX8_step lX8_39 dX8_readInto_11 rfl hs.1 rfl ⟨by decide, by decide, rfl, rfl⟩ ⟨Nat.zero_le _, Nat.zero_le _⟩ (Nat.le_of_ble_eq_true rfl) rfl ?_
  rintro _ g1 - ⟨s1, h1⟩ -
  refine a_iconst (z := 0) 15 dX8_readInto_14 rfl (zrl rfl) rfl ?_
  refine a_istore_n 16 dX8_readInto_15 (by decide) rfl rfl ?_
  refine AW.loop (α := GH × Nat) (fun p => 12 - p.2) (fun p => sameB (xB b) g p.1 ∧ p.2 ≤ 12 ∧ RP p.1 T L (rs T u p.2) ∧ p.1.2.1 b 1 = p.2 ∧ (∀ i, i < p.2 → goP (rs T u i)) ∧ ∀ i, i < p.2 → RC (vr T (rs T u i)) (b + 2 + i) 0 10 p.1) (fun p => p.1) (fun p => [vA 26, vA b, vI (p.2 : Int), none]) (fun p => []) ?_ (g1, 0) ?_
  · rintro ⟨g2, r⟩ ⟨h2, hr12, hR2, hb1, hgs, hrc⟩ ih16
    try dsimp only at hI ih ⊢
    try dsimp only at h2 hr12 hR2 hb1 hgs hrc ih16 ⊢
    refine a_iload_n 17 dX8_readInto_16 rfl rfl ?_
    refine a_bipush (z := 12) 19 dX8_readInto_17 rfl (zrl rfl) rfl ?_
    refine a_icmp_ge 94 22 dX8_readInto_19 (by decide) rfl (fun c19 => ?_) (fun c19 => ?_)
    · skip
      refine a_aload_n 95 dX8_readInto_94 rfl rfl ?_
      refine a_getIz (tk (rs T u r).2.1 (rs T u r).2.2.2.1) 98 dX8_readInto_95 fX8_25 hR2.1.1 rfl hR2.2.2.1.2.2.1 rfl ?_
      refine a_iconst (z := 1) 99 dX8_readInto_98 rfl (zrl rfl) rfl ?_
      refine a_icmp_ne 107 102 dX8_readInto_99 (by decide) rfl (fun c99 => ?_) (fun c99 => ?_)
      · skip
        refine a_aload_n 108 dX8_readInto_107 rfl rfl ?_
        refine a_getIz ((rs T u r).2.2.1) 111 dX8_readInto_108 fX8_22 hR2.1.1 rfl hR2.st.1 rfl ?_
        refine a_ireturn dX8_readInto_111 rfl ⟨Nat.zero_le _, Nat.zero_le _⟩ ?_
        have hgo : goP (rs T u r) := ⟨hR2.2.2.2, fun z => c99 ((tk_end hR2.ok).mpr z)⟩
        have e12 : r = 12 := by omega
        have eft : ftE T u r = (rs T u r).2.2.1 := if_pos hgo
        exact ⟨h2, r, ⟨hr12, hgs, fun _ => e12⟩, Or.inr ⟨by rw [eft]; exact hR2.st.2, congrArg vI eft.symm⟩⟩
      · skip
        refine a_bipush (z := (-9)) 104 dX8_readInto_102 rfl (zrl rfl) rfl ?_
        refine a_goto 111 dX8_readInto_104 (by decide) ?_
        refine a_ireturn dX8_readInto_111 rfl ⟨Nat.zero_le _, Nat.zero_le _⟩ ?_
        have ht0 : (rs T u r).2.1 = 0 := (tk_end hR2.ok).mp c99
        refine ⟨h2, r, ⟨hr12, hgs, fun z => absurd ht0 z.2⟩, Or.inl ⟨by rw [ft_neg ht0]; exact hR2.2.2.2, rfl, hb1, fun i hi j hj => hrc i hi j (by omega) hj⟩⟩
    · skip
      refine a_aload_n 23 dX8_readInto_22 rfl rfl ?_
      refine a_getIz (tk (rs T u r).2.1 (rs T u r).2.2.2.1) 26 dX8_readInto_23 fX8_25 hR2.1.1 rfl hR2.2.2.1.2.2.1 rfl ?_
      refine a_iconst (z := 1) 27 dX8_readInto_26 rfl (zrl rfl) rfl ?_
      refine a_icmp_eq 94 30 dX8_readInto_27 (by decide) rfl (fun c27 => ?_) (fun c27 => ?_)
      · skip
        refine a_aload_n 95 dX8_readInto_94 rfl rfl ?_
        refine a_getIz (tk (rs T u r).2.1 (rs T u r).2.2.2.1) 98 dX8_readInto_95 fX8_25 hR2.1.1 rfl hR2.2.2.1.2.2.1 rfl ?_
        refine a_iconst (z := 1) 99 dX8_readInto_98 rfl (zrl rfl) rfl ?_
        refine a_icmp_ne 107 102 dX8_readInto_99 (by decide) rfl (fun c99 => ?_) (fun c99 => ?_)
        · exfalso; omega
        · skip
          refine a_bipush (z := (-9)) 104 dX8_readInto_102 rfl (zrl rfl) rfl ?_
          refine a_goto 111 dX8_readInto_104 (by decide) ?_
          refine a_ireturn dX8_readInto_111 rfl ⟨Nat.zero_le _, Nat.zero_le _⟩ ?_
          have ht0 : (rs T u r).2.1 = 0 := (tk_end hR2.ok).mp c99
          refine ⟨h2, r, ⟨hr12, hgs, fun z => absurd ht0 z.2⟩, Or.inl ⟨by rw [ft_neg ht0]; exact hR2.2.2.2, rfl, hb1, fun i hi j hj => hrc i hi j (by omega) hj⟩⟩
      · skip
        have hr : r < 12 := by omega
        refine a_aload_n 31 dX8_readInto_30 rfl rfl ?_
        refine a_getR 34 dX8_readInto_31 fX8_42 (h2.sh hb.1) rfl (h2.rr hb.2.1) rfl ?_
        refine a_iload_n 35 dX8_readInto_34 rfl rfl ?_
        refine a_aald 36 dX8_readInto_35 (h2.sh hb.2.2.1) rfl (by omega) (by omega) (h2.rr (hb.2.2.2 r hr).1) rfl ?_
        refine a_astore_n 37 dX8_readInto_36 (by decide) rfl rfl ?_
        refine a_aload_n 38 dX8_readInto_37 rfl rfl ?_
        refine a_callV 41 (c9_forgetChoices _ (r := b + 2 + r) (h2.sh (hb.2.2.2 r hr).2)) cdX9_forgetChoices lX8_46 dX8_readInto_38 rfl (h2.sh (hb.2.2.2 r hr).2) rfl ⟨by decide, by decide, rfl, rfl⟩ ⟨Nat.zero_le _, Nat.zero_le _⟩ (Nat.le_of_ble_eq_true rfl) rfl ?_
        rintro _ g3 - hg3 -
        have h6 : b + 2 + r ≠ 26 := by omega
        have h7 : b + 2 + r ≠ 27 := by omega
        have R3 : RP g3 T L (rs T u r) := by rw [hg3]; exact ((hR2.wr h6 h7).wr h6 h7).wr h6 h7
        have w3 : sameB (xB b) g2 g3 := by rw [hg3]; exact ((sameB.rf.wr (by unfold xB; omega)).wr (by unfold xB; omega)).wr (by unfold xB; omega)
        have u3 : sameB (xB b) g g3 := h2.tr w3
        have z6 : g3.2.1 (b + 2 + r) 6 = 0 := by rw [hg3]; exact (gI_n (Or.inr (by decide))).trans ((gI_n (Or.inr (by decide))).trans gI_s)
        have z7 : g3.2.1 (b + 2 + r) 7 = 1 := by rw [hg3]; exact (gI_n (Or.inr (by decide))).trans gI_s
        have z8 : g3.2.1 (b + 2 + r) 8 = 1 := by rw [hg3]; exact gI_s
        have zo : ∀ i, i < r → RC (vr T (rs T u i)) (b + 2 + i) 0 10 g3 := fun i hi j a b9 => by
          rw [hg3]
          exact (gI_n (Or.inl (by omega))).trans ((gI_n (Or.inl (by omega))).trans ((gI_n (Or.inl (by omega))).trans (hrc i hi j a b9)))
        have zb : g3.2.1 b 1 = r := by
          rw [hg3]
          exact (gI_n (Or.inl (by omega))).trans ((gI_n (Or.inl (by omega))).trans ((gI_n (Or.inl (by omega))).trans hb1))
        refine a_aload_n 42 dX8_readInto_41 rfl rfl ?_
        refine a_aload_n 43 dX8_readInto_42 rfl rfl ?_
        refine a_callV 46 (c8_readLandsAndDays _ (s := (rs T u r)) (ru := b + 2 + r) (u3.sh (hb.2.2.2 r hr).2) h6 h7 R3) cdX8_readLandsAndDays lX8_51 dX8_readInto_43 rfl R3.1.1 rfl ⟨by decide, by decide, rfl, rfl⟩ ⟨Nat.zero_le _, Nat.zero_le _⟩ (Nat.le_of_ble_eq_true rfl) rfl ?_
        rintro _ g4 - ⟨b4, rfl, t4, q4⟩ -
        have u4 : sameB (xB b) g g4 := u3.tr (t4.mono (xR_B hr (by decide)))
        refine a_if_eq 73 49 dX8_readInto_46 (by decide) rfl (fun c46 => ?_) (fun c46 => ?_)
        · skip
          refine a_aload_n 74 dX8_readInto_73 rfl rfl ?_
          refine a_getI 77 dX8_readInto_74 fX8_22 (u4.sh hs.1) rfl rfl ?_
          refine a_ireturn dX8_readInto_77 rfl ⟨Nat.zero_le _, Nat.zero_le _⟩ ?_
          have hgo : goP (rs T u r) := ⟨hR2.2.2.2, fun z => c27 ((tk_end hR2.ok).mpr z)⟩
          have q4z := q4.resolve_left (fun z => by have := z.1; omega)
          have e16 : (rs T u (r + 1)).2.2.2.2 = g4.2.1 26 3 ∧ (0 ≤ g4.2.1 26 3 ∧ g4.2.1 26 3 ≤ 600) := by
            have e : rs T u (r + 1) = _ := q_st8 (q4z).2.2.1
            rw [e, q4z.2.1]; exact ⟨rfl, by rw [← q4z.2.1]; exact q4z.2.2⟩
          have eft : ftE T u (r + 1) = (rs T u (r + 1)).2.2.2.2 := if_neg (fun z => by have := z.1; omega)
          refine ⟨u4, r + 1, ⟨by omega, fun i hi => ?_, fun z => by have := z.1; omega⟩, Or.inr ⟨by rw [eft, e16.1]; exact e16.2, congrArg vI (by rw [eft, e16.1])⟩⟩
          by_cases e : i = r
          · rw [e]; exact hgo
          · exact hgs i (by omega)
        · skip
          obtain ⟨R4, C4⟩ := (q4.resolve_right (fun z => c46 z.1)).2
          have z46 := (t4.2.2 (b + 2 + r) 6 (by unfold xR xT; omega)).trans z6
          refine a_aload_n 50 dX8_readInto_49 rfl rfl ?_
          refine a_aload_n 51 dX8_readInto_50 rfl rfl ?_
          refine a_callV 54 (c8_readSums _ (s := (rs T u r)) (ru := b + 2 + r) (u4.sh (hb.2.2.2 r hr).2) h6 h7 R4 z46) cdX8_readSums lX8_55 dX8_readInto_51 rfl (u4.sh hs.1) rfl ⟨by decide, by decide, rfl, rfl⟩ ⟨Nat.zero_le _, Nat.zero_le _⟩ (Nat.le_of_ble_eq_true rfl) rfl ?_
          rintro _ g5 - ⟨b5, rfl, t5, q5⟩ -
          have u5 : sameB (xB b) g g5 := u4.tr (t5.mono (xR_B hr (by decide)))
          refine a_if_eq 73 57 dX8_readInto_54 (by decide) rfl (fun c54 => ?_) (fun c54 => ?_)
          · skip
            refine a_aload_n 74 dX8_readInto_73 rfl rfl ?_
            refine a_getI 77 dX8_readInto_74 fX8_22 (u5.sh hs.1) rfl rfl ?_
            refine a_ireturn dX8_readInto_77 rfl ⟨Nat.zero_le _, Nat.zero_le _⟩ ?_
            have hgo : goP (rs T u r) := ⟨hR2.2.2.2, fun z => c27 ((tk_end hR2.ok).mpr z)⟩
            have q4z := q5.resolve_left (fun z => by have := z.1; omega)
            have e16 : (rs T u (r + 1)).2.2.2.2 = g5.2.1 26 3 ∧ (0 ≤ g5.2.1 26 3 ∧ g5.2.1 26 3 ≤ 600) := by
              have e : rs T u (r + 1) = _ := q_st13 (q4z).2.2.1
              rw [e, q4z.2.1]; exact ⟨rfl, by rw [← q4z.2.1]; exact q4z.2.2⟩
            have eft : ftE T u (r + 1) = (rs T u (r + 1)).2.2.2.2 := if_neg (fun z => by have := z.1; omega)
            refine ⟨u5, r + 1, ⟨by omega, fun i hi => ?_, fun z => by have := z.1; omega⟩, Or.inr ⟨by rw [eft, e16.1]; exact e16.2, congrArg vI (by rw [eft, e16.1])⟩⟩
            by_cases e : i = r
            · rw [e]; exact hgo
            · exact hgs i (by omega)
          · skip
            obtain ⟨R5, C5⟩ := (q5.resolve_right (fun z => c54 z.1)).2
            have z57 := (t5.2.2 (b + 2 + r) 7 (by unfold xR xT; omega)).trans ((t4.2.2 (b + 2 + r) 7 (by unfold xR xT; omega)).trans z7)
            have z58 := (t5.2.2 (b + 2 + r) 8 (by unfold xR xT; omega)).trans ((t4.2.2 (b + 2 + r) 8 (by unfold xR xT; omega)).trans z8)
            refine a_aload_n 58 dX8_readInto_57 rfl rfl ?_
            refine a_aload_n 59 dX8_readInto_58 rfl rfl ?_
            refine a_callV 62 (c8_readPart _ (s := (rs T u r)) (ru := b + 2 + r) (u5.sh (hb.2.2.2 r hr).2) h6 h7 R5 z57 z58) cdX8_readPart lX8_58 dX8_readInto_59 rfl (u5.sh hs.1) rfl ⟨by decide, by decide, rfl, rfl⟩ ⟨Nat.zero_le _, Nat.zero_le _⟩ (Nat.le_of_ble_eq_true rfl) rfl ?_
            rintro _ g6 - ⟨b6, rfl, t6, q6⟩ -
            have u6 : sameB (xB b) g g6 := u5.tr (t6.mono (xR_B hr (by decide)))
            refine a_if_eq 73 65 dX8_readInto_62 (by decide) rfl (fun c62 => ?_) (fun c62 => ?_)
            · skip
              refine a_aload_n 74 dX8_readInto_73 rfl rfl ?_
              refine a_getI 77 dX8_readInto_74 fX8_22 (u6.sh hs.1) rfl rfl ?_
              refine a_ireturn dX8_readInto_77 rfl ⟨Nat.zero_le _, Nat.zero_le _⟩ ?_
              have hgo : goP (rs T u r) := ⟨hR2.2.2.2, fun z => c27 ((tk_end hR2.ok).mpr z)⟩
              have q4z := q6.resolve_left (fun z => by have := z.1; omega)
              have e16 : (rs T u (r + 1)).2.2.2.2 = g6.2.1 26 3 ∧ (0 ≤ g6.2.1 26 3 ∧ g6.2.1 26 3 ≤ 600) := by
                have e : rs T u (r + 1) = _ := q_st14 (q4z).2.2.1
                rw [e, q4z.2.1]; exact ⟨rfl, by rw [← q4z.2.1]; exact q4z.2.2⟩
              have eft : ftE T u (r + 1) = (rs T u (r + 1)).2.2.2.2 := if_neg (fun z => by have := z.1; omega)
              refine ⟨u6, r + 1, ⟨by omega, fun i hi => ?_, fun z => by have := z.1; omega⟩, Or.inr ⟨by rw [eft, e16.1]; exact e16.2, congrArg vI (by rw [eft, e16.1])⟩⟩
              by_cases e : i = r
              · rw [e]; exact hgo
              · exact hgs i (by omega)
            · skip
              obtain ⟨R6, C6⟩ := (q6.resolve_right (fun z => c62 z.1)).2
              refine a_aload_n 66 dX8_readInto_65 rfl rfl ?_
              refine a_aload_n 67 dX8_readInto_66 rfl rfl ?_
              refine a_callV 70 (c8_readEnd _ (s := (rs T u r)) (ru := b + 2 + r) (u6.sh (hb.2.2.2 r hr).2) h6 h7 R6) cdX8_readEnd lX8_61 dX8_readInto_67 rfl (u6.sh hs.1) rfl ⟨by decide, by decide, rfl, rfl⟩ ⟨Nat.zero_le _, Nat.zero_le _⟩ (Nat.le_of_ble_eq_true rfl) rfl ?_
              rintro _ g7 - ⟨b7, rfl, t7, q7⟩ -
              have u7 : sameB (xB b) g g7 := u6.tr (t7.mono (xR_B hr (by decide)))
              refine a_if_ne 78 73 dX8_readInto_70 (by decide) rfl (fun c70 => ?_) (fun c70 => ?_)
              · skip
                obtain ⟨R7, C7⟩ := (q7.resolve_right (fun z => c70 z.1)).2
                have zb7 : g7.2.1 b 1 = r := (t7.2.2 b 1 (by unfold xR xT; omega)).trans ((t6.2.2 b 1 (by unfold xR xT; omega)).trans ((t5.2.2 b 1 (by unfold xR xT; omega)).trans ((t4.2.2 b 1 (by unfold xR xT; omega)).trans zb)))
                have a4 := ((C4.R t5 h6 (by omega)).R t6 h6 (by omega)).R t7 h6 (by omega)
                have a5 := (C5.R t6 h6 (by omega)).R t7 h6 (by omega)
                have a6 := C6.R t7 h6 (by omega)
                have ao : ∀ i, i < r → RC (vr T (rs T u i)) (b + 2 + i) 0 10 g7 := fun i hi => ((((zo i hi).R t4 (by omega) (by omega)).R t5 (by omega) (by omega)).R t6 (by omega) (by omega)).R t7 (by omega) (by omega)
                have an : RC (vr T (rs T u r)) (b + 2 + r) 0 10 g7 := fun i a b9 => by
                  by_cases y : i < 4
                  · exact a4 i a y
                  · by_cases y2 : i < 7
                    · exact a5 i (by omega) y2
                    · by_cases y3 : i < 9
                      · exact a6 i (by omega) y3
                      · exact C7 i (by omega) b9
                refine a_aload_n 79 dX8_readInto_78 rfl rfl ?_
                refine a_dup 80 dX8_readInto_79 (by intro w h; cases h) rfl ?_
                refine a_getIz ((r : Int)) 83 dX8_readInto_80 fX8_34 (u7.sh hb.1) rfl zb7 rfl ?_
                refine a_iconst (z := 1) 84 dX8_readInto_83 rfl (zrl rfl) rfl ?_
                refine a_iadd 85 dX8_readInto_84 (by unfold zr; omega) rfl ?_
                refine a_putI 88 dX8_readInto_85 fX8_34 (Or.inl rfl) (u7.sh hb.1) (Or.inl rfl) rfl ?_
                refine a_iinc 91 dX8_readInto_88 rfl (by unfold zr; omega) (by decide) rfl rfl ?_
                refine a_goto 16 dX8_readInto_91 (by decide) ?_
                have hgo : goP (rs T u r) := ⟨hR2.2.2.2, fun z => c27 ((tk_end hR2.ok).mpr z)⟩
                refine AW.kill 3 ?_
                refine ih16 (_, r + 1) ⟨u7.wr (Or.inr (Or.inl ⟨rfl, rfl⟩)), by dsimp only; omega, R7.wr (by omega) (by omega), gI_s.trans (by dsimp only; omega), fun i hi => ?_, fun i hi j a b9 => ?_⟩ (by dsimp only; omega)
                · by_cases e : i = r
                  · rw [e]; exact hgo
                  · exact hgs i (by dsimp only at hi; omega)
                · refine (gI_n (Or.inl (by omega))).trans ?_
                  by_cases e : i = r
                  · subst e; exact an j a b9
                  · exact ao i (by dsimp only at hi; omega) j a b9
              · skip
                refine a_aload_n 74 dX8_readInto_73 rfl rfl ?_
                refine a_getI 77 dX8_readInto_74 fX8_22 (u7.sh hs.1) rfl rfl ?_
                refine a_ireturn dX8_readInto_77 rfl ⟨Nat.zero_le _, Nat.zero_le _⟩ ?_
                have hgo : goP (rs T u r) := ⟨hR2.2.2.2, fun z => c27 ((tk_end hR2.ok).mpr z)⟩
                have q4z := q7.resolve_left (fun z => by have := z.1; omega)
                have e16 : (rs T u (r + 1)).2.2.2.2 = g7.2.1 26 3 ∧ (0 ≤ g7.2.1 26 3 ∧ g7.2.1 26 3 ≤ 600) := by
                  show (q16 T (rs T u r)).2.2.2.2 = _ ∧ _
                  rw [q4z.2.1]; exact ⟨rfl, by rw [← q4z.2.1]; exact q4z.2.2⟩
                have eft : ftE T u (r + 1) = (rs T u (r + 1)).2.2.2.2 := if_neg (fun z => by have := z.1; omega)
                refine ⟨u7, r + 1, ⟨by omega, fun i hi => ?_, fun z => by have := z.1; omega⟩, Or.inr ⟨by rw [eft, e16.1]; exact e16.2, congrArg vI (by rw [eft, e16.1])⟩⟩
                by_cases e : i = r
                · rw [e]; exact hgo
                · exact hgs i (by omega)
  · refine ⟨h0.tr (s1.mono (fun a k q => xT_B a k (xS_T a k q))), Nat.zero_le _, ⟨TXs.keep s1 (TXs.keep h0 hs), (hc.keep h0 (by unfold xB xT; omega) (fun k => by unfold xB xT; omega)).s s1, h1 u, by show (-1 : Int) < 0; omega⟩, (s1.2.2 b 1 (by unfold xS; omega)).trans gI_s, fun i hi => absurd hi (Nat.not_lt_zero _), fun i hi => absurd hi (Nat.not_lt_zero _)⟩
