/-- the class's reader stands as s, with no fault yet -/
def RP (g : GH) (T : Int → Int) (L : Int) (s : PS) : Prop := TXs g ∧ TXc g T L ∧ RS g L (s.1, s.2.1, s.2.2.1, s.2.2.2.1) ∧ s.2.2.2.2 < 0
def xT (a k : Nat) : Prop := a = 26 ∧ 2 ≤ k ∧ k ≤ 6
theorem xS_T : ∀ a k, xS a k → xT a k := by unfold xS xT; omega
theorem TXc.t {g g' : GH} {T : Int → Int} {L : Int} (h : sameB xT g g') (q : TXc g T L) : TXc g' T L := q.keep h (by unfold xT; omega) (fun k => by unfold xT; omega)
theorem RP.ok {g : GH} {T : Int → Int} {L : Int} {s : PS} (h : RP g T L s) : okX L (s.1, s.2.1, s.2.2.1, s.2.2.2.1) := h.2.2.1.2.2.2.2
theorem RP.sg {g : GH} {T : Int → Int} {L : Int} {s : PS} (h : RP g T L s) {c : Int} (hc : sgB c) : tk s.2.1 s.2.2.2.1 = c ↔ sgP c s := ⟨fun z => ⟨h.2.2.2, (tk_sg h.ok hc).mp z⟩, fun z => (tk_sg h.ok hc).mpr z.2⟩
theorem RP.wd {g : GH} {T : Int → Int} {L : Int} {s : PS} (h : RP g T L s) {w c : Int} (hc : 0 ≤ c ∧ c ≤ 3) (hw : w = 3 + c) : tk s.2.1 s.2.2.2.1 = w ↔ wdP c s := by
  subst hw; exact ⟨fun z => ⟨h.2.2.2, (tk_wd h.ok hc).mp z⟩, fun z => (tk_wd h.ok hc).mpr z.2⟩
theorem RP.wr {g : GH} {T : Int → Int} {L : Int} {s : PS} (h : RP g T L s) {a k : Nat} {z : Int} (h1 : a ≠ 26) (h2 : a ≠ 27) : RP (gI g a k z) T L s := by
  have q : sameB (fun x _ => x = a) g (gI g a k z) := sameB.rf.wr rfl
  refine ⟨TXs.keep q h.1, h.2.1.keep q (fun z => h1 z.symm) (fun k z => h2 z.symm), ?_, h.2.2.2⟩
  obtain ⟨a1, a2, a3, a4, a5⟩ := h.2.2.1
  have n : ∀ j, (gI g a k z).2.1 26 j = g.2.1 26 j := fun j => gI_n (Or.inl (fun z => h1 z.symm))
  exact ⟨(n 2).trans a1, (n 3).trans a2, (n 4).trans a3, fun z => (n 5).trans (a4 z), a5⟩
theorem RP.st {g : GH} {T : Int → Int} {L : Int} {s : PS} (h : RP g T L s) : g.2.1 26 3 = s.2.2.1 ∧ (0 ≤ s.2.2.1 ∧ s.2.2.1 ≤ 600) := ⟨h.2.2.1.2.1, h.ok.2.1.1, Int.le_trans h.ok.2.1.2 h.2.1.1.2⟩
theorem isb1 {b : Int} {P : Prop} (h : isb b P) (hb : b ≠ 0) : b = 1 := by rcases h with h | h; exact h.1; exact absurd h.1 hb
theorem tS_st {T : Int → Int} {c : Int} {s : PS} (h : 0 ≤ s.2.2.2.2) : tS T c s = s := by
  unfold tS; rw [if_neg (fun z => by have := z.1; omega)]; unfold fl; rw [if_neg (by omega)]
theorem tW_st {T : Int → Int} {c : Int} {s : PS} (h : 0 ≤ s.2.2.2.2) : tW T c s = s := by
  unfold tW; rw [if_neg (fun z => by have := z.1; omega)]; unfold fl; rw [if_neg (by omega)]
theorem tN_st {T : Int → Int} {a b : Int} {s : PS} (h : 0 ≤ s.2.2.2.2) : tN T a b s = s := by
  unfold tN; rw [if_neg (fun z => by have := z.1; omega)]; unfold fl; rw [if_neg (by omega)]
theorem fl_f {s : PS} (h : s.2.2.2.2 < 0) : (fl s).2.2.2.2 = s.2.2.1 := by unfold fl; rw [if_pos h]
/-- the cells lo .. n-1 of a rule -/
def RC (V : Nat → Int) (r lo n : Nat) (g : GH) : Prop := ∀ i, lo ≤ i → i < n → g.2.1 r i = V i
theorem RC.keep {V : Nat → Int} {r lo n : Nat} {g g' : GH} (hr : r ≠ 26) (h : sameB xT g g') (q : RC V r lo n g) : RC V r lo n g' := fun i a b => (h.2.2 r i (by unfold xT; omega)).trans (q i a b)
theorem RC.put {V : Nat → Int} {r lo n : Nat} {z : Int} {g : GH} (q : RC V r lo n g) (hz : z = V n) : RC V r lo (n + 1) (gI g r n z) := fun i a b => by
  by_cases e : i = n
  · subst e; exact gI_s.trans hz
  · exact (gI_n (Or.inr e)).trans (q i a (by omega))
def xR (r lo hi a k : Nat) : Prop := xT a k ∨ (a = r ∧ lo ≤ k ∧ k ≤ hi)
theorem xT_R {r lo hi : Nat} : ∀ a k, xT a k → xR r lo hi a k := fun _ _ h => Or.inl h
set_option maxHeartbeats 4000000 in
set_option maxRecDepth 100000 in
theorem c8_take (g : GH) (w : Int) {T : Int → Int} {L : Int} {s : PS} {P : Prop} (hR : RP g T L s) (hP : tk s.2.1 s.2.2.2.1 = w ↔ P) : AMet mX8_take g [vA 26, vI w] (fun r g' => ∃ b : Int, r = vI b ∧ isb b P ∧ (b = 0 → g = g') ∧ (b = 1 → sameB xT g g' ∧ RP g' T L (adv T s))) := by
  refine AMet.of [vA 26, vI w] (by decide) rfl (Nat.le_of_ble_eq_true rfl) ?_
  refine a_aload_n 1 dX8_take_0 rfl rfl ?_
  refine a_getIz (tk s.2.1 s.2.2.2.1) 4 dX8_take_1 fX8_25 (hR.1.1) rfl hR.2.2.1.2.2.1 rfl ?_
  refine a_iload_n 5 dX8_take_4 rfl rfl ?_
  refine a_icmp_eq 10 8 dX8_take_5 (by decide) rfl (fun c5 => ?_) (fun c5 => ?_)
  · skip
    refine a_aload_n 11 dX8_take_10 rfl rfl ?_
    refine a_callV 14 (c8_step _ hR.1 hR.2.1 (u := s.1) hR.ok.1 hR.2.2.1.1) cdX8_step lX8_39 dX8_take_11 rfl (hR.1.1) rfl ⟨by decide, by decide, rfl, rfl⟩ ⟨Nat.zero_le _, Nat.zero_le _⟩ (Nat.le_of_ble_eq_true rfl) rfl ?_
    rintro _ g3 - ⟨s3, h3⟩ -
    refine a_iconst (z := 1) 15 dX8_take_14 rfl (zrl rfl) rfl ?_
    refine a_breturn dX8_take_15 rfl (by omega) ⟨Nat.zero_le _, Nat.zero_le _⟩ ?_
    exact ⟨_, rfl, Or.inl ⟨rfl, hP.mp c5⟩, fun z => absurd z (by decide), fun _ => ⟨s3.mono xS_T, TXs.keep s3 hR.1, hR.2.1.s s3, h3 s.2.2.2.1, hR.2.2.2⟩⟩
  · skip
    refine a_iconst (z := 0) 9 dX8_take_8 rfl (zrl rfl) rfl ?_
    refine a_breturn dX8_take_9 rfl (by omega) ⟨Nat.zero_le _, Nat.zero_le _⟩ ?_
    exact ⟨_, rfl, Or.inr ⟨rfl, fun z => c5 (hP.mpr z)⟩, fun _ => rfl, fun z => absurd z (by decide)⟩
set_option maxHeartbeats 4000000 in
set_option maxRecDepth 100000 in
theorem c8_takeNumber (g : GH) (a b : Int) {T : Int → Int} {L : Int} {s : PS} (hR : RP g T L s) : AMet mX8_takeNumber g [vA 26, vI a, vI b] (fun r g' => ∃ c : Int, r = vI c ∧ isb c (nmP a b s) ∧ (c = 0 → g = g') ∧ (c = 1 → sameB xT g g' ∧ RP g' T L (adv T s) ∧ g'.2.1 26 6 = s.2.2.2.1)) := by
  refine AMet.of [vA 26, vI a, vI b] (by decide) rfl (Nat.le_of_ble_eq_true rfl) ?_
  refine a_aload_n 1 dX8_takeNumber_0 rfl rfl ?_
  refine a_getIz (tk s.2.1 s.2.2.2.1) 4 dX8_takeNumber_1 fX8_25 (hR.1.1) rfl hR.2.2.1.2.2.1 rfl ?_
  refine a_iconst (z := 2) 5 dX8_takeNumber_4 rfl (zrl rfl) rfl ?_
  refine a_icmp_ne 20 8 dX8_takeNumber_5 (by decide) rfl (fun c5 => ?_) (fun c5 => ?_)
  · skip
    refine a_iconst (z := 0) 21 dX8_takeNumber_20 rfl (zrl rfl) rfl ?_
    refine a_breturn dX8_takeNumber_21 rfl (by omega) ⟨Nat.zero_le _, Nat.zero_le _⟩ ?_
    exact ⟨_, rfl, Or.inr ⟨rfl, fun z => c5 ((tk_nm hR.ok).mpr z.2.1)⟩, fun _ => rfl, fun z => absurd z (by decide)⟩
  · skip
    have ht : s.2.1 = 2 := (tk_nm hR.ok).mp c5
    refine a_aload_n 9 dX8_takeNumber_8 rfl rfl ?_
    refine a_getIz (s.2.2.2.1) 12 dX8_takeNumber_9 fX8_28 (hR.1.1) rfl (hR.2.2.1.2.2.2.1 ht) rfl ?_
    refine a_iload_n 13 dX8_takeNumber_12 rfl rfl ?_
    refine a_iload_n 14 dX8_takeNumber_13 rfl rfl ?_
    refine a_callS 17 (c11_within _ _ _ _) cdX11_within lX8_109 dX8_takeNumber_14 rfl rfl ⟨by decide, by decide, rfl, rfl⟩ ⟨Nat.zero_le _, Nat.zero_le _⟩ (Nat.le_of_ble_eq_true rfl) rfl ?_
    rintro _ _ - ⟨b14, rfl, rfl, h14⟩ -
    refine a_if_ne 22 20 dX8_takeNumber_17 (by decide) rfl (fun c17 => ?_) (fun c17 => ?_)
    · skip
      refine a_aload_n 23 dX8_takeNumber_22 rfl rfl ?_
      refine a_aload_n 24 dX8_takeNumber_23 rfl rfl ?_
      refine a_getIz (s.2.2.2.1) 27 dX8_takeNumber_24 fX8_28 (hR.1.1) rfl (hR.2.2.1.2.2.2.1 ht) rfl ?_
      refine a_putI 30 dX8_takeNumber_27 fX8_31 (Or.inl rfl) (hR.1.1) (Or.inl rfl) rfl ?_
      have h2 : sameB xT g (gI g 26 6 s.2.2.2.1) := sameB.rf.wr (by unfold xT; omega)
      refine a_aload_n 31 dX8_takeNumber_30 rfl rfl ?_
      refine a_callV 34 (c8_step _ (T := T) (L := L) (TXs.keep h2 hR.1) (hR.2.1.t h2) (u := s.1) hR.ok.1 ((gI_n (Or.inr (by decide))).trans hR.2.2.1.1)) cdX8_step lX8_39 dX8_takeNumber_31 rfl (hR.1.1) rfl ⟨by decide, by decide, rfl, rfl⟩ ⟨Nat.zero_le _, Nat.zero_le _⟩ (Nat.le_of_ble_eq_true rfl) rfl ?_
      rintro _ g3 - ⟨s3, h3⟩ -
      refine a_iconst (z := 1) 35 dX8_takeNumber_34 rfl (zrl rfl) rfl ?_
      refine a_breturn dX8_takeNumber_35 rfl (by omega) ⟨Nat.zero_le _, Nat.zero_le _⟩ ?_
      exact ⟨_, rfl, Or.inl ⟨rfl, hR.2.2.2, ht, isT h14 c17⟩, fun z => absurd z (by decide), fun _ => ⟨h2.tr (s3.mono xS_T), ⟨TXs.keep s3 (TXs.keep h2 hR.1), (hR.2.1.t h2).s s3, h3 s.2.2.2.1, hR.2.2.2⟩, (s3.2.2 26 6 (by unfold xS; omega)).trans gI_s⟩⟩
    · skip
      refine a_iconst (z := 0) 21 dX8_takeNumber_20 rfl (zrl rfl) rfl ?_
      refine a_breturn dX8_takeNumber_21 rfl (by omega) ⟨Nat.zero_le _, Nat.zero_le _⟩ ?_
      exact ⟨_, rfl, Or.inr ⟨rfl, fun z => isN h14 c17 z.2.2⟩, fun _ => rfl, fun z => absurd z (by decide)⟩
set_option maxHeartbeats 4000000 in
set_option maxRecDepth 100000 in
theorem c8_readLandsAndDays (g : GH) {T : Int → Int} {L : Int} {s : PS} {ru : Nat} (hru : g.1 ru = some (Sum.inl 9)) (hr6 : ru ≠ 26) (hr7 : ru ≠ 27) (hR : RP g T L s) : AMet mX8_readLandsAndDays g [vA 26, vA ru] (fun r g' => ∃ b : Int, r = vI b ∧ sameB (xR ru 0 3) g g' ∧ ((b = 1 ∧ RP g' T L (q8 T s) ∧ RC (vr T s) ru 0 4 g') ∨ (b = 0 ∧ (q8 T s).2.2.2.2 = g'.2.1 26 3 ∧ (0 ≤ (q8 T s).2.2.2.2 ∧ (q8 T s).2.2.2.2 ≤ 600)))) := by
  refine AMet.of [vA 26, vA ru] (by decide) rfl (Nat.le_of_ble_eq_true rfl) ?_
  have hT : sameB (xR ru 0 3) g g := sameB.rf
  have hC : RC (vr T s) ru 0 0 g := fun i a b => absurd b (by omega)
  refine a_aload_n 1 dX8_readLandsAndDays_0 rfl rfl ?_
  refine a_iconst (z := 3) 2 dX8_readLandsAndDays_1 rfl (zrl rfl) rfl ?_
  refine a_callV 5 (c8_take _ _ (s := s) hR (hR.wd (c := 0) (by decide) (by decide))) cdX8_take lX8_64 dX8_readLandsAndDays_2 rfl hR.1.1 rfl ⟨by decide, by decide, rfl, rfl⟩ ⟨Nat.zero_le _, Nat.zero_le _⟩ (Nat.le_of_ble_eq_true rfl) rfl ?_
  rintro _ G1 - ⟨b1, rfl, hb1, z1, y1⟩ -
  refine a_if_eq 17 8 dX8_readLandsAndDays_5 (by decide) rfl (fun c5 => ?_) (fun c5 => ?_)
  · skip
    refine a_iconst (z := 0) 18 dX8_readLandsAndDays_17 rfl (zrl rfl) rfl ?_
    refine a_breturn dX8_readLandsAndDays_18 rfl (by omega) ⟨Nat.zero_le _, Nat.zero_le _⟩ ?_
    have z1e := z1 c5
    subst z1e
    have f1 : q1 T s = fl s := if_neg (isN hb1 c5)
    have v1 : (q1 T s).2.2.2.2 = s.2.2.1 := by rw [f1]; exact fl_f hR.2.2.2
    have u1 := hR.st
    have f2 : q2 T s = q1 T s := tN_st (by rw [v1]; exact u1.2.1)
    have v2 : (q2 T s).2.2.2.2 = s.2.2.1 := by rw [f2]; exact v1
    have f3 : q3 T s = q2 T s := tS_st (by rw [v2]; exact u1.2.1)
    have v3 : (q3 T s).2.2.2.2 = s.2.2.1 := by rw [f3]; exact v2
    have f4 : q4 T s = q3 T s := tN_st (by rw [v3]; exact u1.2.1)
    have v4 : (q4 T s).2.2.2.2 = s.2.2.1 := by rw [f4]; exact v3
    have f5 : q5 T s = q4 T s := tS_st (by rw [v4]; exact u1.2.1)
    have v5 : (q5 T s).2.2.2.2 = s.2.2.1 := by rw [f5]; exact v4
    have f6 : q6 T s = q5 T s := tN_st (by rw [v5]; exact u1.2.1)
    have v6 : (q6 T s).2.2.2.2 = s.2.2.1 := by rw [f6]; exact v5
    have f7 : q7 T s = q6 T s := tS_st (by rw [v6]; exact u1.2.1)
    have v7 : (q7 T s).2.2.2.2 = s.2.2.1 := by rw [f7]; exact v6
    have f8 : q8 T s = q7 T s := tN_st (by rw [v7]; exact u1.2.1)
    have v8 : (q8 T s).2.2.2.2 = s.2.2.1 := by rw [f8]; exact v7
    exact ⟨_, rfl, hT, Or.inr ⟨rfl, by rw [v8]; exact u1.1.symm, by rw [v8]; exact u1.2⟩⟩
  · skip
    obtain ⟨w1, R1⟩ := y1 (isb1 hb1 c5)
    have p1 := isT hb1 c5
    have e1 : q1 T s = adv T s := if_pos p1
    rw [← e1] at R1
    have T1 : sameB (xR ru 0 3) g G1 := hT.tr (w1.mono xT_R)
    have C1 := hC.keep hr6 w1
    refine a_aload_n 9 dX8_readLandsAndDays_8 rfl rfl ?_
    refine a_iconst (z := 0) 10 dX8_readLandsAndDays_9 rfl (zrl rfl) rfl ?_
    refine a_iconst (z := 2) 11 dX8_readLandsAndDays_10 rfl (zrl rfl) rfl ?_
    refine a_callV 14 (c8_takeNumber _ _ _ (s := (q1 T s)) R1) cdX8_takeNumber lX8_68 dX8_readLandsAndDays_11 rfl R1.1.1 rfl ⟨by decide, by decide, rfl, rfl⟩ ⟨Nat.zero_le _, Nat.zero_le _⟩ (Nat.le_of_ble_eq_true rfl) rfl ?_
    rintro _ G2 - ⟨b2, rfl, hb2, z2, y2⟩ -
    refine a_if_ne 19 17 dX8_readLandsAndDays_14 (by decide) rfl (fun c14 => ?_) (fun c14 => ?_)
    · skip
      obtain ⟨w2, R2, k2⟩ := y2 (isb1 hb2 c14)
      have p2 := isT hb2 c14
      have e2 : q2 T s = adv T (q1 T s) := if_pos p2
      rw [← e2] at R2
      have T2 : sameB (xR ru 0 3) g G2 := T1.tr (w2.mono xT_R)
      have C2 := C1.keep hr6 w2
      refine a_aload_n 20 dX8_readLandsAndDays_19 rfl rfl ?_
      refine a_aload_n 21 dX8_readLandsAndDays_20 rfl rfl ?_
      refine a_getIz (tNv 0 2 (q1 T s)) 24 dX8_readLandsAndDays_21 fX8_31 R2.1.1 rfl (k2.trans (if_pos p2).symm) rfl ?_
      refine a_putI 27 dX8_readLandsAndDays_24 fX8_72 (Or.inl rfl) (T2.sh hru) (Or.inl rfl) rfl ?_
      have R2w := R2.wr (k := 0) (z := tNv 0 2 (q1 T s)) hr6 hr7
      have T2w : sameB (xR ru 0 3) g (gI G2 ru 0 (tNv 0 2 (q1 T s))) := T2.wr (Or.inr ⟨rfl, by omega, by omega⟩)
      have C2w : RC (vr T s) ru 0 1 (gI G2 ru 0 (tNv 0 2 (q1 T s))) := C2.put rfl
      refine a_aload_n 28 dX8_readLandsAndDays_27 rfl rfl ?_
      refine a_bipush (z := 62) 30 dX8_readLandsAndDays_28 rfl (zrl rfl) rfl ?_
      refine a_callV 33 (c8_take _ _ (s := (q2 T s)) R2w (R2w.sg (c := 62) (by decide))) cdX8_take lX8_64 dX8_readLandsAndDays_30 rfl R2.1.1 rfl ⟨by decide, by decide, rfl, rfl⟩ ⟨Nat.zero_le _, Nat.zero_le _⟩ (Nat.le_of_ble_eq_true rfl) rfl ?_
      rintro _ G3 - ⟨b3, rfl, hb3, z3, y3⟩ -
      refine a_if_eq 45 36 dX8_readLandsAndDays_33 (by decide) rfl (fun c33 => ?_) (fun c33 => ?_)
      · skip
        refine a_iconst (z := 0) 46 dX8_readLandsAndDays_45 rfl (zrl rfl) rfl ?_
        refine a_breturn dX8_readLandsAndDays_46 rfl (by omega) ⟨Nat.zero_le _, Nat.zero_le _⟩ ?_
        have z3e := z3 c33
        subst z3e
        have f3 : q3 T s = fl (q2 T s) := if_neg (isN hb3 c33)
        have v3 : (q3 T s).2.2.2.2 = (q2 T s).2.2.1 := by rw [f3]; exact fl_f R2w.2.2.2
        have u3 := R2w.st
        have f4 : q4 T s = q3 T s := tN_st (by rw [v3]; exact u3.2.1)
        have v4 : (q4 T s).2.2.2.2 = (q2 T s).2.2.1 := by rw [f4]; exact v3
        have f5 : q5 T s = q4 T s := tS_st (by rw [v4]; exact u3.2.1)
        have v5 : (q5 T s).2.2.2.2 = (q2 T s).2.2.1 := by rw [f5]; exact v4
        have f6 : q6 T s = q5 T s := tN_st (by rw [v5]; exact u3.2.1)
        have v6 : (q6 T s).2.2.2.2 = (q2 T s).2.2.1 := by rw [f6]; exact v5
        have f7 : q7 T s = q6 T s := tS_st (by rw [v6]; exact u3.2.1)
        have v7 : (q7 T s).2.2.2.2 = (q2 T s).2.2.1 := by rw [f7]; exact v6
        have f8 : q8 T s = q7 T s := tN_st (by rw [v7]; exact u3.2.1)
        have v8 : (q8 T s).2.2.2.2 = (q2 T s).2.2.1 := by rw [f8]; exact v7
        exact ⟨_, rfl, T2w, Or.inr ⟨rfl, by rw [v8]; exact u3.1.symm, by rw [v8]; exact u3.2⟩⟩
      · skip
        obtain ⟨w3, R3⟩ := y3 (isb1 hb3 c33)
        have p3 := isT hb3 c33
        have e3 : q3 T s = adv T (q2 T s) := if_pos p3
        rw [← e3] at R3
        have T3 : sameB (xR ru 0 3) g G3 := T2w.tr (w3.mono xT_R)
        have C3 := C2w.keep hr6 w3
        refine a_aload_n 37 dX8_readLandsAndDays_36 rfl rfl ?_
        refine a_iconst (z := 0) 38 dX8_readLandsAndDays_37 rfl (zrl rfl) rfl ?_
        refine a_iconst (z := 2) 39 dX8_readLandsAndDays_38 rfl (zrl rfl) rfl ?_
        refine a_callV 42 (c8_takeNumber _ _ _ (s := (q3 T s)) R3) cdX8_takeNumber lX8_68 dX8_readLandsAndDays_39 rfl R3.1.1 rfl ⟨by decide, by decide, rfl, rfl⟩ ⟨Nat.zero_le _, Nat.zero_le _⟩ (Nat.le_of_ble_eq_true rfl) rfl ?_
        rintro _ G4 - ⟨b4, rfl, hb4, z4, y4⟩ -
        refine a_if_ne 47 45 dX8_readLandsAndDays_42 (by decide) rfl (fun c42 => ?_) (fun c42 => ?_)
        · skip
          obtain ⟨w4, R4, k4⟩ := y4 (isb1 hb4 c42)
          have p4 := isT hb4 c42
          have e4 : q4 T s = adv T (q3 T s) := if_pos p4
          rw [← e4] at R4
          have T4 : sameB (xR ru 0 3) g G4 := T3.tr (w4.mono xT_R)
          have C4 := C3.keep hr6 w4
          refine a_aload_n 48 dX8_readLandsAndDays_47 rfl rfl ?_
          refine a_aload_n 49 dX8_readLandsAndDays_48 rfl rfl ?_
          refine a_getIz (tNv 0 2 (q3 T s)) 52 dX8_readLandsAndDays_49 fX8_31 R4.1.1 rfl (k4.trans (if_pos p4).symm) rfl ?_
          refine a_putI 55 dX8_readLandsAndDays_52 fX8_75 (Or.inl rfl) (T4.sh hru) (Or.inl rfl) rfl ?_
          have R4w := R4.wr (k := 1) (z := tNv 0 2 (q3 T s)) hr6 hr7
          have T4w : sameB (xR ru 0 3) g (gI G4 ru 1 (tNv 0 2 (q3 T s))) := T4.wr (Or.inr ⟨rfl, by omega, by omega⟩)
          have C4w : RC (vr T s) ru 0 2 (gI G4 ru 1 (tNv 0 2 (q3 T s))) := C4.put rfl
          refine a_aload_n 56 dX8_readLandsAndDays_55 rfl rfl ?_
          refine a_bipush (z := 44) 58 dX8_readLandsAndDays_56 rfl (zrl rfl) rfl ?_
          refine a_callV 61 (c8_take _ _ (s := (q4 T s)) R4w (R4w.sg (c := 44) (by decide))) cdX8_take lX8_64 dX8_readLandsAndDays_58 rfl R4.1.1 rfl ⟨by decide, by decide, rfl, rfl⟩ ⟨Nat.zero_le _, Nat.zero_le _⟩ (Nat.le_of_ble_eq_true rfl) rfl ?_
          rintro _ G5 - ⟨b5, rfl, hb5, z5, y5⟩ -
          refine a_if_eq 75 64 dX8_readLandsAndDays_61 (by decide) rfl (fun c61 => ?_) (fun c61 => ?_)
          · skip
            refine a_iconst (z := 0) 76 dX8_readLandsAndDays_75 rfl (zrl rfl) rfl ?_
            refine a_breturn dX8_readLandsAndDays_76 rfl (by omega) ⟨Nat.zero_le _, Nat.zero_le _⟩ ?_
            have z5e := z5 c61
            subst z5e
            have f5 : q5 T s = fl (q4 T s) := if_neg (isN hb5 c61)
            have v5 : (q5 T s).2.2.2.2 = (q4 T s).2.2.1 := by rw [f5]; exact fl_f R4w.2.2.2
            have u5 := R4w.st
            have f6 : q6 T s = q5 T s := tN_st (by rw [v5]; exact u5.2.1)
            have v6 : (q6 T s).2.2.2.2 = (q4 T s).2.2.1 := by rw [f6]; exact v5
            have f7 : q7 T s = q6 T s := tS_st (by rw [v6]; exact u5.2.1)
            have v7 : (q7 T s).2.2.2.2 = (q4 T s).2.2.1 := by rw [f7]; exact v6
            have f8 : q8 T s = q7 T s := tN_st (by rw [v7]; exact u5.2.1)
            have v8 : (q8 T s).2.2.2.2 = (q4 T s).2.2.1 := by rw [f8]; exact v7
            exact ⟨_, rfl, T4w, Or.inr ⟨rfl, by rw [v8]; exact u5.1.symm, by rw [v8]; exact u5.2⟩⟩
          · skip
            obtain ⟨w5, R5⟩ := y5 (isb1 hb5 c61)
            have p5 := isT hb5 c61
            have e5 : q5 T s = adv T (q4 T s) := if_pos p5
            rw [← e5] at R5
            have T5 : sameB (xR ru 0 3) g G5 := T4w.tr (w5.mono xT_R)
            have C5 := C4w.keep hr6 w5
            refine a_aload_n 65 dX8_readLandsAndDays_64 rfl rfl ?_
            refine a_iconst (z := 0) 66 dX8_readLandsAndDays_65 rfl (zrl rfl) rfl ?_
            refine a_sipush (z := 999) 69 dX8_readLandsAndDays_66 rfl (zrl rfl) rfl ?_
            refine a_callV 72 (c8_takeNumber _ _ _ (s := (q5 T s)) R5) cdX8_takeNumber lX8_68 dX8_readLandsAndDays_69 rfl R5.1.1 rfl ⟨by decide, by decide, rfl, rfl⟩ ⟨Nat.zero_le _, Nat.zero_le _⟩ (Nat.le_of_ble_eq_true rfl) rfl ?_
            rintro _ G6 - ⟨b6, rfl, hb6, z6, y6⟩ -
            refine a_if_ne 77 75 dX8_readLandsAndDays_72 (by decide) rfl (fun c72 => ?_) (fun c72 => ?_)
            · skip
              obtain ⟨w6, R6, k6⟩ := y6 (isb1 hb6 c72)
              have p6 := isT hb6 c72
              have e6 : q6 T s = adv T (q5 T s) := if_pos p6
              rw [← e6] at R6
              have T6 : sameB (xR ru 0 3) g G6 := T5.tr (w6.mono xT_R)
              have C6 := C5.keep hr6 w6
              refine a_aload_n 78 dX8_readLandsAndDays_77 rfl rfl ?_
              refine a_aload_n 79 dX8_readLandsAndDays_78 rfl rfl ?_
              refine a_getIz (tNv 0 999 (q5 T s)) 82 dX8_readLandsAndDays_79 fX8_31 R6.1.1 rfl (k6.trans (if_pos p6).symm) rfl ?_
              refine a_putI 85 dX8_readLandsAndDays_82 fX8_78 (Or.inl rfl) (T6.sh hru) (Or.inl rfl) rfl ?_
              have R6w := R6.wr (k := 2) (z := tNv 0 999 (q5 T s)) hr6 hr7
              have T6w : sameB (xR ru 0 3) g (gI G6 ru 2 (tNv 0 999 (q5 T s))) := T6.wr (Or.inr ⟨rfl, by omega, by omega⟩)
              have C6w : RC (vr T s) ru 0 3 (gI G6 ru 2 (tNv 0 999 (q5 T s))) := C6.put rfl
              refine a_aload_n 86 dX8_readLandsAndDays_85 rfl rfl ?_
              refine a_bipush (z := 45) 88 dX8_readLandsAndDays_86 rfl (zrl rfl) rfl ?_
              refine a_callV 91 (c8_take _ _ (s := (q6 T s)) R6w (R6w.sg (c := 45) (by decide))) cdX8_take lX8_64 dX8_readLandsAndDays_88 rfl R6.1.1 rfl ⟨by decide, by decide, rfl, rfl⟩ ⟨Nat.zero_le _, Nat.zero_le _⟩ (Nat.le_of_ble_eq_true rfl) rfl ?_
              rintro _ G7 - ⟨b7, rfl, hb7, z7, y7⟩ -
              refine a_if_eq 108 94 dX8_readLandsAndDays_91 (by decide) rfl (fun c91 => ?_) (fun c91 => ?_)
              · skip
                refine a_iconst (z := 0) 109 dX8_readLandsAndDays_108 rfl (zrl rfl) rfl ?_
                refine a_breturn dX8_readLandsAndDays_109 rfl (by omega) ⟨Nat.zero_le _, Nat.zero_le _⟩ ?_
                have z7e := z7 c91
                subst z7e
                have f7 : q7 T s = fl (q6 T s) := if_neg (isN hb7 c91)
                have v7 : (q7 T s).2.2.2.2 = (q6 T s).2.2.1 := by rw [f7]; exact fl_f R6w.2.2.2
                have u7 := R6w.st
                have f8 : q8 T s = q7 T s := tN_st (by rw [v7]; exact u7.2.1)
                have v8 : (q8 T s).2.2.2.2 = (q6 T s).2.2.1 := by rw [f8]; exact v7
                exact ⟨_, rfl, T6w, Or.inr ⟨rfl, by rw [v8]; exact u7.1.symm, by rw [v8]; exact u7.2⟩⟩
              · skip
                obtain ⟨w7, R7⟩ := y7 (isb1 hb7 c91)
                have p7 := isT hb7 c91
                have e7 : q7 T s = adv T (q6 T s) := if_pos p7
                rw [← e7] at R7
                have T7 : sameB (xR ru 0 3) g G7 := T6w.tr (w7.mono xT_R)
                have C7 := C6w.keep hr6 w7
                refine a_aload_n 95 dX8_readLandsAndDays_94 rfl rfl ?_
                refine a_aload_n 96 dX8_readLandsAndDays_95 rfl rfl ?_
                refine a_getIz (tNv 0 999 (q5 T s)) 99 dX8_readLandsAndDays_96 fX8_78 (T7.sh hru) rfl (C7 2 (by omega) (by omega)) rfl ?_
                refine a_sipush (z := 999) 102 dX8_readLandsAndDays_99 rfl (zrl rfl) rfl ?_
                refine a_callV 105 (c8_takeNumber _ _ _ (s := (q7 T s)) R7) cdX8_takeNumber lX8_68 dX8_readLandsAndDays_102 rfl R7.1.1 rfl ⟨by decide, by decide, rfl, rfl⟩ ⟨Nat.zero_le _, Nat.zero_le _⟩ (Nat.le_of_ble_eq_true rfl) rfl ?_
                rintro _ G8 - ⟨b8, rfl, hb8, z8, y8⟩ -
                refine a_if_ne 110 108 dX8_readLandsAndDays_105 (by decide) rfl (fun c105 => ?_) (fun c105 => ?_)
                · skip
                  obtain ⟨w8, R8, k8⟩ := y8 (isb1 hb8 c105)
                  have p8 := isT hb8 c105
                  have e8 : q8 T s = adv T (q7 T s) := if_pos p8
                  rw [← e8] at R8
                  have T8 : sameB (xR ru 0 3) g G8 := T7.tr (w8.mono xT_R)
                  have C8 := C7.keep hr6 w8
                  refine a_aload_n 111 dX8_readLandsAndDays_110 rfl rfl ?_
                  refine a_aload_n 112 dX8_readLandsAndDays_111 rfl rfl ?_
                  refine a_getIz (tNv (tNv 0 999 (q5 T s)) 999 (q7 T s)) 115 dX8_readLandsAndDays_112 fX8_31 R8.1.1 rfl (k8.trans (if_pos p8).symm) rfl ?_
                  refine a_putI 118 dX8_readLandsAndDays_115 fX8_81 (Or.inl rfl) (T8.sh hru) (Or.inl rfl) rfl ?_
                  have R8w := R8.wr (k := 3) (z := tNv (tNv 0 999 (q5 T s)) 999 (q7 T s)) hr6 hr7
                  have T8w : sameB (xR ru 0 3) g (gI G8 ru 3 (tNv (tNv 0 999 (q5 T s)) 999 (q7 T s))) := T8.wr (Or.inr ⟨rfl, by omega, by omega⟩)
                  have C8w : RC (vr T s) ru 0 4 (gI G8 ru 3 (tNv (tNv 0 999 (q5 T s)) 999 (q7 T s))) := C8.put rfl
                  refine a_iconst (z := 1) 119 dX8_readLandsAndDays_118 rfl (zrl rfl) rfl ?_
                  refine a_breturn dX8_readLandsAndDays_119 rfl (by omega) ⟨Nat.zero_le _, Nat.zero_le _⟩ ?_
                  exact ⟨_, rfl, T8w, Or.inl ⟨rfl, R8w, C8w⟩⟩
                · skip
                  refine a_iconst (z := 0) 109 dX8_readLandsAndDays_108 rfl (zrl rfl) rfl ?_
                  refine a_breturn dX8_readLandsAndDays_109 rfl (by omega) ⟨Nat.zero_le _, Nat.zero_le _⟩ ?_
                  have z8e := z8 (by omega)
                  subst z8e
                  have f8 : q8 T s = fl (q7 T s) := if_neg (isN hb8 (by omega))
                  have v8 : (q8 T s).2.2.2.2 = (q7 T s).2.2.1 := by rw [f8]; exact fl_f R7.2.2.2
                  have u8 := R7.st
                  exact ⟨_, rfl, T7, Or.inr ⟨rfl, by rw [v8]; exact u8.1.symm, by rw [v8]; exact u8.2⟩⟩
            · skip
              refine a_iconst (z := 0) 76 dX8_readLandsAndDays_75 rfl (zrl rfl) rfl ?_
              refine a_breturn dX8_readLandsAndDays_76 rfl (by omega) ⟨Nat.zero_le _, Nat.zero_le _⟩ ?_
              have z6e := z6 (by omega)
              subst z6e
              have f6 : q6 T s = fl (q5 T s) := if_neg (isN hb6 (by omega))
              have v6 : (q6 T s).2.2.2.2 = (q5 T s).2.2.1 := by rw [f6]; exact fl_f R5.2.2.2
              have u6 := R5.st
              have f7 : q7 T s = q6 T s := tS_st (by rw [v6]; exact u6.2.1)
              have v7 : (q7 T s).2.2.2.2 = (q5 T s).2.2.1 := by rw [f7]; exact v6
              have f8 : q8 T s = q7 T s := tN_st (by rw [v7]; exact u6.2.1)
              have v8 : (q8 T s).2.2.2.2 = (q5 T s).2.2.1 := by rw [f8]; exact v7
              exact ⟨_, rfl, T5, Or.inr ⟨rfl, by rw [v8]; exact u6.1.symm, by rw [v8]; exact u6.2⟩⟩
        · skip
          refine a_iconst (z := 0) 46 dX8_readLandsAndDays_45 rfl (zrl rfl) rfl ?_
          refine a_breturn dX8_readLandsAndDays_46 rfl (by omega) ⟨Nat.zero_le _, Nat.zero_le _⟩ ?_
          have z4e := z4 (by omega)
          subst z4e
          have f4 : q4 T s = fl (q3 T s) := if_neg (isN hb4 (by omega))
          have v4 : (q4 T s).2.2.2.2 = (q3 T s).2.2.1 := by rw [f4]; exact fl_f R3.2.2.2
          have u4 := R3.st
          have f5 : q5 T s = q4 T s := tS_st (by rw [v4]; exact u4.2.1)
          have v5 : (q5 T s).2.2.2.2 = (q3 T s).2.2.1 := by rw [f5]; exact v4
          have f6 : q6 T s = q5 T s := tN_st (by rw [v5]; exact u4.2.1)
          have v6 : (q6 T s).2.2.2.2 = (q3 T s).2.2.1 := by rw [f6]; exact v5
          have f7 : q7 T s = q6 T s := tS_st (by rw [v6]; exact u4.2.1)
          have v7 : (q7 T s).2.2.2.2 = (q3 T s).2.2.1 := by rw [f7]; exact v6
          have f8 : q8 T s = q7 T s := tN_st (by rw [v7]; exact u4.2.1)
          have v8 : (q8 T s).2.2.2.2 = (q3 T s).2.2.1 := by rw [f8]; exact v7
          exact ⟨_, rfl, T3, Or.inr ⟨rfl, by rw [v8]; exact u4.1.symm, by rw [v8]; exact u4.2⟩⟩
    · skip
      refine a_iconst (z := 0) 18 dX8_readLandsAndDays_17 rfl (zrl rfl) rfl ?_
      refine a_breturn dX8_readLandsAndDays_18 rfl (by omega) ⟨Nat.zero_le _, Nat.zero_le _⟩ ?_
      have z2e := z2 (by omega)
      subst z2e
      have f2 : q2 T s = fl (q1 T s) := if_neg (isN hb2 (by omega))
      have v2 : (q2 T s).2.2.2.2 = (q1 T s).2.2.1 := by rw [f2]; exact fl_f R1.2.2.2
      have u2 := R1.st
      have f3 : q3 T s = q2 T s := tS_st (by rw [v2]; exact u2.2.1)
      have v3 : (q3 T s).2.2.2.2 = (q1 T s).2.2.1 := by rw [f3]; exact v2
      have f4 : q4 T s = q3 T s := tN_st (by rw [v3]; exact u2.2.1)
      have v4 : (q4 T s).2.2.2.2 = (q1 T s).2.2.1 := by rw [f4]; exact v3
      have f5 : q5 T s = q4 T s := tS_st (by rw [v4]; exact u2.2.1)
      have v5 : (q5 T s).2.2.2.2 = (q1 T s).2.2.1 := by rw [f5]; exact v4
      have f6 : q6 T s = q5 T s := tN_st (by rw [v5]; exact u2.2.1)
      have v6 : (q6 T s).2.2.2.2 = (q1 T s).2.2.1 := by rw [f6]; exact v5
      have f7 : q7 T s = q6 T s := tS_st (by rw [v6]; exact u2.2.1)
      have v7 : (q7 T s).2.2.2.2 = (q1 T s).2.2.1 := by rw [f7]; exact v6
      have f8 : q8 T s = q7 T s := tN_st (by rw [v7]; exact u2.2.1)
      have v8 : (q8 T s).2.2.2.2 = (q1 T s).2.2.1 := by rw [f8]; exact v7
      exact ⟨_, rfl, T1, Or.inr ⟨rfl, by rw [v8]; exact u2.1.symm, by rw [v8]; exact u2.2⟩⟩
