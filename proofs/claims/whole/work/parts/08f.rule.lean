set_option maxHeartbeats 4000000 in
set_option maxRecDepth 100000 in
theorem r_readsRule (g : GH) (a : Int) (hM : MR g) (hV : MV g.2.1) (hO : okP g.2.1) (ha : 120 ≤ a ∧ a ≤ 230) : AMet mX12_readsRule g [vA 1000, vI a] (fun _ g' => sameB (rX a) g g' ∧ p5 g'.2.1 = (q16 (tx g.2.1) (p5 g.2.1)) ∧ okP g'.2.1 ∧ cB (vr (tx g.2.1) (p5 g.2.1)) a 10 g' ∧ ((q16 (tx g.2.1) (p5 g.2.1)).2.2.2.2 < 0 → (p5 g.2.1).2.2.2.2 < 0 ∧ rlK (vr (tx g.2.1) (p5 g.2.1)))) := by
  refine AMet.of [vA 1000, vI a] (by decide) rfl (Nat.le_of_ble_eq_true rfl) ?_
  have ho := hO
  have hs : sameB (rX a) g g := sameB.rf
  have hq : p5 g.2.1 = (p5 g.2.1) := rfl
  have hB : cB (vr (tx g.2.1) (p5 g.2.1)) a 0 g := fun j hj => absurd hj (Nat.not_lt_zero _)
  refine a_aload_n 1 dX12_readsRule_0 rfl rfl ?_
  refine a_iconst (z := 0) 2 dX12_readsRule_1 rfl (zrl rfl) rfl ?_
  refine a_callV 5 (r_takesWord _ 0 (hs.MR hM) (MV_keep (rX_scr ha.1) hs hV) ho) cdX12_takesWord lX12_214 dX12_readsRule_2 rfl (hs.MR hM).1 rfl ⟨by decide, by decide, rfl, rfl⟩ ⟨Nat.zero_le _, Nat.zero_le _⟩ (Nat.le_of_ble_eq_true rfl) rfl ?_
  rintro _ g2 - ⟨s2, e2, o2⟩ -
  rw [tx_r hs, hq] at e2
  have hpl : 0 ≤ ((p5 g.2.1) : PS).2.2.1 := by have z := ho.2.1.1; have z2 : g.2.1 1000 32 = ((p5 g.2.1) : PS).2.2.1 := congrArg (fun x : PS => x.2.2.1) hq; omega
  have w1 := tW_w (T := (tx g.2.1)) (c := 0) (s := (p5 g.2.1)) hpl
  have hB := hB.keep s2
  have hs := hs.tr (s2.mono bX_rX)
  have hq : p5 g2.2.1 = (q1 (tx g.2.1) (p5 g.2.1)) := e2
  have ho := o2
  refine a_aload_n 6 dX12_readsRule_5 rfl rfl ?_
  refine a_getR 9 dX12_readsRule_6 fX12_74 (hs.MR hM).1 rfl (mr_37 (hs.MR hM)).1 rfl ?_
  refine a_iload_n 10 dX12_readsRule_9 rfl rfl ?_
  refine a_aload_n 11 dX12_readsRule_10 rfl rfl ?_
  refine a_iconst (z := 0) 12 dX12_readsRule_11 rfl (zrl rfl) rfl ?_
  refine a_iconst (z := 2) 13 dX12_readsRule_12 rfl (zrl rfl) rfl ?_
  refine a_callV 16 (r_takesNumber _ 0 2 (hs.MR hM) (MV_keep (rX_scr ha.1) hs hV) ho) cdX12_takesNumber lX12_218 dX12_readsRule_13 rfl (hs.MR hM).1 rfl ⟨by decide, by decide, rfl, rfl⟩ ⟨Nat.zero_le _, Nat.zero_le _⟩ (Nat.le_of_ble_eq_true rfl) rfl ?_
  rintro _ g13 - ⟨rfl, s13, e13, o13⟩ -
  rw [hq]
  rw [tx_r hs, hq] at e13
  have hpl : 0 ≤ ((q1 (tx g.2.1) (p5 g.2.1)) : PS).2.2.1 := by have z := ho.2.1.1; have z2 : g2.2.1 1000 32 = ((q1 (tx g.2.1) (p5 g.2.1)) : PS).2.2.1 := congrArg (fun x : PS => x.2.2.1) hq; omega
  have w2 := tN_w (T := (tx g.2.1)) (a := 0) (b := 2) (s := (q1 (tx g.2.1) (p5 g.2.1))) hpl
  have hB := hB.keep s13
  have hs := hs.tr (s13.mono bX_rX)
  have hq : p5 g13.2.1 = (q2 (tx g.2.1) (p5 g.2.1)) := e13
  have ho := o13
  refine a_iast 17 dX12_readsRule_16 (mr_37 (hs.MR hM)).2 (by omega) (by omega) rfl ?_
  have hB : cB (vr (tx g.2.1) (p5 g.2.1)) a 1 (gI g13 1037 a.toNat (tNv 0 2 (q1 (tx g.2.1) (p5 g.2.1)))) := hB.wr (by omega) (by omega) rfl
  have hs : sameB (rX a) g (gI g13 1037 a.toNat (tNv 0 2 (q1 (tx g.2.1) (p5 g.2.1)))) := hs.wr (Or.inr ⟨rfl, by omega, by omega⟩)
  have hq := (p5_wr (g := g13) (k := a.toNat) (v := (tNv 0 2 (q1 (tx g.2.1) (p5 g.2.1))))).trans hq
  have ho := okP_wr (k := a.toNat) (v := (tNv 0 2 (q1 (tx g.2.1) (p5 g.2.1)))) ho
  generalize (gI g13 1037 a.toNat (tNv 0 2 (q1 (tx g.2.1) (p5 g.2.1)))) = g179 at hB hs hq ho ⊢
  refine a_aload_n 18 dX12_readsRule_17 rfl rfl ?_
  refine a_bipush (z := 62) 20 dX12_readsRule_18 rfl (zrl rfl) rfl ?_
  refine a_callV 23 (r_takesSign _ 62 (hs.MR hM) (MV_keep (rX_scr ha.1) hs hV) ho) cdX12_takesSign lX12_221 dX12_readsRule_20 rfl (hs.MR hM).1 rfl ⟨by decide, by decide, rfl, rfl⟩ ⟨Nat.zero_le _, Nat.zero_le _⟩ (Nat.le_of_ble_eq_true rfl) rfl ?_
  rintro _ g20 - ⟨s20, e20, o20⟩ -
  rw [tx_r hs, hq] at e20
  have hpl : 0 ≤ ((q2 (tx g.2.1) (p5 g.2.1)) : PS).2.2.1 := by have z := ho.2.1.1; have z2 : g179.2.1 1000 32 = ((q2 (tx g.2.1) (p5 g.2.1)) : PS).2.2.1 := congrArg (fun x : PS => x.2.2.1) hq; omega
  have w3 := tS_w (T := (tx g.2.1)) (c := 62) (s := (q2 (tx g.2.1) (p5 g.2.1))) hpl
  have hB := hB.keep s20
  have hs := hs.tr (s20.mono bX_rX)
  have hq : p5 g20.2.1 = (q3 (tx g.2.1) (p5 g.2.1)) := e20
  have ho := o20
  refine a_aload_n 24 dX12_readsRule_23 rfl rfl ?_
  refine a_getR 27 dX12_readsRule_24 fX12_74 (hs.MR hM).1 rfl (mr_37 (hs.MR hM)).1 rfl ?_
  refine a_iload_n 28 dX12_readsRule_27 rfl rfl ?_
  refine a_iconst (z := 1) 29 dX12_readsRule_28 rfl (zrl rfl) rfl ?_
  refine a_iadd 30 dX12_readsRule_29 (by unfold zr; omega) rfl ?_
  refine a_aload_n 31 dX12_readsRule_30 rfl rfl ?_
  refine a_iconst (z := 0) 32 dX12_readsRule_31 rfl (zrl rfl) rfl ?_
  refine a_iconst (z := 2) 33 dX12_readsRule_32 rfl (zrl rfl) rfl ?_
  refine a_callV 36 (r_takesNumber _ 0 2 (hs.MR hM) (MV_keep (rX_scr ha.1) hs hV) ho) cdX12_takesNumber lX12_218 dX12_readsRule_33 rfl (hs.MR hM).1 rfl ⟨by decide, by decide, rfl, rfl⟩ ⟨Nat.zero_le _, Nat.zero_le _⟩ (Nat.le_of_ble_eq_true rfl) rfl ?_
  rintro _ g33 - ⟨rfl, s33, e33, o33⟩ -
  rw [hq]
  rw [tx_r hs, hq] at e33
  have hpl : 0 ≤ ((q3 (tx g.2.1) (p5 g.2.1)) : PS).2.2.1 := by have z := ho.2.1.1; have z2 : g20.2.1 1000 32 = ((q3 (tx g.2.1) (p5 g.2.1)) : PS).2.2.1 := congrArg (fun x : PS => x.2.2.1) hq; omega
  have w4 := tN_w (T := (tx g.2.1)) (a := 0) (b := 2) (s := (q3 (tx g.2.1) (p5 g.2.1))) hpl
  have hB := hB.keep s33
  have hs := hs.tr (s33.mono bX_rX)
  have hq : p5 g33.2.1 = (q4 (tx g.2.1) (p5 g.2.1)) := e33
  have ho := o33
  refine a_iast 37 dX12_readsRule_36 (mr_37 (hs.MR hM)).2 (by omega) (by omega) rfl ?_
  have hB : cB (vr (tx g.2.1) (p5 g.2.1)) a 2 (gI g33 1037 (a + 1).toNat (tNv 0 2 (q3 (tx g.2.1) (p5 g.2.1)))) := hB.wr (by omega) (by omega) rfl
  have hs : sameB (rX a) g (gI g33 1037 (a + 1).toNat (tNv 0 2 (q3 (tx g.2.1) (p5 g.2.1)))) := hs.wr (Or.inr ⟨rfl, by omega, by omega⟩)
  have hq := (p5_wr (g := g33) (k := (a + 1).toNat) (v := (tNv 0 2 (q3 (tx g.2.1) (p5 g.2.1))))).trans hq
  have ho := okP_wr (k := (a + 1).toNat) (v := (tNv 0 2 (q3 (tx g.2.1) (p5 g.2.1)))) ho
  generalize (gI g33 1037 (a + 1).toNat (tNv 0 2 (q3 (tx g.2.1) (p5 g.2.1)))) = g379 at hB hs hq ho ⊢
  refine a_aload_n 38 dX12_readsRule_37 rfl rfl ?_
  refine a_bipush (z := 44) 40 dX12_readsRule_38 rfl (zrl rfl) rfl ?_
  refine a_callV 43 (r_takesSign _ 44 (hs.MR hM) (MV_keep (rX_scr ha.1) hs hV) ho) cdX12_takesSign lX12_221 dX12_readsRule_40 rfl (hs.MR hM).1 rfl ⟨by decide, by decide, rfl, rfl⟩ ⟨Nat.zero_le _, Nat.zero_le _⟩ (Nat.le_of_ble_eq_true rfl) rfl ?_
  rintro _ g40 - ⟨s40, e40, o40⟩ -
  rw [tx_r hs, hq] at e40
  have hpl : 0 ≤ ((q4 (tx g.2.1) (p5 g.2.1)) : PS).2.2.1 := by have z := ho.2.1.1; have z2 : g379.2.1 1000 32 = ((q4 (tx g.2.1) (p5 g.2.1)) : PS).2.2.1 := congrArg (fun x : PS => x.2.2.1) hq; omega
  have w5 := tS_w (T := (tx g.2.1)) (c := 44) (s := (q4 (tx g.2.1) (p5 g.2.1))) hpl
  have hB := hB.keep s40
  have hs := hs.tr (s40.mono bX_rX)
  have hq : p5 g40.2.1 = (q5 (tx g.2.1) (p5 g.2.1)) := e40
  have ho := o40
  refine a_aload_n 44 dX12_readsRule_43 rfl rfl ?_
  refine a_getR 47 dX12_readsRule_44 fX12_74 (hs.MR hM).1 rfl (mr_37 (hs.MR hM)).1 rfl ?_
  refine a_iload_n 48 dX12_readsRule_47 rfl rfl ?_
  refine a_iconst (z := 2) 49 dX12_readsRule_48 rfl (zrl rfl) rfl ?_
  refine a_iadd 50 dX12_readsRule_49 (by unfold zr; omega) rfl ?_
  refine a_aload_n 51 dX12_readsRule_50 rfl rfl ?_
  refine a_iconst (z := 0) 52 dX12_readsRule_51 rfl (zrl rfl) rfl ?_
  refine a_sipush (z := 999) 55 dX12_readsRule_52 rfl (zrl rfl) rfl ?_
  refine a_callV 58 (r_takesNumber _ 0 999 (hs.MR hM) (MV_keep (rX_scr ha.1) hs hV) ho) cdX12_takesNumber lX12_218 dX12_readsRule_55 rfl (hs.MR hM).1 rfl ⟨by decide, by decide, rfl, rfl⟩ ⟨Nat.zero_le _, Nat.zero_le _⟩ (Nat.le_of_ble_eq_true rfl) rfl ?_
  rintro _ g55 - ⟨rfl, s55, e55, o55⟩ -
  rw [hq]
  rw [tx_r hs, hq] at e55
  have hpl : 0 ≤ ((q5 (tx g.2.1) (p5 g.2.1)) : PS).2.2.1 := by have z := ho.2.1.1; have z2 : g40.2.1 1000 32 = ((q5 (tx g.2.1) (p5 g.2.1)) : PS).2.2.1 := congrArg (fun x : PS => x.2.2.1) hq; omega
  have w6 := tN_w (T := (tx g.2.1)) (a := 0) (b := 999) (s := (q5 (tx g.2.1) (p5 g.2.1))) hpl
  have hB := hB.keep s55
  have hs := hs.tr (s55.mono bX_rX)
  have hq : p5 g55.2.1 = (q6 (tx g.2.1) (p5 g.2.1)) := e55
  have ho := o55
  refine a_iast 59 dX12_readsRule_58 (mr_37 (hs.MR hM)).2 (by omega) (by omega) rfl ?_
  have hB : cB (vr (tx g.2.1) (p5 g.2.1)) a 3 (gI g55 1037 (a + 2).toNat (tNv 0 999 (q5 (tx g.2.1) (p5 g.2.1)))) := hB.wr (by omega) (by omega) rfl
  have hs : sameB (rX a) g (gI g55 1037 (a + 2).toNat (tNv 0 999 (q5 (tx g.2.1) (p5 g.2.1)))) := hs.wr (Or.inr ⟨rfl, by omega, by omega⟩)
  have hq := (p5_wr (g := g55) (k := (a + 2).toNat) (v := (tNv 0 999 (q5 (tx g.2.1) (p5 g.2.1))))).trans hq
  have ho := okP_wr (k := (a + 2).toNat) (v := (tNv 0 999 (q5 (tx g.2.1) (p5 g.2.1)))) ho
  generalize (gI g55 1037 (a + 2).toNat (tNv 0 999 (q5 (tx g.2.1) (p5 g.2.1)))) = g599 at hB hs hq ho ⊢
  refine a_aload_n 60 dX12_readsRule_59 rfl rfl ?_
  refine a_bipush (z := 45) 62 dX12_readsRule_60 rfl (zrl rfl) rfl ?_
  refine a_callV 65 (r_takesSign _ 45 (hs.MR hM) (MV_keep (rX_scr ha.1) hs hV) ho) cdX12_takesSign lX12_221 dX12_readsRule_62 rfl (hs.MR hM).1 rfl ⟨by decide, by decide, rfl, rfl⟩ ⟨Nat.zero_le _, Nat.zero_le _⟩ (Nat.le_of_ble_eq_true rfl) rfl ?_
  rintro _ g62 - ⟨s62, e62, o62⟩ -
  rw [tx_r hs, hq] at e62
  have hpl : 0 ≤ ((q6 (tx g.2.1) (p5 g.2.1)) : PS).2.2.1 := by have z := ho.2.1.1; have z2 : g599.2.1 1000 32 = ((q6 (tx g.2.1) (p5 g.2.1)) : PS).2.2.1 := congrArg (fun x : PS => x.2.2.1) hq; omega
  have w7 := tS_w (T := (tx g.2.1)) (c := 45) (s := (q6 (tx g.2.1) (p5 g.2.1))) hpl
  have hB := hB.keep s62
  have hs := hs.tr (s62.mono bX_rX)
  have hq : p5 g62.2.1 = (q7 (tx g.2.1) (p5 g.2.1)) := e62
  have ho := o62
  refine a_aload_n 66 dX12_readsRule_65 rfl rfl ?_
  refine a_getR 69 dX12_readsRule_66 fX12_74 (hs.MR hM).1 rfl (mr_37 (hs.MR hM)).1 rfl ?_
  refine a_iload_n 70 dX12_readsRule_69 rfl rfl ?_
  refine a_iconst (z := 3) 71 dX12_readsRule_70 rfl (zrl rfl) rfl ?_
  refine a_iadd 72 dX12_readsRule_71 (by unfold zr; omega) rfl ?_
  refine a_aload_n 73 dX12_readsRule_72 rfl rfl ?_
  refine a_aload_n 74 dX12_readsRule_73 rfl rfl ?_
  refine a_getR 77 dX12_readsRule_74 fX12_74 (hs.MR hM).1 rfl (mr_37 (hs.MR hM)).1 rfl ?_
  refine a_iload_n 78 dX12_readsRule_77 rfl rfl ?_
  refine a_iconst (z := 2) 79 dX12_readsRule_78 rfl (zrl rfl) rfl ?_
  refine a_iadd 80 dX12_readsRule_79 (by unfold zr; omega) rfl ?_
  refine a_ialdz ((vr (tx g.2.1) (p5 g.2.1)) 2) 81 dX12_readsRule_80 (mr_37 (hs.MR hM)).2 (by omega) (by omega) (hB 2 (by omega)) rfl ?_
  refine a_sipush (z := 999) 84 dX12_readsRule_81 rfl (zrl rfl) rfl ?_
  refine a_callV 87 (r_takesNumber _ ((vr (tx g.2.1) (p5 g.2.1)) 2) 999 (hs.MR hM) (MV_keep (rX_scr ha.1) hs hV) ho) cdX12_takesNumber lX12_218 dX12_readsRule_84 rfl (hs.MR hM).1 rfl ⟨by decide, by decide, rfl, rfl⟩ ⟨Nat.zero_le _, Nat.zero_le _⟩ (Nat.le_of_ble_eq_true rfl) rfl ?_
  rintro _ g84 - ⟨rfl, s84, e84, o84⟩ -
  rw [hq]
  rw [tx_r hs, hq] at e84
  have hpl : 0 ≤ ((q7 (tx g.2.1) (p5 g.2.1)) : PS).2.2.1 := by have z := ho.2.1.1; have z2 : g62.2.1 1000 32 = ((q7 (tx g.2.1) (p5 g.2.1)) : PS).2.2.1 := congrArg (fun x : PS => x.2.2.1) hq; omega
  have w8 := tN_w (T := (tx g.2.1)) (a := ((vr (tx g.2.1) (p5 g.2.1)) 2)) (b := 999) (s := (q7 (tx g.2.1) (p5 g.2.1))) hpl
  have hB := hB.keep s84
  have hs := hs.tr (s84.mono bX_rX)
  have hq : p5 g84.2.1 = (q8 (tx g.2.1) (p5 g.2.1)) := e84
  have ho := o84
  refine a_iast 88 dX12_readsRule_87 (mr_37 (hs.MR hM)).2 (by omega) (by omega) rfl ?_
  have hB : cB (vr (tx g.2.1) (p5 g.2.1)) a 4 (gI g84 1037 (a + 3).toNat (tNv ((vr (tx g.2.1) (p5 g.2.1)) 2) 999 (q7 (tx g.2.1) (p5 g.2.1)))) := hB.wr (by omega) (by omega) rfl
  have hs : sameB (rX a) g (gI g84 1037 (a + 3).toNat (tNv ((vr (tx g.2.1) (p5 g.2.1)) 2) 999 (q7 (tx g.2.1) (p5 g.2.1)))) := hs.wr (Or.inr ⟨rfl, by omega, by omega⟩)
  have hq := (p5_wr (g := g84) (k := (a + 3).toNat) (v := (tNv ((vr (tx g.2.1) (p5 g.2.1)) 2) 999 (q7 (tx g.2.1) (p5 g.2.1))))).trans hq
  have ho := okP_wr (k := (a + 3).toNat) (v := (tNv ((vr (tx g.2.1) (p5 g.2.1)) 2) 999 (q7 (tx g.2.1) (p5 g.2.1)))) ho
  generalize (gI g84 1037 (a + 3).toNat (tNv ((vr (tx g.2.1) (p5 g.2.1)) 2) 999 (q7 (tx g.2.1) (p5 g.2.1)))) = g889 at hB hs hq ho ⊢
  refine a_aload_n 89 dX12_readsRule_88 rfl rfl ?_
  refine a_bipush (z := 58) 91 dX12_readsRule_89 rfl (zrl rfl) rfl ?_
  refine a_callV 94 (r_takesSign _ 58 (hs.MR hM) (MV_keep (rX_scr ha.1) hs hV) ho) cdX12_takesSign lX12_221 dX12_readsRule_91 rfl (hs.MR hM).1 rfl ⟨by decide, by decide, rfl, rfl⟩ ⟨Nat.zero_le _, Nat.zero_le _⟩ (Nat.le_of_ble_eq_true rfl) rfl ?_
  rintro _ g91 - ⟨s91, e91, o91⟩ -
  rw [tx_r hs, hq] at e91
  have hpl : 0 ≤ ((q8 (tx g.2.1) (p5 g.2.1)) : PS).2.2.1 := by have z := ho.2.1.1; have z2 : g889.2.1 1000 32 = ((q8 (tx g.2.1) (p5 g.2.1)) : PS).2.2.1 := congrArg (fun x : PS => x.2.2.1) hq; omega
  have w9 := tS_w (T := (tx g.2.1)) (c := 58) (s := (q8 (tx g.2.1) (p5 g.2.1))) hpl
  have hB := hB.keep s91
  have hs := hs.tr (s91.mono bX_rX)
  have hq : p5 g91.2.1 = (q9 (tx g.2.1) (p5 g.2.1)) := e91
  have ho := o91
  refine a_aload_n 95 dX12_readsRule_94 rfl rfl ?_
  refine a_getR 98 dX12_readsRule_95 fX12_74 (hs.MR hM).1 rfl (mr_37 (hs.MR hM)).1 rfl ?_
  refine a_iload_n 99 dX12_readsRule_98 rfl rfl ?_
  refine a_iconst (z := 4) 100 dX12_readsRule_99 rfl (zrl rfl) rfl ?_
  refine a_iadd 101 dX12_readsRule_100 (by unfold zr; omega) rfl ?_
  refine a_aload_n 102 dX12_readsRule_101 rfl rfl ?_
  refine a_iconst (z := 0) 103 dX12_readsRule_102 rfl (zrl rfl) rfl ?_
  refine a_sipush (z := 999) 106 dX12_readsRule_103 rfl (zrl rfl) rfl ?_
  refine a_callV 109 (r_takesNumber _ 0 999 (hs.MR hM) (MV_keep (rX_scr ha.1) hs hV) ho) cdX12_takesNumber lX12_218 dX12_readsRule_106 rfl (hs.MR hM).1 rfl ⟨by decide, by decide, rfl, rfl⟩ ⟨Nat.zero_le _, Nat.zero_le _⟩ (Nat.le_of_ble_eq_true rfl) rfl ?_
  rintro _ g106 - ⟨rfl, s106, e106, o106⟩ -
  rw [hq]
  rw [tx_r hs, hq] at e106
  have hpl : 0 ≤ ((q9 (tx g.2.1) (p5 g.2.1)) : PS).2.2.1 := by have z := ho.2.1.1; have z2 : g91.2.1 1000 32 = ((q9 (tx g.2.1) (p5 g.2.1)) : PS).2.2.1 := congrArg (fun x : PS => x.2.2.1) hq; omega
  have w10 := tN_w (T := (tx g.2.1)) (a := 0) (b := 999) (s := (q9 (tx g.2.1) (p5 g.2.1))) hpl
  have hB := hB.keep s106
  have hs := hs.tr (s106.mono bX_rX)
  have hq : p5 g106.2.1 = (q10 (tx g.2.1) (p5 g.2.1)) := e106
  have ho := o106
  refine a_iast 110 dX12_readsRule_109 (mr_37 (hs.MR hM)).2 (by omega) (by omega) rfl ?_
  have hB : cB (vr (tx g.2.1) (p5 g.2.1)) a 5 (gI g106 1037 (a + 4).toNat (tNv 0 999 (q9 (tx g.2.1) (p5 g.2.1)))) := hB.wr (by omega) (by omega) rfl
  have hs : sameB (rX a) g (gI g106 1037 (a + 4).toNat (tNv 0 999 (q9 (tx g.2.1) (p5 g.2.1)))) := hs.wr (Or.inr ⟨rfl, by omega, by omega⟩)
  have hq := (p5_wr (g := g106) (k := (a + 4).toNat) (v := (tNv 0 999 (q9 (tx g.2.1) (p5 g.2.1))))).trans hq
  have ho := okP_wr (k := (a + 4).toNat) (v := (tNv 0 999 (q9 (tx g.2.1) (p5 g.2.1)))) ho
  generalize (gI g106 1037 (a + 4).toNat (tNv 0 999 (q9 (tx g.2.1) (p5 g.2.1)))) = g1109 at hB hs hq ho ⊢
  refine a_aload_n 111 dX12_readsRule_110 rfl rfl ?_
  refine a_iconst (z := 1) 112 dX12_readsRule_111 rfl (zrl rfl) rfl ?_
  refine a_callV 115 (r_takesWord _ 1 (hs.MR hM) (MV_keep (rX_scr ha.1) hs hV) ho) cdX12_takesWord lX12_214 dX12_readsRule_112 rfl (hs.MR hM).1 rfl ⟨by decide, by decide, rfl, rfl⟩ ⟨Nat.zero_le _, Nat.zero_le _⟩ (Nat.le_of_ble_eq_true rfl) rfl ?_
  rintro _ g112 - ⟨s112, e112, o112⟩ -
  rw [tx_r hs, hq] at e112
  have hpl : 0 ≤ ((q10 (tx g.2.1) (p5 g.2.1)) : PS).2.2.1 := by have z := ho.2.1.1; have z2 : g1109.2.1 1000 32 = ((q10 (tx g.2.1) (p5 g.2.1)) : PS).2.2.1 := congrArg (fun x : PS => x.2.2.1) hq; omega
  have w11 := tW_w (T := (tx g.2.1)) (c := 1) (s := (q10 (tx g.2.1) (p5 g.2.1))) hpl
  have hB := hB.keep s112
  have hs := hs.tr (s112.mono bX_rX)
  have hq : p5 g112.2.1 = (q11 (tx g.2.1) (p5 g.2.1)) := e112
  have ho := o112
  refine a_aload_n 116 dX12_readsRule_115 rfl rfl ?_
  refine a_getR 119 dX12_readsRule_116 fX12_74 (hs.MR hM).1 rfl (mr_37 (hs.MR hM)).1 rfl ?_
  refine a_iload_n 120 dX12_readsRule_119 rfl rfl ?_
  refine a_iconst (z := 5) 121 dX12_readsRule_120 rfl (zrl rfl) rfl ?_
  refine a_iadd 122 dX12_readsRule_121 (by unfold zr; omega) rfl ?_
  refine a_aload_n 123 dX12_readsRule_122 rfl rfl ?_
  refine a_iconst (z := 1) 124 dX12_readsRule_123 rfl (zrl rfl) rfl ?_
  refine a_sipush (z := 500) 127 dX12_readsRule_124 rfl (zrl rfl) rfl ?_
  refine a_callV 130 (r_takesNumber _ 1 500 (hs.MR hM) (MV_keep (rX_scr ha.1) hs hV) ho) cdX12_takesNumber lX12_218 dX12_readsRule_127 rfl (hs.MR hM).1 rfl ⟨by decide, by decide, rfl, rfl⟩ ⟨Nat.zero_le _, Nat.zero_le _⟩ (Nat.le_of_ble_eq_true rfl) rfl ?_
  rintro _ g127 - ⟨rfl, s127, e127, o127⟩ -
  rw [hq]
  rw [tx_r hs, hq] at e127
  have hpl : 0 ≤ ((q11 (tx g.2.1) (p5 g.2.1)) : PS).2.2.1 := by have z := ho.2.1.1; have z2 : g112.2.1 1000 32 = ((q11 (tx g.2.1) (p5 g.2.1)) : PS).2.2.1 := congrArg (fun x : PS => x.2.2.1) hq; omega
  have w12 := tN_w (T := (tx g.2.1)) (a := 1) (b := 500) (s := (q11 (tx g.2.1) (p5 g.2.1))) hpl
  have hB := hB.keep s127
  have hs := hs.tr (s127.mono bX_rX)
  have hq : p5 g127.2.1 = (q12 (tx g.2.1) (p5 g.2.1)) := e127
  have ho := o127
  refine a_iast 131 dX12_readsRule_130 (mr_37 (hs.MR hM)).2 (by omega) (by omega) rfl ?_
  have hB : cB (vr (tx g.2.1) (p5 g.2.1)) a 6 (gI g127 1037 (a + 5).toNat (tNv 1 500 (q11 (tx g.2.1) (p5 g.2.1)))) := hB.wr (by omega) (by omega) rfl
  have hs : sameB (rX a) g (gI g127 1037 (a + 5).toNat (tNv 1 500 (q11 (tx g.2.1) (p5 g.2.1)))) := hs.wr (Or.inr ⟨rfl, by omega, by omega⟩)
  have hq := (p5_wr (g := g127) (k := (a + 5).toNat) (v := (tNv 1 500 (q11 (tx g.2.1) (p5 g.2.1))))).trans hq
  have ho := okP_wr (k := (a + 5).toNat) (v := (tNv 1 500 (q11 (tx g.2.1) (p5 g.2.1)))) ho
  generalize (gI g127 1037 (a + 5).toNat (tNv 1 500 (q11 (tx g.2.1) (p5 g.2.1)))) = g1319 at hB hs hq ho ⊢
  refine a_aload_n 132 dX12_readsRule_131 rfl rfl ?_
  refine a_getR 135 dX12_readsRule_132 fX12_74 (hs.MR hM).1 rfl (mr_37 (hs.MR hM)).1 rfl ?_
  refine a_iload_n 136 dX12_readsRule_135 rfl rfl ?_
  refine a_bipush (z := 6) 138 dX12_readsRule_136 rfl (zrl rfl) rfl ?_
  refine a_iadd 139 dX12_readsRule_138 (by unfold zr; omega) rfl ?_
  refine a_iconst (z := 0) 140 dX12_readsRule_139 rfl (zrl rfl) rfl ?_
  refine a_iast 141 dX12_readsRule_140 (mr_37 (hs.MR hM)).2 (by omega) (by omega) rfl ?_
  have hB : cB (vr (tx g.2.1) (p5 g.2.1)) a 6 (gI g1319 1037 (a + 6).toNat 0) := hB.hi (by omega) (by omega)
  have hs : sameB (rX a) g (gI g1319 1037 (a + 6).toNat 0) := hs.wr (Or.inr ⟨rfl, by omega, by omega⟩)
  have hq := (p5_wr (g := g1319) (k := (a + 6).toNat) (v := 0)).trans hq
  have ho := okP_wr (k := (a + 6).toNat) (v := 0) ho
  have hc6 : (gI g1319 1037 (a + 6).toNat 0).2.1 1037 (a + 6).toNat = 0 := gI_s
  generalize (gI g1319 1037 (a + 6).toNat 0) = g1419 at hB hs hq ho hc6 ⊢
  refine AW.cutH (J := 171) (P := fun g' => sameB (rX a) g g' ∧ p5 g'.2.1 = (q13 (tx g.2.1) (p5 g.2.1)) ∧ okP g'.2.1 ∧ cB (vr (tx g.2.1) (p5 g.2.1)) a 7 g' ∧ ((q13 (tx g.2.1) (p5 g.2.1)).2.2.2.2 < 0 → (q12 (tx g.2.1) (p5 g.2.1)).2.2.2.2 < 0 ∧ 0 ≤ (vr (tx g.2.1) (p5 g.2.1)) 6 ∧ (vr (tx g.2.1) (p5 g.2.1)) 6 ≤ 999)) ?_ (fun J171 => ?_)
  · intro g171 h171
    obtain ⟨hs, hq, ho, hB, w13⟩ := h171
    refine a_aload_n 172 dX12_readsRule_171 rfl rfl ?_
    refine a_getR 175 dX12_readsRule_172 fX12_74 (hs.MR hM).1 rfl (mr_37 (hs.MR hM)).1 rfl ?_
    refine a_iload_n 176 dX12_readsRule_175 rfl rfl ?_
    refine a_bipush (z := 7) 178 dX12_readsRule_176 rfl (zrl rfl) rfl ?_
    refine a_iadd 179 dX12_readsRule_178 (by unfold zr; omega) rfl ?_
    refine a_iconst (z := 1) 180 dX12_readsRule_179 rfl (zrl rfl) rfl ?_
    refine a_iast 181 dX12_readsRule_180 (mr_37 (hs.MR hM)).2 (by omega) (by omega) rfl ?_
    have hB : cB (vr (tx g.2.1) (p5 g.2.1)) a 7 (gI g171 1037 (a + 7).toNat 1) := hB.hi (by omega) (by omega)
    have hs : sameB (rX a) g (gI g171 1037 (a + 7).toNat 1) := hs.wr (Or.inr ⟨rfl, by omega, by omega⟩)
    have hq := (p5_wr (g := g171) (k := (a + 7).toNat) (v := 1)).trans hq
    have ho := okP_wr (k := (a + 7).toNat) (v := 1) ho
    have hc7 : (gI g171 1037 (a + 7).toNat 1).2.1 1037 (a + 7).toNat = 1 := gI_s
    generalize (gI g171 1037 (a + 7).toNat 1) = g1819 at hB hs hq ho hc7 ⊢
    refine a_aload_n 182 dX12_readsRule_181 rfl rfl ?_
    refine a_getR 185 dX12_readsRule_182 fX12_74 (hs.MR hM).1 rfl (mr_37 (hs.MR hM)).1 rfl ?_
    refine a_iload_n 186 dX12_readsRule_185 rfl rfl ?_
    refine a_bipush (z := 8) 188 dX12_readsRule_186 rfl (zrl rfl) rfl ?_
    refine a_iadd 189 dX12_readsRule_188 (by unfold zr; omega) rfl ?_
    refine a_iconst (z := 1) 190 dX12_readsRule_189 rfl (zrl rfl) rfl ?_
    refine a_iast 191 dX12_readsRule_190 (mr_37 (hs.MR hM)).2 (by omega) (by omega) rfl ?_
    have hB : cB (vr (tx g.2.1) (p5 g.2.1)) a 7 (gI g1819 1037 (a + 8).toNat 1) := hB.hi (by omega) (by omega)
    have hs : sameB (rX a) g (gI g1819 1037 (a + 8).toNat 1) := hs.wr (Or.inr ⟨rfl, by omega, by omega⟩)
    have hq := (p5_wr (g := g1819) (k := (a + 8).toNat) (v := 1)).trans hq
    have ho := okP_wr (k := (a + 8).toNat) (v := 1) ho
    have hc7 : (gI g1819 1037 (a + 8).toNat 1).2.1 1037 (a + 7).toNat = 1 := (gI_n (Or.inr (by omega))).trans hc7
    have hc8 : (gI g1819 1037 (a + 8).toNat 1).2.1 1037 (a + 8).toNat = 1 := gI_s
    generalize (gI g1819 1037 (a + 8).toNat 1) = g1919 at hB hs hq ho hc7 hc8 ⊢
    refine AW.cutH (J := 266) (P := fun g' => sameB (rX a) g g' ∧ p5 g'.2.1 = (q14 (tx g.2.1) (p5 g.2.1)) ∧ okP g'.2.1 ∧ cB (vr (tx g.2.1) (p5 g.2.1)) a 9 g' ∧ ((q14 (tx g.2.1) (p5 g.2.1)).2.2.2.2 < 0 → (q13 (tx g.2.1) (p5 g.2.1)).2.2.2.2 < 0 ∧ (0 ≤ (vr (tx g.2.1) (p5 g.2.1)) 7 ∧ (vr (tx g.2.1) (p5 g.2.1)) 7 ≤ 99) ∧ (1 ≤ (vr (tx g.2.1) (p5 g.2.1)) 8 ∧ (vr (tx g.2.1) (p5 g.2.1)) 8 ≤ 99))) ?_ (fun J266 => ?_)
    · intro g266 h266
      obtain ⟨hs, hq, ho, hB, w14⟩ := h266
      refine a_aload_n 267 dX12_readsRule_266 rfl rfl ?_
      refine a_getR 270 dX12_readsRule_267 fX12_74 (hs.MR hM).1 rfl (mr_37 (hs.MR hM)).1 rfl ?_
      refine a_iload_n 271 dX12_readsRule_270 rfl rfl ?_
      refine a_bipush (z := 9) 273 dX12_readsRule_271 rfl (zrl rfl) rfl ?_
      refine a_iadd 274 dX12_readsRule_273 (by unfold zr; omega) rfl ?_
      refine a_iconst (z := 0) 275 dX12_readsRule_274 rfl (zrl rfl) rfl ?_
      refine a_iast 276 dX12_readsRule_275 (mr_37 (hs.MR hM)).2 (by omega) (by omega) rfl ?_
      have hB : cB (vr (tx g.2.1) (p5 g.2.1)) a 9 (gI g266 1037 (a + 9).toNat 0) := hB.hi (by omega) (by omega)
      have hs : sameB (rX a) g (gI g266 1037 (a + 9).toNat 0) := hs.wr (Or.inr ⟨rfl, by omega, by omega⟩)
      have hq := (p5_wr (g := g266) (k := (a + 9).toNat) (v := 0)).trans hq
      have ho := okP_wr (k := (a + 9).toNat) (v := 0) ho
      have hc9 : (gI g266 1037 (a + 9).toNat 0).2.1 1037 (a + 9).toNat = 0 := gI_s
      generalize (gI g266 1037 (a + 9).toNat 0) = g2769 at hB hs hq ho hc9 ⊢
      refine AW.cutH (J := 298) (P := fun g' => sameB (rX a) g g' ∧ p5 g'.2.1 = (q15 (tx g.2.1) (p5 g.2.1)) ∧ okP g'.2.1 ∧ cB (vr (tx g.2.1) (p5 g.2.1)) a 10 g' ∧ ((q15 (tx g.2.1) (p5 g.2.1)).2.2.2.2 < 0 → (q14 (tx g.2.1) (p5 g.2.1)).2.2.2.2 < 0 ∧ ((vr (tx g.2.1) (p5 g.2.1)) 9 = 0 ∨ (vr (tx g.2.1) (p5 g.2.1)) 9 = 1))) ?_ (fun J298 => ?_)
      · intro g298 h298
        obtain ⟨hs, hq, ho, hB, w15⟩ := h298
        refine a_aload_n 299 dX12_readsRule_298 rfl rfl ?_
        refine a_bipush (z := 59) 301 dX12_readsRule_299 rfl (zrl rfl) rfl ?_
        refine a_callV 304 (r_takesSign _ 59 (hs.MR hM) (MV_keep (rX_scr ha.1) hs hV) ho) cdX12_takesSign lX12_221 dX12_readsRule_301 rfl (hs.MR hM).1 rfl ⟨by decide, by decide, rfl, rfl⟩ ⟨Nat.zero_le _, Nat.zero_le _⟩ (Nat.le_of_ble_eq_true rfl) rfl ?_
        rintro _ g301 - ⟨s301, e301, o301⟩ -
        rw [tx_r hs, hq] at e301
        have hpl : 0 ≤ ((q15 (tx g.2.1) (p5 g.2.1)) : PS).2.2.1 := by have z := ho.2.1.1; have z2 : g298.2.1 1000 32 = ((q15 (tx g.2.1) (p5 g.2.1)) : PS).2.2.1 := congrArg (fun x : PS => x.2.2.1) hq; omega
        have w16 := tS_w (T := (tx g.2.1)) (c := 59) (s := (q15 (tx g.2.1) (p5 g.2.1))) hpl
        have hB := hB.keep s301
        have hs := hs.tr (s301.mono bX_rX)
        have hq : p5 g301.2.1 = (q16 (tx g.2.1) (p5 g.2.1)) := e301
        have ho := o301
        refine a_return dX12_readsRule_304 rfl ⟨Nat.zero_le _, Nat.zero_le _⟩ ?_
        refine ⟨hs, hq, ho, hB, fun z => ?_⟩
        have y16 := w16 z
        have y15 := w15 y16.1
        have y14 := w14 y15.1
        have y13 := w13 y14.1
        have y12 := w12 y13.1
        have y11 := w11 y12.1
        have y10 := w10 y11.1
        have y9 := w9 y10.1
        have y8 := w8 y9.1
        have y7 := w7 y8.1
        have y6 := w6 y7.1
        have y5 := w5 y6.1
        have y4 := w4 y5.1
        have y3 := w3 y4.1
        have y2 := w2 y3.1
        have y1 := w1 y2.1
        exact ⟨y1.1, y2.2, y4.2, ⟨y6.2.1, y8.2⟩, y10.2, y12.2, y13.2, y14.2.1, y14.2.2, y15.2⟩
      · skip
        refine a_aload_n 277 dX12_readsRule_276 rfl rfl ?_
        refine a_iconst (z := 3) 278 dX12_readsRule_277 rfl (zrl rfl) rfl ?_
        refine a_callV 281 (r_isWord _ _ (hs.MR hM)) cdX12_isWord lX12_211 dX12_readsRule_278 rfl (hs.MR hM).1 rfl ⟨by decide, by decide, rfl, rfl⟩ ⟨Nat.zero_le _, Nat.zero_le _⟩ (Nat.le_of_ble_eq_true rfl) rfl ?_
        rintro _ _ - ⟨b278, rfl, rfl, h278⟩ -
        rw [hq] at h278
        refine a_if_eq 298 284 dX12_readsRule_281 (by decide) rfl (fun c281 => ?_) (fun c281 => ?_)
        · skip
          refine J298 _ ⟨hs, by rw [hq]; exact (if_neg (isN h278 c281)).symm, ho, fun j hj => ?_, fun z => ?_⟩
          · by_cases e : j = 9
            · subst e; exact hc9.trans (if_neg (isN h278 c281)).symm
            · exact hB j (by omega)
          · have z2 : (q15 (tx g.2.1) (p5 g.2.1)) = (q14 (tx g.2.1) (p5 g.2.1)) := if_neg (isN h278 c281)
            have z3 : (vr (tx g.2.1) (p5 g.2.1)) 9 = 0 := if_neg (isN h278 c281)
            rw [z2] at z; exact ⟨z, Or.inl z3⟩
        · skip
          refine a_aload_n 285 dX12_readsRule_284 rfl rfl ?_
          refine a_callV 288 (r_adv _ (hs.MR hM) (MV_keep (rX_scr ha.1) hs hV) ho) cdX12_advances lX12_205 dX12_readsRule_285 rfl (hs.MR hM).1 rfl ⟨by decide, by decide, rfl, rfl⟩ ⟨Nat.zero_le _, Nat.zero_le _⟩ (Nat.le_of_ble_eq_true rfl) rfl ?_
          rintro _ g285 - ⟨s285, e285, o285⟩ -
          rw [tx_r hs, hq] at e285
          have hpl : 0 ≤ ((q14 (tx g.2.1) (p5 g.2.1)) : PS).2.2.1 := by have z := ho.2.1.1; have z2 : g2769.2.1 1000 32 = ((q14 (tx g.2.1) (p5 g.2.1)) : PS).2.2.1 := congrArg (fun x : PS => x.2.2.1) hq; omega
          have hB := hB.keep s285
          have hs := hs.tr (s285.mono bX_rX)
          have hq : p5 g285.2.1 = adv (tx g.2.1) (q14 (tx g.2.1) (p5 g.2.1)) := e285
          have ho := o285
          refine a_aload_n 289 dX12_readsRule_288 rfl rfl ?_
          refine a_getR 292 dX12_readsRule_289 fX12_74 (hs.MR hM).1 rfl (mr_37 (hs.MR hM)).1 rfl ?_
          refine a_iload_n 293 dX12_readsRule_292 rfl rfl ?_
          refine a_bipush (z := 9) 295 dX12_readsRule_293 rfl (zrl rfl) rfl ?_
          refine a_iadd 296 dX12_readsRule_295 (by unfold zr; omega) rfl ?_
          refine a_iconst (z := 1) 297 dX12_readsRule_296 rfl (zrl rfl) rfl ?_
          refine a_iast 298 dX12_readsRule_297 (mr_37 (hs.MR hM)).2 (by omega) (by omega) rfl ?_
          have hB : cB (vr (tx g.2.1) (p5 g.2.1)) a 10 (gI g285 1037 (a + 9).toNat 1) := hB.wr (by omega) (by omega) (if_pos (isT h278 c281)).symm
          have hs : sameB (rX a) g (gI g285 1037 (a + 9).toNat 1) := hs.wr (Or.inr ⟨rfl, by omega, by omega⟩)
          have hq := (p5_wr (g := g285) (k := (a + 9).toNat) (v := 1)).trans hq
          have ho := okP_wr (k := (a + 9).toNat) (v := 1) ho
          generalize (gI g285 1037 (a + 9).toNat 1) = g298x9 at hB hs hq ho ⊢
          refine J298 _ ⟨hs, by rw [hq]; exact (if_pos (isT h278 c281)).symm, ho, hB, fun z => ?_⟩
          have z2 : (q15 (tx g.2.1) (p5 g.2.1)) = adv (tx g.2.1) (q14 (tx g.2.1) (p5 g.2.1)) := if_pos (isT h278 c281)
          have z3 : (vr (tx g.2.1) (p5 g.2.1)) 9 = 1 := if_pos (isT h278 c281)
          rw [z2] at z; exact ⟨z, Or.inr z3⟩
    · skip
      refine a_aload_n 192 dX12_readsRule_191 rfl rfl ?_
      refine a_iconst (z := 2) 193 dX12_readsRule_192 rfl (zrl rfl) rfl ?_
      refine a_callV 196 (r_isWord _ _ (hs.MR hM)) cdX12_isWord lX12_211 dX12_readsRule_193 rfl (hs.MR hM).1 rfl ⟨by decide, by decide, rfl, rfl⟩ ⟨Nat.zero_le _, Nat.zero_le _⟩ (Nat.le_of_ble_eq_true rfl) rfl ?_
      rintro _ _ - ⟨b193, rfl, rfl, h193⟩ -
      rw [hq] at h193
      refine a_if_eq 266 199 dX12_readsRule_196 (by decide) rfl (fun c196 => ?_) (fun c196 => ?_)
      · skip
        refine J266 _ ⟨hs, by rw [hq]; exact (if_neg (isN h193 c196)).symm, ho, fun j hj => ?_, fun z => ?_⟩
        · by_cases e : j = 7
          · subst e; exact hc7.trans (if_neg (isN h193 c196)).symm
          · by_cases e : j = 8
            · subst e; exact hc8.trans (if_neg (isN h193 c196)).symm
            · exact hB j (by omega)
        · have z2 : (q14 (tx g.2.1) (p5 g.2.1)) = (q13 (tx g.2.1) (p5 g.2.1)) := if_neg (isN h193 c196)
          have z3 : (vr (tx g.2.1) (p5 g.2.1)) 7 = 1 := if_neg (isN h193 c196)
          have z4 : (vr (tx g.2.1) (p5 g.2.1)) 8 = 1 := if_neg (isN h193 c196)
          rw [z2] at z; rw [z3, z4]; exact ⟨z, by decide, by decide⟩
      · skip
        refine a_aload_n 200 dX12_readsRule_199 rfl rfl ?_
        refine a_callV 203 (r_adv _ (hs.MR hM) (MV_keep (rX_scr ha.1) hs hV) ho) cdX12_advances lX12_205 dX12_readsRule_200 rfl (hs.MR hM).1 rfl ⟨by decide, by decide, rfl, rfl⟩ ⟨Nat.zero_le _, Nat.zero_le _⟩ (Nat.le_of_ble_eq_true rfl) rfl ?_
        rintro _ g200 - ⟨s200, e200, o200⟩ -
        rw [tx_r hs, hq] at e200
        have hpl : 0 ≤ ((q13 (tx g.2.1) (p5 g.2.1)) : PS).2.2.1 := by have z := ho.2.1.1; have z2 : g1919.2.1 1000 32 = ((q13 (tx g.2.1) (p5 g.2.1)) : PS).2.2.1 := congrArg (fun x : PS => x.2.2.1) hq; omega
        have hB := hB.keep s200
        have hs := hs.tr (s200.mono bX_rX)
        have hq : p5 g200.2.1 = adv (tx g.2.1) (q13 (tx g.2.1) (p5 g.2.1)) := e200
        have ho := o200
        refine a_aload_n 204 dX12_readsRule_203 rfl rfl ?_
        refine a_getR 207 dX12_readsRule_204 fX12_74 (hs.MR hM).1 rfl (mr_37 (hs.MR hM)).1 rfl ?_
        refine a_iload_n 208 dX12_readsRule_207 rfl rfl ?_
        refine a_bipush (z := 7) 210 dX12_readsRule_208 rfl (zrl rfl) rfl ?_
        refine a_iadd 211 dX12_readsRule_210 (by unfold zr; omega) rfl ?_
        refine a_aload_n 212 dX12_readsRule_211 rfl rfl ?_
        refine a_iconst (z := 0) 213 dX12_readsRule_212 rfl (zrl rfl) rfl ?_
        refine a_bipush (z := 99) 215 dX12_readsRule_213 rfl (zrl rfl) rfl ?_
        refine a_callV 218 (r_takesNumber _ 0 99 (hs.MR hM) (MV_keep (rX_scr ha.1) hs hV) ho) cdX12_takesNumber lX12_218 dX12_readsRule_215 rfl (hs.MR hM).1 rfl ⟨by decide, by decide, rfl, rfl⟩ ⟨Nat.zero_le _, Nat.zero_le _⟩ (Nat.le_of_ble_eq_true rfl) rfl ?_
        rintro _ g215 - ⟨rfl, s215, e215, o215⟩ -
        rw [hq]
        rw [tx_r hs, hq] at e215
        have hpl : 0 ≤ ((adv (tx g.2.1) (q13 (tx g.2.1) (p5 g.2.1))) : PS).2.2.1 := by have z := ho.2.1.1; have z2 : g200.2.1 1000 32 = ((adv (tx g.2.1) (q13 (tx g.2.1) (p5 g.2.1))) : PS).2.2.1 := congrArg (fun x : PS => x.2.2.1) hq; omega
        have w14a := tN_w (T := (tx g.2.1)) (a := 0) (b := 99) (s := (adv (tx g.2.1) (q13 (tx g.2.1) (p5 g.2.1)))) hpl
        have hB := hB.keep s215
        have hs := hs.tr (s215.mono bX_rX)
        have hq : p5 g215.2.1 = tN (tx g.2.1) 0 99 (adv (tx g.2.1) (q13 (tx g.2.1) (p5 g.2.1))) := e215
        have ho := o215
        refine a_iast 219 dX12_readsRule_218 (mr_37 (hs.MR hM)).2 (by omega) (by omega) rfl ?_
        have hB : cB (vr (tx g.2.1) (p5 g.2.1)) a 8 (gI g215 1037 (a + 7).toNat (tNv 0 99 (adv (tx g.2.1) (q13 (tx g.2.1) (p5 g.2.1))))) := hB.wr (by omega) (by omega) (by show _ = (if wdP 2 (q13 (tx g.2.1) (p5 g.2.1)) then tNv 0 99 (adv (tx g.2.1) (q13 (tx g.2.1) (p5 g.2.1))) else 1); rw [if_pos (isT h193 c196)])
        have hs : sameB (rX a) g (gI g215 1037 (a + 7).toNat (tNv 0 99 (adv (tx g.2.1) (q13 (tx g.2.1) (p5 g.2.1))))) := hs.wr (Or.inr ⟨rfl, by omega, by omega⟩)
        have hq := (p5_wr (g := g215) (k := (a + 7).toNat) (v := (tNv 0 99 (adv (tx g.2.1) (q13 (tx g.2.1) (p5 g.2.1)))))).trans hq
        have ho := okP_wr (k := (a + 7).toNat) (v := (tNv 0 99 (adv (tx g.2.1) (q13 (tx g.2.1) (p5 g.2.1))))) ho
        generalize (gI g215 1037 (a + 7).toNat (tNv 0 99 (adv (tx g.2.1) (q13 (tx g.2.1) (p5 g.2.1))))) = g2199 at hB hs hq ho ⊢
        refine a_aload_n 220 dX12_readsRule_219 rfl rfl ?_
        refine a_bipush (z := 47) 222 dX12_readsRule_220 rfl (zrl rfl) rfl ?_
        refine a_callV 225 (r_takesSign _ 47 (hs.MR hM) (MV_keep (rX_scr ha.1) hs hV) ho) cdX12_takesSign lX12_221 dX12_readsRule_222 rfl (hs.MR hM).1 rfl ⟨by decide, by decide, rfl, rfl⟩ ⟨Nat.zero_le _, Nat.zero_le _⟩ (Nat.le_of_ble_eq_true rfl) rfl ?_
        rintro _ g222 - ⟨s222, e222, o222⟩ -
        rw [tx_r hs, hq] at e222
        have hpl : 0 ≤ ((tN (tx g.2.1) 0 99 (adv (tx g.2.1) (q13 (tx g.2.1) (p5 g.2.1)))) : PS).2.2.1 := by have z := ho.2.1.1; have z2 : g2199.2.1 1000 32 = ((tN (tx g.2.1) 0 99 (adv (tx g.2.1) (q13 (tx g.2.1) (p5 g.2.1)))) : PS).2.2.1 := congrArg (fun x : PS => x.2.2.1) hq; omega
        have w14b := tS_w (T := (tx g.2.1)) (c := 47) (s := (tN (tx g.2.1) 0 99 (adv (tx g.2.1) (q13 (tx g.2.1) (p5 g.2.1))))) hpl
        have hB := hB.keep s222
        have hs := hs.tr (s222.mono bX_rX)
        have hq : p5 g222.2.1 = tS (tx g.2.1) 47 (tN (tx g.2.1) 0 99 (adv (tx g.2.1) (q13 (tx g.2.1) (p5 g.2.1)))) := e222
        have ho := o222
        refine a_aload_n 226 dX12_readsRule_225 rfl rfl ?_
        refine a_getR 229 dX12_readsRule_226 fX12_74 (hs.MR hM).1 rfl (mr_37 (hs.MR hM)).1 rfl ?_
        refine a_iload_n 230 dX12_readsRule_229 rfl rfl ?_
        refine a_bipush (z := 8) 232 dX12_readsRule_230 rfl (zrl rfl) rfl ?_
        refine a_iadd 233 dX12_readsRule_232 (by unfold zr; omega) rfl ?_
        refine a_aload_n 234 dX12_readsRule_233 rfl rfl ?_
        refine AW.cut (J := 260) (P := fun z => z = (mx1 (tNv 0 99 (adv (tx g.2.1) (q13 (tx g.2.1) (p5 g.2.1)))))) ?_ (fun J260 => ?_)
        · intro z260 h260
          subst h260
          refine a_bipush (z := 99) 262 dX12_readsRule_260 rfl (zrl rfl) rfl ?_
          refine a_callV 265 (r_takesNumber _ (mx1 (tNv 0 99 (adv (tx g.2.1) (q13 (tx g.2.1) (p5 g.2.1))))) 99 (hs.MR hM) (MV_keep (rX_scr ha.1) hs hV) ho) cdX12_takesNumber lX12_218 dX12_readsRule_262 rfl (hs.MR hM).1 rfl ⟨by decide, by decide, rfl, rfl⟩ ⟨Nat.zero_le _, Nat.zero_le _⟩ (Nat.le_of_ble_eq_true rfl) rfl ?_
          rintro _ g262 - ⟨rfl, s262, e262, o262⟩ -
          rw [hq]
          rw [tx_r hs, hq] at e262
          have hpl : 0 ≤ ((tS (tx g.2.1) 47 (tN (tx g.2.1) 0 99 (adv (tx g.2.1) (q13 (tx g.2.1) (p5 g.2.1))))) : PS).2.2.1 := by have z := ho.2.1.1; have z2 : g222.2.1 1000 32 = ((tS (tx g.2.1) 47 (tN (tx g.2.1) 0 99 (adv (tx g.2.1) (q13 (tx g.2.1) (p5 g.2.1))))) : PS).2.2.1 := congrArg (fun x : PS => x.2.2.1) hq; omega
          have w14c := tN_w (T := (tx g.2.1)) (a := (mx1 (tNv 0 99 (adv (tx g.2.1) (q13 (tx g.2.1) (p5 g.2.1)))))) (b := 99) (s := (tS (tx g.2.1) 47 (tN (tx g.2.1) 0 99 (adv (tx g.2.1) (q13 (tx g.2.1) (p5 g.2.1)))))) hpl
          have hB := hB.keep s262
          have hs := hs.tr (s262.mono bX_rX)
          have hq : p5 g262.2.1 = tN (tx g.2.1) (mx1 (tNv 0 99 (adv (tx g.2.1) (q13 (tx g.2.1) (p5 g.2.1))))) 99 (tS (tx g.2.1) 47 (tN (tx g.2.1) 0 99 (adv (tx g.2.1) (q13 (tx g.2.1) (p5 g.2.1))))) := e262
          have ho := o262
          refine a_iast 266 dX12_readsRule_265 (mr_37 (hs.MR hM)).2 (by omega) (by omega) rfl ?_
          have hB : cB (vr (tx g.2.1) (p5 g.2.1)) a 9 (gI g262 1037 (a + 8).toNat (tNv (mx1 (tNv 0 99 (adv (tx g.2.1) (q13 (tx g.2.1) (p5 g.2.1))))) 99 (tS (tx g.2.1) 47 (tN (tx g.2.1) 0 99 (adv (tx g.2.1) (q13 (tx g.2.1) (p5 g.2.1))))))) := hB.wr (by omega) (by omega) (if_pos (isT h193 c196)).symm
          have hs : sameB (rX a) g (gI g262 1037 (a + 8).toNat (tNv (mx1 (tNv 0 99 (adv (tx g.2.1) (q13 (tx g.2.1) (p5 g.2.1))))) 99 (tS (tx g.2.1) 47 (tN (tx g.2.1) 0 99 (adv (tx g.2.1) (q13 (tx g.2.1) (p5 g.2.1))))))) := hs.wr (Or.inr ⟨rfl, by omega, by omega⟩)
          have hq := (p5_wr (g := g262) (k := (a + 8).toNat) (v := (tNv (mx1 (tNv 0 99 (adv (tx g.2.1) (q13 (tx g.2.1) (p5 g.2.1))))) 99 (tS (tx g.2.1) 47 (tN (tx g.2.1) 0 99 (adv (tx g.2.1) (q13 (tx g.2.1) (p5 g.2.1)))))))).trans hq
          have ho := okP_wr (k := (a + 8).toNat) (v := (tNv (mx1 (tNv 0 99 (adv (tx g.2.1) (q13 (tx g.2.1) (p5 g.2.1))))) 99 (tS (tx g.2.1) 47 (tN (tx g.2.1) 0 99 (adv (tx g.2.1) (q13 (tx g.2.1) (p5 g.2.1))))))) ho
          generalize (gI g262 1037 (a + 8).toNat (tNv (mx1 (tNv 0 99 (adv (tx g.2.1) (q13 (tx g.2.1) (p5 g.2.1))))) 99 (tS (tx g.2.1) 47 (tN (tx g.2.1) 0 99 (adv (tx g.2.1) (q13 (tx g.2.1) (p5 g.2.1))))))) = g266x9 at hB hs hq ho ⊢
          refine J266 _ ⟨hs, by rw [hq]; exact (if_pos (isT h193 c196)).symm, ho, hB, fun z => ?_⟩
          have z2 : (q14 (tx g.2.1) (p5 g.2.1)) = tN (tx g.2.1) (mx1 (tNv 0 99 (adv (tx g.2.1) (q13 (tx g.2.1) (p5 g.2.1))))) 99 (tS (tx g.2.1) 47 (tN (tx g.2.1) 0 99 (adv (tx g.2.1) (q13 (tx g.2.1) (p5 g.2.1))))) := if_pos (isT h193 c196)
          have z3 : (vr (tx g.2.1) (p5 g.2.1)) 7 = tNv 0 99 (adv (tx g.2.1) (q13 (tx g.2.1) (p5 g.2.1))) := if_pos (isT h193 c196)
          have z4 : (vr (tx g.2.1) (p5 g.2.1)) 8 = tNv (mx1 (tNv 0 99 (adv (tx g.2.1) (q13 (tx g.2.1) (p5 g.2.1))))) 99 (tS (tx g.2.1) 47 (tN (tx g.2.1) 0 99 (adv (tx g.2.1) (q13 (tx g.2.1) (p5 g.2.1))))) := if_pos (isT h193 c196)
          rw [z2] at z; rw [z3, z4]
          have y1 := w14c z
          have y2 := w14b y1.1
          have y3 := w14a y2.1
          have y4 : 1 ≤ (mx1 (tNv 0 99 (adv (tx g.2.1) (q13 (tx g.2.1) (p5 g.2.1))))) := by unfold mx1; split <;> omega
          exact ⟨y3.1, by omega, by omega⟩
        · skip
          refine a_aload_n 235 dX12_readsRule_234 rfl rfl ?_
          refine a_getR 238 dX12_readsRule_235 fX12_74 (hs.MR hM).1 rfl (mr_37 (hs.MR hM)).1 rfl ?_
          refine a_iload_n 239 dX12_readsRule_238 rfl rfl ?_
          refine a_bipush (z := 7) 241 dX12_readsRule_239 rfl (zrl rfl) rfl ?_
          refine a_iadd 242 dX12_readsRule_241 (by unfold zr; omega) rfl ?_
          refine a_ialdz (tNv 0 99 (adv (tx g.2.1) (q13 (tx g.2.1) (p5 g.2.1)))) 243 dX12_readsRule_242 (mr_37 (hs.MR hM)).2 (by omega) (by omega) ((hB 7 (by omega)).trans (if_pos (isT h193 c196))) rfl ?_
          refine a_iconst (z := 1) 244 dX12_readsRule_243 rfl (zrl rfl) rfl ?_
          refine a_icmp_ge 251 247 dX12_readsRule_244 (by decide) rfl (fun c244 => ?_) (fun c244 => ?_)
          · skip
            refine a_aload_n 252 dX12_readsRule_251 rfl rfl ?_
            refine a_getR 255 dX12_readsRule_252 fX12_74 (hs.MR hM).1 rfl (mr_37 (hs.MR hM)).1 rfl ?_
            refine a_iload_n 256 dX12_readsRule_255 rfl rfl ?_
            refine a_bipush (z := 7) 258 dX12_readsRule_256 rfl (zrl rfl) rfl ?_
            refine a_iadd 259 dX12_readsRule_258 (by unfold zr; omega) rfl ?_
            refine a_ialdz (tNv 0 99 (adv (tx g.2.1) (q13 (tx g.2.1) (p5 g.2.1)))) 260 dX12_readsRule_259 (mr_37 (hs.MR hM)).2 (by omega) (by omega) ((hB 7 (by omega)).trans (if_pos (isT h193 c196))) rfl ?_
            exact J260 _ (by unfold mx1; first | rw [if_pos (by omega)] | rw [if_neg (by omega)])
          · skip
            refine a_iconst (z := 1) 248 dX12_readsRule_247 rfl (zrl rfl) rfl ?_
            refine a_goto 260 dX12_readsRule_248 (by decide) ?_
            exact J260 _ (by unfold mx1; first | rw [if_pos (by omega)] | rw [if_neg (by omega)])
  · skip
    refine a_aload_n 142 dX12_readsRule_141 rfl rfl ?_
    refine a_bipush (z := 43) 144 dX12_readsRule_142 rfl (zrl rfl) rfl ?_
    refine a_callV 147 (r_isSign _ _ (hs.MR hM)) cdX12_isSign lX12_202 dX12_readsRule_144 rfl (hs.MR hM).1 rfl ⟨by decide, by decide, rfl, rfl⟩ ⟨Nat.zero_le _, Nat.zero_le _⟩ (Nat.le_of_ble_eq_true rfl) rfl ?_
    rintro _ _ - ⟨b144, rfl, rfl, h144⟩ -
    rw [hq] at h144
    refine a_if_eq 171 150 dX12_readsRule_147 (by decide) rfl (fun c147 => ?_) (fun c147 => ?_)
    · skip
      refine J171 _ ⟨hs, by rw [hq]; exact (if_neg (isN h144 c147)).symm, ho, fun j hj => ?_, fun z => ?_⟩
      · by_cases e : j = 6
        · subst e; exact hc6.trans (if_neg (isN h144 c147)).symm
        · exact hB j (by omega)
      · have z2 : (q13 (tx g.2.1) (p5 g.2.1)) = (q12 (tx g.2.1) (p5 g.2.1)) := if_neg (isN h144 c147)
        have z3 : (vr (tx g.2.1) (p5 g.2.1)) 6 = 0 := if_neg (isN h144 c147)
        rw [z2] at z; rw [z3]; exact ⟨z, by decide, by decide⟩
    · skip
      refine a_aload_n 151 dX12_readsRule_150 rfl rfl ?_
      refine a_callV 154 (r_adv _ (hs.MR hM) (MV_keep (rX_scr ha.1) hs hV) ho) cdX12_advances lX12_205 dX12_readsRule_151 rfl (hs.MR hM).1 rfl ⟨by decide, by decide, rfl, rfl⟩ ⟨Nat.zero_le _, Nat.zero_le _⟩ (Nat.le_of_ble_eq_true rfl) rfl ?_
      rintro _ g151 - ⟨s151, e151, o151⟩ -
      rw [tx_r hs, hq] at e151
      have hpl : 0 ≤ ((q12 (tx g.2.1) (p5 g.2.1)) : PS).2.2.1 := by have z := ho.2.1.1; have z2 : g1419.2.1 1000 32 = ((q12 (tx g.2.1) (p5 g.2.1)) : PS).2.2.1 := congrArg (fun x : PS => x.2.2.1) hq; omega
      have hB := hB.keep s151
      have hs := hs.tr (s151.mono bX_rX)
      have hq : p5 g151.2.1 = adv (tx g.2.1) (q12 (tx g.2.1) (p5 g.2.1)) := e151
      have ho := o151
      refine a_aload_n 155 dX12_readsRule_154 rfl rfl ?_
      refine a_getR 158 dX12_readsRule_155 fX12_74 (hs.MR hM).1 rfl (mr_37 (hs.MR hM)).1 rfl ?_
      refine a_iload_n 159 dX12_readsRule_158 rfl rfl ?_
      refine a_bipush (z := 6) 161 dX12_readsRule_159 rfl (zrl rfl) rfl ?_
      refine a_iadd 162 dX12_readsRule_161 (by unfold zr; omega) rfl ?_
      refine a_aload_n 163 dX12_readsRule_162 rfl rfl ?_
      refine a_iconst (z := 0) 164 dX12_readsRule_163 rfl (zrl rfl) rfl ?_
      refine a_sipush (z := 999) 167 dX12_readsRule_164 rfl (zrl rfl) rfl ?_
      refine a_callV 170 (r_takesNumber _ 0 999 (hs.MR hM) (MV_keep (rX_scr ha.1) hs hV) ho) cdX12_takesNumber lX12_218 dX12_readsRule_167 rfl (hs.MR hM).1 rfl ⟨by decide, by decide, rfl, rfl⟩ ⟨Nat.zero_le _, Nat.zero_le _⟩ (Nat.le_of_ble_eq_true rfl) rfl ?_
      rintro _ g167 - ⟨rfl, s167, e167, o167⟩ -
      rw [hq]
      rw [tx_r hs, hq] at e167
      have hpl : 0 ≤ ((adv (tx g.2.1) (q12 (tx g.2.1) (p5 g.2.1))) : PS).2.2.1 := by have z := ho.2.1.1; have z2 : g151.2.1 1000 32 = ((adv (tx g.2.1) (q12 (tx g.2.1) (p5 g.2.1))) : PS).2.2.1 := congrArg (fun x : PS => x.2.2.1) hq; omega
      have w13 := tN_w (T := (tx g.2.1)) (a := 0) (b := 999) (s := (adv (tx g.2.1) (q12 (tx g.2.1) (p5 g.2.1)))) hpl
      have hB := hB.keep s167
      have hs := hs.tr (s167.mono bX_rX)
      have hq : p5 g167.2.1 = tN (tx g.2.1) 0 999 (adv (tx g.2.1) (q12 (tx g.2.1) (p5 g.2.1))) := e167
      have ho := o167
      refine a_iast 171 dX12_readsRule_170 (mr_37 (hs.MR hM)).2 (by omega) (by omega) rfl ?_
      have hB : cB (vr (tx g.2.1) (p5 g.2.1)) a 7 (gI g167 1037 (a + 6).toNat (tNv 0 999 (adv (tx g.2.1) (q12 (tx g.2.1) (p5 g.2.1))))) := hB.wr (by omega) (by omega) (if_pos (isT h144 c147)).symm
      have hs : sameB (rX a) g (gI g167 1037 (a + 6).toNat (tNv 0 999 (adv (tx g.2.1) (q12 (tx g.2.1) (p5 g.2.1))))) := hs.wr (Or.inr ⟨rfl, by omega, by omega⟩)
      have hq := (p5_wr (g := g167) (k := (a + 6).toNat) (v := (tNv 0 999 (adv (tx g.2.1) (q12 (tx g.2.1) (p5 g.2.1)))))).trans hq
      have ho := okP_wr (k := (a + 6).toNat) (v := (tNv 0 999 (adv (tx g.2.1) (q12 (tx g.2.1) (p5 g.2.1))))) ho
      generalize (gI g167 1037 (a + 6).toNat (tNv 0 999 (adv (tx g.2.1) (q12 (tx g.2.1) (p5 g.2.1))))) = g171x9 at hB hs hq ho ⊢
      refine J171 _ ⟨hs, by rw [hq]; exact (if_pos (isT h144 c147)).symm, ho, hB, fun z => ?_⟩
      have z2 : (q13 (tx g.2.1) (p5 g.2.1)) = tN (tx g.2.1) 0 999 (adv (tx g.2.1) (q12 (tx g.2.1) (p5 g.2.1))) := if_pos (isT h144 c147)
      have z3 : (vr (tx g.2.1) (p5 g.2.1)) 6 = tNv 0 999 (adv (tx g.2.1) (q12 (tx g.2.1) (p5 g.2.1))) := if_pos (isT h144 c147)
      rw [z2] at z; rw [z3]; exact w13 z
