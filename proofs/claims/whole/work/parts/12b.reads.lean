theorem fstU_no {P : Int → Prop} : ∀ n : Nat, (∀ i : Int, 0 ≤ i → i < n → ¬ P i) → fstU P n = -9
  | 0, _ => rfl
  | n + 1, hi => by
    rw [(fstU_s P n).2 (fun y => hi n (by omega) (by omega) y.1)]
    exact fstU_no n (fun i a b => hi i a (by omega))
theorem CB.b {g : GH} {bk : Nat} (h : CB g bk) : BK g bk (bk + 1) (fun i => bk + 2 + i) := by
  obtain ⟨h1, h2, h3, h4⟩ := h
  rcases h1 with rfl | rfl
  · exact h3
  · exact h4
theorem CB.s {g : GH} {bk : Nat} (h : CB g bk) : BK g (70 - bk) (70 - bk + 1) (fun i => 70 - bk + 2 + i) := by
  obtain ⟨h1, h2, h3, h4⟩ := h
  rcases h1 with rfl | rfl
  · exact h4
  · exact h3
theorem sp_0 {g : GH} {m : Nat} (h : MKd g m) : cnt (dB (g.2.2.1 (300 + m))) 1024 = cnt (canB g.2.1 m) 1000 := by
  rw [show (1024 : Nat) = 1000 + 24 from rfl, cnt_0 24 (fun x a b z => by have := ((h x (by omega)).mp z).1; omega)]
  exact cnt_cg 1000 (fun k hk => ⟨fun z => ((h k (by omega)).mp z).2, fun z => (h k (by omega)).mpr ⟨by omega, z⟩⟩)
theorem fstU_eq {P : Int → Prop} {z : Int} : ∀ n : Nat, (0 ≤ z ∧ z < n) → P z → (∀ i : Int, 0 ≤ i → i < z → ¬ P i) → fstU P n = z
  | 0, h, _, _ => by omega
  | n + 1, h, hz, hi => by
    by_cases e : z = n
    · have e0 : fstU P n = -9 := fstU_no n (fun i a b => hi i a (by omega))
      rw [(fstU_s P n).1 ⟨by rw [← e]; exact hz, e0⟩, e]
    · have e1 := fstU_eq n (by omega) hz hi
      rw [(fstU_s P n).2 (fun y => by have := y.2; omega)]; exact e1
theorem sp_1 {g : GH} {m : Nat} {z : Int} (h : MKd g m) (q : isFd (dB (g.2.2.1 (300 + m))) 0 z) : (if z = 1000 then -9 else z) = sv 1 (canB g.2.1 m) 1000 := by
  unfold sv
  rw [if_neg (show ¬ (1 : Int) = 2 by decide)]
  rcases q with ⟨a1, a2, a3, a4⟩ | ⟨a1, a2⟩
  · rw [if_neg (by omega)]
    exact (fstU_eq 1000 (by omega) ((h z a1).mp a3).2 (fun i b1 b2 b3 => a4 i b1 b2 ((h i b1).mpr ⟨by omega, b3⟩))).symm
  · rw [if_pos a1]
    exact (fstU_no 1000 (fun i b1 b2 b3 => a2 i b1 (by omega) ((h i b1).mpr ⟨by omega, b3⟩))).symm
theorem sp_2 {g : GH} {m : Nat} {z : Int} (h : MKd g m) (q : (z = -9 ∧ ∀ y, 0 ≤ y → y ≤ 999 → ¬ dB (g.2.2.1 (300 + m)) y) ∨ ((0 ≤ z ∧ z ≤ 999) ∧ dB (g.2.2.1 (300 + m)) z ∧ ∀ y, z < y → y ≤ 999 → ¬ dB (g.2.2.1 (300 + m)) y)) : z = sv 2 (canB g.2.1 m) 1000 := by
  unfold sv
  rw [if_pos rfl]
  rcases q with ⟨a1, a2⟩ | ⟨a1, a2, a3⟩
  · rw [a1]; exact (lstU_no 1000 (fun i b1 b2 b3 => a2 i b1 (by omega) ((h i b1).mpr ⟨by omega, b3⟩))).symm
  · exact (lstU_eq 1000 (by omega) ((h z a1.1).mp a2).2 (fun i b1 b2 b3 => a3 i b1 (by omega) ((h i (by omega)).mpr ⟨by omega, b3⟩))).symm
theorem lc_eq {g : GH} {m : Nat} (h : MK g m) (q : Int) : lcV g (100 + m) q = leanV g.2.1 q m := by
  obtain ⟨-, v, -, t, r, -⟩ := h
  have e0 : lc0 g (100 + m) = lean0 g.2.1 m := by
    unfold lc0 lean0
    have := r.non
    by_cases z : g.2.2.2 (100 + m) 8 = none
    · rw [if_pos z, if_pos (this.mp z)]; rfl
    · rw [if_neg z, if_neg (fun y => z (this.mpr y))]; rfl
  have ex : ∀ i : Nat, i < 3 → rdI (g.2.1 1014 (10 * m + 5 + i)) = 4 * (if bOf (g.2.1 (100 + m) 5) i = 63 then 0 else 1) := fun i hi => by
    unfold rdI
    by_cases z : g.2.1 1014 (10 * m + 5 + i) < 0
    · rw [if_pos z, if_pos ((t.2 i hi).mpr z)]; rfl
    · rw [if_neg z, if_neg (fun y => z ((t.2 i hi).mp y))]; rfl
  have e1 : lc1 g (100 + m) = lean1 g.2.1 m := by
    unfold lc1 lean1
    rw [e0, show (10 * (m : Int) + 5 + 0).toNat = 10 * m + 5 + 0 by omega, show (10 * (m : Int) + 5 + (0 + 1)).toNat = 10 * m + 5 + 1 by omega, show (10 * (m : Int) + 5 + (0 + 1 + 1)).toNat = 10 * m + 5 + 2 by omega, ex 0 (by decide), ex 1 (by decide), ex 2 (by decide)]
    show lean0 g.2.1 m + 4 * (0 + (if bOf (g.2.1 (100 + m) 5) ((0 : Nat) : Int) = 63 then 0 else 1) + (if bOf (g.2.1 (100 + m) 5) ((1 : Nat) : Int) = 63 then 0 else 1) + (if bOf (g.2.1 (100 + m) 5) ((2 : Nat) : Int) = 63 then 0 else 1)) = _
    omega
  unfold lcV leanV
  rw [e0, e1, v.2.2.2.1, v.2.2.2.2.2.1, show (10 * (m : Int) + 8).toNat = 10 * m + 8 by omega, show (10 * (m : Int) + 3).toNat = 10 * m + 3 by omega]
set_option maxHeartbeats 4000000 in
set_option maxRecDepth 100000 in
theorem c11_isMark (g : GH) (m : Int) (hP : CPL g) : AMet mX11_isMark g [vA 1, vI m] (pB g (0 ≤ m ∧ m < g.2.1 1000 13)) := by
  refine AMet.of [vA 1, vI m] (by decide) rfl (Nat.le_of_ble_eq_true rfl) ?_
  obtain ⟨⟨hM, hV⟩, ⟨hO, hl⟩, ⟨hof, hdi⟩, ⟨hC, hw, hv, hG⟩, ⟨hT, hTr, hF⟩, bk, hB, hBv⟩ := id hP
  have hcn := hV.1
  unfold MVc at hcn
  have hn : 0 ≤ g.2.1 1000 13 ∧ g.2.1 1000 13 ≤ 40 := hcn.2.2.1
  refine a_iload_n 1 dX11_isMark_0 rfl rfl ?_
  refine a_iconst (z := 0) 2 dX11_isMark_1 rfl (zrl rfl) rfl ?_
  refine a_aload_n 3 dX11_isMark_2 rfl rfl ?_
  refine a_getR 6 dX11_isMark_3 fX11_28 hO.1.1 rfl hO.1.2.2.2.2.1 rfl ?_
  refine a_getIz (g.2.1 1000 13) 9 dX11_isMark_6 fX11_106 hC.1 rfl hC.2.2.2.1 rfl ?_
  refine a_iconst (z := 1) 10 dX11_isMark_9 rfl (zrl rfl) rfl ?_
  refine a_isub 11 dX11_isMark_10 (by unfold zr; omega) rfl ?_
  refine a_callS 14 (c11_within _ _ _ _) cdX11_within lX11_79 dX11_isMark_11 rfl rfl ⟨by decide, by decide, rfl, rfl⟩ ⟨Nat.zero_le _, Nat.zero_le _⟩ (Nat.le_of_ble_eq_true rfl) rfl ?_
  rintro _ _ - ⟨b11, rfl, rfl, h11⟩ -
  refine a_breturn dX11_isMark_14 rfl (by rcases h11 with q | q <;> omega) ⟨Nat.zero_le _, Nat.zero_le _⟩ ?_
  refine ⟨_, rfl, rfl, ?_⟩
  rcases h11 with q | q
  · exact Or.inl ⟨q.1, by omega⟩
  · exact Or.inr ⟨q.1, fun z => q.2 (by omega)⟩
set_option maxHeartbeats 4000000 in
set_option maxRecDepth 100000 in
theorem c11_about (g : GH) (m w : Int) (hP : CPL g) : AMet mX11_about g [vA 1, vI m, vI w] (fun r g' => (((0 ≤ m ∧ m < g.2.1 1000 13) ∧ (0 ≤ w ∧ w ≤ 4)) ∧ r = vI (g.2.1 1014 (if w < 3 then 10 * m + w else if w = 3 then 10 * m + 8 else 10 * m + 9).toNat) ∧ g = g') ∨ (¬ ((0 ≤ m ∧ m < g.2.1 1000 13) ∧ (0 ≤ w ∧ w ≤ 4)) ∧ r = vI (-1) ∧ g = g')) := by
  refine AMet.of [vA 1, vI m, vI w, none] (by decide) rfl (Nat.le_of_ble_eq_true rfl) ?_
  obtain ⟨⟨hM, hV⟩, ⟨hO, hl⟩, ⟨hof, hdi⟩, ⟨hC, hw, hv, hG⟩, ⟨hT, hTr, hF⟩, bk, hB, hBv⟩ := id hP
  have hcn := hV.1
  unfold MVc at hcn
  have hn : 0 ≤ g.2.1 1000 13 ∧ g.2.1 1000 13 ≤ 40 := hcn.2.2.1
  refine a_aload_n 1 dX11_about_0 rfl rfl ?_
  refine a_iload_n 2 dX11_about_1 rfl rfl ?_
  refine a_callV 5 (c11_isMark _ _ hP) cdX11_isMark lX11_127 dX11_about_2 rfl hO.1.1 rfl ⟨by decide, by decide, rfl, rfl⟩ ⟨Nat.zero_le _, Nat.zero_le _⟩ (Nat.le_of_ble_eq_true rfl) rfl ?_
  rintro _ _ - ⟨b2, rfl, rfl, h2⟩ -
  refine a_if_eq 17 8 dX11_about_5 (by decide) rfl (fun c5 => ?_) (fun c5 => ?_)
  · skip
    refine a_iconst (z := (-1)) 18 dX11_about_17 rfl (zrl rfl) rfl ?_
    refine a_ireturn dX11_about_18 rfl ⟨Nat.zero_le _, Nat.zero_le _⟩ ?_
    refine Or.inr ⟨fun z => ?_, rfl, rfl⟩
    first
    | exact isN h2 (by omega) z.1
    | exact isN h11 (by omega) z.2
  · skip
    refine a_iload_n 9 dX11_about_8 rfl rfl ?_
    refine a_iconst (z := 0) 10 dX11_about_9 rfl (zrl rfl) rfl ?_
    refine a_iconst (z := 4) 11 dX11_about_10 rfl (zrl rfl) rfl ?_
    refine a_callS 14 (c11_within _ _ _ _) cdX11_within lX11_79 dX11_about_11 rfl rfl ⟨by decide, by decide, rfl, rfl⟩ ⟨Nat.zero_le _, Nat.zero_le _⟩ (Nat.le_of_ble_eq_true rfl) rfl ?_
    rintro _ _ - ⟨b11, rfl, rfl, h11⟩ -
    refine a_if_ne 19 17 dX11_about_14 (by decide) rfl (fun c14 => ?_) (fun c14 => ?_)
    · skip
      obtain ⟨n, rfl⟩ : ∃ n : Nat, m = n := ⟨m.toNat, by have := isT h2 c5; omega⟩
      have hm : (n : Int) < g.2.1 1000 13 := (isT h2 c5).2
      have hk := hC.k hm
      refine a_aload_n 20 dX11_about_19 rfl rfl ?_
      refine a_getR 23 dX11_about_20 fX11_28 hO.1.1 rfl hO.1.2.2.2.2.1 rfl ?_
      refine a_getR 26 dX11_about_23 fX11_130 hC.1 rfl hC.2.1 rfl ?_
      refine a_iload_n 27 dX11_about_26 rfl rfl ?_
      refine a_aald 28 dX11_about_27 hC.2.2.1 rfl (by omega) (by omega) (hC.r hm) rfl ?_
      refine a_astore_n 29 dX11_about_28 (by decide) rfl rfl ?_
      refine a_iload_n 30 dX11_about_29 rfl rfl ?_
      refine a_case (0) (fun c30_0 => ?_) (fun c30_0 => ?_)
      · refine a_tblIn (30) 60 dX11_about_30 (by omega) (by omega) (by rw [c30_0]; rfl) (by decide) ?_
        refine a_aload_n 61 dX11_about_60 rfl rfl ?_
        refine a_getI 64 dX11_about_61 fX11_138 (hC.k (m := n) hm).1.1 rfl rfl ?_
        refine a_ireturn dX11_about_64 rfl ⟨Nat.zero_le _, Nat.zero_le _⟩ ?_
        refine Or.inl ⟨⟨isT h2 c5, isT h11 c14⟩, congrArg vI ?_, rfl⟩
        rw [show (if w < 3 then 10 * (n : Int) + w else if w = 3 then 10 * (n : Int) + 8 else 10 * (n : Int) + 9).toNat = 10 * n + 0 by
          have := isT h11 c14
          by_cases q : w < 3
          · rw [if_pos q]; omega
          · rw [if_neg q]
            by_cases q2 : w = 3
            · rw [if_pos q2]; omega
            · rw [if_neg q2]; omega]
        exact hk.2.1.1
      refine a_case (1) (fun c30_1 => ?_) (fun c30_1 => ?_)
      · refine a_tblIn (35) 65 dX11_about_30 (by omega) (by omega) (by rw [c30_1]; rfl) (by decide) ?_
        refine a_aload_n 66 dX11_about_65 rfl rfl ?_
        refine a_getI 69 dX11_about_66 fX11_141 (hC.k (m := n) hm).1.1 rfl rfl ?_
        refine a_ireturn dX11_about_69 rfl ⟨Nat.zero_le _, Nat.zero_le _⟩ ?_
        refine Or.inl ⟨⟨isT h2 c5, isT h11 c14⟩, congrArg vI ?_, rfl⟩
        rw [show (if w < 3 then 10 * (n : Int) + w else if w = 3 then 10 * (n : Int) + 8 else 10 * (n : Int) + 9).toNat = 10 * n + 1 by
          have := isT h11 c14
          by_cases q : w < 3
          · rw [if_pos q]; omega
          · rw [if_neg q]
            by_cases q2 : w = 3
            · rw [if_pos q2]; omega
            · rw [if_neg q2]; omega]
        exact hk.2.1.2.1
      refine a_case (2) (fun c30_2 => ?_) (fun c30_2 => ?_)
      · refine a_tblIn (40) 70 dX11_about_30 (by omega) (by omega) (by rw [c30_2]; rfl) (by decide) ?_
        refine a_aload_n 71 dX11_about_70 rfl rfl ?_
        refine a_getI 74 dX11_about_71 fX11_144 (hC.k (m := n) hm).1.1 rfl rfl ?_
        refine a_ireturn dX11_about_74 rfl ⟨Nat.zero_le _, Nat.zero_le _⟩ ?_
        refine Or.inl ⟨⟨isT h2 c5, isT h11 c14⟩, congrArg vI ?_, rfl⟩
        rw [show (if w < 3 then 10 * (n : Int) + w else if w = 3 then 10 * (n : Int) + 8 else 10 * (n : Int) + 9).toNat = 10 * n + 2 by
          have := isT h11 c14
          by_cases q : w < 3
          · rw [if_pos q]; omega
          · rw [if_neg q]
            by_cases q2 : w = 3
            · rw [if_pos q2]; omega
            · rw [if_neg q2]; omega]
        exact hk.2.1.2.2.2.2.1
      refine a_case (3) (fun c30_3 => ?_) (fun c30_3 => ?_)
      · refine a_tblIn (45) 75 dX11_about_30 (by omega) (by omega) (by rw [c30_3]; rfl) (by decide) ?_
        refine a_aload_n 76 dX11_about_75 rfl rfl ?_
        refine a_getI 79 dX11_about_76 fX11_147 (hC.k (m := n) hm).1.1 rfl rfl ?_
        refine a_ireturn dX11_about_79 rfl ⟨Nat.zero_le _, Nat.zero_le _⟩ ?_
        refine Or.inl ⟨⟨isT h2 c5, isT h11 c14⟩, congrArg vI ?_, rfl⟩
        rw [show (if w < 3 then 10 * (n : Int) + w else if w = 3 then 10 * (n : Int) + 8 else 10 * (n : Int) + 9).toNat = 10 * n + 8 by
          have := isT h11 c14
          by_cases q : w < 3
          · rw [if_pos q]; omega
          · rw [if_neg q]
            by_cases q2 : w = 3
            · rw [if_pos q2]; omega
            · rw [if_neg q2]; omega]
        exact hk.2.1.2.2.2.1
      refine a_tblOut 80 dX11_about_30 (by omega) (by decide) ?_
      refine a_aload_n 81 dX11_about_80 rfl rfl ?_
      refine a_getI 84 dX11_about_81 fX11_150 (hC.k (m := n) hm).1.1 rfl rfl ?_
      refine a_ireturn dX11_about_84 rfl ⟨Nat.zero_le _, Nat.zero_le _⟩ ?_
      refine Or.inl ⟨⟨isT h2 c5, isT h11 c14⟩, congrArg vI ?_, rfl⟩
      rw [show (if w < 3 then 10 * (n : Int) + w else if w = 3 then 10 * (n : Int) + 8 else 10 * (n : Int) + 9).toNat = 10 * n + 9 by
        have := isT h11 c14
        by_cases q : w < 3
        · rw [if_pos q]; omega
        · rw [if_neg q]
          by_cases q2 : w = 3
          · rw [if_pos q2]; omega
          · rw [if_neg q2]; omega]
      exact hk.2.1.2.2.1
    · skip
      refine a_iconst (z := (-1)) 18 dX11_about_17 rfl (zrl rfl) rfl ?_
      refine a_ireturn dX11_about_18 rfl ⟨Nat.zero_le _, Nat.zero_le _⟩ ?_
      refine Or.inr ⟨fun z => ?_, rfl, rfl⟩
      first
      | exact isN h2 (by omega) z.1
      | exact isN h11 (by omega) z.2
set_option maxHeartbeats 4000000 in
set_option maxRecDepth 100000 in
theorem c11_span (g : GH) (m w : Int) (hP : CPL g) : AMet mX11_span g [vA 1, vI m, vI w] (fun r g' => (((0 ≤ m ∧ m < g.2.1 1000 13) ∧ (0 ≤ w ∧ w ≤ 2)) ∧ r = vI (if w = 0 then cnt (canB g.2.1 m) 1000 else sv w (canB g.2.1 m) 1000) ∧ g = g') ∨ (¬ ((0 ≤ m ∧ m < g.2.1 1000 13) ∧ (0 ≤ w ∧ w ≤ 2)) ∧ r = vI (-1) ∧ g = g')) := by
  refine AMet.of [vA 1, vI m, vI w, none] (by decide) rfl (Nat.le_of_ble_eq_true rfl) ?_
  obtain ⟨⟨hM, hV⟩, ⟨hO, hl⟩, ⟨hof, hdi⟩, ⟨hC, hw, hv, hG⟩, ⟨hT, hTr, hF⟩, bk, hB, hBv⟩ := id hP
  have hcn := hV.1
  unfold MVc at hcn
  have hn : 0 ≤ g.2.1 1000 13 ∧ g.2.1 1000 13 ≤ 40 := hcn.2.2.1
  refine a_aload_n 1 dX11_span_0 rfl rfl ?_
  refine a_iload_n 2 dX11_span_1 rfl rfl ?_
  refine a_callV 5 (c11_isMark _ _ hP) cdX11_isMark lX11_127 dX11_span_2 rfl hO.1.1 rfl ⟨by decide, by decide, rfl, rfl⟩ ⟨Nat.zero_le _, Nat.zero_le _⟩ (Nat.le_of_ble_eq_true rfl) rfl ?_
  rintro _ _ - ⟨b2, rfl, rfl, h2⟩ -
  refine a_if_eq 17 8 dX11_span_5 (by decide) rfl (fun c5 => ?_) (fun c5 => ?_)
  · skip
    refine a_iconst (z := (-1)) 18 dX11_span_17 rfl (zrl rfl) rfl ?_
    refine a_ireturn dX11_span_18 rfl ⟨Nat.zero_le _, Nat.zero_le _⟩ ?_
    refine Or.inr ⟨fun z => ?_, rfl, rfl⟩
    first
    | exact isN h2 (by omega) z.1
    | exact isN h11 (by omega) z.2
  · skip
    refine a_iload_n 9 dX11_span_8 rfl rfl ?_
    refine a_iconst (z := 0) 10 dX11_span_9 rfl (zrl rfl) rfl ?_
    refine a_iconst (z := 2) 11 dX11_span_10 rfl (zrl rfl) rfl ?_
    refine a_callS 14 (c11_within _ _ _ _) cdX11_within lX11_79 dX11_span_11 rfl rfl ⟨by decide, by decide, rfl, rfl⟩ ⟨Nat.zero_le _, Nat.zero_le _⟩ (Nat.le_of_ble_eq_true rfl) rfl ?_
    rintro _ _ - ⟨b11, rfl, rfl, h11⟩ -
    refine a_if_ne 19 17 dX11_span_14 (by decide) rfl (fun c14 => ?_) (fun c14 => ?_)
    · skip
      obtain ⟨n, rfl⟩ : ∃ n : Nat, m = n := ⟨m.toNat, by have := isT h2 c5; omega⟩
      have hm : (n : Int) < g.2.1 1000 13 := (isT h2 c5).2
      have hk := hC.k hm
      refine a_aload_n 20 dX11_span_19 rfl rfl ?_
      refine a_getR 23 dX11_span_20 fX11_28 hO.1.1 rfl hO.1.2.2.2.2.1 rfl ?_
      refine a_getR 26 dX11_span_23 fX11_130 hC.1 rfl hC.2.1 rfl ?_
      refine a_iload_n 27 dX11_span_26 rfl rfl ?_
      refine a_aald 28 dX11_span_27 hC.2.2.1 rfl (by omega) (by omega) (hC.r hm) rfl ?_
      refine a_getR 31 dX11_span_28 fX11_153 (hC.k (m := n) hm).1.1 rfl (hC.k (m := n) hm).1.2.1 rfl ?_
      refine a_astore_n 32 dX11_span_31 (by decide) rfl rfl ?_
      refine a_iload_n 33 dX11_span_32 rfl rfl ?_
      refine a_case (0) (fun c33_0 => ?_) (fun c33_0 => ?_)
      · refine a_look (27) 60 dX11_span_33 (by decide) (by rw [c33_0]; rfl) (by decide) ?_
        refine a_aload_n 61 dX11_span_60 rfl rfl ?_
        refine a_callV 64 (c1_size _ hk.1.2.2.1 hk.1.2.2.2.1 hk.1.2.2.2.2.1) cdX1_size lX11_157 dX11_span_61 rfl (hC.k (m := n) hm).1.2.2.1 rfl ⟨by decide, by decide, rfl, rfl⟩ ⟨Nat.zero_le _, Nat.zero_le _⟩ (Nat.le_of_ble_eq_true rfl) rfl ?_
        rintro _ _ - ⟨rfl, rfl⟩ -
        refine a_ireturn dX11_span_64 rfl ⟨Nat.zero_le _, Nat.zero_le _⟩ ?_
        refine Or.inl ⟨⟨isT h2 c5, isT h11 c14⟩, congrArg vI ?_, rfl⟩
        rw [if_pos (by omega)]; exact sp_0 hk.2.2.1
      refine a_case (1) (fun c33_1 => ?_) (fun c33_1 => ?_)
      · refine a_look (32) 65 dX11_span_33 (by decide) (by rw [c33_1]; rfl) (by decide) ?_
        refine a_aload_n 66 dX11_span_65 rfl rfl ?_
        refine a_iconst (z := 0) 67 dX11_span_66 rfl (zrl rfl) rfl ?_
        refine a_callV 70 (c1_firstFrom _ _ hk.1.2.2.1 hk.1.2.2.2.1 hk.1.2.2.2.2.1 (by decide)) cdX1_firstFrom lX11_163 dX11_span_67 rfl (hC.k (m := n) hm).1.2.2.1 rfl ⟨by decide, by decide, rfl, rfl⟩ ⟨Nat.zero_le _, Nat.zero_le _⟩ (Nat.le_of_ble_eq_true rfl) rfl ?_
        rintro _ _ - ⟨z, hz, rfl, rfl⟩ -
        refine a_ireturn dX11_span_70 rfl ⟨Nat.zero_le _, Nat.zero_le _⟩ ?_
        refine Or.inl ⟨⟨isT h2 c5, isT h11 c14⟩, congrArg vI ?_, rfl⟩
        refine Eq.trans (sp_1 hk.2.2.1 hz) ?_
        rw [if_neg (show ¬ w = 0 by omega), show w = 1 by omega]
      refine a_look (38) 71 dX11_span_33 (by decide) (by simp only [Op.lookupswitch.offset_cons, Op.lookupswitch.offset_nil]; rw [if_neg (by omega)]; rw [if_neg (by omega)]) (by decide) ?_
      refine a_aload_n 72 dX11_span_71 rfl rfl ?_
      refine a_sipush (z := 999) 75 dX11_span_72 rfl (zrl rfl) rfl ?_
      refine a_callV 78 (c1_lastTill _ _ hk.1.2.2.1 hk.1.2.2.2.1 hk.1.2.2.2.2.1) cdX1_lastTill lX11_167 dX11_span_75 rfl (hC.k (m := n) hm).1.2.2.1 rfl ⟨by decide, by decide, rfl, rfl⟩ ⟨Nat.zero_le _, Nat.zero_le _⟩ (Nat.le_of_ble_eq_true rfl) rfl ?_
      rintro _ _ - ⟨z, rfl, rfl, hz⟩ -
      refine a_ireturn dX11_span_78 rfl ⟨Nat.zero_le _, Nat.zero_le _⟩ ?_
      refine Or.inl ⟨⟨isT h2 c5, isT h11 c14⟩, congrArg vI ?_, rfl⟩
      have := isT h11 c14
      rw [if_neg (by omega), show w = 2 by omega]; exact sp_2 hk.2.2.1 hz
    · skip
      refine a_iconst (z := (-1)) 18 dX11_span_17 rfl (zrl rfl) rfl ?_
      refine a_ireturn dX11_span_18 rfl ⟨Nat.zero_le _, Nat.zero_le _⟩ ?_
      refine Or.inr ⟨fun z => ?_, rfl, rfl⟩
      first
      | exact isN h2 (by omega) z.1
      | exact isN h11 (by omega) z.2
set_option maxHeartbeats 4000000 in
set_option maxRecDepth 100000 in
theorem c11_can (g : GH) (m d : Int) (hP : CPL g) : AMet mX11_can g [vA 1, vI m, vI d] (fun r g' => (((0 ≤ m ∧ m < g.2.1 1000 13) ∧ (0 ≤ d ∧ d ≤ 999)) ∧ r = vI (ci (canB g.2.1 m d)) ∧ g = g') ∨ (¬ ((0 ≤ m ∧ m < g.2.1 1000 13) ∧ (0 ≤ d ∧ d ≤ 999)) ∧ r = vI (-1) ∧ g = g')) := by
  refine AMet.of [vA 1, vI m, vI d] (by decide) rfl (Nat.le_of_ble_eq_true rfl) ?_
  obtain ⟨⟨hM, hV⟩, ⟨hO, hl⟩, ⟨hof, hdi⟩, ⟨hC, hw, hv, hG⟩, ⟨hT, hTr, hF⟩, bk, hB, hBv⟩ := id hP
  have hcn := hV.1
  unfold MVc at hcn
  have hn : 0 ≤ g.2.1 1000 13 ∧ g.2.1 1000 13 ≤ 40 := hcn.2.2.1
  refine a_aload_n 1 dX11_can_0 rfl rfl ?_
  refine a_iload_n 2 dX11_can_1 rfl rfl ?_
  refine a_callV 5 (c11_isMark _ _ hP) cdX11_isMark lX11_127 dX11_can_2 rfl hO.1.1 rfl ⟨by decide, by decide, rfl, rfl⟩ ⟨Nat.zero_le _, Nat.zero_le _⟩ (Nat.le_of_ble_eq_true rfl) rfl ?_
  rintro _ _ - ⟨b2, rfl, rfl, h2⟩ -
  refine a_if_eq 15 8 dX11_can_5 (by decide) rfl (fun c5 => ?_) (fun c5 => ?_)
  · skip
    refine a_iconst (z := (-1)) 16 dX11_can_15 rfl (zrl rfl) rfl ?_
    refine a_ireturn dX11_can_16 rfl ⟨Nat.zero_le _, Nat.zero_le _⟩ ?_
    refine Or.inr ⟨fun z => ?_, rfl, rfl⟩
    first
    | exact isN h2 (by omega) z.1
    | exact isN h9 (by omega) z.2
  · skip
    refine a_iload_n 9 dX11_can_8 rfl rfl ?_
    refine a_callS 12 (c11_isDay _ _) cdX11_isDay lX11_100 dX11_can_9 rfl rfl ⟨by decide, by decide, rfl, rfl⟩ ⟨Nat.zero_le _, Nat.zero_le _⟩ (Nat.le_of_ble_eq_true rfl) rfl ?_
    rintro _ _ - ⟨b9, rfl, rfl, h9⟩ -
    refine a_if_ne 17 15 dX11_can_12 (by decide) rfl (fun c12 => ?_) (fun c12 => ?_)
    · skip
      obtain ⟨n, rfl⟩ : ∃ n : Nat, m = n := ⟨m.toNat, by have := isT h2 c5; omega⟩
      have hm : (n : Int) < g.2.1 1000 13 := (isT h2 c5).2
      have hk := hC.k hm
      refine a_aload_n 18 dX11_can_17 rfl rfl ?_
      refine a_getR 21 dX11_can_18 fX11_28 hO.1.1 rfl hO.1.2.2.2.2.1 rfl ?_
      refine a_getR 24 dX11_can_21 fX11_130 hC.1 rfl hC.2.1 rfl ?_
      refine a_iload_n 25 dX11_can_24 rfl rfl ?_
      refine a_aald 26 dX11_can_25 hC.2.2.1 rfl (by omega) (by omega) (hC.r hm) rfl ?_
      refine a_getR 29 dX11_can_26 fX11_153 (hC.k (m := n) hm).1.1 rfl (hC.k (m := n) hm).1.2.1 rfl ?_
      refine a_iload_n 30 dX11_can_29 rfl rfl ?_
      refine a_callV 33 (c1_has _ _ hk.1.2.2.1 hk.1.2.2.2.1 hk.1.2.2.2.2.1) cdX1_has lX11_170 dX11_can_30 rfl (hC.k (m := n) hm).1.2.2.1 rfl ⟨by decide, by decide, rfl, rfl⟩ ⟨Nat.zero_le _, Nat.zero_le _⟩ (Nat.le_of_ble_eq_true rfl) rfl ?_
      rintro _ _ - ⟨b30, rfl, rfl, h30⟩ -
      refine a_if_eq 40 36 dX11_can_33 (by decide) rfl (fun c33 => ?_) (fun c33 => ?_)
      · skip
        refine a_iconst (z := 0) 41 dX11_can_40 rfl (zrl rfl) rfl ?_
        refine a_ireturn dX11_can_41 rfl ⟨Nat.zero_le _, Nat.zero_le _⟩ ?_
        refine Or.inl ⟨⟨isT h2 c5, isT h9 c12⟩, congrArg vI ?_, rfl⟩
        have y := isT h9 c12
        first
        | exact ci1 (P := canB g.2.1 (n : Int) d) (Or.inl ⟨rfl, ((hk.2.2.1 d y.1).mp (isT h30 c33).2).2⟩) (by decide)
        | exact ci0 (P := canB g.2.1 (n : Int) d) (Or.inr ⟨rfl, fun z => isN h30 c33 ⟨y, (hk.2.2.1 d y.1).mpr ⟨y.2, z⟩⟩⟩) rfl
      · skip
        refine a_iconst (z := 1) 37 dX11_can_36 rfl (zrl rfl) rfl ?_
        refine a_goto 41 dX11_can_37 (by decide) ?_
        refine a_ireturn dX11_can_41 rfl ⟨Nat.zero_le _, Nat.zero_le _⟩ ?_
        refine Or.inl ⟨⟨isT h2 c5, isT h9 c12⟩, congrArg vI ?_, rfl⟩
        have y := isT h9 c12
        first
        | exact ci1 (P := canB g.2.1 (n : Int) d) (Or.inl ⟨rfl, ((hk.2.2.1 d y.1).mp (isT h30 c33).2).2⟩) (by decide)
        | exact ci0 (P := canB g.2.1 (n : Int) d) (Or.inr ⟨rfl, fun z => isN h30 c33 ⟨y, (hk.2.2.1 d y.1).mpr ⟨y.2, z⟩⟩⟩) rfl
    · skip
      refine a_iconst (z := (-1)) 16 dX11_can_15 rfl (zrl rfl) rfl ?_
      refine a_ireturn dX11_can_16 rfl ⟨Nat.zero_le _, Nat.zero_le _⟩ ?_
      refine Or.inr ⟨fun z => ?_, rfl, rfl⟩
      first
      | exact isN h2 (by omega) z.1
      | exact isN h9 (by omega) z.2
set_option maxHeartbeats 4000000 in
set_option maxRecDepth 100000 in
theorem c11_marks (g : GH) (c d : Int) (hP : CPL g) : AMet mX11_marks g [vA 1, vI c, vI d] (fun r g' => (((0 ≤ c ∧ c ≤ 7) ∧ (0 ≤ d ∧ d ≤ 999)) ∧ r = vI (cnt (isOfB g.2.1 c d) (g.2.1 1000 13).toNat) ∧ g = g') ∨ (¬ ((0 ≤ c ∧ c ≤ 7) ∧ (0 ≤ d ∧ d ≤ 999)) ∧ r = vI (-1) ∧ g = g')) := by
  refine AMet.of [vA 1, vI c, vI d] (by decide) rfl (Nat.le_of_ble_eq_true rfl) ?_
  obtain ⟨⟨hM, hV⟩, ⟨hO, hl⟩, ⟨hof, hdi⟩, ⟨hC, hw, hv, hG⟩, ⟨hT, hTr, hF⟩, bk, hB, hBv⟩ := id hP
  have hcn := hV.1
  unfold MVc at hcn
  have hn : 0 ≤ g.2.1 1000 13 ∧ g.2.1 1000 13 ≤ 40 := hcn.2.2.1
  refine a_iload_n 1 dX11_marks_0 rfl rfl ?_
  refine a_callS 4 (c11_isCover _ _) cdX11_isCover lX11_97 dX11_marks_1 rfl rfl ⟨by decide, by decide, rfl, rfl⟩ ⟨Nat.zero_le _, Nat.zero_le _⟩ (Nat.le_of_ble_eq_true rfl) rfl ?_
  rintro _ _ - ⟨b1, rfl, rfl, h1⟩ -
  refine a_if_eq 14 7 dX11_marks_4 (by decide) rfl (fun c4 => ?_) (fun c4 => ?_)
  · skip
    refine a_iconst (z := (-1)) 15 dX11_marks_14 rfl (zrl rfl) rfl ?_
    refine a_ireturn dX11_marks_15 rfl ⟨Nat.zero_le _, Nat.zero_le _⟩ ?_
    refine Or.inr ⟨fun z => ?_, rfl, rfl⟩
    first
    | exact isN h1 (by omega) z.1
    | exact isN h8 (by omega) z.2
  · skip
    refine a_iload_n 8 dX11_marks_7 rfl rfl ?_
    refine a_callS 11 (c11_isDay _ _) cdX11_isDay lX11_100 dX11_marks_8 rfl rfl ⟨by decide, by decide, rfl, rfl⟩ ⟨Nat.zero_le _, Nat.zero_le _⟩ (Nat.le_of_ble_eq_true rfl) rfl ?_
    rintro _ _ - ⟨b8, rfl, rfl, h8⟩ -
    refine a_if_ne 16 14 dX11_marks_11 (by decide) rfl (fun c11 => ?_) (fun c11 => ?_)
    · skip
      refine a_aload_n 17 dX11_marks_16 rfl rfl ?_
      refine a_getR 20 dX11_marks_17 fX11_28 hO.1.1 rfl hO.1.2.2.2.2.1 rfl ?_
      refine a_iload_n 21 dX11_marks_20 rfl rfl ?_
      refine a_iload_n 22 dX11_marks_21 rfl rfl ?_
      refine a_callV 25 (c0_countOn _ _ _ hC hn) cdX0_countOn lX11_173 dX11_marks_22 rfl hC.1 rfl ⟨by decide, by decide, rfl, rfl⟩ ⟨Nat.zero_le _, Nat.zero_le _⟩ (Nat.le_of_ble_eq_true rfl) rfl ?_
      rintro _ _ - ⟨rfl, rfl⟩ -
      refine a_ireturn dX11_marks_25 rfl ⟨Nat.zero_le _, Nat.zero_le _⟩ ?_
      exact Or.inl ⟨⟨isT h1 c4, isT h8 c11⟩, rfl, rfl⟩
    · skip
      refine a_iconst (z := (-1)) 15 dX11_marks_14 rfl (zrl rfl) rfl ?_
      refine a_ireturn dX11_marks_15 rfl ⟨Nat.zero_le _, Nat.zero_le _⟩ ?_
      refine Or.inr ⟨fun z => ?_, rfl, rfl⟩
      first
      | exact isN h1 (by omega) z.1
      | exact isN h8 (by omega) z.2
set_option maxHeartbeats 4000000 in
set_option maxRecDepth 100000 in
theorem c11_look (g : GH) (c d : Int) (hP : CPL g) : AMet mX11_look g [vA 1, vI c, vI d] (fun r g' => (((0 ≤ c ∧ c ≤ 7) ∧ (0 ≤ d ∧ d ≤ 999)) ∧ r = vI ((lkS g.2.1 c d (3 * (g.2.1 1000 13).toNat)).1) ∧ g = g') ∨ (¬ ((0 ≤ c ∧ c ≤ 7) ∧ (0 ≤ d ∧ d ≤ 999)) ∧ r = vI (-1) ∧ g = g')) := by
  refine AMet.of [vA 1, vI c, vI d] (by decide) rfl (Nat.le_of_ble_eq_true rfl) ?_
  obtain ⟨⟨hM, hV⟩, ⟨hO, hl⟩, ⟨hof, hdi⟩, ⟨hC, hw, hv, hG⟩, ⟨hT, hTr, hF⟩, bk, hB, hBv⟩ := id hP
  have hcn := hV.1
  unfold MVc at hcn
  have hn : 0 ≤ g.2.1 1000 13 ∧ g.2.1 1000 13 ≤ 40 := hcn.2.2.1
  refine a_iload_n 1 dX11_look_0 rfl rfl ?_
  refine a_callS 4 (c11_isCover _ _) cdX11_isCover lX11_97 dX11_look_1 rfl rfl ⟨by decide, by decide, rfl, rfl⟩ ⟨Nat.zero_le _, Nat.zero_le _⟩ (Nat.le_of_ble_eq_true rfl) rfl ?_
  rintro _ _ - ⟨b1, rfl, rfl, h1⟩ -
  refine a_if_eq 14 7 dX11_look_4 (by decide) rfl (fun c4 => ?_) (fun c4 => ?_)
  · skip
    refine a_iconst (z := (-1)) 15 dX11_look_14 rfl (zrl rfl) rfl ?_
    refine a_ireturn dX11_look_15 rfl ⟨Nat.zero_le _, Nat.zero_le _⟩ ?_
    refine Or.inr ⟨fun z => ?_, rfl, rfl⟩
    first
    | exact isN h1 (by omega) z.1
    | exact isN h8 (by omega) z.2
  · skip
    refine a_iload_n 8 dX11_look_7 rfl rfl ?_
    refine a_callS 11 (c11_isDay _ _) cdX11_isDay lX11_100 dX11_look_8 rfl rfl ⟨by decide, by decide, rfl, rfl⟩ ⟨Nat.zero_le _, Nat.zero_le _⟩ (Nat.le_of_ble_eq_true rfl) rfl ?_
    rintro _ _ - ⟨b8, rfl, rfl, h8⟩ -
    refine a_if_ne 16 14 dX11_look_11 (by decide) rfl (fun c11 => ?_) (fun c11 => ?_)
    · skip
      refine a_aload_n 17 dX11_look_16 rfl rfl ?_
      refine a_getR 20 dX11_look_17 fX11_28 hO.1.1 rfl hO.1.2.2.2.2.1 rfl ?_
      refine a_iload_n 21 dX11_look_20 rfl rfl ?_
      refine a_iload_n 22 dX11_look_21 rfl rfl ?_
      refine a_callV 25 (c0_nextLook _ _ _ hC hn) cdX0_nextLook lX11_274 dX11_look_22 rfl hC.1 rfl ⟨by decide, by decide, rfl, rfl⟩ ⟨Nat.zero_le _, Nat.zero_le _⟩ (Nat.le_of_ble_eq_true rfl) rfl ?_
      rintro _ _ - ⟨rfl, rfl⟩ -
      refine a_ireturn dX11_look_25 rfl ⟨Nat.zero_le _, Nat.zero_le _⟩ ?_
      exact Or.inl ⟨⟨isT h1 c4, isT h8 c11⟩, rfl, rfl⟩
    · skip
      refine a_iconst (z := (-1)) 15 dX11_look_14 rfl (zrl rfl) rfl ?_
      refine a_ireturn dX11_look_15 rfl ⟨Nat.zero_le _, Nat.zero_le _⟩ ?_
      refine Or.inr ⟨fun z => ?_, rfl, rfl⟩
      first
      | exact isN h1 (by omega) z.1
      | exact isN h8 (by omega) z.2
set_option maxHeartbeats 4000000 in
set_option maxRecDepth 100000 in
theorem c11_heap (g : GH) (c d : Int) (hP : CPL g) : AMet mX11_heap g [vA 1, vI c, vI d] (fun r g' => (((0 ≤ c ∧ c ≤ 7) ∧ (0 ≤ d ∧ d ≤ 999)) ∧ (∃ z : Nat, r = vI (z : Int) ∧ isHp g.2.1 d c z) ∧ g = g') ∨ (¬ ((0 ≤ c ∧ c ≤ 7) ∧ (0 ≤ d ∧ d ≤ 999)) ∧ r = vI (-1) ∧ g = g')) := by
  refine AMet.of [vA 1, vI c, vI d] (by decide) rfl (Nat.le_of_ble_eq_true rfl) ?_
  obtain ⟨⟨hM, hV⟩, ⟨hO, hl⟩, ⟨hof, hdi⟩, ⟨hC, hw, hv, hG⟩, ⟨hT, hTr, hF⟩, bk, hB, hBv⟩ := id hP
  have hcn := hV.1
  unfold MVc at hcn
  have hn : 0 ≤ g.2.1 1000 13 ∧ g.2.1 1000 13 ≤ 40 := hcn.2.2.1
  refine a_iload_n 1 dX11_heap_0 rfl rfl ?_
  refine a_callS 4 (c11_isCover _ _) cdX11_isCover lX11_97 dX11_heap_1 rfl rfl ⟨by decide, by decide, rfl, rfl⟩ ⟨Nat.zero_le _, Nat.zero_le _⟩ (Nat.le_of_ble_eq_true rfl) rfl ?_
  rintro _ _ - ⟨b1, rfl, rfl, h1⟩ -
  refine a_if_eq 14 7 dX11_heap_4 (by decide) rfl (fun c4 => ?_) (fun c4 => ?_)
  · skip
    refine a_iconst (z := (-1)) 15 dX11_heap_14 rfl (zrl rfl) rfl ?_
    refine a_ireturn dX11_heap_15 rfl ⟨Nat.zero_le _, Nat.zero_le _⟩ ?_
    refine Or.inr ⟨fun z => ?_, rfl, rfl⟩
    first
    | exact isN h1 (by omega) z.1
    | exact isN h8 (by omega) z.2
  · skip
    refine a_iload_n 8 dX11_heap_7 rfl rfl ?_
    refine a_callS 11 (c11_isDay _ _) cdX11_isDay lX11_100 dX11_heap_8 rfl rfl ⟨by decide, by decide, rfl, rfl⟩ ⟨Nat.zero_le _, Nat.zero_le _⟩ (Nat.le_of_ble_eq_true rfl) rfl ?_
    rintro _ _ - ⟨b8, rfl, rfl, h8⟩ -
    refine a_if_ne 16 14 dX11_heap_11 (by decide) rfl (fun c11 => ?_) (fun c11 => ?_)
    · skip
      refine a_aload_n 17 dX11_heap_16 rfl rfl ?_
      refine a_getR 20 dX11_heap_17 fX11_28 hO.1.1 rfl hO.1.2.2.2.2.1 rfl ?_
      refine a_iload_n 21 dX11_heap_20 rfl rfl ?_
      refine a_iload_n 22 dX11_heap_21 rfl rfl ?_
      refine a_callV 25 (c0_heapOf _ _ _ hC hn (isT h1 c4)) cdX0_heapOf lX11_268 dX11_heap_22 rfl hC.1 rfl ⟨by decide, by decide, rfl, rfl⟩ ⟨Nat.zero_le _, Nat.zero_le _⟩ (Nat.le_of_ble_eq_true rfl) rfl ?_
      rintro _ _ - ⟨z, rfl, rfl, hz⟩ -
      refine a_ireturn dX11_heap_25 rfl ⟨Nat.zero_le _, Nat.zero_le _⟩ ?_
      exact Or.inl ⟨⟨isT h1 c4, isT h8 c11⟩, ⟨z, rfl, hz⟩, rfl⟩
    · skip
      refine a_iconst (z := (-1)) 15 dX11_heap_14 rfl (zrl rfl) rfl ?_
      refine a_ireturn dX11_heap_15 rfl ⟨Nat.zero_le _, Nat.zero_le _⟩ ?_
      refine Or.inr ⟨fun z => ?_, rfl, rfl⟩
      first
      | exact isN h1 (by omega) z.1
      | exact isN h8 (by omega) z.2
set_option maxHeartbeats 4000000 in
set_option maxRecDepth 100000 in
theorem c11_many (g : GH) (e d : Int) (hP : CPL g) : AMet mX11_many g [vA 1, vI e, vI d] (fun r g' => (((0 ≤ e ∧ e < g.2.1 1000 7) ∧ (0 ≤ d ∧ d ≤ 999)) ∧ r = vI (mnyV g.2.1 e d) ∧ g = g') ∨ (¬ ((0 ≤ e ∧ e < g.2.1 1000 7) ∧ (0 ≤ d ∧ d ≤ 999)) ∧ r = vI (-1) ∧ g = g')) := by
  refine AMet.of [vA 1, vI e, vI d] (by decide) rfl (Nat.le_of_ble_eq_true rfl) ?_
  obtain ⟨⟨hM, hV⟩, ⟨hO, hl⟩, ⟨hof, hdi⟩, ⟨hC, hw, hv, hG⟩, ⟨hT, hTr, hF⟩, bk, hB, hBv⟩ := id hP
  have hcn := hV.1
  unfold MVc at hcn
  have hn : 0 ≤ g.2.1 1000 13 ∧ g.2.1 1000 13 ≤ 40 := hcn.2.2.1
  refine a_iload_n 1 dX11_many_0 rfl rfl ?_
  refine a_iconst (z := 0) 2 dX11_many_1 rfl (zrl rfl) rfl ?_
  refine a_aload_n 3 dX11_many_2 rfl rfl ?_
  refine a_getIz (g.2.1 1000 7) 6 dX11_many_3 fX11_76 hO.1.1 rfl hdi.1 rfl ?_
  refine a_iconst (z := 1) 7 dX11_many_6 rfl (zrl rfl) rfl ?_
  refine a_isub 8 dX11_many_7 (by unfold zr; omega) rfl ?_
  refine a_callS 11 (c11_within _ _ _ _) cdX11_within lX11_79 dX11_many_8 rfl rfl ⟨by decide, by decide, rfl, rfl⟩ ⟨Nat.zero_le _, Nat.zero_le _⟩ (Nat.le_of_ble_eq_true rfl) rfl ?_
  rintro _ _ - ⟨b8, rfl, rfl, h8⟩ -
  refine a_if_eq 21 14 dX11_many_11 (by decide) rfl (fun c11 => ?_) (fun c11 => ?_)
  · skip
    refine a_iconst (z := (-1)) 22 dX11_many_21 rfl (zrl rfl) rfl ?_
    refine a_ireturn dX11_many_22 rfl ⟨Nat.zero_le _, Nat.zero_le _⟩ ?_
    refine Or.inr ⟨fun z => ?_, rfl, rfl⟩
    first
    | exact isN h8 (by omega) (by omega)
    | exact isN h15 (by omega) z.2
  · skip
    refine a_iload_n 15 dX11_many_14 rfl rfl ?_
    refine a_callS 18 (c11_isDay _ _) cdX11_isDay lX11_100 dX11_many_15 rfl rfl ⟨by decide, by decide, rfl, rfl⟩ ⟨Nat.zero_le _, Nat.zero_le _⟩ (Nat.le_of_ble_eq_true rfl) rfl ?_
    rintro _ _ - ⟨b15, rfl, rfl, h15⟩ -
    refine a_if_ne 23 21 dX11_many_18 (by decide) rfl (fun c18 => ?_) (fun c18 => ?_)
    · skip
      refine a_aload_n 24 dX11_many_23 rfl rfl ?_
      refine a_getR 27 dX11_many_24 fX11_28 hO.1.1 rfl hO.1.2.2.2.2.1 rfl ?_
      refine a_iload_n 28 dX11_many_27 rfl rfl ?_
      refine a_iload_n 29 dX11_many_28 rfl rfl ?_
      refine a_callV 32 (c0_manyOf _ _ _ hC hn) cdX0_manyOf lX11_271 dX11_many_29 rfl hC.1 rfl ⟨by decide, by decide, rfl, rfl⟩ ⟨Nat.zero_le _, Nat.zero_le _⟩ (Nat.le_of_ble_eq_true rfl) rfl ?_
      rintro _ _ - ⟨rfl, rfl⟩ -
      refine a_ireturn dX11_many_32 rfl ⟨Nat.zero_le _, Nat.zero_le _⟩ ?_
      exact Or.inl ⟨⟨by have := isT h8 c11; omega, isT h15 c18⟩, rfl, rfl⟩
    · skip
      refine a_iconst (z := (-1)) 22 dX11_many_21 rfl (zrl rfl) rfl ?_
      refine a_ireturn dX11_many_22 rfl ⟨Nat.zero_le _, Nat.zero_le _⟩ ?_
      refine Or.inr ⟨fun z => ?_, rfl, rfl⟩
      first
      | exact isN h8 (by omega) (by omega)
      | exact isN h15 (by omega) z.2
set_option maxHeartbeats 4000000 in
set_option maxRecDepth 100000 in
theorem c11_mail (g : GH) (a b d : Int) (hP : CPL g) : AMet mX11_mail g [vA 1, vI a, vI b, vI d] (fun r g' => (((0 ≤ a ∧ a ≤ 7) ∧ (0 ≤ b ∧ b ≤ 7) ∧ a ≠ b ∧ (0 ≤ d ∧ d ≤ 999)) ∧ r = vI (ci (mailB g.2.1 a b d)) ∧ g = g') ∨ (¬ ((0 ≤ a ∧ a ≤ 7) ∧ (0 ≤ b ∧ b ≤ 7) ∧ a ≠ b ∧ (0 ≤ d ∧ d ≤ 999)) ∧ r = vI (-1) ∧ g = g')) := by
  refine AMet.of [vA 1, vI a, vI b, vI d] (by decide) rfl (Nat.le_of_ble_eq_true rfl) ?_
  obtain ⟨⟨hM, hV⟩, ⟨hO, hl⟩, ⟨hof, hdi⟩, ⟨hC, hw, hv, hG⟩, ⟨hT, hTr, hF⟩, bk, hB, hBv⟩ := id hP
  have hcn := hV.1
  unfold MVc at hcn
  have hn : 0 ≤ g.2.1 1000 13 ∧ g.2.1 1000 13 ≤ 40 := hcn.2.2.1
  refine a_iload_n 1 dX11_mail_0 rfl rfl ?_
  refine a_callS 4 (c11_isCover _ _) cdX11_isCover lX11_97 dX11_mail_1 rfl rfl ⟨by decide, by decide, rfl, rfl⟩ ⟨Nat.zero_le _, Nat.zero_le _⟩ (Nat.le_of_ble_eq_true rfl) rfl ?_
  rintro _ _ - ⟨b1, rfl, rfl, h1⟩ -
  refine a_if_eq 26 7 dX11_mail_4 (by decide) rfl (fun c4 => ?_) (fun c4 => ?_)
  · skip
    refine a_iconst (z := (-1)) 27 dX11_mail_26 rfl (zrl rfl) rfl ?_
    refine a_ireturn dX11_mail_27 rfl ⟨Nat.zero_le _, Nat.zero_le _⟩ ?_
    refine Or.inr ⟨fun z => ?_, rfl, rfl⟩
    first
    | exact isN h1 (by omega) z.1
    | exact isN h8 (by omega) z.2.1
    | exact z.2.2.1 c16
    | exact isN h20 (by omega) z.2.2.2
  · skip
    refine a_iload_n 8 dX11_mail_7 rfl rfl ?_
    refine a_callS 11 (c11_isCover _ _) cdX11_isCover lX11_97 dX11_mail_8 rfl rfl ⟨by decide, by decide, rfl, rfl⟩ ⟨Nat.zero_le _, Nat.zero_le _⟩ (Nat.le_of_ble_eq_true rfl) rfl ?_
    rintro _ _ - ⟨b8, rfl, rfl, h8⟩ -
    refine a_if_eq 26 14 dX11_mail_11 (by decide) rfl (fun c11 => ?_) (fun c11 => ?_)
    · skip
      refine a_iconst (z := (-1)) 27 dX11_mail_26 rfl (zrl rfl) rfl ?_
      refine a_ireturn dX11_mail_27 rfl ⟨Nat.zero_le _, Nat.zero_le _⟩ ?_
      refine Or.inr ⟨fun z => ?_, rfl, rfl⟩
      first
      | exact isN h1 (by omega) z.1
      | exact isN h8 (by omega) z.2.1
      | exact z.2.2.1 c16
      | exact isN h20 (by omega) z.2.2.2
    · skip
      refine a_iload_n 15 dX11_mail_14 rfl rfl ?_
      refine a_iload_n 16 dX11_mail_15 rfl rfl ?_
      refine a_icmp_eq 26 19 dX11_mail_16 (by decide) rfl (fun c16 => ?_) (fun c16 => ?_)
      · skip
        refine a_iconst (z := (-1)) 27 dX11_mail_26 rfl (zrl rfl) rfl ?_
        refine a_ireturn dX11_mail_27 rfl ⟨Nat.zero_le _, Nat.zero_le _⟩ ?_
        refine Or.inr ⟨fun z => ?_, rfl, rfl⟩
        first
        | exact isN h1 (by omega) z.1
        | exact isN h8 (by omega) z.2.1
        | exact z.2.2.1 c16
        | exact isN h20 (by omega) z.2.2.2
      · skip
        refine a_iload_n 20 dX11_mail_19 rfl rfl ?_
        refine a_callS 23 (c11_isDay _ _) cdX11_isDay lX11_100 dX11_mail_20 rfl rfl ⟨by decide, by decide, rfl, rfl⟩ ⟨Nat.zero_le _, Nat.zero_le _⟩ (Nat.le_of_ble_eq_true rfl) rfl ?_
        rintro _ _ - ⟨b20, rfl, rfl, h20⟩ -
        refine a_if_ne 28 26 dX11_mail_23 (by decide) rfl (fun c23 => ?_) (fun c23 => ?_)
        · skip
          refine a_aload_n 29 dX11_mail_28 rfl rfl ?_
          refine a_getR 32 dX11_mail_29 fX11_28 hO.1.1 rfl hO.1.2.2.2.2.1 rfl ?_
          refine a_iload_n 33 dX11_mail_32 rfl rfl ?_
          refine a_iload_n 34 dX11_mail_33 rfl rfl ?_
          refine a_iload_n 35 dX11_mail_34 rfl rfl ?_
          refine a_callV 38 (c0_areOneMail _ _ _ _ hC hn) cdX0_areOneMail lX11_265 dX11_mail_35 rfl hC.1 rfl ⟨by decide, by decide, rfl, rfl⟩ ⟨Nat.zero_le _, Nat.zero_le _⟩ (Nat.le_of_ble_eq_true rfl) rfl ?_
          rintro _ _ - ⟨b35, rfl, rfl, h35⟩ -
          refine a_if_eq 45 41 dX11_mail_38 (by decide) rfl (fun c38 => ?_) (fun c38 => ?_)
          · skip
            refine a_iconst (z := 0) 46 dX11_mail_45 rfl (zrl rfl) rfl ?_
            refine a_ireturn dX11_mail_46 rfl ⟨Nat.zero_le _, Nat.zero_le _⟩ ?_
            refine Or.inl ⟨⟨isT h1 c4, isT h8 c11, c16, isT h20 c23⟩, congrArg vI ?_, rfl⟩
            first
            | exact ci1 (P := mailB g.2.1 a b d) (Or.inl ⟨rfl, isT h35 c38⟩) (by decide)
            | exact ci0 (P := mailB g.2.1 a b d) (Or.inr ⟨rfl, isN h35 c38⟩) rfl
          · skip
            refine a_iconst (z := 1) 42 dX11_mail_41 rfl (zrl rfl) rfl ?_
            refine a_goto 46 dX11_mail_42 (by decide) ?_
            refine a_ireturn dX11_mail_46 rfl ⟨Nat.zero_le _, Nat.zero_le _⟩ ?_
            refine Or.inl ⟨⟨isT h1 c4, isT h8 c11, c16, isT h20 c23⟩, congrArg vI ?_, rfl⟩
            first
            | exact ci1 (P := mailB g.2.1 a b d) (Or.inl ⟨rfl, isT h35 c38⟩) (by decide)
            | exact ci0 (P := mailB g.2.1 a b d) (Or.inr ⟨rfl, isN h35 c38⟩) rfl
        · skip
          refine a_iconst (z := (-1)) 27 dX11_mail_26 rfl (zrl rfl) rfl ?_
          refine a_ireturn dX11_mail_27 rfl ⟨Nat.zero_le _, Nat.zero_le _⟩ ?_
          refine Or.inr ⟨fun z => ?_, rfl, rfl⟩
          first
          | exact isN h1 (by omega) z.1
          | exact isN h8 (by omega) z.2.1
          | exact z.2.2.1 c16
          | exact isN h20 (by omega) z.2.2.2
set_option maxHeartbeats 4000000 in
set_option maxRecDepth 100000 in
theorem c11_lean (g : GH) (k m : Int) (hP : CPL g) : AMet mX11_lean g [vA 1, vI k, vI m] (fun r g' => (((0 ≤ k ∧ k ≤ 5) ∧ (0 ≤ m ∧ m < g.2.1 1000 13)) ∧ r = vI (leanV g.2.1 k m) ∧ g' = gL g 7 0 (leanT k (g.2.2.1 7 0))) ∨ (¬ ((0 ≤ k ∧ k ≤ 5) ∧ (0 ≤ m ∧ m < g.2.1 1000 13)) ∧ r = vI (-1) ∧ g = g')) := by
  refine AMet.of [vA 1, vI k, vI m] (by decide) rfl (Nat.le_of_ble_eq_true rfl) ?_
  obtain ⟨⟨hM, hV⟩, ⟨hO, hl⟩, ⟨hof, hdi⟩, ⟨hC, hw, hv, hG⟩, ⟨hT, hTr, hF⟩, bk, hB, hBv⟩ := id hP
  have hcn := hV.1
  unfold MVc at hcn
  have hn : 0 ≤ g.2.1 1000 13 ∧ g.2.1 1000 13 ≤ 40 := hcn.2.2.1
  refine a_iload_n 1 dX11_lean_0 rfl rfl ?_
  refine a_iconst (z := 0) 2 dX11_lean_1 rfl (zrl rfl) rfl ?_
  refine a_iconst (z := 5) 3 dX11_lean_2 rfl (zrl rfl) rfl ?_
  refine a_callS 6 (c11_within _ _ _ _) cdX11_within lX11_79 dX11_lean_3 rfl rfl ⟨by decide, by decide, rfl, rfl⟩ ⟨Nat.zero_le _, Nat.zero_le _⟩ (Nat.le_of_ble_eq_true rfl) rfl ?_
  rintro _ _ - ⟨b3, rfl, rfl, h3⟩ -
  refine a_if_eq 17 9 dX11_lean_6 (by decide) rfl (fun c6 => ?_) (fun c6 => ?_)
  · skip
    refine a_iconst (z := (-1)) 18 dX11_lean_17 rfl (zrl rfl) rfl ?_
    refine a_ireturn dX11_lean_18 rfl ⟨Nat.zero_le _, Nat.zero_le _⟩ ?_
    refine Or.inr ⟨fun z => ?_, rfl, rfl⟩
    first
    | exact isN h3 (by omega) z.1
    | exact isN h11 (by omega) z.2
  · skip
    refine a_aload_n 10 dX11_lean_9 rfl rfl ?_
    refine a_iload_n 11 dX11_lean_10 rfl rfl ?_
    refine a_callV 14 (c11_isMark _ _ hP) cdX11_isMark lX11_127 dX11_lean_11 rfl hO.1.1 rfl ⟨by decide, by decide, rfl, rfl⟩ ⟨Nat.zero_le _, Nat.zero_le _⟩ (Nat.le_of_ble_eq_true rfl) rfl ?_
    rintro _ _ - ⟨b11, rfl, rfl, h11⟩ -
    refine a_if_ne 19 17 dX11_lean_14 (by decide) rfl (fun c14 => ?_) (fun c14 => ?_)
    · skip
      obtain ⟨n, rfl⟩ : ∃ n : Nat, m = n := ⟨m.toNat, by have := isT h11 c14; omega⟩
      have hm : (n : Int) < g.2.1 1000 13 := (isT h11 c14).2
      have hk := hC.k hm
      refine a_aload_n 20 dX11_lean_19 rfl rfl ?_
      refine a_getR 23 dX11_lean_20 fX11_35 hO.1.1 rfl hO.1.2.2.2.2.2.1 rfl ?_
      refine a_iload_n 24 dX11_lean_23 rfl rfl ?_
      refine a_aload_n 25 dX11_lean_24 rfl rfl ?_
      refine a_getR 28 dX11_lean_25 fX11_28 hO.1.1 rfl hO.1.2.2.2.2.1 rfl ?_
      refine a_getR 31 dX11_lean_28 fX11_130 hC.1 rfl hC.2.1 rfl ?_
      refine a_iload_n 32 dX11_lean_31 rfl rfl ?_
      refine a_aald 33 dX11_lean_32 hC.2.2.1 rfl (by omega) (by omega) (hC.r hm) rfl ?_
      refine a_callV 36 (c4_ofKind _ _ hO.2.2.2.2 hk.1.1 hk.2.2.2.1.1 (by rw [hk.2.1.2.2.2.2.2.1]; have := (hV.2.2.2.1 n (by omega) hm).2.2.2.1; rw [show (10 * (n : Int) + 3).toNat = 10 * n + 3 by omega] at this; exact this)) cdX4_ofKind lX11_134 dX11_lean_33 rfl hO.2.2.2.2 rfl ⟨by decide, by decide, rfl, rfl⟩ ⟨Nat.zero_le _, Nat.zero_le _⟩ (Nat.le_of_ble_eq_true rfl) rfl ?_
      rintro _ _ - ⟨rfl, rfl⟩ -
      refine a_ireturn dX11_lean_36 rfl ⟨Nat.zero_le _, Nat.zero_le _⟩ ?_
      exact Or.inl ⟨⟨isT h3 c6, isT h11 c14⟩, congrArg vI (lc_eq hk k), rfl⟩
    · skip
      refine a_iconst (z := (-1)) 18 dX11_lean_17 rfl (zrl rfl) rfl ?_
      refine a_ireturn dX11_lean_18 rfl ⟨Nat.zero_le _, Nat.zero_le _⟩ ?_
      refine Or.inr ⟨fun z => ?_, rfl, rfl⟩
      first
      | exact isN h3 (by omega) z.1
      | exact isN h11 (by omega) z.2
set_option maxHeartbeats 4000000 in
set_option maxRecDepth 100000 in
theorem c11_count (g : GH) (w : Int) (hP : CPL g) : AMet mX11_count g [vA 1, vI w] (fun r g' => r = vI (if w = 0 then g.2.1 1000 3 else if w = 1 then g.2.1 1000 7 else if w = 2 then g.2.1 1000 13 else if w = 3 then g.2.1 1000 15 else if w = 4 then g.2.1 1000 35 else if w = 5 then g.2.1 1000 29 else if w = 6 then cnt (fun s => g.2.1 1019 s.toNat = -9) (g.2.1 1000 15).toNat else -1) ∧ g = g') := by
  refine AMet.of [vA 1, vI w] (by decide) rfl (Nat.le_of_ble_eq_true rfl) ?_
  obtain ⟨⟨hM, hV⟩, ⟨hO, hl⟩, ⟨hof, hdi⟩, ⟨hC, hw, hv, hG⟩, ⟨hT, hTr, hF⟩, bk, hB, hBv⟩ := id hP
  have hcn := hV.1
  unfold MVc at hcn
  have hn : 0 ≤ g.2.1 1000 13 ∧ g.2.1 1000 13 ≤ 40 := hcn.2.2.1
  refine a_iload_n 1 dX11_count_0 rfl rfl ?_
  refine a_case (0) (fun c1_0 => ?_) (fun c1_0 => ?_)
  · refine a_tblIn (43) 44 dX11_count_1 (by omega) (by omega) (by rw [c1_0]; rfl) (by decide) ?_
    refine a_aload_n 45 dX11_count_44 rfl rfl ?_
    refine a_getIz (g.2.1 1000 3) 48 dX11_count_45 fX11_72 hO.1.1 rfl hof.1 rfl ?_
    refine a_ireturn dX11_count_48 rfl ⟨Nat.zero_le _, Nat.zero_le _⟩ ?_
    exact ⟨congrArg vI (by repeat (first | rw [if_pos (by omega)] | rw [if_neg (by omega)])), rfl⟩
  refine a_case (1) (fun c1_1 => ?_) (fun c1_1 => ?_)
  · refine a_tblIn (48) 49 dX11_count_1 (by omega) (by omega) (by rw [c1_1]; rfl) (by decide) ?_
    refine a_aload_n 50 dX11_count_49 rfl rfl ?_
    refine a_getIz (g.2.1 1000 7) 53 dX11_count_50 fX11_76 hO.1.1 rfl hdi.1 rfl ?_
    refine a_ireturn dX11_count_53 rfl ⟨Nat.zero_le _, Nat.zero_le _⟩ ?_
    exact ⟨congrArg vI (by repeat (first | rw [if_pos (by omega)] | rw [if_neg (by omega)])), rfl⟩
  refine a_case (2) (fun c1_2 => ?_) (fun c1_2 => ?_)
  · refine a_tblIn (53) 54 dX11_count_1 (by omega) (by omega) (by rw [c1_2]; rfl) (by decide) ?_
    refine a_aload_n 55 dX11_count_54 rfl rfl ?_
    refine a_getR 58 dX11_count_55 fX11_28 hO.1.1 rfl hO.1.2.2.2.2.1 rfl ?_
    refine a_getIz (g.2.1 1000 13) 61 dX11_count_58 fX11_106 hC.1 rfl hC.2.2.2.1 rfl ?_
    refine a_ireturn dX11_count_61 rfl ⟨Nat.zero_le _, Nat.zero_le _⟩ ?_
    exact ⟨congrArg vI (by repeat (first | rw [if_pos (by omega)] | rw [if_neg (by omega)])), rfl⟩
  refine a_case (3) (fun c1_3 => ?_) (fun c1_3 => ?_)
  · refine a_tblIn (61) 62 dX11_count_1 (by omega) (by omega) (by rw [c1_3]; rfl) (by decide) ?_
    refine a_aload_n 63 dX11_count_62 rfl rfl ?_
    refine a_getR 66 dX11_count_63 fX11_42 hO.1.1 rfl hO.1.2.2.2.2.2.2.1 rfl ?_
    refine a_getIz (g.2.1 1000 15) 69 dX11_count_66 fX11_180 hw.1 rfl hv.1 rfl ?_
    refine a_ireturn dX11_count_69 rfl ⟨Nat.zero_le _, Nat.zero_le _⟩ ?_
    exact ⟨congrArg vI (by repeat (first | rw [if_pos (by omega)] | rw [if_neg (by omega)])), rfl⟩
  refine a_case (4) (fun c1_4 => ?_) (fun c1_4 => ?_)
  · refine a_tblIn (69) 70 dX11_count_1 (by omega) (by omega) (by rw [c1_4]; rfl) (by decide) ?_
    refine a_aload_n 71 dX11_count_70 rfl rfl ?_
    refine a_getR 74 dX11_count_71 fX11_65 hO.1.1 rfl hB.2.1.1 rfl ?_
    refine a_getIz (g.2.1 1000 35) 77 dX11_count_74 fX11_240 hB.b.1 rfl hBv.1 rfl ?_
    refine a_ireturn dX11_count_77 rfl ⟨Nat.zero_le _, Nat.zero_le _⟩ ?_
    exact ⟨congrArg vI (by repeat (first | rw [if_pos (by omega)] | rw [if_neg (by omega)])), rfl⟩
  refine a_case (5) (fun c1_5 => ?_) (fun c1_5 => ?_)
  · refine a_tblIn (77) 78 dX11_count_1 (by omega) (by omega) (by rw [c1_5]; rfl) (by decide) ?_
    refine a_aload_n 79 dX11_count_78 rfl rfl ?_
    refine a_getR 82 dX11_count_79 fX11_58 hO.1.1 rfl hO.1.2.2.2.2.2.2.2.2 rfl ?_
    refine a_getIz (g.2.1 1000 29) 85 dX11_count_82 fX11_231 hT.1.1 rfl hT.2.2.1 rfl ?_
    refine a_ireturn dX11_count_85 rfl ⟨Nat.zero_le _, Nat.zero_le _⟩ ?_
    exact ⟨congrArg vI (by repeat (first | rw [if_pos (by omega)] | rw [if_neg (by omega)])), rfl⟩
  refine a_case (6) (fun c1_6 => ?_) (fun c1_6 => ?_)
  · refine a_tblIn (85) 86 dX11_count_1 (by omega) (by omega) (by rw [c1_6]; rfl) (by decide) ?_
    refine a_aload_n 87 dX11_count_86 rfl rfl ?_
    refine a_getR 90 dX11_count_87 fX11_42 hO.1.1 rfl hO.1.2.2.2.2.2.2.1 rfl ?_
    refine a_callV 93 (c10_lostSailings _ hw (by rw [hv.1]; exact hcn.2.2.2.1)) cdX10_lostSailings lX11_277 dX11_count_90 rfl hw.1 rfl ⟨by decide, by decide, rfl, rfl⟩ ⟨Nat.zero_le _, Nat.zero_le _⟩ (Nat.le_of_ble_eq_true rfl) rfl ?_
    rintro _ _ - ⟨rfl, rfl⟩ -
    refine a_ireturn dX11_count_93 rfl ⟨Nat.zero_le _, Nat.zero_le _⟩ ?_
    refine ⟨congrArg vI ?_, rfl⟩
    repeat (first | rw [if_pos (by omega)] | rw [if_neg (by omega)])
    rw [hv.1]
    exact cnt_cg _ (fun s hs => by rw [Int.toNat_natCast, (hv.2.1 s (by omega)).2.2.2])
  refine a_tblOut 94 dX11_count_1 (by omega) (by decide) ?_
  refine a_iconst (z := (-1)) 95 dX11_count_94 rfl (zrl rfl) rfl ?_
  refine a_ireturn dX11_count_95 rfl ⟨Nat.zero_le _, Nat.zero_le _⟩ ?_
  exact ⟨congrArg vI (by repeat (first | rw [if_pos (by omega)] | rw [if_neg (by omega)])), rfl⟩
set_option maxHeartbeats 4000000 in
set_option maxRecDepth 100000 in
theorem c11_trace (g : GH) (hP : CPL g) : AMet mX11_trace g [vA 1] (fun r g' => r = vL (g.2.2.1 1000 1) ∧ g = g') := by
  refine AMet.of [vA 1] (by decide) rfl (Nat.le_of_ble_eq_true rfl) ?_
  obtain ⟨⟨hM, hV⟩, ⟨hO, hl⟩, ⟨hof, hdi⟩, ⟨hC, hw, hv, hG⟩, ⟨hT, hTr, hF⟩, bk, hB, hBv⟩ := id hP
  have hcn := hV.1
  unfold MVc at hcn
  have hn : 0 ≤ g.2.1 1000 13 ∧ g.2.1 1000 13 ≤ 40 := hcn.2.2.1
  refine a_aload_n 1 dX11_trace_0 rfl rfl ?_
  refine a_getR 4 dX11_trace_1 fX11_35 hO.1.1 rfl hO.1.2.2.2.2.2.1 rfl ?_
  refine a_getL 7 dX11_trace_4 fX11_280 hO.2.2.2.2 rfl rfl ?_
  refine a_lreturn dX11_trace_7 rfl ⟨Nat.zero_le _, Nat.zero_le _⟩ ?_
  exact ⟨congrArg vL hTr, rfl⟩
