theorem fstU_cg {P Q : Int → Prop} : ∀ n : Nat, (∀ k : Nat, k < n → (P k ↔ Q k)) → fstU P n = fstU Q n
  | 0, _ => rfl
  | n + 1, h => by
    have i := fstU_cg n (fun k hk => h k (by omega))
    by_cases q : P n ∧ fstU P n = -9
    · rw [(fstU_s P n).1 q, (fstU_s Q n).1 ⟨(h n (by omega)).mp q.1, i ▸ q.2⟩]
    · rw [(fstU_s P n).2 q, (fstU_s Q n).2 (fun z => q ⟨(h n (by omega)).mpr z.1, by rw [i]; exact z.2⟩), i]
theorem cnt_no {P : Int → Prop} : ∀ n : Nat, (∀ i : Int, 0 ≤ i → i < n → ¬ P i) → cnt P n = 0
  | 0, _ => rfl
  | n + 1, h => by
    rw [(cnt_s P n).2 (h n (by omega) (by omega))]
    exact cnt_no n (fun i a b => h i a (by omega))
def wQ (h : Nat → Nat → Int) (R s w : Int) : Prop := R ≠ -9 ∧ wP h R s w
theorem wQ_v {h : Nat → Nat → Int} {R s : Int} {n : Nat} (hn : n = 2000 ∨ R = -9) (k : Int) : wgtV h R s k = (if k = 0 then cnt (wQ h R s) n else if k = 1 then off1 (fstU (wQ h R s) n) else off1 (lstU (wQ h R s) n)) := by
  unfold wgtV
  by_cases q : R = -9
  · rw [if_pos q, cnt_no n (fun i _ _ z => z.1 q), fstU_no n (fun i _ _ z => z.1 q), lstU_no n (fun i _ _ z => z.1 q)]
    by_cases y : k = 0
    · rw [if_pos y, if_pos y]
    · rw [if_neg y, if_neg y]
      by_cases y2 : k = 1
      · rw [if_pos y2]; rfl
      · rw [if_neg y2]; rfl
  · have e : n = 2000 := hn.resolve_right q
    subst e
    have cg : ∀ k : Nat, k < 2000 → (wQ h R s k ↔ wP h R s k) := fun k _ => ⟨fun z => z.2, fun z => ⟨q, z⟩⟩
    rw [if_neg q, cnt_cg 2000 cg, fstU_cg 2000 cg, lstU_cg 2000 cg]
theorem wQ_y {P : Int → Prop} {n : Nat} (h : P n) : cnt P (n + 1) = cnt P n + 1 ∧ off1 (lstU P (n + 1)) = (n : Int) + 1 ∧ (off1 (fstU P n) = -9 → off1 (fstU P (n + 1)) = (n : Int) + 1) ∧ (off1 (fstU P n) ≠ -9 → off1 (fstU P (n + 1)) = off1 (fstU P n)) := by
  have hf := fstU_or P n
  refine ⟨(cnt_s P n).1 h, ?_, fun q => ?_, fun q => ?_⟩
  · rw [(lstU_s P n).1 h]; unfold off1; rw [if_neg (by omega)]
  · have e : fstU P n = -9 := by
      unfold off1 at q
      by_cases y : fstU P n = -9
      · exact y
      · rw [if_neg y] at q; omega
    rw [(fstU_s P n).1 ⟨h, e⟩]; unfold off1; rw [if_neg (by omega)]
  · have e : fstU P n ≠ -9 := fun y => q (by rw [y]; rfl)
    rw [(fstU_s P n).2 (fun z => e z.2)]
theorem wQ_n {P : Int → Prop} {n : Nat} (h : ¬ P n) : cnt P (n + 1) = cnt P n ∧ lstU P (n + 1) = lstU P n ∧ fstU P (n + 1) = fstU P n := ⟨(cnt_s P n).2 h, (lstU_s P n).2 h, (fstU_s P n).2 (fun z => h z.1)⟩
set_option maxHeartbeats 4000000 in
set_option maxRecDepth 100000 in
theorem c11_weights (g : GH) (f t d s k : Int) (hP : CPL g) : AMet mX11_weights g [vA 1, vI f, vI t, vI d, vI s, vI k] (fun r g' => (((0 ≤ f ∧ f ≤ 2) ∧ (0 ≤ t ∧ t ≤ 2) ∧ (0 ≤ d ∧ d ≤ 999) ∧ (0 ≤ s ∧ s ≤ 2000000) ∧ (0 ≤ k ∧ k ≤ 2)) ∧ r = vI (wgtV g.2.1 (rOf g.2.1 f t d) s k) ∧ g = g') ∨ (¬ ((0 ≤ f ∧ f ≤ 2) ∧ (0 ≤ t ∧ t ≤ 2) ∧ (0 ≤ d ∧ d ≤ 999) ∧ (0 ≤ s ∧ s ≤ 2000000) ∧ (0 ≤ k ∧ k ≤ 2)) ∧ r = vI (-1) ∧ g = g')) := by
  refine AMet.of [vA 1, vI f, vI t, vI d, vI s, vI k, none, none, none, none, none] (by decide) rfl (Nat.le_of_ble_eq_true rfl) ?_
  obtain ⟨⟨hM, hV⟩, ⟨hO, hl⟩, ⟨hof, hdi⟩, ⟨hC, hw, hv, hG⟩, ⟨hT, hTr, hF⟩, bk, hB, hBv⟩ := id hP
  have hcn := hV.1
  unfold MVc at hcn
  have hn : 0 ≤ g.2.1 1000 13 ∧ g.2.1 1000 13 ≤ 40 := hcn.2.2.1
  refine a_iload_n 1 dX11_weights_0 rfl rfl ?_
  refine a_iload_n 2 dX11_weights_1 rfl rfl ?_
  refine a_iload_n 3 dX11_weights_2 rfl rfl ?_
  refine a_callS 6 (c11_areLandsAndDay _ _ _ _) cdX11_areLandsAndDay lX11_241 dX11_weights_3 rfl rfl ⟨by decide, by decide, rfl, rfl⟩ ⟨Nat.zero_le _, Nat.zero_le _⟩ (Nat.le_of_ble_eq_true rfl) rfl ?_
  rintro _ _ - ⟨b3, rfl, rfl, h3⟩ -
  refine a_if_eq 31 9 dX11_weights_6 (by decide) rfl (fun c6 => ?_) (fun c6 => ?_)
  · skip
    refine a_iconst (z := (-1)) 32 dX11_weights_31 rfl (zrl rfl) rfl ?_
    refine a_ireturn dX11_weights_32 rfl ⟨Nat.zero_le _, Nat.zero_le _⟩ ?_
    refine Or.inr ⟨fun z => ?_, rfl, rfl⟩
    first
    | exact isN h3 (by omega) ⟨z.1, z.2.1, z.2.2.1⟩
    | exact isN h15 (by omega) z.2.2.2.1
    | exact isN h25 (by omega) z.2.2.2.2
  · skip
    refine a_iload 11 dX11_weights_9 rfl rfl ?_
    refine a_iconst (z := 0) 12 dX11_weights_11 rfl (zrl rfl) rfl ?_
    refine a_ldcw 15 dX11_weights_12 kX11_264 (zrl rfl) rfl ?_
    refine a_callS 18 (c11_within _ _ _ _) cdX11_within lX11_79 dX11_weights_15 rfl rfl ⟨by decide, by decide, rfl, rfl⟩ ⟨Nat.zero_le _, Nat.zero_le _⟩ (Nat.le_of_ble_eq_true rfl) rfl ?_
    rintro _ _ - ⟨b15, rfl, rfl, h15⟩ -
    refine a_if_eq 31 21 dX11_weights_18 (by decide) rfl (fun c18 => ?_) (fun c18 => ?_)
    · skip
      refine a_iconst (z := (-1)) 32 dX11_weights_31 rfl (zrl rfl) rfl ?_
      refine a_ireturn dX11_weights_32 rfl ⟨Nat.zero_le _, Nat.zero_le _⟩ ?_
      refine Or.inr ⟨fun z => ?_, rfl, rfl⟩
      first
      | exact isN h3 (by omega) ⟨z.1, z.2.1, z.2.2.1⟩
      | exact isN h15 (by omega) z.2.2.2.1
      | exact isN h25 (by omega) z.2.2.2.2
    · skip
      refine a_iload 23 dX11_weights_21 rfl rfl ?_
      refine a_iconst (z := 0) 24 dX11_weights_23 rfl (zrl rfl) rfl ?_
      refine a_iconst (z := 2) 25 dX11_weights_24 rfl (zrl rfl) rfl ?_
      refine a_callS 28 (c11_within _ _ _ _) cdX11_within lX11_79 dX11_weights_25 rfl rfl ⟨by decide, by decide, rfl, rfl⟩ ⟨Nat.zero_le _, Nat.zero_le _⟩ (Nat.le_of_ble_eq_true rfl) rfl ?_
      rintro _ _ - ⟨b25, rfl, rfl, h25⟩ -
      refine a_if_ne 33 31 dX11_weights_28 (by decide) rfl (fun c28 => ?_) (fun c28 => ?_)
      · skip
        refine a_aload_n 34 dX11_weights_33 rfl rfl ?_
        refine a_getR 37 dX11_weights_34 fX11_65 hO.1.1 rfl hB.2.1.1 rfl ?_
        refine a_iload_n 38 dX11_weights_37 rfl rfl ?_
        refine a_iload_n 39 dX11_weights_38 rfl rfl ?_
        refine a_iload_n 40 dX11_weights_39 rfl rfl ?_
        refine a_callV 43 (c7_lastThatHolds _ _ _ _ hB.b (by rw [hBv.1]; exact hcn.2.2.2.2.2)) cdX7_lastThatHolds lX11_244 dX11_weights_40 rfl hB.b.1 rfl ⟨by decide, by decide, rfl, rfl⟩ ⟨Nat.zero_le _, Nat.zero_le _⟩ (Nat.le_of_ble_eq_true rfl) rfl ?_
        rintro _ _ - ⟨rfl, rfl⟩ -
        rw [ru_eq hBv hcn.2.2.2.2.2]
        have hro := lstU_or (ruM g.2.1 f t d) (g.2.1 1000 35).toNat
        have hrl := lstU_le (ruM g.2.1 f t d) (g.2.1 1000 35).toNat
        refine a_istore 45 dX11_weights_43 (by decide) rfl rfl ?_
        refine a_iconst (z := 0) 46 dX11_weights_45 rfl (zrl rfl) rfl ?_
        refine a_istore 48 dX11_weights_46 (by decide) rfl rfl ?_
        refine a_bipush (z := (-9)) 50 dX11_weights_48 rfl (zrl rfl) rfl ?_
        refine a_istore 52 dX11_weights_50 (by decide) rfl rfl ?_
        refine a_bipush (z := (-9)) 54 dX11_weights_52 rfl (zrl rfl) rfl ?_
        refine a_istore 56 dX11_weights_54 (by decide) rfl rfl ?_
        refine a_iconst (z := 1) 57 dX11_weights_56 rfl (zrl rfl) rfl ?_
        refine a_istore 59 dX11_weights_57 (by decide) rfl rfl ?_
        refine AW.loop (α := Nat) (fun p => 2000 - p) (fun p => p ≤ 2000) (fun p => g) (fun p => [vA 1, vI f, vI t, vI d, vI s, vI k, vI (rOf g.2.1 f t d), vI (cnt (wQ g.2.1 (rOf g.2.1 f t d) s) p), vI (off1 (fstU (wQ g.2.1 (rOf g.2.1 f t d) s) p)), vI (off1 (lstU (wQ g.2.1 (rOf g.2.1 f t d) s) p)), vI ((p : Int) + 1)]) (fun p => []) ?_ 0 ?_
        · rintro n hn0 ih59
          try dsimp only at hI ih ⊢
          try dsimp only at hn0 ih59 ⊢
          have hcb := cnt_le (wQ g.2.1 (rOf g.2.1 f t d) s) n
          refine a_iload 61 dX11_weights_59 rfl rfl ?_
          refine a_sipush (z := 2000) 64 dX11_weights_61 rfl (zrl rfl) rfl ?_
          refine a_icmp_gt 123 67 dX11_weights_64 (by decide) rfl (fun c64 => ?_) (fun c64 => ?_)
          · skip
            refine a_iload 125 dX11_weights_123 rfl rfl ?_
            refine a_case (0) (fun c125_0 => ?_) (fun c125_0 => ?_)
            · refine a_look (27) 152 dX11_weights_125 (by decide) (by rw [c125_0]; rfl) (by decide) ?_
              refine a_iload 154 dX11_weights_152 rfl rfl ?_
              refine a_ireturn dX11_weights_154 rfl ⟨Nat.zero_le _, Nat.zero_le _⟩ ?_
              refine Or.inl ⟨⟨(isT h3 c6).1, (isT h3 c6).2.1, (isT h3 c6).2.2, isT h15 c18, isT h25 c28⟩, congrArg vI ?_, rfl⟩
              rw [wQ_v (n := n) (by first | (exact Or.inl (by omega)) | (exact Or.inr c71)) k, if_pos (by omega)]
            refine a_case (1) (fun c125_1 => ?_) (fun c125_1 => ?_)
            · refine a_look (30) 155 dX11_weights_125 (by decide) (by rw [c125_1]; rfl) (by decide) ?_
              refine a_iload 157 dX11_weights_155 rfl rfl ?_
              refine a_ireturn dX11_weights_157 rfl ⟨Nat.zero_le _, Nat.zero_le _⟩ ?_
              refine Or.inl ⟨⟨(isT h3 c6).1, (isT h3 c6).2.1, (isT h3 c6).2.2, isT h15 c18, isT h25 c28⟩, congrArg vI ?_, rfl⟩
              rw [wQ_v (n := n) (by first | (exact Or.inl (by omega)) | (exact Or.inr c71)) k, if_neg (by omega), if_pos (by omega)]
            refine a_look (33) 158 dX11_weights_125 (by decide) (by simp only [Op.lookupswitch.offset_cons, Op.lookupswitch.offset_nil]; rw [if_neg (by omega)]; rw [if_neg (by omega)]) (by decide) ?_
            refine a_iload 160 dX11_weights_158 rfl rfl ?_
            refine a_ireturn dX11_weights_160 rfl ⟨Nat.zero_le _, Nat.zero_le _⟩ ?_
            refine Or.inl ⟨⟨(isT h3 c6).1, (isT h3 c6).2.1, (isT h3 c6).2.2, isT h15 c18, isT h25 c28⟩, congrArg vI ?_, rfl⟩
            rw [wQ_v (n := n) (by first | (exact Or.inl (by omega)) | (exact Or.inr c71)) k, if_neg (by omega), if_neg (by have := isT h25 c28; omega)]
          · skip
            refine a_iload 69 dX11_weights_67 rfl rfl ?_
            refine a_bipush (z := (-9)) 71 dX11_weights_69 rfl (zrl rfl) rfl ?_
            refine a_icmp_eq 123 74 dX11_weights_71 (by decide) rfl (fun c71 => ?_) (fun c71 => ?_)
            · skip
              refine a_iload 125 dX11_weights_123 rfl rfl ?_
              refine a_case (0) (fun c125_0 => ?_) (fun c125_0 => ?_)
              · refine a_look (27) 152 dX11_weights_125 (by decide) (by rw [c125_0]; rfl) (by decide) ?_
                refine a_iload 154 dX11_weights_152 rfl rfl ?_
                refine a_ireturn dX11_weights_154 rfl ⟨Nat.zero_le _, Nat.zero_le _⟩ ?_
                refine Or.inl ⟨⟨(isT h3 c6).1, (isT h3 c6).2.1, (isT h3 c6).2.2, isT h15 c18, isT h25 c28⟩, congrArg vI ?_, rfl⟩
                rw [wQ_v (n := n) (by first | (exact Or.inl (by omega)) | (exact Or.inr c71)) k, if_pos (by omega)]
              refine a_case (1) (fun c125_1 => ?_) (fun c125_1 => ?_)
              · refine a_look (30) 155 dX11_weights_125 (by decide) (by rw [c125_1]; rfl) (by decide) ?_
                refine a_iload 157 dX11_weights_155 rfl rfl ?_
                refine a_ireturn dX11_weights_157 rfl ⟨Nat.zero_le _, Nat.zero_le _⟩ ?_
                refine Or.inl ⟨⟨(isT h3 c6).1, (isT h3 c6).2.1, (isT h3 c6).2.2, isT h15 c18, isT h25 c28⟩, congrArg vI ?_, rfl⟩
                rw [wQ_v (n := n) (by first | (exact Or.inl (by omega)) | (exact Or.inr c71)) k, if_neg (by omega), if_pos (by omega)]
              refine a_look (33) 158 dX11_weights_125 (by decide) (by simp only [Op.lookupswitch.offset_cons, Op.lookupswitch.offset_nil]; rw [if_neg (by omega)]; rw [if_neg (by omega)]) (by decide) ?_
              refine a_iload 160 dX11_weights_158 rfl rfl ?_
              refine a_ireturn dX11_weights_160 rfl ⟨Nat.zero_le _, Nat.zero_le _⟩ ?_
              refine Or.inl ⟨⟨(isT h3 c6).1, (isT h3 c6).2.1, (isT h3 c6).2.2, isT h15 c18, isT h25 c28⟩, congrArg vI ?_, rfl⟩
              rw [wQ_v (n := n) (by first | (exact Or.inl (by omega)) | (exact Or.inr c71)) k, if_neg (by omega), if_neg (by have := isT h25 c28; omega)]
            · skip
              have hn2 : n < 2000 := by omega
              obtain ⟨i, hi⟩ : ∃ i : Nat, rOf g.2.1 f t d = i := ⟨(rOf g.2.1 f t d).toNat, by unfold rOf; unfold rOf at c71; omega⟩
              have hi35 : (i : Int) < g.2.1 1000 35 := by rw [← hi]; unfold rOf; omega
              have hi12 : i < 12 := by omega
              have hu := MVu.at hV.2.2.2.2.2.2.2.2 (i := (i : Int)) (by omega) hi35
              have hcell := hBv.2 i hi35
              rw [hi] at ih59 hcb ⊢
              have hi9 : (i : Int) ≠ -9 := by omega
              refine a_aload_n 75 dX11_weights_74 rfl rfl ?_
              refine a_getR 78 dX11_weights_75 fX11_65 hO.1.1 rfl hB.2.1.1 rfl ?_
              refine a_getR 81 dX11_weights_78 fX11_248 hB.b.1 rfl hB.b.2.1 rfl ?_
              refine a_iload 83 dX11_weights_81 rfl rfl ?_
              refine a_aald 84 dX11_weights_83 hB.b.2.2.1 rfl (by omega) (by omega) (hB.b.2.2.2 i hi12).1 rfl ?_
              refine a_iload 86 dX11_weights_84 rfl rfl ?_
              refine a_callV 89 (c9_sumFor _ _ (r := bk + 2 + i) (hB.b.2.2.2 i hi12).2 (by rw [hcell 4 (by decide)]; have := hu.1; rw [show (10 * (i : Int) + 4).toNat = 10 * i + 4 by omega] at this; exact this) (by rw [hcell 5 (by decide)]; have := hu.2.1; rw [show (10 * (i : Int) + 5).toNat = 10 * i + 5 by omega] at this; exact this) (by rw [hcell 6 (by decide)]; have := hu.2.2.1; rw [show (10 * (i : Int) + 6).toNat = 10 * i + 6 by omega] at this; exact this) ⟨by omega, by omega⟩) cdX9_sumFor lX11_252 dX11_weights_86 rfl (hB.b.2.2.2 i hi12).2 rfl ⟨by decide, by decide, rfl, rfl⟩ ⟨Nat.zero_le _, Nat.zero_le _⟩ (Nat.le_of_ble_eq_true rfl) rfl ?_
              rintro _ _ - ⟨rfl, rfl⟩ -
              have hsm : g.2.1 (bk + 2 + i) 4 + g.2.1 (bk + 2 + i) 6 * (((n : Int) + 1 - 1) / g.2.1 (bk + 2 + i) 5) = oBy g.2.1 i ((n : Int) + 1) := sum_eq hBv hi35 (by have := hu.2.1.1; rw [show (10 * (i : Int) + 5).toNat = 10 * i + 5 by omega] at this; exact this)
              rw [hsm]
              refine a_iload 91 dX11_weights_89 rfl rfl ?_
              refine a_icmp_ne 117 94 dX11_weights_91 (by decide) rfl (fun c91 => ?_) (fun c91 => ?_)
              · skip
                refine a_iinc 120 dX11_weights_117 rfl (by unfold zr; omega) (by decide) rfl rfl ?_
                refine a_goto 59 dX11_weights_120 (by decide) ?_
                have y := wQ_n (P := (wQ g.2.1 (i : Int) s)) (n := n) (fun z => c91 z.2)
                rw [← y.1, ← y.2.1, ← y.2.2]
                rw [show (n : Int) + 1 + 1 = ((n + 1 : Nat) : Int) + 1 by omega]
                refine ih59 (n + 1) (by omega) (by omega)
              · skip
                refine a_iinc 97 dX11_weights_94 rfl (by unfold zr; omega) (by decide) rfl rfl ?_
                refine a_iload 99 dX11_weights_97 rfl rfl ?_
                refine a_bipush (z := (-9)) 101 dX11_weights_99 rfl (zrl rfl) rfl ?_
                refine a_icmp_ne 109 104 dX11_weights_101 (by decide) rfl (fun c101 => ?_) (fun c101 => ?_)
                · skip
                  refine a_iload 111 dX11_weights_109 rfl rfl ?_
                  refine a_istore 113 dX11_weights_111 (by decide) rfl rfl ?_
                  refine a_iload 115 dX11_weights_113 rfl rfl ?_
                  refine a_istore 117 dX11_weights_115 (by decide) rfl rfl ?_
                  refine a_iinc 120 dX11_weights_117 rfl (by unfold zr; omega) (by decide) rfl rfl ?_
                  refine a_goto 59 dX11_weights_120 (by decide) ?_
                  have y := wQ_y (P := (wQ g.2.1 (i : Int) s)) (n := n) ⟨hi9, c91⟩
                  have yf := y.2.2.2 c101
                  have e7 : cnt (wQ g.2.1 (i : Int) s) n + 1 = cnt (wQ g.2.1 (i : Int) s) (n + 1) := y.1.symm
                  rw [e7]
                  have k := ih59 (n + 1) (by omega) (by omega)
                  rw [yf, y.2.1, show ((n + 1 : Nat) : Int) + 1 = (n : Int) + 1 + 1 by omega] at k
                  exact k
                · skip
                  refine a_iload 106 dX11_weights_104 rfl rfl ?_
                  refine a_goto 111 dX11_weights_106 (by decide) ?_
                  refine a_istore 113 dX11_weights_111 (by decide) rfl rfl ?_
                  refine a_iload 115 dX11_weights_113 rfl rfl ?_
                  refine a_istore 117 dX11_weights_115 (by decide) rfl rfl ?_
                  refine a_iinc 120 dX11_weights_117 rfl (by unfold zr; omega) (by decide) rfl rfl ?_
                  refine a_goto 59 dX11_weights_120 (by decide) ?_
                  have y := wQ_y (P := (wQ g.2.1 (i : Int) s)) (n := n) ⟨hi9, c91⟩
                  have yf := y.2.2.1 c101
                  have e7 : cnt (wQ g.2.1 (i : Int) s) n + 1 = cnt (wQ g.2.1 (i : Int) s) (n + 1) := y.1.symm
                  rw [e7]
                  have k := ih59 (n + 1) (by omega) (by omega)
                  rw [yf, y.2.1, show ((n + 1 : Nat) : Int) + 1 = (n : Int) + 1 + 1 by omega] at k
                  exact k
        · omega
      · skip
        refine a_iconst (z := (-1)) 32 dX11_weights_31 rfl (zrl rfl) rfl ?_
        refine a_ireturn dX11_weights_32 rfl ⟨Nat.zero_le _, Nat.zero_le _⟩ ?_
        refine Or.inr ⟨fun z => ?_, rfl, rfl⟩
        first
        | exact isN h3 (by omega) ⟨z.1, z.2.1, z.2.2.1⟩
        | exact isN h15 (by omega) z.2.2.2.1
        | exact isN h25 (by omega) z.2.2.2.2
