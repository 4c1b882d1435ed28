theorem AW.kill {M : MI} {T : TT} {kn : Nat × Nat} {g : GH} {pc : Nat} {ls st : List AV} (i : Nat) (h : AW M T kn g pc (ls.set i none) st) : AW M T kn g pc ls st := by
  refine AW.loc h (fun j v hj => ?_)
  by_cases e : j = i
  · subst e; rw [List.getElem?_set] at hj; simp at hj
  · rw [List.getElem?_set_ne (Ne.symm e)] at hj; exact hj
abbrev ruM (h : Nat → Nat → Int) (f t d i : Int) : Prop := h 1037 (10 * i).toNat = f ∧ h 1037 (10 * i + 1).toNat = t ∧ (h 1037 (10 * i + 2).toNat ≤ d ∧ d ≤ h 1037 (10 * i + 3).toNat)
def oBy (h : Nat → Nat → Int) (i w : Int) : Int := h 1037 (10 * i + 4).toNat + ((w + h 1037 (10 * i + 5).toNat - 1) / h 1037 (10 * i + 5).toNat - 1) * h 1037 (10 * i + 6).toNat
theorem MVu.at {h : Nat → Nat → Int} (q : MVu h) {i : Int} (h0 : 0 ≤ i) (h1 : i < h 1000 35) : (0 ≤ h 1037 (10 * i + 4).toNat ∧ h 1037 (10 * i + 4).toNat ≤ 999) ∧ (1 ≤ h 1037 (10 * i + 5).toNat ∧ h 1037 (10 * i + 5).toNat ≤ 500) ∧ (0 ≤ h 1037 (10 * i + 6).toNat ∧ h 1037 (10 * i + 6).toNat ≤ 999) ∧ (0 ≤ h 1037 (10 * i + 7).toNat ∧ h 1037 (10 * i + 7).toNat ≤ 99) ∧ (1 ≤ h 1037 (10 * i + 8).toNat ∧ h 1037 (10 * i + 8).toNat ≤ 99) ∧ (h 1037 (10 * i + 9).toNat = 0 ∨ h 1037 (10 * i + 9).toNat = 1) := by
  have := q i.toNat (by omega)
  unfold rulB at this
  rw [show (10 * i + 4).toNat = 10 * i.toNat + 4 by omega, show (10 * i + 5).toNat = 10 * i.toNat + 5 by omega, show (10 * i + 6).toNat = 10 * i.toNat + 6 by omega, show (10 * i + 7).toNat = 10 * i.toNat + 7 by omega, show (10 * i + 8).toNat = 10 * i.toNat + 8 by omega, show (10 * i + 9).toNat = 10 * i.toNat + 9 by omega]
  exact ⟨this.2.2.2.1, this.2.2.2.2.1, this.2.2.2.2.2.1, this.2.2.2.2.2.2.1, this.2.2.2.2.2.2.2.1, this.2.2.2.2.2.2.2.2⟩
theorem stp_le {w g : Int} (hw : 1 ≤ w) (hg : 1 ≤ g) : 1 ≤ (w + g - 1) / g ∧ (w + g - 1) / g ≤ w := by
  constructor
  · exact (Int.le_ediv_iff_mul_le (by omega)).mpr (by omega)
  · refine Int.lt_add_one_iff.mp ((Int.ediv_lt_iff_lt_mul (by omega)).mpr ?_)
    have : w * 1 ≤ w * g := Int.mul_le_mul_of_nonneg_left hg (by omega)
    rw [Int.add_mul]; omega
theorem mul_le2 {x y X Y : Int} (h0 : 0 ≤ x) (h1 : x ≤ X) (h2 : 0 ≤ y) (h3 : y ≤ Y) : 0 ≤ x * y ∧ x * y ≤ X * Y :=
  ⟨Int.mul_nonneg h0 h2, Int.mul_le_mul h1 h3 h2 (by omega)⟩
theorem oBy_le {h : Nat → Nat → Int} (q : MVu h) {i w : Int} (h0 : 0 ≤ i) (h1 : i < h 1000 35) (hw : 1 ≤ w ∧ w ≤ 2000) : 0 ≤ oBy h i w ∧ oBy h i w ≤ 2000000 := by
  have h2 := q.at h0 h1
  have h3 := stp_le (w := w) (g := h 1037 (10 * i + 5).toNat) (by omega) (by omega)
  have h4 := mul_le2 (x := (w + h 1037 (10 * i + 5).toNat - 1) / h 1037 (10 * i + 5).toNat - 1) (y := h 1037 (10 * i + 6).toNat) (X := 1999) (Y := 999) (by omega) (by omega) (by omega) (by omega)
  unfold oBy; omega
noncomputable def rOf (h : Nat → Nat → Int) (f t d : Int) : Int := lstU (ruM h f t d) (h 1000 35).toNat
def off1 (x : Int) : Int := if x = -9 then -9 else x + 1
abbrev wP (h : Nat → Nat → Int) (i s w : Int) : Prop := oBy h i (w + 1) = s
abbrev pairB (h : Nat → Nat → Int) (a b D m k : Int) : Prop := isOfB h a D m ∧ isOfB h b D k ∧ h 1014 (10 * m + 2).toNat ≠ -9 ∧ h 1014 (10 * k + 2).toNat = h 1014 (10 * m + 2).toNat ∧ ∃ d : Int, 0 ≤ d ∧ d ≤ 999 ∧ canB h m d ∧ canB h k d
def mailB (h : Nat → Nat → Int) (a b D : Int) : Prop := ∃ m k : Int, (0 ≤ m ∧ m < h 1000 13) ∧ (0 ≤ k ∧ k < h 1000 13) ∧ pairB h a b D m k
set_option maxHeartbeats 4000000 in
set_option maxRecDepth 100000 in
theorem r_ruleOf (g : GH) (f t d : Int) (hM : MR g) (hV : MV g.2.1)  : AMet mX12_ruleOf g [vA 1000, vI f, vI t, vI d] (pZ g (rOf g.2.1 f t d)) := by
  refine AMet.of [vA 1000, vI f, vI t, vI d, none, none, none] (by decide) rfl (Nat.le_of_ble_eq_true rfl) ?_
  have hc := hV.1
  unfold MVc at hc
  refine a_bipush (z := (-9)) 2 dX12_ruleOf_0 rfl (zrl rfl) rfl ?_
  refine a_istore 4 dX12_ruleOf_2 (by decide) rfl rfl ?_
  refine a_iconst (z := 0) 5 dX12_ruleOf_4 rfl (zrl rfl) rfl ?_
  refine a_istore 7 dX12_ruleOf_5 (by decide) rfl rfl ?_
  refine AW.loop (α := Nat) (fun p => (g.2.1 1000 35).toNat - p) (fun p => (p : Int) ≤ g.2.1 1000 35) (fun p => g) (fun p => [vA 1000, vI f, vI t, vI d, vI (lstU (ruM g.2.1 f t d) p), vI (p : Int), none]) (fun p => []) ?_ 0 ?_
  · intro i hI ih
    try dsimp only at hI ih ⊢
    have hb := lstU_le (ruM g.2.1 f t d) i
    refine a_iload 9 dX12_ruleOf_7 rfl rfl ?_
    refine a_aload_n 10 dX12_ruleOf_9 rfl rfl ?_
    refine a_getI 13 dX12_ruleOf_10 fX12_230 hM.1 rfl rfl ?_
    refine a_icmp_ge 87 16 dX12_ruleOf_13 (by decide) rfl (fun c13 => ?_) (fun c13 => ?_)
    · skip
      refine a_iload 89 dX12_ruleOf_87 rfl rfl ?_
      refine a_ireturn dX12_ruleOf_89 rfl ⟨Nat.zero_le _, Nat.zero_le _⟩ ?_
      have e : i = (g.2.1 1000 35).toNat := by omega
      subst e
      exact ⟨rfl, rfl⟩
    · skip
      refine a_bipush (z := 10) 18 dX12_ruleOf_16 rfl (zrl rfl) rfl ?_
      refine a_iload 20 dX12_ruleOf_18 rfl rfl ?_
      refine a_imul 21 dX12_ruleOf_20 (by unfold zr; omega) rfl ?_
      refine a_istore 23 dX12_ruleOf_21 (by decide) rfl rfl ?_
      refine AW.cut (J := 79) (P := fun z => z = lstU (ruM g.2.1 f t d) (i + 1)) ?_ (fun J79 => ?_)
      · intro z79 h79
        subst h79
        refine a_istore 81 dX12_ruleOf_79 (by decide) rfl rfl ?_
        refine a_iinc 84 dX12_ruleOf_81 rfl (by unfold zr; omega) (by decide) rfl rfl ?_
        refine a_goto 7 dX12_ruleOf_84 (by decide) ?_
        refine AW.kill 6 ?_
        exact ih (i + 1) (by omega) (by omega)
      · skip
        refine a_aload_n 24 dX12_ruleOf_23 rfl rfl ?_
        refine a_getR 27 dX12_ruleOf_24 fX12_74 hM.1 rfl (mr_37 hM).1 rfl ?_
        refine a_iload 29 dX12_ruleOf_27 rfl rfl ?_
        refine a_iald 30 dX12_ruleOf_29 (mr_37 hM).2 (by omega) (by omega) rfl ?_
        refine a_iload_n 31 dX12_ruleOf_30 rfl rfl ?_
        refine a_icmp_ne 77 34 dX12_ruleOf_31 (by decide) rfl (fun c31 => ?_) (fun c31 => ?_)
        · skip
          refine a_iload 79 dX12_ruleOf_77 rfl rfl ?_
          exact J79 _ (by first | exact ((lstU_s (ruM g.2.1 f t d) i).1 ⟨c31, c44, isT h66 c69⟩).symm | exact ((lstU_s (ruM g.2.1 f t d) i).2 (fun q => isN h66 c69 q.2.2)).symm | exact ((lstU_s (ruM g.2.1 f t d) i).2 (fun q => c44 q.2.1)).symm | exact ((lstU_s (ruM g.2.1 f t d) i).2 (fun q => c31 q.1)).symm)
        · skip
          refine a_aload_n 35 dX12_ruleOf_34 rfl rfl ?_
          refine a_getR 38 dX12_ruleOf_35 fX12_74 hM.1 rfl (mr_37 hM).1 rfl ?_
          refine a_iload 40 dX12_ruleOf_38 rfl rfl ?_
          refine a_iconst (z := 1) 41 dX12_ruleOf_40 rfl (zrl rfl) rfl ?_
          refine a_iadd 42 dX12_ruleOf_41 (by unfold zr; omega) rfl ?_
          refine a_iald 43 dX12_ruleOf_42 (mr_37 hM).2 (by omega) (by omega) rfl ?_
          refine a_iload_n 44 dX12_ruleOf_43 rfl rfl ?_
          refine a_icmp_ne 77 47 dX12_ruleOf_44 (by decide) rfl (fun c44 => ?_) (fun c44 => ?_)
          · skip
            refine a_iload 79 dX12_ruleOf_77 rfl rfl ?_
            exact J79 _ (by first | exact ((lstU_s (ruM g.2.1 f t d) i).1 ⟨c31, c44, isT h66 c69⟩).symm | exact ((lstU_s (ruM g.2.1 f t d) i).2 (fun q => isN h66 c69 q.2.2)).symm | exact ((lstU_s (ruM g.2.1 f t d) i).2 (fun q => c44 q.2.1)).symm | exact ((lstU_s (ruM g.2.1 f t d) i).2 (fun q => c31 q.1)).symm)
          · skip
            refine a_iload_n 48 dX12_ruleOf_47 rfl rfl ?_
            refine a_aload_n 49 dX12_ruleOf_48 rfl rfl ?_
            refine a_getR 52 dX12_ruleOf_49 fX12_74 hM.1 rfl (mr_37 hM).1 rfl ?_
            refine a_iload 54 dX12_ruleOf_52 rfl rfl ?_
            refine a_iconst (z := 2) 55 dX12_ruleOf_54 rfl (zrl rfl) rfl ?_
            refine a_iadd 56 dX12_ruleOf_55 (by unfold zr; omega) rfl ?_
            refine a_iald 57 dX12_ruleOf_56 (mr_37 hM).2 (by omega) (by omega) rfl ?_
            refine a_aload_n 58 dX12_ruleOf_57 rfl rfl ?_
            refine a_getR 61 dX12_ruleOf_58 fX12_74 hM.1 rfl (mr_37 hM).1 rfl ?_
            refine a_iload 63 dX12_ruleOf_61 rfl rfl ?_
            refine a_iconst (z := 3) 64 dX12_ruleOf_63 rfl (zrl rfl) rfl ?_
            refine a_iadd 65 dX12_ruleOf_64 (by unfold zr; omega) rfl ?_
            refine a_iald 66 dX12_ruleOf_65 (mr_37 hM).2 (by omega) (by omega) rfl ?_
            refine a_callS 69 (r_in _ _ _ _) cdX12_in lX12_84 dX12_ruleOf_66 rfl rfl ⟨by decide, by decide, rfl, rfl⟩ ⟨Nat.zero_le _, Nat.zero_le _⟩ (Nat.le_of_ble_eq_true rfl) rfl ?_
            rintro _ _ - ⟨b66, rfl, rfl, h66⟩ -
            refine a_if_eq 77 72 dX12_ruleOf_69 (by decide) rfl (fun c69 => ?_) (fun c69 => ?_)
            · skip
              refine a_iload 79 dX12_ruleOf_77 rfl rfl ?_
              exact J79 _ (by first | exact ((lstU_s (ruM g.2.1 f t d) i).1 ⟨c31, c44, isT h66 c69⟩).symm | exact ((lstU_s (ruM g.2.1 f t d) i).2 (fun q => isN h66 c69 q.2.2)).symm | exact ((lstU_s (ruM g.2.1 f t d) i).2 (fun q => c44 q.2.1)).symm | exact ((lstU_s (ruM g.2.1 f t d) i).2 (fun q => c31 q.1)).symm)
            · skip
              refine a_iload 74 dX12_ruleOf_72 rfl rfl ?_
              refine a_goto 79 dX12_ruleOf_74 (by decide) ?_
              exact J79 _ (by first | exact ((lstU_s (ruM g.2.1 f t d) i).1 ⟨c31, c44, isT h66 c69⟩).symm | exact ((lstU_s (ruM g.2.1 f t d) i).2 (fun q => isN h66 c69 q.2.2)).symm | exact ((lstU_s (ruM g.2.1 f t d) i).2 (fun q => c44 q.2.1)).symm | exact ((lstU_s (ruM g.2.1 f t d) i).2 (fun q => c31 q.1)).symm)
  · (try dsimp only); omega
set_option maxHeartbeats 4000000 in
set_option maxRecDepth 100000 in
theorem r_owedBy (g : GH) (i w : Int) (hM : MR g) (hV : MV g.2.1) (hi : 0 ≤ i ∧ i < g.2.1 1000 35) (hw : 1 ≤ w ∧ w ≤ 2000) : AMet mX12_owedBy g [vA 1000, vI i, vI w] (pZ g (oBy g.2.1 i w)) := by
  refine AMet.of [vA 1000, vI i, vI w, none, none] (by decide) rfl (Nat.le_of_ble_eq_true rfl) ?_
  have hc := hV.1
  unfold MVc at hc
  have h2 := hV.2.2.2.2.2.2.2.2.at hi.1 hi.2
  have h3 := stp_le (w := w) (g := g.2.1 1037 (10 * i + 5).toNat) (by omega) (by omega)
  have h4 := mul_le2 (x := (w + g.2.1 1037 (10 * i + 5).toNat - 1) / g.2.1 1037 (10 * i + 5).toNat - 1) (y := g.2.1 1037 (10 * i + 6).toNat) (X := 1999) (Y := 999) (by omega) (by omega) (by omega) (by omega)
  refine a_bipush (z := 10) 2 dX12_owedBy_0 rfl (zrl rfl) rfl ?_
  refine a_iload_n 3 dX12_owedBy_2 rfl rfl ?_
  refine a_imul 4 dX12_owedBy_3 (by unfold zr; omega) rfl ?_
  refine a_istore_n 5 dX12_owedBy_4 (by decide) rfl rfl ?_
  refine a_iload_n 6 dX12_owedBy_5 rfl rfl ?_
  refine a_aload_n 7 dX12_owedBy_6 rfl rfl ?_
  refine a_getR 10 dX12_owedBy_7 fX12_74 hM.1 rfl (mr_37 hM).1 rfl ?_
  refine a_iload_n 11 dX12_owedBy_10 rfl rfl ?_
  refine a_iconst (z := 5) 12 dX12_owedBy_11 rfl (zrl rfl) rfl ?_
  refine a_iadd 13 dX12_owedBy_12 (by unfold zr; omega) rfl ?_
  refine a_iald 14 dX12_owedBy_13 (mr_37 hM).2 (by omega) (by omega) rfl ?_
  refine a_iadd 15 dX12_owedBy_14 (by unfold zr; omega) rfl ?_
  refine a_iconst (z := 1) 16 dX12_owedBy_15 rfl (zrl rfl) rfl ?_
  refine a_isub 17 dX12_owedBy_16 (by unfold zr; omega) rfl ?_
  refine a_aload_n 18 dX12_owedBy_17 rfl rfl ?_
  refine a_getR 21 dX12_owedBy_18 fX12_74 hM.1 rfl (mr_37 hM).1 rfl ?_
  refine a_iload_n 22 dX12_owedBy_21 rfl rfl ?_
  refine a_iconst (z := 5) 23 dX12_owedBy_22 rfl (zrl rfl) rfl ?_
  refine a_iadd 24 dX12_owedBy_23 (by unfold zr; omega) rfl ?_
  refine a_iald 25 dX12_owedBy_24 (mr_37 hM).2 (by omega) (by omega) rfl ?_
  refine a_idiv 26 dX12_owedBy_25 (by omega) (by omega) rfl ?_
  refine a_istore 28 dX12_owedBy_26 (by decide) rfl rfl ?_
  refine a_aload_n 29 dX12_owedBy_28 rfl rfl ?_
  refine a_getR 32 dX12_owedBy_29 fX12_74 hM.1 rfl (mr_37 hM).1 rfl ?_
  refine a_iload_n 33 dX12_owedBy_32 rfl rfl ?_
  refine a_iconst (z := 4) 34 dX12_owedBy_33 rfl (zrl rfl) rfl ?_
  refine a_iadd 35 dX12_owedBy_34 (by unfold zr; omega) rfl ?_
  refine a_iald 36 dX12_owedBy_35 (mr_37 hM).2 (by omega) (by omega) rfl ?_
  refine a_iload 38 dX12_owedBy_36 rfl rfl ?_
  refine a_iconst (z := 1) 39 dX12_owedBy_38 rfl (zrl rfl) rfl ?_
  refine a_isub 40 dX12_owedBy_39 (by unfold zr; omega) rfl ?_
  refine a_aload_n 41 dX12_owedBy_40 rfl rfl ?_
  refine a_getR 44 dX12_owedBy_41 fX12_74 hM.1 rfl (mr_37 hM).1 rfl ?_
  refine a_iload_n 45 dX12_owedBy_44 rfl rfl ?_
  refine a_bipush (z := 6) 47 dX12_owedBy_45 rfl (zrl rfl) rfl ?_
  refine a_iadd 48 dX12_owedBy_47 (by unfold zr; omega) rfl ?_
  refine a_iald 49 dX12_owedBy_48 (mr_37 hM).2 (by omega) (by omega) rfl ?_
  refine a_imul 50 dX12_owedBy_49 (by unfold zr; omega) rfl ?_
  refine a_iadd 51 dX12_owedBy_50 (by unfold zr; omega) rfl ?_
  refine a_ireturn dX12_owedBy_51 rfl ⟨Nat.zero_le _, Nat.zero_le _⟩ ?_
  exact ⟨rfl, rfl⟩
theorem lstU_or (P : Int → Prop) : ∀ n : Nat, lstU P n = -9 ∨ 0 ≤ lstU P n
  | 0 => Or.inl rfl
  | n + 1 => by
    by_cases q : P n
    · rw [(lstU_s P n).1 q]; right; omega
    · rw [(lstU_s P n).2 q]; exact lstU_or P n
theorem fstU_or (P : Int → Prop) : ∀ n : Nat, fstU P n = -9 ∨ 0 ≤ fstU P n
  | 0 => Or.inl rfl
  | n + 1 => by
    by_cases q : P n ∧ fstU P n = -9
    · rw [(fstU_s P n).1 q]; right; omega
    · rw [(fstU_s P n).2 q]; exact fstU_or P n
def owedV (h : Nat → Nat → Int) (i w k : Int) : Int := if k = 0 then oBy h i w else if k = 1 then oBy h i w * h 1037 (10 * i + 7).toNat / h 1037 (10 * i + 8).toNat else if k = 2 then h 1037 (10 * i + 9).toNat else i
noncomputable def wgtV (h : Nat → Nat → Int) (i s k : Int) : Int := if i = -9 then (if k = 0 then 0 else -9) else if k = 0 then cnt (wP h i s) 2000 else if k = 1 then off1 (fstU (wP h i s) 2000) else off1 (lstU (wP h i s) 2000)
set_option maxHeartbeats 4000000 in
set_option maxRecDepth 100000 in
theorem r_owed (g : GH) (f t d w k : Int) (hM : MR g) (hV : MV g.2.1) : AMet mX12_owed g [vA 1000, vI f, vI t, vI d, vI w, vI k] (fun r g' => (((0 ≤ f ∧ f ≤ 2) ∧ (0 ≤ t ∧ t ≤ 2) ∧ (0 ≤ d ∧ d ≤ 999) ∧ (1 ≤ w ∧ w ≤ 2000) ∧ (0 ≤ k ∧ k ≤ 3)) ∧ r = vI (if rOf (gI g 1000 0 0).2.1 f t d = -9 then -9 else owedV (gI g 1000 0 0).2.1 (rOf (gI g 1000 0 0).2.1 f t d) w k) ∧ g' = gI g 1000 0 0) ∨ (¬ ((0 ≤ f ∧ f ≤ 2) ∧ (0 ≤ t ∧ t ≤ 2) ∧ (0 ≤ d ∧ d ≤ 999) ∧ (1 ≤ w ∧ w ≤ 2000) ∧ (0 ≤ k ∧ k ≤ 3)) ∧ r = vI (-1) ∧ g' = gI g 1000 0 0)) := by
  refine AMet.of [vA 1000, vI f, vI t, vI d, vI w, vI k, none, none] (by decide) rfl (Nat.le_of_ble_eq_true rfl) ?_
  refine a_aload_n 1 dX12_owed_0 rfl rfl ?_
  refine a_iconst (z := 0) 2 dX12_owed_1 rfl (zrl rfl) rfl ?_
  refine a_putI 5 dX12_owed_2 fX12_80 (Or.inl rfl) hM.1 (Or.inl rfl) rfl ?_
  have hM : MR (gI g 1000 0 0) := hM
  have hV : MV (gI g 1000 0 0).2.1 := MV_th hV
  have hc := hV.1
  unfold MVc at hc
  generalize gI g 1000 0 0 = g1 at hM hV hc ⊢
  refine a_iload_n 6 dX12_owed_5 rfl rfl ?_
  refine a_callS 9 (r_isLand _ _) cdX12_isLand lX12_233 dX12_owed_6 rfl rfl ⟨by decide, by decide, rfl, rfl⟩ ⟨Nat.zero_le _, Nat.zero_le _⟩ (Nat.le_of_ble_eq_true rfl) rfl ?_
  rintro _ _ - ⟨b6, rfl, rfl, h6⟩ -
  refine a_if_eq 48 12 dX12_owed_9 (by decide) rfl (fun c9 => ?_) (fun c9 => ?_)
  · skip
    refine a_iconst (z := (-1)) 49 dX12_owed_48 rfl (zrl rfl) rfl ?_
    refine a_ireturn dX12_owed_49 rfl ⟨Nat.zero_le _, Nat.zero_le _⟩ ?_
    exact Or.inr ⟨by omega, rfl, rfl⟩
  · skip
    refine a_iload_n 13 dX12_owed_12 rfl rfl ?_
    refine a_callS 16 (r_isLand _ _) cdX12_isLand lX12_233 dX12_owed_13 rfl rfl ⟨by decide, by decide, rfl, rfl⟩ ⟨Nat.zero_le _, Nat.zero_le _⟩ (Nat.le_of_ble_eq_true rfl) rfl ?_
    rintro _ _ - ⟨b13, rfl, rfl, h13⟩ -
    refine a_if_eq 48 19 dX12_owed_16 (by decide) rfl (fun c16 => ?_) (fun c16 => ?_)
    · skip
      refine a_iconst (z := (-1)) 49 dX12_owed_48 rfl (zrl rfl) rfl ?_
      refine a_ireturn dX12_owed_49 rfl ⟨Nat.zero_le _, Nat.zero_le _⟩ ?_
      exact Or.inr ⟨by omega, rfl, rfl⟩
    · skip
      refine a_iload_n 20 dX12_owed_19 rfl rfl ?_
      refine a_callS 23 (r_isDay _ _) cdX12_isDay lX12_95 dX12_owed_20 rfl rfl ⟨by decide, by decide, rfl, rfl⟩ ⟨Nat.zero_le _, Nat.zero_le _⟩ (Nat.le_of_ble_eq_true rfl) rfl ?_
      rintro _ _ - ⟨b20, rfl, rfl, h20⟩ -
      refine a_if_eq 48 26 dX12_owed_23 (by decide) rfl (fun c23 => ?_) (fun c23 => ?_)
      · skip
        refine a_iconst (z := (-1)) 49 dX12_owed_48 rfl (zrl rfl) rfl ?_
        refine a_ireturn dX12_owed_49 rfl ⟨Nat.zero_le _, Nat.zero_le _⟩ ?_
        exact Or.inr ⟨by omega, rfl, rfl⟩
      · skip
        refine a_iload 28 dX12_owed_26 rfl rfl ?_
        refine a_iconst (z := 1) 29 dX12_owed_28 rfl (zrl rfl) rfl ?_
        refine a_sipush (z := 2000) 32 dX12_owed_29 rfl (zrl rfl) rfl ?_
        refine a_callS 35 (r_in _ _ _ _) cdX12_in lX12_84 dX12_owed_32 rfl rfl ⟨by decide, by decide, rfl, rfl⟩ ⟨Nat.zero_le _, Nat.zero_le _⟩ (Nat.le_of_ble_eq_true rfl) rfl ?_
        rintro _ _ - ⟨b32, rfl, rfl, h32⟩ -
        refine a_if_eq 48 38 dX12_owed_35 (by decide) rfl (fun c35 => ?_) (fun c35 => ?_)
        · skip
          refine a_iconst (z := (-1)) 49 dX12_owed_48 rfl (zrl rfl) rfl ?_
          refine a_ireturn dX12_owed_49 rfl ⟨Nat.zero_le _, Nat.zero_le _⟩ ?_
          exact Or.inr ⟨by omega, rfl, rfl⟩
        · skip
          refine a_iload 40 dX12_owed_38 rfl rfl ?_
          refine a_iconst (z := 0) 41 dX12_owed_40 rfl (zrl rfl) rfl ?_
          refine a_iconst (z := 3) 42 dX12_owed_41 rfl (zrl rfl) rfl ?_
          refine a_callS 45 (r_in _ _ _ _) cdX12_in lX12_84 dX12_owed_42 rfl rfl ⟨by decide, by decide, rfl, rfl⟩ ⟨Nat.zero_le _, Nat.zero_le _⟩ (Nat.le_of_ble_eq_true rfl) rfl ?_
          rintro _ _ - ⟨b42, rfl, rfl, h42⟩ -
          refine a_if_ne 50 48 dX12_owed_45 (by decide) rfl (fun c45 => ?_) (fun c45 => ?_)
          · skip
            refine a_aload_n 51 dX12_owed_50 rfl rfl ?_
            refine a_iload_n 52 dX12_owed_51 rfl rfl ?_
            refine a_iload_n 53 dX12_owed_52 rfl rfl ?_
            refine a_iload_n 54 dX12_owed_53 rfl rfl ?_
            refine a_callV 57 (r_ruleOf _ _ _ _ hM hV) cdX12_ruleOf lX12_236 dX12_owed_54 rfl hM.1 rfl ⟨by decide, by decide, rfl, rfl⟩ ⟨Nat.zero_le _, Nat.zero_le _⟩ (Nat.le_of_ble_eq_true rfl) rfl ?_
            rintro _ _ - ⟨rfl, rfl⟩ -
            have hr := lstU_le (ruM g1.2.1 f t d) (g1.2.1 1000 35).toNat
            change -9 ≤ rOf g1.2.1 f t d ∧ rOf g1.2.1 f t d < _ at hr
            have hr9 : rOf g1.2.1 f t d = -9 ∨ 0 ≤ rOf g1.2.1 f t d := lstU_or _ _
            generalize hre : rOf g1.2.1 f t d = i at hr hr9 ⊢
            refine a_istore 59 dX12_owed_57 (by decide) rfl rfl ?_
            refine a_iload 61 dX12_owed_59 rfl rfl ?_
            refine a_bipush (z := (-9)) 63 dX12_owed_61 rfl (zrl rfl) rfl ?_
            refine a_icmp_ne 69 66 dX12_owed_63 (by decide) rfl (fun c63 => ?_) (fun c63 => ?_)
            · skip
              refine a_aload_n 70 dX12_owed_69 rfl rfl ?_
              refine a_iload 72 dX12_owed_70 rfl rfl ?_
              refine a_iload 74 dX12_owed_72 rfl rfl ?_
              refine a_callV 77 (r_owedBy _ _ _ hM hV (by omega) (by omega)) cdX12_owedBy lX12_239 dX12_owed_74 rfl hM.1 rfl ⟨by decide, by decide, rfl, rfl⟩ ⟨Nat.zero_le _, Nat.zero_le _⟩ (Nat.le_of_ble_eq_true rfl) rfl ?_
              rintro _ _ - ⟨rfl, rfl⟩ -
              refine a_istore 79 dX12_owed_77 (by decide) rfl rfl ?_
              have h2 := hV.2.2.2.2.2.2.2.2.at (i := i) (by omega) (by omega)
              have h3 := oBy_le hV.2.2.2.2.2.2.2.2 (i := i) (w := w) (by omega) (by omega) (by omega)
              have h4 := mul_le2 (x := oBy g1.2.1 i w) (y := g1.2.1 1037 (10 * i + 7).toNat) (X := 2000000) (Y := 99) h3.1 h3.2 (by omega) (by omega)
              refine a_iload 81 dX12_owed_79 rfl rfl ?_
              refine a_if_ne 89 84 dX12_owed_81 (by decide) rfl (fun c81 => ?_) (fun c81 => ?_)
              · skip
                refine a_iload 91 dX12_owed_89 rfl rfl ?_
                refine a_iconst (z := 1) 92 dX12_owed_91 rfl (zrl rfl) rfl ?_
                refine a_icmp_ne 128 95 dX12_owed_92 (by decide) rfl (fun c92 => ?_) (fun c92 => ?_)
                · skip
                  refine a_iload 130 dX12_owed_128 rfl rfl ?_
                  refine a_iconst (z := 2) 131 dX12_owed_130 rfl (zrl rfl) rfl ?_
                  refine a_icmp_ne 150 134 dX12_owed_131 (by decide) rfl (fun c131 => ?_) (fun c131 => ?_)
                  · skip
                    refine a_iload 152 dX12_owed_150 rfl rfl ?_
                    refine a_ireturn dX12_owed_152 rfl ⟨Nat.zero_le _, Nat.zero_le _⟩ ?_
                    exact Or.inl ⟨by omega, congrArg vI (by rw [if_neg c63]; unfold owedV; repeat (first | rw [if_pos (by omega)] | rw [if_neg (by omega)])), rfl⟩
                  · skip
                    refine a_aload_n 135 dX12_owed_134 rfl rfl ?_
                    refine a_getR 138 dX12_owed_135 fX12_74 hM.1 rfl (mr_37 hM).1 rfl ?_
                    refine a_bipush (z := 10) 140 dX12_owed_138 rfl (zrl rfl) rfl ?_
                    refine a_iload 142 dX12_owed_140 rfl rfl ?_
                    refine a_imul 143 dX12_owed_142 (by unfold zr; omega) rfl ?_
                    refine a_bipush (z := 9) 145 dX12_owed_143 rfl (zrl rfl) rfl ?_
                    refine a_iadd 146 dX12_owed_145 (by unfold zr; omega) rfl ?_
                    refine a_iald 147 dX12_owed_146 (mr_37 hM).2 (by omega) (by omega) rfl ?_
                    refine a_goto 152 dX12_owed_147 (by decide) ?_
                    refine a_ireturn dX12_owed_152 rfl ⟨Nat.zero_le _, Nat.zero_le _⟩ ?_
                    exact Or.inl ⟨by omega, congrArg vI (by rw [if_neg c63]; unfold owedV; repeat (first | rw [if_pos (by omega)] | rw [if_neg (by omega)])), rfl⟩
                · skip
                  refine a_iload 97 dX12_owed_95 rfl rfl ?_
                  refine a_aload_n 98 dX12_owed_97 rfl rfl ?_
                  refine a_getR 101 dX12_owed_98 fX12_74 hM.1 rfl (mr_37 hM).1 rfl ?_
                  refine a_bipush (z := 10) 103 dX12_owed_101 rfl (zrl rfl) rfl ?_
                  refine a_iload 105 dX12_owed_103 rfl rfl ?_
                  refine a_imul 106 dX12_owed_105 (by unfold zr; omega) rfl ?_
                  refine a_bipush (z := 7) 108 dX12_owed_106 rfl (zrl rfl) rfl ?_
                  refine a_iadd 109 dX12_owed_108 (by unfold zr; omega) rfl ?_
                  refine a_iald 110 dX12_owed_109 (mr_37 hM).2 (by omega) (by omega) rfl ?_
                  refine a_imul 111 dX12_owed_110 (by unfold zr; omega) rfl ?_
                  refine a_aload_n 112 dX12_owed_111 rfl rfl ?_
                  refine a_getR 115 dX12_owed_112 fX12_74 hM.1 rfl (mr_37 hM).1 rfl ?_
                  refine a_bipush (z := 10) 117 dX12_owed_115 rfl (zrl rfl) rfl ?_
                  refine a_iload 119 dX12_owed_117 rfl rfl ?_
                  refine a_imul 120 dX12_owed_119 (by unfold zr; omega) rfl ?_
                  refine a_bipush (z := 8) 122 dX12_owed_120 rfl (zrl rfl) rfl ?_
                  refine a_iadd 123 dX12_owed_122 (by unfold zr; omega) rfl ?_
                  refine a_iald 124 dX12_owed_123 (mr_37 hM).2 (by omega) (by omega) rfl ?_
                  refine a_idiv 125 dX12_owed_124 (by omega) (by omega) rfl ?_
                  refine a_goto 152 dX12_owed_125 (by decide) ?_
                  refine a_ireturn dX12_owed_152 rfl ⟨Nat.zero_le _, Nat.zero_le _⟩ ?_
                  exact Or.inl ⟨by omega, congrArg vI (by rw [if_neg c63]; unfold owedV; repeat (first | rw [if_pos (by omega)] | rw [if_neg (by omega)])), rfl⟩
              · skip
                refine a_iload 86 dX12_owed_84 rfl rfl ?_
                refine a_goto 152 dX12_owed_86 (by decide) ?_
                refine a_ireturn dX12_owed_152 rfl ⟨Nat.zero_le _, Nat.zero_le _⟩ ?_
                exact Or.inl ⟨by omega, congrArg vI (by rw [if_neg c63]; unfold owedV; repeat (first | rw [if_pos (by omega)] | rw [if_neg (by omega)])), rfl⟩
            · skip
              refine a_bipush (z := (-9)) 68 dX12_owed_66 rfl (zrl rfl) rfl ?_
              refine a_ireturn dX12_owed_68 rfl ⟨Nat.zero_le _, Nat.zero_le _⟩ ?_
              exact Or.inl ⟨by omega, congrArg vI (by rw [if_pos c63]), rfl⟩
          · skip
            refine a_iconst (z := (-1)) 49 dX12_owed_48 rfl (zrl rfl) rfl ?_
            refine a_ireturn dX12_owed_49 rfl ⟨Nat.zero_le _, Nat.zero_le _⟩ ?_
            exact Or.inr ⟨by omega, rfl, rfl⟩
