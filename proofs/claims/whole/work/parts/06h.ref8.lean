theorem wcn {h : Nat → Nat → Int} {i s : Int} {w : Nat} {g : Int} (hg : g = w + 1) (hq : oBy h i g = s) : cnt (wP h i s) w + 1 = cnt (wP h i s) (w + 1) ∧ (off1 (fstU (wP h i s) w) = -9 → g = off1 (fstU (wP h i s) (w + 1))) ∧ (off1 (fstU (wP h i s) w) ≠ -9 → off1 (fstU (wP h i s) w) = off1 (fstU (wP h i s) (w + 1))) ∧ g = off1 (lstU (wP h i s) (w + 1)) := by
  subst hg
  have hl := fstU_or (wP h i s) w
  have q : wP h i s w := hq
  refine ⟨?_, fun h1 => ?_, fun h1 => ?_, ?_⟩
  · show _ = cnt (wP h i s) w + ci _; rw [ci_t q]
  · have : fstU (wP h i s) w = -9 := by unfold off1 at h1; split at h1 <;> omega
    rw [(fstU_s _ w).1 ⟨q, this⟩]; unfold off1; rw [if_neg (by omega)]
  · have : fstU (wP h i s) w ≠ -9 := by unfold off1 at h1; split at h1 <;> omega
    rw [(fstU_s _ w).2 (fun z => this z.2)]
  · rw [(lstU_s _ w).1 q]; unfold off1; rw [if_neg (by omega)]
theorem wcn' {h : Nat → Nat → Int} {i s : Int} {w : Nat} {g : Int} (hg : g = w + 1) (hq : oBy h i g ≠ s) : cnt (wP h i s) w = cnt (wP h i s) (w + 1) ∧ off1 (fstU (wP h i s) w) = off1 (fstU (wP h i s) (w + 1)) ∧ off1 (lstU (wP h i s) w) = off1 (lstU (wP h i s) (w + 1)) := by
  subst hg
  have q : ¬ wP h i s w := hq
  refine ⟨?_, ?_, ?_⟩
  · show _ = cnt (wP h i s) w + ci _; rw [ci_f q]; omega
  · rw [(fstU_s _ w).2 (fun z => q z.1)]
  · rw [(lstU_s _ w).2 q]
theorem off1_le {x : Int} {n : Nat} (h : -9 ≤ x ∧ x < n) : -9 ≤ off1 x ∧ off1 x ≤ n := by unfold off1; split <;> omega
set_option maxHeartbeats 4000000 in
set_option maxRecDepth 100000 in
theorem r_weights (g : GH) (f t d s k : Int) (hM : MR g) (hV : MV g.2.1) : AMet mX12_weights g [vA 1000, vI f, vI t, vI d, vI s, vI k] (fun r g' => (((0 ≤ f ∧ f ≤ 2) ∧ (0 ≤ t ∧ t ≤ 2) ∧ (0 ≤ d ∧ d ≤ 999) ∧ (0 ≤ s ∧ s ≤ 2000000) ∧ (0 ≤ k ∧ k ≤ 2)) ∧ r = vI (wgtV (gI g 1000 0 0).2.1 (rOf (gI g 1000 0 0).2.1 f t d) s k) ∧ g' = gI g 1000 0 0) ∨ (¬ ((0 ≤ f ∧ f ≤ 2) ∧ (0 ≤ t ∧ t ≤ 2) ∧ (0 ≤ d ∧ d ≤ 999) ∧ (0 ≤ s ∧ s ≤ 2000000) ∧ (0 ≤ k ∧ k ≤ 2)) ∧ r = vI (-1) ∧ g' = gI g 1000 0 0)) := by
  refine AMet.of [vA 1000, vI f, vI t, vI d, vI s, vI k, none, none, none, none, none] (by decide) rfl (Nat.le_of_ble_eq_true rfl) ?_
  refine a_aload_n 1 dX12_weights_0 rfl rfl ?_
  refine a_iconst (z := 0) 2 dX12_weights_1 rfl (zrl rfl) rfl ?_
  refine a_putI 5 dX12_weights_2 fX12_80 (Or.inl rfl) hM.1 (Or.inl rfl) rfl ?_
  have hM : MR (gI g 1000 0 0) := hM
  have hV : MV (gI g 1000 0 0).2.1 := MV_th hV
  have hc := hV.1
  unfold MVc at hc
  generalize gI g 1000 0 0 = g1 at hM hV hc ⊢
  refine a_iload_n 6 dX12_weights_5 rfl rfl ?_
  refine a_callS 9 (r_isLand _ _) cdX12_isLand lX12_233 dX12_weights_6 rfl rfl ⟨by decide, by decide, rfl, rfl⟩ ⟨Nat.zero_le _, Nat.zero_le _⟩ (Nat.le_of_ble_eq_true rfl) rfl ?_
  rintro _ _ - ⟨b6, rfl, rfl, h6⟩ -
  refine a_if_eq 47 12 dX12_weights_9 (by decide) rfl (fun c9 => ?_) (fun c9 => ?_)
  · skip
    refine a_iconst (z := (-1)) 48 dX12_weights_47 rfl (zrl rfl) rfl ?_
    refine a_ireturn dX12_weights_48 rfl ⟨Nat.zero_le _, Nat.zero_le _⟩ ?_
    exact Or.inr ⟨by omega, rfl, rfl⟩
  · skip
    refine a_iload_n 13 dX12_weights_12 rfl rfl ?_
    refine a_callS 16 (r_isLand _ _) cdX12_isLand lX12_233 dX12_weights_13 rfl rfl ⟨by decide, by decide, rfl, rfl⟩ ⟨Nat.zero_le _, Nat.zero_le _⟩ (Nat.le_of_ble_eq_true rfl) rfl ?_
    rintro _ _ - ⟨b13, rfl, rfl, h13⟩ -
    refine a_if_eq 47 19 dX12_weights_16 (by decide) rfl (fun c16 => ?_) (fun c16 => ?_)
    · skip
      refine a_iconst (z := (-1)) 48 dX12_weights_47 rfl (zrl rfl) rfl ?_
      refine a_ireturn dX12_weights_48 rfl ⟨Nat.zero_le _, Nat.zero_le _⟩ ?_
      exact Or.inr ⟨by omega, rfl, rfl⟩
    · skip
      refine a_iload_n 20 dX12_weights_19 rfl rfl ?_
      refine a_callS 23 (r_isDay _ _) cdX12_isDay lX12_95 dX12_weights_20 rfl rfl ⟨by decide, by decide, rfl, rfl⟩ ⟨Nat.zero_le _, Nat.zero_le _⟩ (Nat.le_of_ble_eq_true rfl) rfl ?_
      rintro _ _ - ⟨b20, rfl, rfl, h20⟩ -
      refine a_if_eq 47 26 dX12_weights_23 (by decide) rfl (fun c23 => ?_) (fun c23 => ?_)
      · skip
        refine a_iconst (z := (-1)) 48 dX12_weights_47 rfl (zrl rfl) rfl ?_
        refine a_ireturn dX12_weights_48 rfl ⟨Nat.zero_le _, Nat.zero_le _⟩ ?_
        exact Or.inr ⟨by omega, rfl, rfl⟩
      · skip
        refine a_iload 28 dX12_weights_26 rfl rfl ?_
        refine a_iconst (z := 0) 29 dX12_weights_28 rfl (zrl rfl) rfl ?_
        refine a_ldc 31 dX12_weights_29 kX12_242 (zrl rfl) rfl ?_
        refine a_callS 34 (r_in _ _ _ _) cdX12_in lX12_84 dX12_weights_31 rfl rfl ⟨by decide, by decide, rfl, rfl⟩ ⟨Nat.zero_le _, Nat.zero_le _⟩ (Nat.le_of_ble_eq_true rfl) rfl ?_
        rintro _ _ - ⟨b31, rfl, rfl, h31⟩ -
        refine a_if_eq 47 37 dX12_weights_34 (by decide) rfl (fun c34 => ?_) (fun c34 => ?_)
        · skip
          refine a_iconst (z := (-1)) 48 dX12_weights_47 rfl (zrl rfl) rfl ?_
          refine a_ireturn dX12_weights_48 rfl ⟨Nat.zero_le _, Nat.zero_le _⟩ ?_
          exact Or.inr ⟨by omega, rfl, rfl⟩
        · skip
          refine a_iload 39 dX12_weights_37 rfl rfl ?_
          refine a_iconst (z := 0) 40 dX12_weights_39 rfl (zrl rfl) rfl ?_
          refine a_iconst (z := 2) 41 dX12_weights_40 rfl (zrl rfl) rfl ?_
          refine a_callS 44 (r_in _ _ _ _) cdX12_in lX12_84 dX12_weights_41 rfl rfl ⟨by decide, by decide, rfl, rfl⟩ ⟨Nat.zero_le _, Nat.zero_le _⟩ (Nat.le_of_ble_eq_true rfl) rfl ?_
          rintro _ _ - ⟨b41, rfl, rfl, h41⟩ -
          refine a_if_ne 49 47 dX12_weights_44 (by decide) rfl (fun c44 => ?_) (fun c44 => ?_)
          · skip
            refine a_aload_n 50 dX12_weights_49 rfl rfl ?_
            refine a_iload_n 51 dX12_weights_50 rfl rfl ?_
            refine a_iload_n 52 dX12_weights_51 rfl rfl ?_
            refine a_iload_n 53 dX12_weights_52 rfl rfl ?_
            refine a_callV 56 (r_ruleOf _ _ _ _ hM hV) cdX12_ruleOf lX12_236 dX12_weights_53 rfl hM.1 rfl ⟨by decide, by decide, rfl, rfl⟩ ⟨Nat.zero_le _, Nat.zero_le _⟩ (Nat.le_of_ble_eq_true rfl) rfl ?_
            rintro _ _ - ⟨rfl, rfl⟩ -
            have hr := lstU_le (ruM g1.2.1 f t d) (g1.2.1 1000 35).toNat
            change -9 ≤ rOf g1.2.1 f t d ∧ rOf g1.2.1 f t d < _ at hr
            have hr9 : rOf g1.2.1 f t d = -9 ∨ 0 ≤ rOf g1.2.1 f t d := lstU_or _ _
            generalize hre : rOf g1.2.1 f t d = i at hr hr9 ⊢
            refine a_istore 58 dX12_weights_56 (by decide) rfl rfl ?_
            refine a_iconst (z := 0) 59 dX12_weights_58 rfl (zrl rfl) rfl ?_
            refine a_istore 61 dX12_weights_59 (by decide) rfl rfl ?_
            refine a_bipush (z := (-9)) 63 dX12_weights_61 rfl (zrl rfl) rfl ?_
            refine a_istore 65 dX12_weights_63 (by decide) rfl rfl ?_
            refine a_bipush (z := (-9)) 67 dX12_weights_65 rfl (zrl rfl) rfl ?_
            refine a_istore 69 dX12_weights_67 (by decide) rfl rfl ?_
            refine a_iconst (z := 1) 70 dX12_weights_69 rfl (zrl rfl) rfl ?_
            refine a_istore 72 dX12_weights_70 (by decide) rfl rfl ?_
            refine AW.loop (α := Nat) (fun p => 2000 - p) (fun p => p ≤ 2000 ∧ (p ≠ 0 → i ≠ -9)) (fun p => g1) (fun p => [vA 1000, vI f, vI t, vI d, vI s, vI k, vI i, vI (cnt (wP g1.2.1 i s) p), vI (off1 (fstU (wP g1.2.1 i s) p)), vI (off1 (lstU (wP g1.2.1 i s) p)), vI ((p : Int) + 1)]) (fun p => []) ?_ 0 ?_
            · intro w hI ih
              try dsimp only at hI ih ⊢
              have hb := cnt_le (wP g1.2.1 i s) w
              have hb1 := off1_le (fstU_le (wP g1.2.1 i s) w)
              have hb2 := off1_le (lstU_le (wP g1.2.1 i s) w)
              refine a_iload 74 dX12_weights_72 rfl rfl ?_
              refine a_sipush (z := 2000) 77 dX12_weights_74 rfl (zrl rfl) rfl ?_
              refine a_icmp_gt 129 80 dX12_weights_77 (by decide) rfl (fun c77 => ?_) (fun c77 => ?_)
              · skip
                refine a_iload 131 dX12_weights_129 rfl rfl ?_
                refine a_if_ne 139 134 dX12_weights_131 (by decide) rfl (fun c131 => ?_) (fun c131 => ?_)
                · skip
                  refine a_iload 141 dX12_weights_139 rfl rfl ?_
                  refine a_iconst (z := 1) 142 dX12_weights_141 rfl (zrl rfl) rfl ?_
                  refine a_icmp_ne 150 145 dX12_weights_142 (by decide) rfl (fun c142 => ?_) (fun c142 => ?_)
                  · skip
                    refine a_iload 152 dX12_weights_150 rfl rfl ?_
                    refine a_ireturn dX12_weights_152 rfl ⟨Nat.zero_le _, Nat.zero_le _⟩ ?_
                    refine Or.inl ⟨by omega, congrArg vI ?_, rfl⟩
                    unfold wgtV
                    first
                    | (rw [if_pos c84]
                       have e : w = 0 := by omega
                       subst e
                       first | rw [if_pos (by omega)]; rfl | rw [if_neg (by omega)]; rfl)
                    | (have e : w = 2000 := by omega
                       subst e
                       rw [if_neg (by omega)]
                       repeat (first | rw [if_pos (by omega)] | rw [if_neg (by omega)]))
                  · skip
                    refine a_iload 147 dX12_weights_145 rfl rfl ?_
                    refine a_goto 152 dX12_weights_147 (by decide) ?_
                    refine a_ireturn dX12_weights_152 rfl ⟨Nat.zero_le _, Nat.zero_le _⟩ ?_
                    refine Or.inl ⟨by omega, congrArg vI ?_, rfl⟩
                    unfold wgtV
                    first
                    | (rw [if_pos c84]
                       have e : w = 0 := by omega
                       subst e
                       first | rw [if_pos (by omega)]; rfl | rw [if_neg (by omega)]; rfl)
                    | (have e : w = 2000 := by omega
                       subst e
                       rw [if_neg (by omega)]
                       repeat (first | rw [if_pos (by omega)] | rw [if_neg (by omega)]))
                · skip
                  refine a_iload 136 dX12_weights_134 rfl rfl ?_
                  refine a_goto 152 dX12_weights_136 (by decide) ?_
                  refine a_ireturn dX12_weights_152 rfl ⟨Nat.zero_le _, Nat.zero_le _⟩ ?_
                  refine Or.inl ⟨by omega, congrArg vI ?_, rfl⟩
                  unfold wgtV
                  first
                  | (rw [if_pos c84]
                     have e : w = 0 := by omega
                     subst e
                     first | rw [if_pos (by omega)]; rfl | rw [if_neg (by omega)]; rfl)
                  | (have e : w = 2000 := by omega
                     subst e
                     rw [if_neg (by omega)]
                     repeat (first | rw [if_pos (by omega)] | rw [if_neg (by omega)]))
              · skip
                refine a_iload 82 dX12_weights_80 rfl rfl ?_
                refine a_bipush (z := (-9)) 84 dX12_weights_82 rfl (zrl rfl) rfl ?_
                refine a_icmp_eq 129 87 dX12_weights_84 (by decide) rfl (fun c84 => ?_) (fun c84 => ?_)
                · skip
                  refine a_iload 131 dX12_weights_129 rfl rfl ?_
                  refine a_if_ne 139 134 dX12_weights_131 (by decide) rfl (fun c131 => ?_) (fun c131 => ?_)
                  · skip
                    refine a_iload 141 dX12_weights_139 rfl rfl ?_
                    refine a_iconst (z := 1) 142 dX12_weights_141 rfl (zrl rfl) rfl ?_
                    refine a_icmp_ne 150 145 dX12_weights_142 (by decide) rfl (fun c142 => ?_) (fun c142 => ?_)
                    · skip
                      refine a_iload 152 dX12_weights_150 rfl rfl ?_
                      refine a_ireturn dX12_weights_152 rfl ⟨Nat.zero_le _, Nat.zero_le _⟩ ?_
                      refine Or.inl ⟨by omega, congrArg vI ?_, rfl⟩
                      unfold wgtV
                      first
                      | (rw [if_pos c84]
                         have e : w = 0 := by omega
                         subst e
                         first | rw [if_pos (by omega)]; rfl | rw [if_neg (by omega)]; rfl)
                      | (have e : w = 2000 := by omega
                         subst e
                         rw [if_neg (by omega)]
                         repeat (first | rw [if_pos (by omega)] | rw [if_neg (by omega)]))
                    · skip
                      refine a_iload 147 dX12_weights_145 rfl rfl ?_
                      refine a_goto 152 dX12_weights_147 (by decide) ?_
                      refine a_ireturn dX12_weights_152 rfl ⟨Nat.zero_le _, Nat.zero_le _⟩ ?_
                      refine Or.inl ⟨by omega, congrArg vI ?_, rfl⟩
                      unfold wgtV
                      first
                      | (rw [if_pos c84]
                         have e : w = 0 := by omega
                         subst e
                         first | rw [if_pos (by omega)]; rfl | rw [if_neg (by omega)]; rfl)
                      | (have e : w = 2000 := by omega
                         subst e
                         rw [if_neg (by omega)]
                         repeat (first | rw [if_pos (by omega)] | rw [if_neg (by omega)]))
                  · skip
                    refine a_iload 136 dX12_weights_134 rfl rfl ?_
                    refine a_goto 152 dX12_weights_136 (by decide) ?_
                    refine a_ireturn dX12_weights_152 rfl ⟨Nat.zero_le _, Nat.zero_le _⟩ ?_
                    refine Or.inl ⟨by omega, congrArg vI ?_, rfl⟩
                    unfold wgtV
                    first
                    | (rw [if_pos c84]
                       have e : w = 0 := by omega
                       subst e
                       first | rw [if_pos (by omega)]; rfl | rw [if_neg (by omega)]; rfl)
                    | (have e : w = 2000 := by omega
                       subst e
                       rw [if_neg (by omega)]
                       repeat (first | rw [if_pos (by omega)] | rw [if_neg (by omega)]))
                · skip
                  refine a_aload_n 88 dX12_weights_87 rfl rfl ?_
                  refine a_iload 90 dX12_weights_88 rfl rfl ?_
                  refine a_iload 92 dX12_weights_90 rfl rfl ?_
                  refine a_callV 95 (r_owedBy _ _ _ hM hV (by omega) (by omega)) cdX12_owedBy lX12_239 dX12_weights_92 rfl hM.1 rfl ⟨by decide, by decide, rfl, rfl⟩ ⟨Nat.zero_le _, Nat.zero_le _⟩ (Nat.le_of_ble_eq_true rfl) rfl ?_
                  rintro _ _ - ⟨rfl, rfl⟩ -
                  refine a_iload 97 dX12_weights_95 rfl rfl ?_
                  refine a_icmp_ne 123 100 dX12_weights_97 (by decide) rfl (fun c97 => ?_) (fun c97 => ?_)
                  · skip
                    refine a_iinc 126 dX12_weights_123 rfl (by unfold zr; omega) (by decide) rfl rfl ?_
                    refine a_goto 72 dX12_weights_126 (by decide) ?_
                    have h9 := ih (w + 1) ⟨by omega, fun _ => by omega⟩ (by omega)
                    first
                    | (have e9 := wcn (h := g1.2.1) (i := i) (s := s) (w := w) rfl c97
                       rw [← e9.1, ← e9.2.2.2] at h9
                       exact h9)
                    | (have e9 := wcn' (h := g1.2.1) (i := i) (s := s) (w := w) rfl c97
                       rw [← e9.1, ← e9.2.1, ← e9.2.2] at h9
                       exact h9)
                  · skip
                    refine a_iinc 103 dX12_weights_100 rfl (by unfold zr; omega) (by decide) rfl rfl ?_
                    refine AW.cut (J := 117) (P := fun z => z = off1 (fstU (wP g1.2.1 i s) (w + 1))) ?_ (fun J117 => ?_)
                    · intro z117 h117
                      subst h117
                      refine a_istore 119 dX12_weights_117 (by decide) rfl rfl ?_
                      refine a_iload 121 dX12_weights_119 rfl rfl ?_
                      refine a_istore 123 dX12_weights_121 (by decide) rfl rfl ?_
                      refine a_iinc 126 dX12_weights_123 rfl (by unfold zr; omega) (by decide) rfl rfl ?_
                      refine a_goto 72 dX12_weights_126 (by decide) ?_
                      have h9 := ih (w + 1) ⟨by omega, fun _ => by omega⟩ (by omega)
                      first
                      | (have e9 := wcn (h := g1.2.1) (i := i) (s := s) (w := w) rfl c97
                         rw [← e9.1, ← e9.2.2.2] at h9
                         exact h9)
                      | (have e9 := wcn' (h := g1.2.1) (i := i) (s := s) (w := w) rfl c97
                         rw [← e9.1, ← e9.2.1, ← e9.2.2] at h9
                         exact h9)
                    · skip
                      refine a_iload 105 dX12_weights_103 rfl rfl ?_
                      refine a_bipush (z := (-9)) 107 dX12_weights_105 rfl (zrl rfl) rfl ?_
                      refine a_icmp_ne 115 110 dX12_weights_107 (by decide) rfl (fun c107 => ?_) (fun c107 => ?_)
                      · skip
                        refine a_iload 117 dX12_weights_115 rfl rfl ?_
                        exact J117 _ (by first | exact (wcn (h := g1.2.1) (i := i) (s := s) (w := w) rfl c97).2.1 c107 | exact (wcn (h := g1.2.1) (i := i) (s := s) (w := w) rfl c97).2.2.1 c107)
                      · skip
                        refine a_iload 112 dX12_weights_110 rfl rfl ?_
                        refine a_goto 117 dX12_weights_112 (by decide) ?_
                        exact J117 _ (by first | exact (wcn (h := g1.2.1) (i := i) (s := s) (w := w) rfl c97).2.1 c107 | exact (wcn (h := g1.2.1) (i := i) (s := s) (w := w) rfl c97).2.2.1 c107)
            · exact ⟨Nat.zero_le _, fun h => absurd rfl h⟩
          · skip
            refine a_iconst (z := (-1)) 48 dX12_weights_47 rfl (zrl rfl) rfl ?_
            refine a_ireturn dX12_weights_48 rfl ⟨Nat.zero_le _, Nat.zero_le _⟩ ?_
            exact Or.inr ⟨by omega, rfl, rfl⟩
set_option maxHeartbeats 4000000 in
set_option maxRecDepth 100000 in
theorem r_isMail (g : GH) (a b D : Int) (hM : MR g) (hV : MV g.2.1)  : AMet mX12_isMail g [vA 1000, vI a, vI b, vI D] (pB g (mailB g.2.1 a b D)) := by
  refine AMet.of [vA 1000, vI a, vI b, vI D, none, none, none, none] (by decide) rfl (Nat.le_of_ble_eq_true rfl) ?_
  have hc := hV.1
  unfold MVc at hc
  refine a_iconst (z := 0) 1 dX12_isMail_0 rfl (zrl rfl) rfl ?_
  refine a_istore 3 dX12_isMail_1 (by decide) rfl rfl ?_
  refine AW.loop (α := Int) (fun p => (g.2.1 1000 13 - p).toNat) (fun p => (0 ≤ p ∧ p ≤ g.2.1 1000 13) ∧ ∀ m k : Int, (0 ≤ m ∧ m < p) → (0 ≤ k ∧ k < g.2.1 1000 13) → ¬ pairB g.2.1 a b D m k) (fun p => g) (fun p => [vA 1000, vI a, vI b, vI D, vI p, none, none, none]) (fun p => []) ?_ 0 ?_
  · intro m hI ih3
    try dsimp only at hI ih ⊢
    refine a_iload 5 dX12_isMail_3 rfl rfl ?_
    refine a_aload_n 6 dX12_isMail_5 rfl rfl ?_
    refine a_getI 9 dX12_isMail_6 fX12_88 hM.1 rfl rfl ?_
    refine a_icmp_ge 137 12 dX12_isMail_9 (by decide) rfl (fun c9 => ?_) (fun c9 => ?_)
    · skip
      refine a_iconst (z := 0) 138 dX12_isMail_137 rfl (zrl rfl) rfl ?_
      refine a_breturn dX12_isMail_138 rfl (by decide) ⟨Nat.zero_le _, Nat.zero_le _⟩ ?_
      exact ⟨_, rfl, rfl, Or.inr ⟨rfl, fun ⟨m2, k2, q1, q2, q3⟩ => hI.2 m2 k2 (by omega) q2 q3⟩⟩
    · skip
      refine AW.cut0 (J := 131) (P := ∀ k : Int, (0 ≤ k ∧ k < g.2.1 1000 13) → ¬ pairB g.2.1 a b D m k) ?_ (fun J131 => ?_)
      · intro h131
        have HH := h131
        refine a_iinc 134 dX12_isMail_131 rfl (by unfold zr; omega) (by decide) rfl rfl ?_
        refine a_goto 3 dX12_isMail_134 (by decide) ?_
        refine AW.kill 5 (AW.kill 6 (AW.kill 7 ?_))
        exact ih3 (m + 1) ⟨by omega, fun m2 k2 q1 q2 => by
          by_cases e : m2 = m
          · subst e; exact HH k2 q2
          · exact hI.2 m2 k2 (by omega) q2⟩ (by omega)
      · skip
        refine a_iconst (z := 0) 13 dX12_isMail_12 rfl (zrl rfl) rfl ?_
        refine a_istore 15 dX12_isMail_13 (by decide) rfl rfl ?_
        refine AW.loop (α := Int) (fun p => (g.2.1 1000 13 - p).toNat) (fun p => (0 ≤ p ∧ p ≤ g.2.1 1000 13) ∧ ∀ k : Int, (0 ≤ k ∧ k < p) → ¬ pairB g.2.1 a b D m k) (fun p => g) (fun p => [vA 1000, vI a, vI b, vI D, vI m, vI p, none, none]) (fun p => []) ?_ 0 ?_
        · intro k hI2 ih15
          try dsimp only at hI ih ⊢
          refine a_iload 17 dX12_isMail_15 rfl rfl ?_
          refine a_aload_n 18 dX12_isMail_17 rfl rfl ?_
          refine a_getI 21 dX12_isMail_18 fX12_88 hM.1 rfl rfl ?_
          refine a_icmp_ge 131 24 dX12_isMail_21 (by decide) rfl (fun c21 => ?_) (fun c21 => ?_)
          · skip
            refine AW.kill 5 (AW.kill 6 (AW.kill 7 ?_))
            first
            | exact J131 (fun k2 q z => isN h29 c32 z.1)
            | exact J131 (fun k2 q => hI2.2 k2 (by omega))
          · skip
            refine a_aload_n 25 dX12_isMail_24 rfl rfl ?_
            refine a_iload 27 dX12_isMail_25 rfl rfl ?_
            refine a_iload_n 28 dX12_isMail_27 rfl rfl ?_
            refine a_iload_n 29 dX12_isMail_28 rfl rfl ?_
            refine a_callV 32 (r_isOf _ _ _ _ hM (by omega)) cdX12_isOf lX12_136 dX12_isMail_29 rfl hM.1 rfl ⟨by decide, by decide, rfl, rfl⟩ ⟨Nat.zero_le _, Nat.zero_le _⟩ (Nat.le_of_ble_eq_true rfl) rfl ?_
            rintro _ _ - ⟨b29, rfl, rfl, h29⟩ -
            refine a_if_eq 131 35 dX12_isMail_32 (by decide) rfl (fun c32 => ?_) (fun c32 => ?_)
            · skip
              refine AW.kill 5 (AW.kill 6 (AW.kill 7 ?_))
              first
              | exact J131 (fun k2 q z => isN h29 c32 z.1)
              | exact J131 (fun k2 q => hI2.2 k2 (by omega))
            · skip
              refine a_aload_n 36 dX12_isMail_35 rfl rfl ?_
              refine a_getR 39 dX12_isMail_36 fX12_37 hM.1 rfl (mr_14 hM).1 rfl ?_
              refine a_bipush (z := 10) 41 dX12_isMail_39 rfl (zrl rfl) rfl ?_
              refine a_iload 43 dX12_isMail_41 rfl rfl ?_
              refine a_imul 44 dX12_isMail_43 (by unfold zr; omega) rfl ?_
              refine a_iconst (z := 2) 45 dX12_isMail_44 rfl (zrl rfl) rfl ?_
              refine a_iadd 46 dX12_isMail_45 (by unfold zr; omega) rfl ?_
              refine a_iald 47 dX12_isMail_46 (mr_14 hM).2 (by omega) (by omega) rfl ?_
              refine a_istore 49 dX12_isMail_47 (by decide) rfl rfl ?_
              refine AW.cut0 (J := 125) (P := ¬ pairB g.2.1 a b D m k) ?_ (fun J125 => ?_)
              · intro h125
                refine a_iinc 128 dX12_isMail_125 rfl (by unfold zr; omega) (by decide) rfl rfl ?_
                refine a_goto 15 dX12_isMail_128 (by decide) ?_
                refine AW.kill 6 (AW.kill 7 ?_)
                exact ih15 (k + 1) ⟨by omega, fun k2 q => by
                  by_cases e : k2 = k
                  · subst e; exact h125
                  · exact hI2.2 k2 (by omega)⟩ (by omega)
              · skip
                refine a_aload_n 50 dX12_isMail_49 rfl rfl ?_
                refine a_iload 52 dX12_isMail_50 rfl rfl ?_
                refine a_iload_n 53 dX12_isMail_52 rfl rfl ?_
                refine a_iload_n 54 dX12_isMail_53 rfl rfl ?_
                refine a_callV 57 (r_isOf _ _ _ _ hM (by omega)) cdX12_isOf lX12_136 dX12_isMail_54 rfl hM.1 rfl ⟨by decide, by decide, rfl, rfl⟩ ⟨Nat.zero_le _, Nat.zero_le _⟩ (Nat.le_of_ble_eq_true rfl) rfl ?_
                rintro _ _ - ⟨b54, rfl, rfl, h54⟩ -
                refine a_if_eq 125 60 dX12_isMail_57 (by decide) rfl (fun c57 => ?_) (fun c57 => ?_)
                · skip
                  first
                  | exact J125 (fun q => isN h54 c57 q.2.1)
                  | exact J125 (fun q => q.2.2.1 c64)
                  | exact J125 (fun q => c81 q.2.2.2.1)
                  | (refine AW.kill 7 ?_
                     exact J125 (fun q => by obtain ⟨-, -, -, -, d', z1, z2, z3⟩ := q; exact hI3.2 d' (by omega) z3))
                · skip
                  refine a_iload 62 dX12_isMail_60 rfl rfl ?_
                  refine a_bipush (z := (-9)) 64 dX12_isMail_62 rfl (zrl rfl) rfl ?_
                  refine a_icmp_eq 125 67 dX12_isMail_64 (by decide) rfl (fun c64 => ?_) (fun c64 => ?_)
                  · skip
                    first
                    | exact J125 (fun q => isN h54 c57 q.2.1)
                    | exact J125 (fun q => q.2.2.1 c64)
                    | exact J125 (fun q => c81 q.2.2.2.1)
                    | (refine AW.kill 7 ?_
                       exact J125 (fun q => by obtain ⟨-, -, -, -, d', z1, z2, z3⟩ := q; exact hI3.2 d' (by omega) z3))
                  · skip
                    refine a_aload_n 68 dX12_isMail_67 rfl rfl ?_
                    refine a_getR 71 dX12_isMail_68 fX12_37 hM.1 rfl (mr_14 hM).1 rfl ?_
                    refine a_bipush (z := 10) 73 dX12_isMail_71 rfl (zrl rfl) rfl ?_
                    refine a_iload 75 dX12_isMail_73 rfl rfl ?_
                    refine a_imul 76 dX12_isMail_75 (by unfold zr; omega) rfl ?_
                    refine a_iconst (z := 2) 77 dX12_isMail_76 rfl (zrl rfl) rfl ?_
                    refine a_iadd 78 dX12_isMail_77 (by unfold zr; omega) rfl ?_
                    refine a_iald 79 dX12_isMail_78 (mr_14 hM).2 (by omega) (by omega) rfl ?_
                    refine a_iload 81 dX12_isMail_79 rfl rfl ?_
                    refine a_icmp_ne 125 84 dX12_isMail_81 (by decide) rfl (fun c81 => ?_) (fun c81 => ?_)
                    · skip
                      first
                      | exact J125 (fun q => isN h54 c57 q.2.1)
                      | exact J125 (fun q => q.2.2.1 c64)
                      | exact J125 (fun q => c81 q.2.2.2.1)
                      | (refine AW.kill 7 ?_
                         exact J125 (fun q => by obtain ⟨-, -, -, -, d', z1, z2, z3⟩ := q; exact hI3.2 d' (by omega) z3))
                    · skip
                      refine a_iconst (z := 0) 85 dX12_isMail_84 rfl (zrl rfl) rfl ?_
                      refine a_istore 87 dX12_isMail_85 (by decide) rfl rfl ?_
                      refine AW.loop (α := Int) (fun p => (1000 - p).toNat) (fun p => (0 ≤ p ∧ p ≤ 1000) ∧ ∀ d : Int, (0 ≤ d ∧ d < p) → ¬ (canB g.2.1 m d ∧ canB g.2.1 k d)) (fun p => g) (fun p => [vA 1000, vI a, vI b, vI D, vI m, vI k, vI (g.2.1 1014 (10 * m + 2).toNat), vI p]) (fun p => []) ?_ 0 ?_
                      · intro d hI3 ih87
                        try dsimp only at hI ih ⊢
                        refine a_iload 89 dX12_isMail_87 rfl rfl ?_
                        refine a_sipush (z := 999) 92 dX12_isMail_89 rfl (zrl rfl) rfl ?_
                        refine a_icmp_gt 125 95 dX12_isMail_92 (by decide) rfl (fun c92 => ?_) (fun c92 => ?_)
                        · skip
                          first
                          | exact J125 (fun q => isN h54 c57 q.2.1)
                          | exact J125 (fun q => q.2.2.1 c64)
                          | exact J125 (fun q => c81 q.2.2.2.1)
                          | (refine AW.kill 7 ?_
                             exact J125 (fun q => by obtain ⟨-, -, -, -, d', z1, z2, z3⟩ := q; exact hI3.2 d' (by omega) z3))
                        · skip
                          refine a_aload_n 96 dX12_isMail_95 rfl rfl ?_
                          refine a_iload 98 dX12_isMail_96 rfl rfl ?_
                          refine a_iload 100 dX12_isMail_98 rfl rfl ?_
                          refine a_callV 103 (r_canBe _ _ _ hM hV (by omega) (by omega)) cdX12_canBe lX12_128 dX12_isMail_100 rfl hM.1 rfl ⟨by decide, by decide, rfl, rfl⟩ ⟨Nat.zero_le _, Nat.zero_le _⟩ (Nat.le_of_ble_eq_true rfl) rfl ?_
                          rintro _ _ - ⟨b100, rfl, rfl, h100⟩ -
                          refine a_if_eq 119 106 dX12_isMail_103 (by decide) rfl (fun c103 => ?_) (fun c103 => ?_)
                          · skip
                            refine a_iinc 122 dX12_isMail_119 rfl (by unfold zr; omega) (by decide) rfl rfl ?_
                            refine a_goto 87 dX12_isMail_122 (by decide) ?_
                            exact ih87 (d + 1) ⟨by omega, fun d2 q => by
                              by_cases e : d2 = d
                              · subst e; first | exact fun z => isN h100 c103 z.1 | exact fun z => isN h111 c114 z.2
                              · exact hI3.2 d2 (by omega)⟩ (by omega)
                          · skip
                            refine a_aload_n 107 dX12_isMail_106 rfl rfl ?_
                            refine a_iload 109 dX12_isMail_107 rfl rfl ?_
                            refine a_iload 111 dX12_isMail_109 rfl rfl ?_
                            refine a_callV 114 (r_canBe _ _ _ hM hV (by omega) (by omega)) cdX12_canBe lX12_128 dX12_isMail_111 rfl hM.1 rfl ⟨by decide, by decide, rfl, rfl⟩ ⟨Nat.zero_le _, Nat.zero_le _⟩ (Nat.le_of_ble_eq_true rfl) rfl ?_
                            rintro _ _ - ⟨b111, rfl, rfl, h111⟩ -
                            refine a_if_eq 119 117 dX12_isMail_114 (by decide) rfl (fun c114 => ?_) (fun c114 => ?_)
                            · skip
                              refine a_iinc 122 dX12_isMail_119 rfl (by unfold zr; omega) (by decide) rfl rfl ?_
                              refine a_goto 87 dX12_isMail_122 (by decide) ?_
                              exact ih87 (d + 1) ⟨by omega, fun d2 q => by
                                by_cases e : d2 = d
                                · subst e; first | exact fun z => isN h100 c103 z.1 | exact fun z => isN h111 c114 z.2
                                · exact hI3.2 d2 (by omega)⟩ (by omega)
                            · skip
                              refine a_iconst (z := 1) 118 dX12_isMail_117 rfl (zrl rfl) rfl ?_
                              refine a_breturn dX12_isMail_118 rfl (by decide) ⟨Nat.zero_le _, Nat.zero_le _⟩ ?_
                              exact ⟨_, rfl, rfl, Or.inl ⟨rfl, show mailB g.2.1 a b D from ⟨m, k, by omega, by omega, isT h29 c32, isT h54 c57, c64, c81, d, by omega, by omega, isT h100 c103, isT h111 c114⟩⟩⟩
                      · exact ⟨by omega, fun k h => by omega⟩
        · exact ⟨by omega, fun k h => by omega⟩
  · exact ⟨by omega, fun m k h => by omega⟩
set_option maxHeartbeats 4000000 in
set_option maxRecDepth 100000 in
theorem r_mail (g : GH) (a b D : Int) (hM : MR g) (hV : MV g.2.1) : AMet mX12_mail g [vA 1000, vI a, vI b, vI D] (fun r g' => (((0 ≤ a ∧ a ≤ 7) ∧ (0 ≤ b ∧ b ≤ 7) ∧ a ≠ b ∧ (0 ≤ D ∧ D ≤ 999)) ∧ r = vI (ci (mailB (gI g 1000 0 0).2.1 a b D)) ∧ g' = gI g 1000 0 0) ∨ (¬ ((0 ≤ a ∧ a ≤ 7) ∧ (0 ≤ b ∧ b ≤ 7) ∧ a ≠ b ∧ (0 ≤ D ∧ D ≤ 999)) ∧ r = vI (-1) ∧ g' = gI g 1000 0 0)) := by
  refine AMet.of [vA 1000, vI a, vI b, vI D] (by decide) rfl (Nat.le_of_ble_eq_true rfl) ?_
  refine a_aload_n 1 dX12_mail_0 rfl rfl ?_
  refine a_iconst (z := 0) 2 dX12_mail_1 rfl (zrl rfl) rfl ?_
  refine a_putI 5 dX12_mail_2 fX12_80 (Or.inl rfl) hM.1 (Or.inl rfl) rfl ?_
  have hM : MR (gI g 1000 0 0) := hM
  have hV : MV (gI g 1000 0 0).2.1 := MV_th hV
  have hc := hV.1
  unfold MVc at hc
  generalize gI g 1000 0 0 = g1 at hM hV hc ⊢
  refine a_iload_n 6 dX12_mail_5 rfl rfl ?_
  refine a_callS 9 (r_isCover _ _) cdX12_isCover lX12_104 dX12_mail_6 rfl rfl ⟨by decide, by decide, rfl, rfl⟩ ⟨Nat.zero_le _, Nat.zero_le _⟩ (Nat.le_of_ble_eq_true rfl) rfl ?_
  rintro _ _ - ⟨b6, rfl, rfl, h6⟩ -
  refine a_if_eq 31 12 dX12_mail_9 (by decide) rfl (fun c9 => ?_) (fun c9 => ?_)
  · skip
    refine a_iconst (z := (-1)) 32 dX12_mail_31 rfl (zrl rfl) rfl ?_
    refine a_ireturn dX12_mail_32 rfl ⟨Nat.zero_le _, Nat.zero_le _⟩ ?_
    exact Or.inr ⟨by omega, rfl, rfl⟩
  · skip
    refine a_iload_n 13 dX12_mail_12 rfl rfl ?_
    refine a_callS 16 (r_isCover _ _) cdX12_isCover lX12_104 dX12_mail_13 rfl rfl ⟨by decide, by decide, rfl, rfl⟩ ⟨Nat.zero_le _, Nat.zero_le _⟩ (Nat.le_of_ble_eq_true rfl) rfl ?_
    rintro _ _ - ⟨b13, rfl, rfl, h13⟩ -
    refine a_if_eq 31 19 dX12_mail_16 (by decide) rfl (fun c16 => ?_) (fun c16 => ?_)
    · skip
      refine a_iconst (z := (-1)) 32 dX12_mail_31 rfl (zrl rfl) rfl ?_
      refine a_ireturn dX12_mail_32 rfl ⟨Nat.zero_le _, Nat.zero_le _⟩ ?_
      exact Or.inr ⟨by omega, rfl, rfl⟩
    · skip
      refine a_iload_n 20 dX12_mail_19 rfl rfl ?_
      refine a_iload_n 21 dX12_mail_20 rfl rfl ?_
      refine a_icmp_eq 31 24 dX12_mail_21 (by decide) rfl (fun c21 => ?_) (fun c21 => ?_)
      · skip
        refine a_iconst (z := (-1)) 32 dX12_mail_31 rfl (zrl rfl) rfl ?_
        refine a_ireturn dX12_mail_32 rfl ⟨Nat.zero_le _, Nat.zero_le _⟩ ?_
        exact Or.inr ⟨by omega, rfl, rfl⟩
      · skip
        refine a_iload_n 25 dX12_mail_24 rfl rfl ?_
        refine a_callS 28 (r_isDay _ _) cdX12_isDay lX12_95 dX12_mail_25 rfl rfl ⟨by decide, by decide, rfl, rfl⟩ ⟨Nat.zero_le _, Nat.zero_le _⟩ (Nat.le_of_ble_eq_true rfl) rfl ?_
        rintro _ _ - ⟨b25, rfl, rfl, h25⟩ -
        refine a_if_ne 33 31 dX12_mail_28 (by decide) rfl (fun c28 => ?_) (fun c28 => ?_)
        · skip
          refine a_aload_n 34 dX12_mail_33 rfl rfl ?_
          refine a_iload_n 35 dX12_mail_34 rfl rfl ?_
          refine a_iload_n 36 dX12_mail_35 rfl rfl ?_
          refine a_iload_n 37 dX12_mail_36 rfl rfl ?_
          refine a_callV 40 (r_isMail _ _ _ _ hM hV) cdX12_isMail lX12_243 dX12_mail_37 rfl hM.1 rfl ⟨by decide, by decide, rfl, rfl⟩ ⟨Nat.zero_le _, Nat.zero_le _⟩ (Nat.le_of_ble_eq_true rfl) rfl ?_
          rintro _ _ - ⟨b37, rfl, rfl, h37⟩ -
          refine a_if_eq 47 43 dX12_mail_40 (by decide) rfl (fun c40 => ?_) (fun c40 => ?_)
          · skip
            refine a_iconst (z := 0) 48 dX12_mail_47 rfl (zrl rfl) rfl ?_
            refine a_ireturn dX12_mail_48 rfl ⟨Nat.zero_le _, Nat.zero_le _⟩ ?_
            exact Or.inl ⟨by omega, congrArg vI (by first | exact ci1 h37 c40 | exact ci0 h37 c40), rfl⟩
          · skip
            refine a_iconst (z := 1) 44 dX12_mail_43 rfl (zrl rfl) rfl ?_
            refine a_goto 48 dX12_mail_44 (by decide) ?_
            refine a_ireturn dX12_mail_48 rfl ⟨Nat.zero_le _, Nat.zero_le _⟩ ?_
            exact Or.inl ⟨by omega, congrArg vI (by first | exact ci1 h37 c40 | exact ci0 h37 c40), rfl⟩
        · skip
          refine a_iconst (z := (-1)) 32 dX12_mail_31 rfl (zrl rfl) rfl ?_
          refine a_ireturn dX12_mail_32 rfl ⟨Nat.zero_le _, Nat.zero_le _⟩ ?_
          exact Or.inr ⟨by omega, rfl, rfl⟩
