/-- the class's token of a token and its value -/
def tk (t v : Int) : Int := if t = 0 then 1 else if t = 1 then 3 + v else if t = 2 then 2 else if t = 3 then v else 0
abbrev LX : Type := Int × Int × Int × Int
def okX (L : Int) (x : LX) : Prop := (0 ≤ x.1 ∧ x.1 ≤ L) ∧ (0 ≤ x.2.2.1 ∧ x.2.2.1 ≤ L) ∧ (0 ≤ x.2.1 ∧ x.2.1 ≤ 4) ∧ (x.2.1 = 3 → sgB x.2.2.2) ∧ (x.2.1 = 1 → 0 ≤ x.2.2.2 ∧ x.2.2.2 ≤ 3) ∧ (x.2.1 = 2 → 0 ≤ x.2.2.2 ∧ x.2.2.2 ≤ 9999)
def RS (g : GH) (L : Int) (x : LX) : Prop := g.2.1 26 2 = x.1 ∧ g.2.1 26 3 = x.2.2.1 ∧ g.2.1 26 4 = tk x.2.1 x.2.2.2 ∧ (x.2.1 = 2 → g.2.1 26 5 = x.2.2.2) ∧ okX L x
theorem tk_sg {L c : Int} {x : LX} (h : okX L x) (hc : sgB c) : tk x.2.1 x.2.2.2 = c ↔ x.2.1 = 3 ∧ x.2.2.2 = c := by
  obtain ⟨-, -, h1, h2, h3, -⟩ := h
  generalize x.2.1 = t at *
  generalize x.2.2.2 = v at *
  have ht : t = 0 ∨ t = 1 ∨ t = 2 ∨ t = 3 ∨ t = 4 := by omega
  unfold sgB at hc h2
  unfold tk
  rcases ht with rfl | rfl | rfl | rfl | rfl
  · simp <;> omega
  · have := h3 rfl; simp <;> omega
  · simp <;> omega
  · simp
  · simp <;> omega
theorem tk_wd {L : Int} {x : LX} (h : okX L x) {c : Int} (hc : 0 ≤ c ∧ c ≤ 3) : tk x.2.1 x.2.2.2 = 3 + c ↔ x.2.1 = 1 ∧ x.2.2.2 = c := by
  obtain ⟨-, -, h1, h2, h3, -⟩ := h
  generalize x.2.1 = t at *
  generalize x.2.2.2 = v at *
  have ht : t = 0 ∨ t = 1 ∨ t = 2 ∨ t = 3 ∨ t = 4 := by omega
  unfold sgB at h2
  unfold tk
  rcases ht with rfl | rfl | rfl | rfl | rfl
  · simp <;> omega
  · simp <;> omega
  · simp <;> omega
  · have := h2 rfl; simp <;> omega
  · simp <;> omega
theorem tk_nm {L : Int} {x : LX} (h : okX L x) : tk x.2.1 x.2.2.2 = 2 ↔ x.2.1 = 2 := by
  obtain ⟨-, -, h1, h2, h3, -⟩ := h
  generalize x.2.1 = t at *
  generalize x.2.2.2 = v at *
  have ht : t = 0 ∨ t = 1 ∨ t = 2 ∨ t = 3 ∨ t = 4 := by omega
  unfold sgB at h2
  unfold tk
  rcases ht with rfl | rfl | rfl | rfl | rfl
  · simp
  · have := h3 rfl; simp <;> omega
  · simp
  · have := h2 rfl; simp <;> omega
  · simp
theorem tk_end {L : Int} {x : LX} (h : okX L x) : tk x.2.1 x.2.2.2 = 1 ↔ x.2.1 = 0 := by
  obtain ⟨-, -, h1, h2, h3, -⟩ := h
  generalize x.2.1 = t at *
  generalize x.2.2.2 = v at *
  have ht : t = 0 ∨ t = 1 ∨ t = 2 ∨ t = 3 ∨ t = 4 := by omega
  unfold sgB at h2
  unfold tk
  rcases ht with rfl | rfl | rfl | rfl | rfl
  · simp
  · have := h3 rfl; simp <;> omega
  · simp
  · have := h2 rfl; simp <;> omega
  · simp
set_option maxHeartbeats 4000000 in
set_option maxRecDepth 100000 in
theorem c8_step (g : GH) {T : Int → Int} {L : Int} (hs : TXs g) (hc : TXc g T L) {u : Int} (hp : 0 ≤ u ∧ u ≤ L) (ha : g.2.1 26 2 = u) : AMet mX8_step g [vA 26] (fun _ g' => sameB xS g g' ∧ ∀ v, RS g' L (lx T u v)) := by
  refine AMet.of [vA 26] (by decide) rfl (Nat.le_of_ble_eq_true rfl) ?_
  refine AW.loop (α := GH × Nat) (fun p => (L - u).toNat - p.2) (fun p => sameB xS g p.1 ∧ p.1.2.1 26 2 = u + p.2 ∧ u + p.2 ≤ L ∧ (∀ x, u ≤ x → x < u + p.2 → T x = 32)) (fun p => p.1) (fun p => [vA 26]) (fun p => []) ?_ (g, 0) ?_
  · rintro ⟨g2, j⟩ ⟨h2, h2a, hjl, hall⟩ ih0
    try dsimp only at hI ih ⊢
    try dsimp only at h2 h2a hjl hall ih0 ⊢
    have hs2 := TXs.keep h2 hs
    have hc2 := hc.s h2
    have hL := hc.1
    refine a_aload_n 1 dX8_step_0 rfl rfl ?_
    refine a_getIz ((u + (j : Int))) 4 dX8_step_1 fX8_19 (hs2.1) rfl h2a rfl ?_
    refine a_aload_n 5 dX8_step_4 rfl rfl ?_
    refine a_getIz (L) 8 dX8_step_5 fX8_15 (hs2.1) rfl hc2.2.1 rfl ?_
    refine a_icmp_ge 38 11 dX8_step_8 (by decide) rfl (fun c8 => ?_) (fun c8 => ?_)
    · skip
      refine a_aload_n 39 dX8_step_38 rfl rfl ?_
      refine a_aload_n 40 dX8_step_39 rfl rfl ?_
      refine a_getIz ((u + (j : Int))) 43 dX8_step_40 fX8_19 (hs2.1) rfl h2a rfl ?_
      refine a_putI 46 dX8_step_43 fX8_22 (Or.inl rfl) (hs2.1) (Or.inl rfl) rfl ?_
      have h3 : sameB xS g (gI g2 26 3 (u + (j : Int))) := h2.wr (by unfold xS; omega)
      have hs3 := TXs.keep h3 hs
      have hc3 := hc.s h3
      have h3a : (gI g2 26 3 (u + (j : Int))).2.1 26 2 = (u + (j : Int)) := (gI_n (Or.inr (by decide))).trans h2a
      have hend : ¬ T (u + (j : Int)) = 32 := by
        first
        | (rw [hc2.2.2.2 _ (by omega)]; omega)
        | (intro y; exact c22 (hsg.2.2.1.mpr y))
      have hsk : isSk (fun x => T x = 32) u (u + (j : Int)) := ⟨by omega, hall, hend⟩
      refine a_aload_n 47 dX8_step_46 rfl rfl ?_
      refine a_getIz ((u + (j : Int))) 50 dX8_step_47 fX8_19 (hs2.1) rfl h3a rfl ?_
      refine a_aload_n 51 dX8_step_50 rfl rfl ?_
      refine a_getIz (L) 54 dX8_step_51 fX8_15 (hs2.1) rfl hc3.2.1 rfl ?_
      refine a_icmp_lt 65 57 dX8_step_54 (by decide) rfl (fun c54 => ?_) (fun c54 => ?_)
      · skip
        have hqL : (u + (j : Int)) < L := by omega
        have hTb := (hc3.2.2.1 _ (by omega : (0 : Int) ≤ (u + (j : Int))) hqL).1
        have hsg := sg_d hTb
        refine a_aload_n 66 dX8_step_65 rfl rfl ?_
        refine a_getR 69 dX8_step_66 fX8_9 (hs2.1) rfl (hs2.2.1) rfl ?_
        refine a_aload_n 70 dX8_step_69 rfl rfl ?_
        refine a_getIz ((u + (j : Int))) 73 dX8_step_70 fX8_19 (hs2.1) rfl h3a rfl ?_
        refine a_baldz (sg (T (u + (j : Int)))) 74 dX8_step_73 (hs2.2.2) (by omega) (by omega) (hc3.2.2.1 _ (by omega) (by omega)).2 rfl ?_
        refine a_callS 77 (c8_isDigit _ _) cdX8_isDigit lX8_113 dX8_step_74 rfl rfl ⟨by decide, by decide, rfl, rfl⟩ ⟨Nat.zero_le _, Nat.zero_le _⟩ (Nat.le_of_ble_eq_true rfl) rfl ?_
        rintro _ _ - ⟨b74, rfl, rfl, h74⟩ -
        refine a_if_eq 91 80 dX8_step_77 (by decide) rfl (fun c77 => ?_) (fun c77 => ?_)
        · skip
          refine a_aload_n 92 dX8_step_91 rfl rfl ?_
          refine a_getR 95 dX8_step_92 fX8_9 (hs2.1) rfl (hs2.2.1) rfl ?_
          refine a_aload_n 96 dX8_step_95 rfl rfl ?_
          refine a_getIz ((u + (j : Int))) 99 dX8_step_96 fX8_19 (hs2.1) rfl h3a rfl ?_
          refine a_baldz (sg (T (u + (j : Int)))) 100 dX8_step_99 (hs2.2.2) (by omega) (by omega) (hc3.2.2.1 _ (by omega) (by omega)).2 rfl ?_
          refine a_callS 103 (c8_isLetter _ _) cdX8_isLetter lX8_120 dX8_step_100 rfl rfl ⟨by decide, by decide, rfl, rfl⟩ ⟨Nat.zero_le _, Nat.zero_le _⟩ (Nat.le_of_ble_eq_true rfl) rfl ?_
          rintro _ _ - ⟨b100, rfl, rfl, h100⟩ -
          refine a_if_eq 117 106 dX8_step_103 (by decide) rfl (fun c103 => ?_) (fun c103 => ?_)
          · skip
            refine a_aload_n 118 dX8_step_117 rfl rfl ?_
            refine a_aload_n 119 dX8_step_118 rfl rfl ?_
            refine a_getR 122 dX8_step_119 fX8_9 (hs2.1) rfl (hs2.2.1) rfl ?_
            refine a_aload_n 123 dX8_step_122 rfl rfl ?_
            refine a_getIz ((u + (j : Int))) 126 dX8_step_123 fX8_19 (hs2.1) rfl h3a rfl ?_
            refine a_baldz (sg (T (u + (j : Int)))) 127 dX8_step_126 (hs2.2.2) (by omega) (by omega) (hc3.2.2.1 _ (by omega) (by omega)).2 rfl ?_
            refine a_callS 130 (c8_isSign _ _) cdX8_isSign lX8_126 dX8_step_127 rfl rfl ⟨by decide, by decide, rfl, rfl⟩ ⟨Nat.zero_le _, Nat.zero_le _⟩ (Nat.le_of_ble_eq_true rfl) rfl ?_
            rintro _ _ - ⟨b127, rfl, rfl, h127⟩ -
            refine a_if_eq 145 133 dX8_step_130 (by decide) rfl (fun c130 => ?_) (fun c130 => ?_)
            · skip
              refine a_iconst (z := 0) 146 dX8_step_145 rfl (zrl rfl) rfl ?_
              refine a_putI 149 dX8_step_146 fX8_25 (Or.inl rfl) (hs2.1) (Or.inl rfl) rfl ?_
              refine a_aload_n 150 dX8_step_149 rfl rfl ?_
              refine a_dup 151 dX8_step_150 (by intro w h; cases h) rfl ?_
              refine a_getIz ((u + (j : Int))) 154 dX8_step_151 fX8_19 (hs2.1) rfl ((gI_n (Or.inr (by decide))).trans h3a) rfl ?_
              refine a_iconst (z := 1) 155 dX8_step_154 rfl (zrl rfl) rfl ?_
              refine a_iadd 156 dX8_step_155 (by unfold zr; omega) rfl ?_
              refine a_putI 159 dX8_step_156 fX8_19 (Or.inl rfl) (hs2.1) (Or.inl rfl) rfl ?_
              refine a_return dX8_step_159 rfl ⟨Nat.zero_le _, Nat.zero_le _⟩ ?_
              refine ⟨(h3.wr (by unfold xS; omega)).wr (by unfold xS; omega), fun v => ?_⟩
              rw [← lx_sg hsk hTb.1 (fun y => isN h100 c103 (hsg.2.1.mpr y)) (fun y => isN h74 c77 (hsg.1.mpr y))]
              have hsS : ¬ sgB (T (u + (j : Int))) := fun y => isN h127 c130 (hsg.2.2.2.2.1.mpr y)
              rw [if_neg hsS]
              refine ⟨gI_s, (gI_n (Or.inr (by decide))).trans ((gI_n (Or.inr (by decide))).trans gI_s), (gI_n (Or.inr (by decide))).trans (gI_s.trans ?_), fun z => absurd z (by dsimp only; omega), ?_⟩
              · rfl
              · exact ⟨by dsimp only; omega, by dsimp only; omega, by dsimp only; omega, fun z => absurd z (by dsimp only; omega), fun z => absurd z (by dsimp only; omega), fun z => absurd z (by dsimp only; omega)⟩
            · skip
              refine a_aload_n 134 dX8_step_133 rfl rfl ?_
              refine a_getR 137 dX8_step_134 fX8_9 (hs2.1) rfl (hs2.2.1) rfl ?_
              refine a_aload_n 138 dX8_step_137 rfl rfl ?_
              refine a_getIz ((u + (j : Int))) 141 dX8_step_138 fX8_19 (hs2.1) rfl h3a rfl ?_
              refine a_baldz (sg (T (u + (j : Int)))) 142 dX8_step_141 (hs2.2.2) (by omega) (by omega) (hc3.2.2.1 _ (by omega) (by omega)).2 rfl ?_
              refine a_goto 146 dX8_step_142 (by decide) ?_
              refine a_putI 149 dX8_step_146 fX8_25 (Or.inl rfl) (hs2.1) (Or.inl rfl) rfl ?_
              refine a_aload_n 150 dX8_step_149 rfl rfl ?_
              refine a_dup 151 dX8_step_150 (by intro w h; cases h) rfl ?_
              refine a_getIz ((u + (j : Int))) 154 dX8_step_151 fX8_19 (hs2.1) rfl ((gI_n (Or.inr (by decide))).trans h3a) rfl ?_
              refine a_iconst (z := 1) 155 dX8_step_154 rfl (zrl rfl) rfl ?_
              refine a_iadd 156 dX8_step_155 (by unfold zr; omega) rfl ?_
              refine a_putI 159 dX8_step_156 fX8_19 (Or.inl rfl) (hs2.1) (Or.inl rfl) rfl ?_
              refine a_return dX8_step_159 rfl ⟨Nat.zero_le _, Nat.zero_le _⟩ ?_
              refine ⟨(h3.wr (by unfold xS; omega)).wr (by unfold xS; omega), fun v => ?_⟩
              rw [← lx_sg hsk hTb.1 (fun y => isN h100 c103 (hsg.2.1.mpr y)) (fun y => isN h74 c77 (hsg.1.mpr y))]
              have hsS : sgB (T (u + (j : Int))) := hsg.2.2.2.2.1.mp (isT h127 c130)
              have hsv : sg (T (u + (j : Int))) = T (u + (j : Int)) := hsg.2.2.2.2.2.1 (by unfold sgB at hsS; omega)
              rw [if_pos hsS]
              refine ⟨gI_s, (gI_n (Or.inr (by decide))).trans ((gI_n (Or.inr (by decide))).trans gI_s), (gI_n (Or.inr (by decide))).trans (gI_s.trans ?_), fun z => absurd z (by dsimp only; omega), ?_⟩
              · rw [hsv]; rfl
              · exact ⟨by dsimp only; omega, by dsimp only; omega, by dsimp only; omega, fun z => hsS, fun z => absurd z (by dsimp only; omega), fun z => absurd z (by dsimp only; omega)⟩
          · skip
            refine a_aload_n 107 dX8_step_106 rfl rfl ?_
            refine a_aload_n 108 dX8_step_107 rfl rfl ?_
            refine a_callV 111 (c8_stepWord _ hs3 hc3 (q := (u + (j : Int))) ⟨by omega, hqL⟩ h3a gI_s (hsg.2.1.mp (isT h100 c103))) cdX8_stepWord lX8_123 dX8_step_108 rfl (hs2.1) rfl ⟨by decide, by decide, rfl, rfl⟩ ⟨Nat.zero_le _, Nat.zero_le _⟩ (Nat.le_of_ble_eq_true rfl) rfl ?_
            rintro _ g4 - ⟨n, hn, hsk4, rfl, s4, h4a⟩ -
            refine a_putI 114 dX8_step_111 fX8_25 (Or.inl rfl) ((TXs.keep s4 hs3).1) (Or.inl rfl) rfl ?_
            refine a_goto 159 dX8_step_114 (by decide) ?_
            refine a_return dX8_step_159 rfl ⟨Nat.zero_le _, Nat.zero_le _⟩ ?_
            have h4 : sameB xS g g4 := h3.tr (s4.mono (fun a k q => by unfold xN at q; unfold xS; omega))
            have h4s : g4.2.1 26 3 = (u + (j : Int)) := (s4.2.2 26 3 (by unfold xN; omega)).trans gI_s
            refine ⟨h4.wr (by unfold xS; omega), fun v => ?_⟩
            rw [← lx_wd hsk (hsg.2.1.mp (isT h100 c103)) hsk4]
            have hwe := (wE_is (T := T) (q := (u + (j : Int))) hn.1 hsk4.2.1).2
            refine ⟨(gI_n (Or.inr (by decide))).trans h4a, (gI_n (Or.inr (by decide))).trans h4s, gI_s.trans ?_, fun z => ?_, ?_⟩
            · dsimp only
              by_cases y : wE T (u + (j : Int)) n = -9
              · rw [if_pos y, if_pos y]; rfl
              · rw [if_neg y, if_neg y]; rfl
            · exfalso; dsimp only at z; split at z <;> omega
            · refine ⟨by dsimp only; omega, by dsimp only; omega, ?_, fun z => ?_, fun z => ?_, fun z => ?_⟩
              · dsimp only; split <;> omega
              · exfalso; dsimp only at z; split at z <;> omega
              · dsimp only at z ⊢
                rcases hwe with y | y
                · rw [if_pos y] at z; omega
                · exact y
              · exfalso; dsimp only at z; split at z <;> omega
        · skip
          refine a_aload_n 81 dX8_step_80 rfl rfl ?_
          refine a_aload_n 82 dX8_step_81 rfl rfl ?_
          refine a_callV 85 (c8_stepNumber _ hs3 hc3 (q := (u + (j : Int))) ⟨by omega, hqL⟩ h3a gI_s (hsg.1.mp (isT h74 c77))) cdX8_stepNumber lX8_116 dX8_step_82 rfl (hs2.1) rfl ⟨by decide, by decide, rfl, rfl⟩ ⟨Nat.zero_le _, Nat.zero_le _⟩ (Nat.le_of_ble_eq_true rfl) rfl ?_
          rintro _ g4 - ⟨n, hn, hsk4, rfl, s4, h4a, h4n⟩ -
          refine a_putI 88 dX8_step_85 fX8_25 (Or.inl rfl) ((TXs.keep s4 hs3).1) (Or.inl rfl) rfl ?_
          refine a_goto 159 dX8_step_88 (by decide) ?_
          refine a_return dX8_step_159 rfl ⟨Nat.zero_le _, Nat.zero_le _⟩ ?_
          have h4 : sameB xS g g4 := h3.tr (s4.mono (fun a k q => by unfold xN at q; unfold xS; omega))
          have h4s : g4.2.1 26 3 = (u + (j : Int)) := (s4.2.2 26 3 (by unfold xN; omega)).trans gI_s
          refine ⟨h4.wr (by unfold xS; omega), fun v => ?_⟩
          rw [← lx_nm hsk (hsg.1.mp (isT h74 c77)) hsk4]
          have hnv := nv_le (T := T) (q := (u + (j : Int))) n hsk4.2.1
          refine ⟨(gI_n (Or.inr (by decide))).trans h4a, (gI_n (Or.inr (by decide))).trans h4s, gI_s.trans ?_, fun z => (gI_n (Or.inr (by decide))).trans (h4n ?_), ?_⟩
          · dsimp only
            by_cases y : nB T (u + (j : Int)) n
            · rw [if_pos y, if_pos y]; rfl
            · rw [if_neg y, if_neg y]; rfl
          · intro y; dsimp only at z; rw [if_pos y] at z; omega
          · refine ⟨by dsimp only; omega, by dsimp only; omega, ?_, fun z => ?_, fun z => ?_, fun z => ?_⟩
            · dsimp only; split <;> omega
            · exfalso; dsimp only at z; split at z <;> omega
            · exfalso; dsimp only at z; split at z <;> omega
            · dsimp only at z ⊢
              have y : ¬ nB T (u + (j : Int)) n := fun y => by rw [if_pos y] at z; omega
              unfold nB at y; omega
      · skip
        refine a_aload_n 58 dX8_step_57 rfl rfl ?_
        refine a_iconst (z := 1) 59 dX8_step_58 rfl (zrl rfl) rfl ?_
        refine a_putI 62 dX8_step_59 fX8_25 (Or.inl rfl) (hs2.1) (Or.inl rfl) rfl ?_
        refine a_goto 159 dX8_step_62 (by decide) ?_
        refine a_return dX8_step_159 rfl ⟨Nat.zero_le _, Nat.zero_le _⟩ ?_
        have hTn : T (u + (j : Int)) = -1 := hc3.2.2.2 _ (by omega)
        refine ⟨h3.wr (by unfold xS; omega), fun v => ?_⟩
        rw [← lx_end hsk (by omega)]
        refine ⟨(gI_n (Or.inr (by decide))).trans h3a, (gI_n (Or.inr (by decide))).trans gI_s, gI_s.trans rfl, fun z => absurd z (by dsimp only; omega), ?_⟩
        exact ⟨by dsimp only; omega, by dsimp only; omega, by dsimp only; omega, fun z => absurd z (by dsimp only; omega), fun z => absurd z (by dsimp only; omega), fun z => absurd z (by dsimp only; omega)⟩
    · skip
      have hjL : (u + (j : Int)) < L := by omega
      have hTb := (hc2.2.2.1 _ (by omega : (0 : Int) ≤ (u + (j : Int))) hjL).1
      have hsg := sg_d hTb
      refine a_aload_n 12 dX8_step_11 rfl rfl ?_
      refine a_getR 15 dX8_step_12 fX8_9 (hs2.1) rfl (hs2.2.1) rfl ?_
      refine a_aload_n 16 dX8_step_15 rfl rfl ?_
      refine a_getIz ((u + (j : Int))) 19 dX8_step_16 fX8_19 (hs2.1) rfl h2a rfl ?_
      refine a_baldz (sg (T (u + (j : Int)))) 20 dX8_step_19 (hs2.2.2) (by omega) (by omega) (hc2.2.2.1 _ (by omega) (by omega)).2 rfl ?_
      refine a_bipush (z := 32) 22 dX8_step_20 rfl (zrl rfl) rfl ?_
      refine a_icmp_ne 38 25 dX8_step_22 (by decide) rfl (fun c22 => ?_) (fun c22 => ?_)
      · skip
        refine a_aload_n 39 dX8_step_38 rfl rfl ?_
        refine a_aload_n 40 dX8_step_39 rfl rfl ?_
        refine a_getIz ((u + (j : Int))) 43 dX8_step_40 fX8_19 (hs2.1) rfl h2a rfl ?_
        refine a_putI 46 dX8_step_43 fX8_22 (Or.inl rfl) (hs2.1) (Or.inl rfl) rfl ?_
        have h3 : sameB xS g (gI g2 26 3 (u + (j : Int))) := h2.wr (by unfold xS; omega)
        have hs3 := TXs.keep h3 hs
        have hc3 := hc.s h3
        have h3a : (gI g2 26 3 (u + (j : Int))).2.1 26 2 = (u + (j : Int)) := (gI_n (Or.inr (by decide))).trans h2a
        have hend : ¬ T (u + (j : Int)) = 32 := by
          first
          | (rw [hc2.2.2.2 _ (by omega)]; omega)
          | (intro y; exact c22 (hsg.2.2.1.mpr y))
        have hsk : isSk (fun x => T x = 32) u (u + (j : Int)) := ⟨by omega, hall, hend⟩
        refine a_aload_n 47 dX8_step_46 rfl rfl ?_
        refine a_getIz ((u + (j : Int))) 50 dX8_step_47 fX8_19 (hs2.1) rfl h3a rfl ?_
        refine a_aload_n 51 dX8_step_50 rfl rfl ?_
        refine a_getIz (L) 54 dX8_step_51 fX8_15 (hs2.1) rfl hc3.2.1 rfl ?_
        refine a_icmp_lt 65 57 dX8_step_54 (by decide) rfl (fun c54 => ?_) (fun c54 => ?_)
        · skip
          have hqL : (u + (j : Int)) < L := by omega
          have hTb := (hc3.2.2.1 _ (by omega : (0 : Int) ≤ (u + (j : Int))) hqL).1
          have hsg := sg_d hTb
          refine a_aload_n 66 dX8_step_65 rfl rfl ?_
          refine a_getR 69 dX8_step_66 fX8_9 (hs2.1) rfl (hs2.2.1) rfl ?_
          refine a_aload_n 70 dX8_step_69 rfl rfl ?_
          refine a_getIz ((u + (j : Int))) 73 dX8_step_70 fX8_19 (hs2.1) rfl h3a rfl ?_
          refine a_baldz (sg (T (u + (j : Int)))) 74 dX8_step_73 (hs2.2.2) (by omega) (by omega) (hc3.2.2.1 _ (by omega) (by omega)).2 rfl ?_
          refine a_callS 77 (c8_isDigit _ _) cdX8_isDigit lX8_113 dX8_step_74 rfl rfl ⟨by decide, by decide, rfl, rfl⟩ ⟨Nat.zero_le _, Nat.zero_le _⟩ (Nat.le_of_ble_eq_true rfl) rfl ?_
          rintro _ _ - ⟨b74, rfl, rfl, h74⟩ -
          refine a_if_eq 91 80 dX8_step_77 (by decide) rfl (fun c77 => ?_) (fun c77 => ?_)
          · skip
            refine a_aload_n 92 dX8_step_91 rfl rfl ?_
            refine a_getR 95 dX8_step_92 fX8_9 (hs2.1) rfl (hs2.2.1) rfl ?_
            refine a_aload_n 96 dX8_step_95 rfl rfl ?_
            refine a_getIz ((u + (j : Int))) 99 dX8_step_96 fX8_19 (hs2.1) rfl h3a rfl ?_
            refine a_baldz (sg (T (u + (j : Int)))) 100 dX8_step_99 (hs2.2.2) (by omega) (by omega) (hc3.2.2.1 _ (by omega) (by omega)).2 rfl ?_
            refine a_callS 103 (c8_isLetter _ _) cdX8_isLetter lX8_120 dX8_step_100 rfl rfl ⟨by decide, by decide, rfl, rfl⟩ ⟨Nat.zero_le _, Nat.zero_le _⟩ (Nat.le_of_ble_eq_true rfl) rfl ?_
            rintro _ _ - ⟨b100, rfl, rfl, h100⟩ -
            refine a_if_eq 117 106 dX8_step_103 (by decide) rfl (fun c103 => ?_) (fun c103 => ?_)
            · skip
              refine a_aload_n 118 dX8_step_117 rfl rfl ?_
              refine a_aload_n 119 dX8_step_118 rfl rfl ?_
              refine a_getR 122 dX8_step_119 fX8_9 (hs2.1) rfl (hs2.2.1) rfl ?_
              refine a_aload_n 123 dX8_step_122 rfl rfl ?_
              refine a_getIz ((u + (j : Int))) 126 dX8_step_123 fX8_19 (hs2.1) rfl h3a rfl ?_
              refine a_baldz (sg (T (u + (j : Int)))) 127 dX8_step_126 (hs2.2.2) (by omega) (by omega) (hc3.2.2.1 _ (by omega) (by omega)).2 rfl ?_
              refine a_callS 130 (c8_isSign _ _) cdX8_isSign lX8_126 dX8_step_127 rfl rfl ⟨by decide, by decide, rfl, rfl⟩ ⟨Nat.zero_le _, Nat.zero_le _⟩ (Nat.le_of_ble_eq_true rfl) rfl ?_
              rintro _ _ - ⟨b127, rfl, rfl, h127⟩ -
              refine a_if_eq 145 133 dX8_step_130 (by decide) rfl (fun c130 => ?_) (fun c130 => ?_)
              · skip
                refine a_iconst (z := 0) 146 dX8_step_145 rfl (zrl rfl) rfl ?_
                refine a_putI 149 dX8_step_146 fX8_25 (Or.inl rfl) (hs2.1) (Or.inl rfl) rfl ?_
                refine a_aload_n 150 dX8_step_149 rfl rfl ?_
                refine a_dup 151 dX8_step_150 (by intro w h; cases h) rfl ?_
                refine a_getIz ((u + (j : Int))) 154 dX8_step_151 fX8_19 (hs2.1) rfl ((gI_n (Or.inr (by decide))).trans h3a) rfl ?_
                refine a_iconst (z := 1) 155 dX8_step_154 rfl (zrl rfl) rfl ?_
                refine a_iadd 156 dX8_step_155 (by unfold zr; omega) rfl ?_
                refine a_putI 159 dX8_step_156 fX8_19 (Or.inl rfl) (hs2.1) (Or.inl rfl) rfl ?_
                refine a_return dX8_step_159 rfl ⟨Nat.zero_le _, Nat.zero_le _⟩ ?_
                refine ⟨(h3.wr (by unfold xS; omega)).wr (by unfold xS; omega), fun v => ?_⟩
                rw [← lx_sg hsk hTb.1 (fun y => isN h100 c103 (hsg.2.1.mpr y)) (fun y => isN h74 c77 (hsg.1.mpr y))]
                have hsS : ¬ sgB (T (u + (j : Int))) := fun y => isN h127 c130 (hsg.2.2.2.2.1.mpr y)
                rw [if_neg hsS]
                refine ⟨gI_s, (gI_n (Or.inr (by decide))).trans ((gI_n (Or.inr (by decide))).trans gI_s), (gI_n (Or.inr (by decide))).trans (gI_s.trans ?_), fun z => absurd z (by dsimp only; omega), ?_⟩
                · rfl
                · exact ⟨by dsimp only; omega, by dsimp only; omega, by dsimp only; omega, fun z => absurd z (by dsimp only; omega), fun z => absurd z (by dsimp only; omega), fun z => absurd z (by dsimp only; omega)⟩
              · skip
                refine a_aload_n 134 dX8_step_133 rfl rfl ?_
                refine a_getR 137 dX8_step_134 fX8_9 (hs2.1) rfl (hs2.2.1) rfl ?_
                refine a_aload_n 138 dX8_step_137 rfl rfl ?_
                refine a_getIz ((u + (j : Int))) 141 dX8_step_138 fX8_19 (hs2.1) rfl h3a rfl ?_
                refine a_baldz (sg (T (u + (j : Int)))) 142 dX8_step_141 (hs2.2.2) (by omega) (by omega) (hc3.2.2.1 _ (by omega) (by omega)).2 rfl ?_
                refine a_goto 146 dX8_step_142 (by decide) ?_
                refine a_putI 149 dX8_step_146 fX8_25 (Or.inl rfl) (hs2.1) (Or.inl rfl) rfl ?_
                refine a_aload_n 150 dX8_step_149 rfl rfl ?_
                refine a_dup 151 dX8_step_150 (by intro w h; cases h) rfl ?_
                refine a_getIz ((u + (j : Int))) 154 dX8_step_151 fX8_19 (hs2.1) rfl ((gI_n (Or.inr (by decide))).trans h3a) rfl ?_
                refine a_iconst (z := 1) 155 dX8_step_154 rfl (zrl rfl) rfl ?_
                refine a_iadd 156 dX8_step_155 (by unfold zr; omega) rfl ?_
                refine a_putI 159 dX8_step_156 fX8_19 (Or.inl rfl) (hs2.1) (Or.inl rfl) rfl ?_
                refine a_return dX8_step_159 rfl ⟨Nat.zero_le _, Nat.zero_le _⟩ ?_
                refine ⟨(h3.wr (by unfold xS; omega)).wr (by unfold xS; omega), fun v => ?_⟩
                rw [← lx_sg hsk hTb.1 (fun y => isN h100 c103 (hsg.2.1.mpr y)) (fun y => isN h74 c77 (hsg.1.mpr y))]
                have hsS : sgB (T (u + (j : Int))) := hsg.2.2.2.2.1.mp (isT h127 c130)
                have hsv : sg (T (u + (j : Int))) = T (u + (j : Int)) := hsg.2.2.2.2.2.1 (by unfold sgB at hsS; omega)
                rw [if_pos hsS]
                refine ⟨gI_s, (gI_n (Or.inr (by decide))).trans ((gI_n (Or.inr (by decide))).trans gI_s), (gI_n (Or.inr (by decide))).trans (gI_s.trans ?_), fun z => absurd z (by dsimp only; omega), ?_⟩
                · rw [hsv]; rfl
                · exact ⟨by dsimp only; omega, by dsimp only; omega, by dsimp only; omega, fun z => hsS, fun z => absurd z (by dsimp only; omega), fun z => absurd z (by dsimp only; omega)⟩
            · skip
              refine a_aload_n 107 dX8_step_106 rfl rfl ?_
              refine a_aload_n 108 dX8_step_107 rfl rfl ?_
              refine a_callV 111 (c8_stepWord _ hs3 hc3 (q := (u + (j : Int))) ⟨by omega, hqL⟩ h3a gI_s (hsg.2.1.mp (isT h100 c103))) cdX8_stepWord lX8_123 dX8_step_108 rfl (hs2.1) rfl ⟨by decide, by decide, rfl, rfl⟩ ⟨Nat.zero_le _, Nat.zero_le _⟩ (Nat.le_of_ble_eq_true rfl) rfl ?_
              rintro _ g4 - ⟨n, hn, hsk4, rfl, s4, h4a⟩ -
              refine a_putI 114 dX8_step_111 fX8_25 (Or.inl rfl) ((TXs.keep s4 hs3).1) (Or.inl rfl) rfl ?_
              refine a_goto 159 dX8_step_114 (by decide) ?_
              refine a_return dX8_step_159 rfl ⟨Nat.zero_le _, Nat.zero_le _⟩ ?_
              have h4 : sameB xS g g4 := h3.tr (s4.mono (fun a k q => by unfold xN at q; unfold xS; omega))
              have h4s : g4.2.1 26 3 = (u + (j : Int)) := (s4.2.2 26 3 (by unfold xN; omega)).trans gI_s
              refine ⟨h4.wr (by unfold xS; omega), fun v => ?_⟩
              rw [← lx_wd hsk (hsg.2.1.mp (isT h100 c103)) hsk4]
              have hwe := (wE_is (T := T) (q := (u + (j : Int))) hn.1 hsk4.2.1).2
              refine ⟨(gI_n (Or.inr (by decide))).trans h4a, (gI_n (Or.inr (by decide))).trans h4s, gI_s.trans ?_, fun z => ?_, ?_⟩
              · dsimp only
                by_cases y : wE T (u + (j : Int)) n = -9
                · rw [if_pos y, if_pos y]; rfl
                · rw [if_neg y, if_neg y]; rfl
              · exfalso; dsimp only at z; split at z <;> omega
              · refine ⟨by dsimp only; omega, by dsimp only; omega, ?_, fun z => ?_, fun z => ?_, fun z => ?_⟩
                · dsimp only; split <;> omega
                · exfalso; dsimp only at z; split at z <;> omega
                · dsimp only at z ⊢
                  rcases hwe with y | y
                  · rw [if_pos y] at z; omega
                  · exact y
                · exfalso; dsimp only at z; split at z <;> omega
          · skip
            refine a_aload_n 81 dX8_step_80 rfl rfl ?_
            refine a_aload_n 82 dX8_step_81 rfl rfl ?_
            refine a_callV 85 (c8_stepNumber _ hs3 hc3 (q := (u + (j : Int))) ⟨by omega, hqL⟩ h3a gI_s (hsg.1.mp (isT h74 c77))) cdX8_stepNumber lX8_116 dX8_step_82 rfl (hs2.1) rfl ⟨by decide, by decide, rfl, rfl⟩ ⟨Nat.zero_le _, Nat.zero_le _⟩ (Nat.le_of_ble_eq_true rfl) rfl ?_
            rintro _ g4 - ⟨n, hn, hsk4, rfl, s4, h4a, h4n⟩ -
            refine a_putI 88 dX8_step_85 fX8_25 (Or.inl rfl) ((TXs.keep s4 hs3).1) (Or.inl rfl) rfl ?_
            refine a_goto 159 dX8_step_88 (by decide) ?_
            refine a_return dX8_step_159 rfl ⟨Nat.zero_le _, Nat.zero_le _⟩ ?_
            have h4 : sameB xS g g4 := h3.tr (s4.mono (fun a k q => by unfold xN at q; unfold xS; omega))
            have h4s : g4.2.1 26 3 = (u + (j : Int)) := (s4.2.2 26 3 (by unfold xN; omega)).trans gI_s
            refine ⟨h4.wr (by unfold xS; omega), fun v => ?_⟩
            rw [← lx_nm hsk (hsg.1.mp (isT h74 c77)) hsk4]
            have hnv := nv_le (T := T) (q := (u + (j : Int))) n hsk4.2.1
            refine ⟨(gI_n (Or.inr (by decide))).trans h4a, (gI_n (Or.inr (by decide))).trans h4s, gI_s.trans ?_, fun z => (gI_n (Or.inr (by decide))).trans (h4n ?_), ?_⟩
            · dsimp only
              by_cases y : nB T (u + (j : Int)) n
              · rw [if_pos y, if_pos y]; rfl
              · rw [if_neg y, if_neg y]; rfl
            · intro y; dsimp only at z; rw [if_pos y] at z; omega
            · refine ⟨by dsimp only; omega, by dsimp only; omega, ?_, fun z => ?_, fun z => ?_, fun z => ?_⟩
              · dsimp only; split <;> omega
              · exfalso; dsimp only at z; split at z <;> omega
              · exfalso; dsimp only at z; split at z <;> omega
              · dsimp only at z ⊢
                have y : ¬ nB T (u + (j : Int)) n := fun y => by rw [if_pos y] at z; omega
                unfold nB at y; omega
        · skip
          refine a_aload_n 58 dX8_step_57 rfl rfl ?_
          refine a_iconst (z := 1) 59 dX8_step_58 rfl (zrl rfl) rfl ?_
          refine a_putI 62 dX8_step_59 fX8_25 (Or.inl rfl) (hs2.1) (Or.inl rfl) rfl ?_
          refine a_goto 159 dX8_step_62 (by decide) ?_
          refine a_return dX8_step_159 rfl ⟨Nat.zero_le _, Nat.zero_le _⟩ ?_
          have hTn : T (u + (j : Int)) = -1 := hc3.2.2.2 _ (by omega)
          refine ⟨h3.wr (by unfold xS; omega), fun v => ?_⟩
          rw [← lx_end hsk (by omega)]
          refine ⟨(gI_n (Or.inr (by decide))).trans h3a, (gI_n (Or.inr (by decide))).trans gI_s, gI_s.trans rfl, fun z => absurd z (by dsimp only; omega), ?_⟩
          exact ⟨by dsimp only; omega, by dsimp only; omega, by dsimp only; omega, fun z => absurd z (by dsimp only; omega), fun z => absurd z (by dsimp only; omega), fun z => absurd z (by dsimp only; omega)⟩
      · skip
        have hb32 : T (u + (j : Int)) = 32 := hsg.2.2.1.mp c22
        refine a_aload_n 26 dX8_step_25 rfl rfl ?_
        refine a_dup 27 dX8_step_26 (by intro w h; cases h) rfl ?_
        refine a_getIz ((u + (j : Int))) 30 dX8_step_27 fX8_19 (hs2.1) rfl h2a rfl ?_
        refine a_iconst (z := 1) 31 dX8_step_30 rfl (zrl rfl) rfl ?_
        refine a_iadd 32 dX8_step_31 (by unfold zr; omega) rfl ?_
        refine a_putI 35 dX8_step_32 fX8_19 (Or.inl rfl) (hs2.1) (Or.inl rfl) rfl ?_
        refine a_goto 0 dX8_step_35 (by decide) ?_
        refine ih0 (_, j + 1) ⟨h2.wr (by unfold xS; omega), gI_s.trans (by dsimp only; omega), by dsimp only; omega, fun x a b => ?_⟩ (by dsimp only; omega)
        by_cases e : x = u + j
        · rw [e]; exact hb32
        · exact hall x a (by dsimp only at b; omega)
  · exact ⟨sameB.rf, by dsimp only; omega, by dsimp only; omega, fun x a b => by dsimp only at b; omega⟩
