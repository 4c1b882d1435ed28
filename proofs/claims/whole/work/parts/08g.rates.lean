noncomputable def rs (T : Int → Int) (v : Int) : Nat → PS
  | 0 => adv T (0, 0, 0, v, -1)
  | n + 1 => q16 T (rs T v n)
abbrev goP (s : PS) : Prop := s.2.2.2.2 < 0 ∧ s.2.1 ≠ 0
/-- the reader stands after d rules -/
def rtE (T : Int → Int) (v : Int) (d : Nat) : Prop := d ≤ 12 ∧ (∀ i, i < d → goP (rs T v i)) ∧ (goP (rs T v d) → d = 12)
theorem rtE.uniq {T : Int → Int} {v : Int} {d e : Nat} (a : rtE T v d) (b : rtE T v e) : d = e := by
  rcases Nat.lt_trichotomy d e with z | z | z
  · have := a.2.2 (b.2.1 d z); have := b.1; omega
  · exact z
  · have := b.2.2 (a.2.1 e z); have := a.1; omega
noncomputable def ftE (T : Int → Int) (v : Int) (d : Nat) : Int := if goP (rs T v d) then (rs T v d).2.2.1 else (rs T v d).2.2.2.2
noncomputable def stF (T : Int → Int) (v : Int) (d f : Nat) : PS := if f = 1 then fl (rs T v d) else rs T v d
def vX (a k : Nat) : Prop := bX a k ∨ (a = 1000 ∧ k = 36) ∨ (a = 1037 ∧ 120 ≤ k)
theorem vX_scr : ∀ a k, vX a k → scr a k := by unfold vX bX scr; omega
theorem bX_vX : ∀ a k, bX a k → vX a k := fun _ _ h => Or.inl h
theorem rX_vX {n : Int} (hn : 120 ≤ n) : ∀ a k, rX n a k → vX a k := by unfold vX rX bX; omega
theorem tx_v {g g' : GH} (h : sameB vX g g') : tx g'.2.1 = tx g.2.1 := tx_eq h (by unfold vX bX; omega) (fun k => by unfold vX bX; omega)
def cp1 (a k : Nat) : Prop := a = 1037 ∧ k < 120
def zX (a k : Nat) : Prop := scr a k ∨ a = 1037 ∨ (a = 1000 ∧ (k = 29 ∨ k = 35))
theorem p5_wr2 {g : GH} {k : Nat} {v : Int} (hk : k = 36) : p5 (gI g 1000 k v).2.1 = p5 g.2.1 := by
  subst hk; unfold p5; rw [gI_n (Or.inr (by decide)), gI_n (Or.inr (by decide)), gI_n (Or.inr (by decide)), gI_n (Or.inr (by decide)), gI_n (Or.inr (by decide))]
theorem okP_wr2 {g : GH} {k : Nat} {v : Int} (hk : k = 36) (h : okP g.2.1) : okP (gI g 1000 k v).2.1 := by
  subst hk; unfold okP at h ⊢; rw [gI_n (Or.inr (by decide)), gI_n (Or.inr (by decide)), gI_n (Or.inr (by decide)), gI_n (Or.inr (by decide)), gI_n (Or.inr (by decide))]; exact h
set_option maxHeartbeats 4000000 in
set_option maxRecDepth 100000 in
theorem r_rates (g : GH) (hM : MR g) (hV : MV g.2.1) : AMet mX12_rates g [vA 1000] (fun r g' => ∃ d : Nat, rtE (tx (gI g 1000 0 0).2.1) ((gI g 1000 0 0).2.1 1000 33) d ∧ ((ftE (tx (gI g 1000 0 0).2.1) ((gI g 1000 0 0).2.1 1000 33) d < 0 ∧ r = vI (d : Int) ∧ sameB zX (gI g 1000 0 0) g' ∧ g'.2.1 1000 35 = d ∧ g'.2.1 1000 29 = 0 ∧ (∀ i : Nat, i < d → ∀ j : Nat, j < 10 → g'.2.1 1037 (10 * i + j) = vr (tx (gI g 1000 0 0).2.1) (rs (tx (gI g 1000 0 0).2.1) ((gI g 1000 0 0).2.1 1000 33) i) j) ∧ ∀ i : Nat, i < d → rlK (vr (tx (gI g 1000 0 0).2.1) (rs (tx (gI g 1000 0 0).2.1) ((gI g 1000 0 0).2.1 1000 33) i))) ∨ (0 ≤ ftE (tx (gI g 1000 0 0).2.1) ((gI g 1000 0 0).2.1 1000 33) d ∧ r = vI (-10 - ftE (tx (gI g 1000 0 0).2.1) ((gI g 1000 0 0).2.1 1000 33) d) ∧ Keep (gI g 1000 0 0) g'))) := by
  refine AMet.of [vA 1000, none] (by decide) rfl (Nat.le_of_ble_eq_true rfl) ?_
  refine a_aload_n 1 dX12_rates_0 rfl rfl ?_
  refine a_iconst (z := 0) 2 dX12_rates_1 rfl (zrl rfl) rfl ?_
  refine a_putI 5 dX12_rates_2 fX12_80 (Or.inl rfl) hM.1 (Or.inl rfl) rfl ?_
  have hM : MR (gI g 1000 0 0) := hM
  have hV : MV (gI g 1000 0 0).2.1 := MV_th hV
  have hc := hV.1
  unfold MVc at hc
  generalize gI g 1000 0 0 = g1 at hM hV hc ⊢
  refine a_aload_n 6 dX12_rates_5 rfl rfl ?_
  refine a_iconst (z := (-1)) 7 dX12_rates_6 rfl (zrl rfl) rfl ?_
  refine a_putI 10 dX12_rates_7 fX12_195 (Or.inl rfl) hM.1 (Or.inl rfl) rfl ?_
  refine a_aload_n 11 dX12_rates_10 rfl rfl ?_
  refine a_iconst (z := 0) 12 dX12_rates_11 rfl (zrl rfl) rfl ?_
  refine a_putI 15 dX12_rates_12 fX12_177 (Or.inl rfl) hM.1 (Or.inl rfl) rfl ?_
  refine a_aload_n 16 dX12_rates_15 rfl rfl ?_
  refine a_iconst (z := 0) 17 dX12_rates_16 rfl (zrl rfl) rfl ?_
  refine a_putI 20 dX12_rates_17 fX12_224 (Or.inl rfl) hM.1 (Or.inl rfl) rfl ?_
  have sa : sameB vX g1 (gI (gI (gI g1 1000 34 (-1)) 1000 30 0) 1000 36 0) := ((sameB.rf.wr (Or.inl ⟨rfl, by decide, by decide⟩)).wr (Or.inl ⟨rfl, by decide, by decide⟩)).wr (Or.inr (Or.inl ⟨rfl, rfl⟩))
  have a36 : (gI (gI (gI g1 1000 34 (-1)) 1000 30 0) 1000 36 0).2.1 1000 36 = 0 := gI_s
  have pa : adv (tx g1.2.1) (p5 (gI (gI (gI g1 1000 34 (-1)) 1000 30 0) 1000 36 0).2.1) = (rs (tx g1.2.1) (g1.2.1 1000 33) 0) := by
    rw [p5_wr2 rfl]; unfold p5
    rw [gI_s, gI_n (Or.inr (by decide)), gI_n (Or.inr (by decide)), gI_n (Or.inr (by decide)), gI_n (Or.inr (by decide)), gI_n (Or.inr (by decide)), gI_n (Or.inr (by decide)), gI_n (Or.inr (by decide)), gI_s]; rfl
  have oa : 0 ≤ (gI (gI (gI g1 1000 34 (-1)) 1000 30 0) 1000 36 0).2.1 1000 30 ∧ (gI (gI (gI g1 1000 34 (-1)) 1000 30 0) 1000 36 0).2.1 1000 30 ≤ (gI (gI (gI g1 1000 34 (-1)) 1000 30 0) 1000 36 0).2.1 1000 29 := by
    rw [gI_n (Or.inr (by decide)), gI_s, gI_n (Or.inr (by decide)), gI_n (Or.inr (by decide)), gI_n (Or.inr (by decide))]; omega
  have a34 : (gI (gI (gI g1 1000 34 (-1)) 1000 30 0) 1000 36 0).2.1 1000 34 ≤ 600 := by
    rw [gI_n (Or.inr (by decide)), gI_n (Or.inr (by decide)), gI_s]; decide
  generalize gI (gI (gI g1 1000 34 (-1)) 1000 30 0) 1000 36 0 = ga at sa a36 pa oa a34 ⊢
  have hVa := MV_keep vX_scr sa hV
  refine a_aload_n 21 dX12_rates_20 rfl rfl ?_
  refine a_callV 24 (r_adv0 _ (sa.MR hM) hVa oa a34) cdX12_advances lX12_205 dX12_rates_21 rfl (sa.MR hM).1 rfl ⟨by decide, by decide, rfl, rfl⟩ ⟨Nat.zero_le _, Nat.zero_le _⟩ (Nat.le_of_ble_eq_true rfl) rfl ?_
  rintro _ g21 - ⟨s21, e21, o21⟩ -
  rw [show tx ga.2.1 = (tx g1.2.1) from tx_v sa, pa] at e21
  have e21 : p5 g21.2.1 = (rs (tx g1.2.1) (g1.2.1 1000 33) 0) := e21
  have hs21 := sa.tr (s21.mono bX_vX)
  have k36 : g21.2.1 1000 36 = 0 := (s21.2.2 1000 36 (by unfold bX; omega)).trans a36
  refine AW.loop (α := GH × Nat × Nat) (fun p => 13 - p.2.1 + (1 - p.2.2)) (fun p => sameB vX g1 p.1 ∧ p.1.2.1 1000 36 = p.2.1 ∧ okP p.1.2.1 ∧ p5 p.1.2.1 = stF (tx g1.2.1) (g1.2.1 1000 33) p.2.1 p.2.2 ∧ (p.2.1 ≤ 12 ∧ p.2.2 ≤ 1 ∧ (p.2.2 = 1 → p.2.1 = 12)) ∧ (∀ i, i < p.2.1 → goP (rs (tx g1.2.1) (g1.2.1 1000 33) i)) ∧ (p.2.2 = 1 → goP (rs (tx g1.2.1) (g1.2.1 1000 33) 12)) ∧ (∀ i, i < p.2.1 → cB (vr (tx g1.2.1) (rs (tx g1.2.1) (g1.2.1 1000 33) i)) (120 + 10 * (i : Int)) 10 p.1) ∧ ((stF (tx g1.2.1) (g1.2.1 1000 33) p.2.1 p.2.2).2.2.2.2 < 0 → ∀ i, i < p.2.1 → rlK (vr (tx g1.2.1) (rs (tx g1.2.1) (g1.2.1 1000 33) i)))) (fun p => p.1) (fun p => [vA 1000, none]) (fun p => []) ?_ (g21, 0, 0) ?_
  · rintro ⟨g2, d, f⟩ ⟨hs, h36, ho, hq, hd, hg, hf, hB, hw⟩ ih24
    try dsimp only at hI ih ⊢
    try dsimp only at hs h36 ho hq hd hg hf hB hw ih24 ⊢
    have e34 : g2.2.1 1000 34 = (stF (tx g1.2.1) (g1.2.1 1000 33) d f).2.2.2.2 := congrArg (fun x : PS => x.2.2.2.2) hq
    have e31 : g2.2.1 1000 31 = (stF (tx g1.2.1) (g1.2.1 1000 33) d f).2.1 := congrArg (fun x : PS => x.2.1) hq
    have e32 : g2.2.1 1000 32 = (stF (tx g1.2.1) (g1.2.1 1000 33) d f).2.2.1 := congrArg (fun x : PS => x.2.2.1) hq
    have hf600 := ho.2.2.2
    rw [e34] at hf600
    refine a_aload_n 25 dX12_rates_24 rfl rfl ?_
    refine a_callV 28 (r_isWell _ (hs.MR hM)) cdX12_isWell lX12_198 dX12_rates_25 rfl (hs.MR hM).1 rfl ⟨by decide, by decide, rfl, rfl⟩ ⟨Nat.zero_le _, Nat.zero_le _⟩ (Nat.le_of_ble_eq_true rfl) rfl ?_
    rintro _ _ - ⟨b25, rfl, rfl, h25⟩ -
    rw [e34] at h25
    refine a_if_eq 81 31 dX12_rates_28 (by decide) rfl (fun c28 => ?_) (fun c28 => ?_)
    · skip
      refine a_aload_n 82 dX12_rates_81 rfl rfl ?_
      refine a_callV 85 (r_isWell _ (hs.MR hM)) cdX12_isWell lX12_198 dX12_rates_82 rfl (hs.MR hM).1 rfl ⟨by decide, by decide, rfl, rfl⟩ ⟨Nat.zero_le _, Nat.zero_le _⟩ (Nat.le_of_ble_eq_true rfl) rfl ?_
      rintro _ _ - ⟨b82, rfl, rfl, h82⟩ -
      rw [e34] at h82
      refine a_if_ne 96 88 dX12_rates_85 (by decide) rfl (fun c85 => ?_) (fun c85 => ?_)
      · skip
        refine a_iconst (z := 0) 97 dX12_rates_96 rfl (zrl rfl) rfl ?_
        refine a_istore_n 98 dX12_rates_97 (by decide) rfl rfl ?_
        refine AW.loop (α := GH × Nat) (fun p => 120 - p.2) (fun p => sameB cp1 g2 p.1 ∧ p.2 ≤ 120 ∧ ∀ k : Nat, k < p.2 → p.1.2.1 1037 k = g2.2.1 1037 (120 + k)) (fun p => p.1) (fun p => [vA 1000, vI (p.2 : Int)]) (fun p => []) ?_ (g2, 0) ?_
        · rintro ⟨g5, k⟩ ⟨h5, hk5, hc5⟩ ih98
          try dsimp only at hI ih ⊢
          try dsimp only at h5 hk5 hc5 ih98 ⊢
          refine a_iload_n 99 dX12_rates_98 rfl rfl ?_
          refine a_bipush (z := 120) 101 dX12_rates_99 rfl (zrl rfl) rfl ?_
          refine a_icmp_ge 125 104 dX12_rates_101 (by decide) rfl (fun c101 => ?_) (fun c101 => ?_)
          · skip
            refine a_aload_n 126 dX12_rates_125 rfl rfl ?_
            refine a_aload_n 127 dX12_rates_126 rfl rfl ?_
            refine a_getIz (d) 130 dX12_rates_127 fX12_224 (h5.MR (hs.MR hM)).1 rfl ((h5.2.2 1000 36 (by unfold cp1; omega)).trans h36) rfl ?_
            refine a_putI 133 dX12_rates_130 fX12_230 (Or.inl rfl) (h5.MR (hs.MR hM)).1 (Or.inl rfl) rfl ?_
            refine a_aload_n 134 dX12_rates_133 rfl rfl ?_
            refine a_iconst (z := 0) 135 dX12_rates_134 rfl (zrl rfl) rfl ?_
            refine a_putI 138 dX12_rates_135 fX12_168 (Or.inl rfl) (h5.MR (hs.MR hM)).1 (Or.inl rfl) rfl ?_
            refine a_aload_n 139 dX12_rates_138 rfl rfl ?_
            refine a_getIz (d) 142 dX12_rates_139 fX12_230 (h5.MR (hs.MR hM)).1 rfl ((gI_n (Or.inr (by decide))).trans gI_s) rfl ?_
            refine a_ireturn dX12_rates_142 rfl ⟨Nat.zero_le _, Nat.zero_le _⟩ ?_
            have z0 : (stF (tx g1.2.1) (g1.2.1 1000 33) d f).2.2.2.2 < 0 := isT h82 c85
            have hf0 : f = 0 := Classical.byContradiction (fun z => by
              have z1 : f = 1 := by omega
              subst z1
              have z3 : 0 ≤ (rs (tx g1.2.1) (g1.2.1 1000 33) d).2.2.1 := by have := ho.2.1.1; rw [e32] at this; exact this
              exact fl_w z3 z0)
            subst hf0
            have e0 : stF (tx g1.2.1) (g1.2.1 1000 33) d 0 = (rs (tx g1.2.1) (g1.2.1 1000 33) d) := rfl
            have hk120 : k = 120 := by omega
            subst hk120
            have hng : ¬ goP (rs (tx g1.2.1) (g1.2.1 1000 33) d) := fun z => by
              have y1 := z.2
              have y2 := z.1
              first
              | (rw [e0] at c35; exact y1 c35)
              | (rw [e0] at h25; exact isN h25 c28 y2)
            have e1 : ftE (tx g1.2.1) (g1.2.1 1000 33) d = (rs (tx g1.2.1) (g1.2.1 1000 33) d).2.2.2.2 := by unfold ftE; rw [if_neg hng]
            rw [e0] at z0 hw
            refine ⟨d, ⟨hd.1, hg, fun z => absurd z hng⟩, Or.inl ⟨by rw [e1]; exact z0, rfl, ?_, ?_, gI_s, fun i hi j hj => ?_, hw z0⟩⟩
            · refine (((hs.mono (fun a k z => Or.inl (vX_scr a k z))).tr (h5.mono (fun a k z => Or.inr (Or.inl z.1)))).wr (Or.inr (Or.inr ⟨rfl, Or.inr rfl⟩))).wr (Or.inr (Or.inr ⟨rfl, Or.inl rfl⟩))
            · rw [gI_n (Or.inr (by decide)), gI_s]
            · rw [gI_n (Or.inl (by decide)), gI_n (Or.inl (by decide)), hc5 (10 * i + j) (by omega)]
              have := hB i hi j hj
              rw [show (120 + 10 * (i : Int) + (j : Int)).toNat = 120 + (10 * i + j) by omega] at this
              exact this
          · skip
            refine a_aload_n 105 dX12_rates_104 rfl rfl ?_
            refine a_getR 108 dX12_rates_105 fX12_74 (h5.MR (hs.MR hM)).1 rfl (mr_37 (h5.MR (hs.MR hM))).1 rfl ?_
            refine a_iload_n 109 dX12_rates_108 rfl rfl ?_
            refine a_aload_n 110 dX12_rates_109 rfl rfl ?_
            refine a_getR 113 dX12_rates_110 fX12_74 (h5.MR (hs.MR hM)).1 rfl (mr_37 (h5.MR (hs.MR hM))).1 rfl ?_
            refine a_bipush (z := 120) 115 dX12_rates_113 rfl (zrl rfl) rfl ?_
            refine a_iload_n 116 dX12_rates_115 rfl rfl ?_
            refine a_iadd 117 dX12_rates_116 (by unfold zr; omega) rfl ?_
            refine a_iald 118 dX12_rates_117 (mr_37 (h5.MR (hs.MR hM))).2 (by omega) (by omega) rfl ?_
            refine a_iast 119 dX12_rates_118 (mr_37 (h5.MR (hs.MR hM))).2 (by omega) (by omega) rfl ?_
            refine a_iinc 122 dX12_rates_119 rfl (by unfold zr; omega) (by decide) rfl rfl ?_
            refine a_goto 98 dX12_rates_122 (by decide) ?_
            refine ih98 (gI g5 1037 (k : Int).toNat _, k + 1) ⟨h5.wr ⟨rfl, by omega⟩, by dsimp only; omega, fun x hx => ?_⟩ (by dsimp only; omega)
            show (gI g5 1037 (k : Int).toNat _).2.1 1037 x = _
            by_cases e : x = k
            · subst e; rw [Int.toNat_natCast, gI_s, h5.2.2 1037 _ (by unfold cp1; omega), show (120 + (x : Int)).toNat = 120 + x by omega]
            · rw [gI_n (Or.inr (by omega))]; exact hc5 x (by dsimp only at hx; omega)
        · exact ⟨sameB.rf, Nat.zero_le _, fun k h => absurd h (Nat.not_lt_zero _)⟩
      · skip
        refine a_bipush (z := (-10)) 90 dX12_rates_88 rfl (zrl rfl) rfl ?_
        refine a_aload_n 91 dX12_rates_90 rfl rfl ?_
        refine a_getIz ((stF (tx g1.2.1) (g1.2.1 1000 33) d f).2.2.2.2) 94 dX12_rates_91 fX12_195 (hs.MR hM).1 rfl e34 rfl ?_
        refine a_isub 95 dX12_rates_94 (by unfold zr; omega) rfl ?_
        refine a_ireturn dX12_rates_95 rfl ⟨Nat.zero_le _, Nat.zero_le _⟩ ?_
        have z0 : ¬ (stF (tx g1.2.1) (g1.2.1 1000 33) d f).2.2.2.2 < 0 := isN h82 c85
        by_cases hf1 : f = 1
        · subst hf1
          have hd12 : d = 12 := hd.2.2 rfl
          subst hd12
          have e1 : ftE (tx g1.2.1) (g1.2.1 1000 33) 12 = (stF (tx g1.2.1) (g1.2.1 1000 33) 12 1).2.2.2.2 := by
            unfold ftE; rw [if_pos (hf rfl)]
            show _ = (if (rs (tx g1.2.1) (g1.2.1 1000 33) 12).2.2.2.2 < 0 then (rs (tx g1.2.1) (g1.2.1 1000 33) 12).2.2.1 else (rs (tx g1.2.1) (g1.2.1 1000 33) 12).2.2.2.2)
            rw [if_pos (hf rfl).1]
          exact ⟨12, ⟨Nat.le_refl _, hg, fun _ => rfl⟩, Or.inr ⟨by rw [e1]; omega, by rw [e1], hs.mono vX_scr⟩⟩
        · have hf0 : f = 0 := by omega
          subst hf0
          have e0 : stF (tx g1.2.1) (g1.2.1 1000 33) d 0 = (rs (tx g1.2.1) (g1.2.1 1000 33) d) := rfl
          rw [e0] at z0
          have e1 : ftE (tx g1.2.1) (g1.2.1 1000 33) d = (stF (tx g1.2.1) (g1.2.1 1000 33) d 0).2.2.2.2 := by
            unfold ftE; rw [if_neg (fun z => z0 z.1)]; rfl
          exact ⟨d, ⟨hd.1, hg, fun z => absurd z.1 z0⟩, Or.inr ⟨by rw [e1, e0]; omega, by rw [e1], hs.mono vX_scr⟩⟩
    · skip
      refine a_aload_n 32 dX12_rates_31 rfl rfl ?_
      refine a_getIz ((stF (tx g1.2.1) (g1.2.1 1000 33) d f).2.1) 35 dX12_rates_32 fX12_186 (hs.MR hM).1 rfl e31 rfl ?_
      refine a_if_eq 81 38 dX12_rates_35 (by decide) rfl (fun c35 => ?_) (fun c35 => ?_)
      · skip
        refine a_aload_n 82 dX12_rates_81 rfl rfl ?_
        refine a_callV 85 (r_isWell _ (hs.MR hM)) cdX12_isWell lX12_198 dX12_rates_82 rfl (hs.MR hM).1 rfl ⟨by decide, by decide, rfl, rfl⟩ ⟨Nat.zero_le _, Nat.zero_le _⟩ (Nat.le_of_ble_eq_true rfl) rfl ?_
        rintro _ _ - ⟨b82, rfl, rfl, h82⟩ -
        rw [e34] at h82
        refine a_if_ne 96 88 dX12_rates_85 (by decide) rfl (fun c85 => ?_) (fun c85 => ?_)
        · skip
          refine a_iconst (z := 0) 97 dX12_rates_96 rfl (zrl rfl) rfl ?_
          refine a_istore_n 98 dX12_rates_97 (by decide) rfl rfl ?_
          refine AW.loop (α := GH × Nat) (fun p => 120 - p.2) (fun p => sameB cp1 g2 p.1 ∧ p.2 ≤ 120 ∧ ∀ k : Nat, k < p.2 → p.1.2.1 1037 k = g2.2.1 1037 (120 + k)) (fun p => p.1) (fun p => [vA 1000, vI (p.2 : Int)]) (fun p => []) ?_ (g2, 0) ?_
          · rintro ⟨g5, k⟩ ⟨h5, hk5, hc5⟩ ih98
            try dsimp only at hI ih ⊢
            try dsimp only at h5 hk5 hc5 ih98 ⊢
            refine a_iload_n 99 dX12_rates_98 rfl rfl ?_
            refine a_bipush (z := 120) 101 dX12_rates_99 rfl (zrl rfl) rfl ?_
            refine a_icmp_ge 125 104 dX12_rates_101 (by decide) rfl (fun c101 => ?_) (fun c101 => ?_)
            · skip
              refine a_aload_n 126 dX12_rates_125 rfl rfl ?_
              refine a_aload_n 127 dX12_rates_126 rfl rfl ?_
              refine a_getIz (d) 130 dX12_rates_127 fX12_224 (h5.MR (hs.MR hM)).1 rfl ((h5.2.2 1000 36 (by unfold cp1; omega)).trans h36) rfl ?_
              refine a_putI 133 dX12_rates_130 fX12_230 (Or.inl rfl) (h5.MR (hs.MR hM)).1 (Or.inl rfl) rfl ?_
              refine a_aload_n 134 dX12_rates_133 rfl rfl ?_
              refine a_iconst (z := 0) 135 dX12_rates_134 rfl (zrl rfl) rfl ?_
              refine a_putI 138 dX12_rates_135 fX12_168 (Or.inl rfl) (h5.MR (hs.MR hM)).1 (Or.inl rfl) rfl ?_
              refine a_aload_n 139 dX12_rates_138 rfl rfl ?_
              refine a_getIz (d) 142 dX12_rates_139 fX12_230 (h5.MR (hs.MR hM)).1 rfl ((gI_n (Or.inr (by decide))).trans gI_s) rfl ?_
              refine a_ireturn dX12_rates_142 rfl ⟨Nat.zero_le _, Nat.zero_le _⟩ ?_
              have z0 : (stF (tx g1.2.1) (g1.2.1 1000 33) d f).2.2.2.2 < 0 := isT h82 c85
              have hf0 : f = 0 := Classical.byContradiction (fun z => by
                have z1 : f = 1 := by omega
                subst z1
                have z3 : 0 ≤ (rs (tx g1.2.1) (g1.2.1 1000 33) d).2.2.1 := by have := ho.2.1.1; rw [e32] at this; exact this
                exact fl_w z3 z0)
              subst hf0
              have e0 : stF (tx g1.2.1) (g1.2.1 1000 33) d 0 = (rs (tx g1.2.1) (g1.2.1 1000 33) d) := rfl
              have hk120 : k = 120 := by omega
              subst hk120
              have hng : ¬ goP (rs (tx g1.2.1) (g1.2.1 1000 33) d) := fun z => by
                have y1 := z.2
                have y2 := z.1
                first
                | (rw [e0] at c35; exact y1 c35)
                | (rw [e0] at h25; exact isN h25 c28 y2)
              have e1 : ftE (tx g1.2.1) (g1.2.1 1000 33) d = (rs (tx g1.2.1) (g1.2.1 1000 33) d).2.2.2.2 := by unfold ftE; rw [if_neg hng]
              rw [e0] at z0 hw
              refine ⟨d, ⟨hd.1, hg, fun z => absurd z hng⟩, Or.inl ⟨by rw [e1]; exact z0, rfl, ?_, ?_, gI_s, fun i hi j hj => ?_, hw z0⟩⟩
              · refine (((hs.mono (fun a k z => Or.inl (vX_scr a k z))).tr (h5.mono (fun a k z => Or.inr (Or.inl z.1)))).wr (Or.inr (Or.inr ⟨rfl, Or.inr rfl⟩))).wr (Or.inr (Or.inr ⟨rfl, Or.inl rfl⟩))
              · rw [gI_n (Or.inr (by decide)), gI_s]
              · rw [gI_n (Or.inl (by decide)), gI_n (Or.inl (by decide)), hc5 (10 * i + j) (by omega)]
                have := hB i hi j hj
                rw [show (120 + 10 * (i : Int) + (j : Int)).toNat = 120 + (10 * i + j) by omega] at this
                exact this
            · skip
              refine a_aload_n 105 dX12_rates_104 rfl rfl ?_
              refine a_getR 108 dX12_rates_105 fX12_74 (h5.MR (hs.MR hM)).1 rfl (mr_37 (h5.MR (hs.MR hM))).1 rfl ?_
              refine a_iload_n 109 dX12_rates_108 rfl rfl ?_
              refine a_aload_n 110 dX12_rates_109 rfl rfl ?_
              refine a_getR 113 dX12_rates_110 fX12_74 (h5.MR (hs.MR hM)).1 rfl (mr_37 (h5.MR (hs.MR hM))).1 rfl ?_
              refine a_bipush (z := 120) 115 dX12_rates_113 rfl (zrl rfl) rfl ?_
              refine a_iload_n 116 dX12_rates_115 rfl rfl ?_
              refine a_iadd 117 dX12_rates_116 (by unfold zr; omega) rfl ?_
              refine a_iald 118 dX12_rates_117 (mr_37 (h5.MR (hs.MR hM))).2 (by omega) (by omega) rfl ?_
              refine a_iast 119 dX12_rates_118 (mr_37 (h5.MR (hs.MR hM))).2 (by omega) (by omega) rfl ?_
              refine a_iinc 122 dX12_rates_119 rfl (by unfold zr; omega) (by decide) rfl rfl ?_
              refine a_goto 98 dX12_rates_122 (by decide) ?_
              refine ih98 (gI g5 1037 (k : Int).toNat _, k + 1) ⟨h5.wr ⟨rfl, by omega⟩, by dsimp only; omega, fun x hx => ?_⟩ (by dsimp only; omega)
              show (gI g5 1037 (k : Int).toNat _).2.1 1037 x = _
              by_cases e : x = k
              · subst e; rw [Int.toNat_natCast, gI_s, h5.2.2 1037 _ (by unfold cp1; omega), show (120 + (x : Int)).toNat = 120 + x by omega]
              · rw [gI_n (Or.inr (by omega))]; exact hc5 x (by dsimp only at hx; omega)
          · exact ⟨sameB.rf, Nat.zero_le _, fun k h => absurd h (Nat.not_lt_zero _)⟩
        · skip
          refine a_bipush (z := (-10)) 90 dX12_rates_88 rfl (zrl rfl) rfl ?_
          refine a_aload_n 91 dX12_rates_90 rfl rfl ?_
          refine a_getIz ((stF (tx g1.2.1) (g1.2.1 1000 33) d f).2.2.2.2) 94 dX12_rates_91 fX12_195 (hs.MR hM).1 rfl e34 rfl ?_
          refine a_isub 95 dX12_rates_94 (by unfold zr; omega) rfl ?_
          refine a_ireturn dX12_rates_95 rfl ⟨Nat.zero_le _, Nat.zero_le _⟩ ?_
          have z0 : ¬ (stF (tx g1.2.1) (g1.2.1 1000 33) d f).2.2.2.2 < 0 := isN h82 c85
          by_cases hf1 : f = 1
          · subst hf1
            have hd12 : d = 12 := hd.2.2 rfl
            subst hd12
            have e1 : ftE (tx g1.2.1) (g1.2.1 1000 33) 12 = (stF (tx g1.2.1) (g1.2.1 1000 33) 12 1).2.2.2.2 := by
              unfold ftE; rw [if_pos (hf rfl)]
              show _ = (if (rs (tx g1.2.1) (g1.2.1 1000 33) 12).2.2.2.2 < 0 then (rs (tx g1.2.1) (g1.2.1 1000 33) 12).2.2.1 else (rs (tx g1.2.1) (g1.2.1 1000 33) 12).2.2.2.2)
              rw [if_pos (hf rfl).1]
            exact ⟨12, ⟨Nat.le_refl _, hg, fun _ => rfl⟩, Or.inr ⟨by rw [e1]; omega, by rw [e1], hs.mono vX_scr⟩⟩
          · have hf0 : f = 0 := by omega
            subst hf0
            have e0 : stF (tx g1.2.1) (g1.2.1 1000 33) d 0 = (rs (tx g1.2.1) (g1.2.1 1000 33) d) := rfl
            rw [e0] at z0
            have e1 : ftE (tx g1.2.1) (g1.2.1 1000 33) d = (stF (tx g1.2.1) (g1.2.1 1000 33) d 0).2.2.2.2 := by
              unfold ftE; rw [if_neg (fun z => z0 z.1)]; rfl
            exact ⟨d, ⟨hd.1, hg, fun z => absurd z.1 z0⟩, Or.inr ⟨by rw [e1, e0]; omega, by rw [e1], hs.mono vX_scr⟩⟩
      · skip
        refine a_aload_n 39 dX12_rates_38 rfl rfl ?_
        refine a_getIz (d) 42 dX12_rates_39 fX12_224 (hs.MR hM).1 rfl h36 rfl ?_
        refine a_bipush (z := 12) 44 dX12_rates_42 rfl (zrl rfl) rfl ?_
        refine a_icmp_ne 54 47 dX12_rates_44 (by decide) rfl (fun c44 => ?_) (fun c44 => ?_)
        · skip
          refine a_aload_n 55 dX12_rates_54 rfl rfl ?_
          refine a_bipush (z := 120) 57 dX12_rates_55 rfl (zrl rfl) rfl ?_
          refine a_bipush (z := 10) 59 dX12_rates_57 rfl (zrl rfl) rfl ?_
          refine a_aload_n 60 dX12_rates_59 rfl rfl ?_
          refine a_getIz (d) 63 dX12_rates_60 fX12_224 (hs.MR hM).1 rfl h36 rfl ?_
          refine a_imul 64 dX12_rates_63 (by unfold zr; omega) rfl ?_
          refine a_iadd 65 dX12_rates_64 (by unfold zr; omega) rfl ?_
          refine a_callV 68 (r_readsRule _ _ (hs.MR hM) (MV_keep vX_scr hs hV) ho (by omega)) cdX12_readsRule lX12_227 dX12_rates_65 rfl (hs.MR hM).1 rfl ⟨by decide, by decide, rfl, rfl⟩ ⟨Nat.zero_le _, Nat.zero_le _⟩ (Nat.le_of_ble_eq_true rfl) rfl ?_
          rintro _ g65 - ⟨s65, e65, o65, B65, w65⟩ -
          rw [tx_v hs] at e65 B65 w65
          have hs65 := hs.tr (s65.mono (rX_vX (by omega)))
          have k65 : g65.2.1 1000 36 = d := (s65.2.2 1000 36 (by unfold rX bX; omega)).trans h36
          refine a_aload_n 69 dX12_rates_68 rfl rfl ?_
          refine a_dup 70 dX12_rates_69 (by intro w h; cases h) rfl ?_
          refine a_getIz (d) 73 dX12_rates_70 fX12_224 (hs65.MR hM).1 rfl k65 rfl ?_
          refine a_iconst (z := 1) 74 dX12_rates_73 rfl (zrl rfl) rfl ?_
          refine a_iadd 75 dX12_rates_74 (by unfold zr; omega) rfl ?_
          refine a_putI 78 dX12_rates_75 fX12_224 (Or.inl rfl) (hs65.MR hM).1 (Or.inl rfl) rfl ?_
          refine a_goto 24 dX12_rates_78 (by decide) ?_
          first
          | (have hf0 : f = 0 := Classical.byContradiction (fun z => by
               have z1 : f = 1 := by omega
               subst z1
               have z2 : (stF (tx g1.2.1) (g1.2.1 1000 33) d 1).2.2.2.2 < 0 := isT h25 c28
               have z3 : 0 ≤ (rs (tx g1.2.1) (g1.2.1 1000 33) d).2.2.1 := by have := ho.2.1.1; rw [e32] at this; exact this
               exact fl_w z3 z2)
             subst hf0
             have e0 : stF (tx g1.2.1) (g1.2.1 1000 33) d 0 = (rs (tx g1.2.1) (g1.2.1 1000 33) d) := rfl
             rw [e0] at hq e34 e31 e32 hw h25 c35
             have hgo : goP (rs (tx g1.2.1) (g1.2.1 1000 33) d) := ⟨isT h25 c28, c35⟩
             have hd12 : d = 12 := by omega
             subst hd12
             have e1 : stF (tx g1.2.1) (g1.2.1 1000 33) 12 1 = fl (rs (tx g1.2.1) (g1.2.1 1000 33) 12) := rfl
             refine ih24 (g48, 12, 1) ⟨hs.tr (s48.mono bX_vX), ?_, o48, by dsimp only; rw [e1, ← hq]; exact e48, ⟨Nat.le_refl _, Nat.le_refl _, fun _ => rfl⟩, hg, fun _ => hgo, fun i hi => (hB i hi).keep s48, fun z => ?_⟩ (by dsimp only; omega)
             · exact (s48.2.2 1000 36 (by unfold bX; omega)).trans h36
             · dsimp only at z; rw [e1] at z
               exact absurd z (fl_w (by have := ho.2.1.1; rw [e32] at this; exact this)))
          | (have hf0 : f = 0 := by
               refine Classical.byContradiction (fun z => ?_)
               have z1 : f = 1 := by omega
               subst z1
               omega
             subst hf0
             have e0 : stF (tx g1.2.1) (g1.2.1 1000 33) d 0 = (rs (tx g1.2.1) (g1.2.1 1000 33) d) := rfl
             rw [e0] at hq e34 e31 e32 hw h25 c35
             rw [hq] at e65 B65 w65
             have hgo : goP (rs (tx g1.2.1) (g1.2.1 1000 33) d) := ⟨isT h25 c28, c35⟩
             have e1 : stF (tx g1.2.1) (g1.2.1 1000 33) (d + 1) 0 = q16 (tx g1.2.1) (rs (tx g1.2.1) (g1.2.1 1000 33) d) := rfl
             rw [show (d : Int) + 1 = ((d + 1 : Nat) : Int) by omega]
             refine ih24 (gI g65 1000 36 ((d + 1 : Nat) : Int), d + 1, 0) ⟨hs65.wr (Or.inr (Or.inl ⟨rfl, rfl⟩)), gI_s, okP_wr2 rfl o65, ?_, ⟨by dsimp only; omega, Nat.zero_le _, fun z => absurd (show (0 : Nat) = 1 from z) (by decide)⟩, fun i hi => ?_, fun z => absurd (show (0 : Nat) = 1 from z) (by decide), fun i hi => ?_, fun z i hi => ?_⟩ (by dsimp only; omega)
             · dsimp only; rw [e1, ← e65]; exact p5_wr2 rfl
             · by_cases y : i = d
               · rw [y]; exact hgo
               · exact hg i (by dsimp only at hi; omega)
             · intro j hj
               show (gI g65 1000 36 _).2.1 1037 _ = _
               rw [gI_n (Or.inl (by decide))]
               by_cases y : i = d
               · subst y; exact B65 j hj
               · dsimp only at hi
                 rw [s65.2.2 1037 _ (by unfold rX bX; omega)]; exact hB i (by omega) j hj
             · dsimp only at z hi; rw [e1] at z
               have y1 := w65 z
               by_cases y : i = d
               · rw [y]; exact y1.2
               · exact hw y1.1 i (by omega))
        · skip
          refine a_aload_n 48 dX12_rates_47 rfl rfl ?_
          refine a_callV 51 (r_fails _ (hs.MR hM) (MV_keep vX_scr hs hV) ho) cdX12_fails lX12_208 dX12_rates_48 rfl (hs.MR hM).1 rfl ⟨by decide, by decide, rfl, rfl⟩ ⟨Nat.zero_le _, Nat.zero_le _⟩ (Nat.le_of_ble_eq_true rfl) rfl ?_
          rintro _ g48 - ⟨s48, e48, o48⟩ -
          refine a_goto 24 dX12_rates_51 (by decide) ?_
          first
          | (have hf0 : f = 0 := Classical.byContradiction (fun z => by
               have z1 : f = 1 := by omega
               subst z1
               have z2 : (stF (tx g1.2.1) (g1.2.1 1000 33) d 1).2.2.2.2 < 0 := isT h25 c28
               have z3 : 0 ≤ (rs (tx g1.2.1) (g1.2.1 1000 33) d).2.2.1 := by have := ho.2.1.1; rw [e32] at this; exact this
               exact fl_w z3 z2)
             subst hf0
             have e0 : stF (tx g1.2.1) (g1.2.1 1000 33) d 0 = (rs (tx g1.2.1) (g1.2.1 1000 33) d) := rfl
             rw [e0] at hq e34 e31 e32 hw h25 c35
             have hgo : goP (rs (tx g1.2.1) (g1.2.1 1000 33) d) := ⟨isT h25 c28, c35⟩
             have hd12 : d = 12 := by omega
             subst hd12
             have e1 : stF (tx g1.2.1) (g1.2.1 1000 33) 12 1 = fl (rs (tx g1.2.1) (g1.2.1 1000 33) 12) := rfl
             refine ih24 (g48, 12, 1) ⟨hs.tr (s48.mono bX_vX), ?_, o48, by dsimp only; rw [e1, ← hq]; exact e48, ⟨Nat.le_refl _, Nat.le_refl _, fun _ => rfl⟩, hg, fun _ => hgo, fun i hi => (hB i hi).keep s48, fun z => ?_⟩ (by dsimp only; omega)
             · exact (s48.2.2 1000 36 (by unfold bX; omega)).trans h36
             · dsimp only at z; rw [e1] at z
               exact absurd z (fl_w (by have := ho.2.1.1; rw [e32] at this; exact this)))
          | (have hf0 : f = 0 := by
               refine Classical.byContradiction (fun z => ?_)
               have z1 : f = 1 := by omega
               subst z1
               omega
             subst hf0
             have e0 : stF (tx g1.2.1) (g1.2.1 1000 33) d 0 = (rs (tx g1.2.1) (g1.2.1 1000 33) d) := rfl
             rw [e0] at hq e34 e31 e32 hw h25 c35
             rw [hq] at e65 B65 w65
             have hgo : goP (rs (tx g1.2.1) (g1.2.1 1000 33) d) := ⟨isT h25 c28, c35⟩
             have e1 : stF (tx g1.2.1) (g1.2.1 1000 33) (d + 1) 0 = q16 (tx g1.2.1) (rs (tx g1.2.1) (g1.2.1 1000 33) d) := rfl
             rw [show (d : Int) + 1 = ((d + 1 : Nat) : Int) by omega]
             refine ih24 (gI g65 1000 36 ((d + 1 : Nat) : Int), d + 1, 0) ⟨hs65.wr (Or.inr (Or.inl ⟨rfl, rfl⟩)), gI_s, okP_wr2 rfl o65, ?_, ⟨by dsimp only; omega, Nat.zero_le _, fun z => absurd (show (0 : Nat) = 1 from z) (by decide)⟩, fun i hi => ?_, fun z => absurd (show (0 : Nat) = 1 from z) (by decide), fun i hi => ?_, fun z i hi => ?_⟩ (by dsimp only; omega)
             · dsimp only; rw [e1, ← e65]; exact p5_wr2 rfl
             · by_cases y : i = d
               · rw [y]; exact hgo
               · exact hg i (by dsimp only at hi; omega)
             · intro j hj
               show (gI g65 1000 36 _).2.1 1037 _ = _
               rw [gI_n (Or.inl (by decide))]
               by_cases y : i = d
               · subst y; exact B65 j hj
               · dsimp only at hi
                 rw [s65.2.2 1037 _ (by unfold rX bX; omega)]; exact hB i (by omega) j hj
             · dsimp only at z hi; rw [e1] at z
               have y1 := w65 z
               by_cases y : i = d
               · rw [y]; exact y1.2
               · exact hw y1.1 i (by omega))
  · exact ⟨hs21, k36, o21, e21, ⟨Nat.zero_le _, Nat.zero_le _, fun z => absurd (show (0 : Nat) = 1 from z) (by decide)⟩, fun i hi => absurd hi (Nat.not_lt_zero _), fun z => absurd (show (0 : Nat) = 1 from z) (by decide), fun i hi => absurd hi (Nat.not_lt_zero _), fun _ i hi => absurd hi (Nat.not_lt_zero _)⟩
