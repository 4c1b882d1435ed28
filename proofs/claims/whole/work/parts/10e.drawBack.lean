set_option maxHeartbeats 4000000 in
set_option maxRecDepth 100000 in
theorem c10_drawBackBySailings (g : GH) {h : Nat → Nat → Int} {a : Nat} {d : Int} (hh : ∀ x k, x ≠ 21 → g.2.1 x k = h x k) (hw : CWs g) (hv : CWv h) (hV : MV h) (hS : bkB h a d (g.2.1 21)) : AMet mX10_drawBackBySailings g [vA 8] (fun r g' => ∃ b, r = vI b ∧ ((b = 0 ∨ b = 1) ∧ sameB (fun x _ => x = 21) g g' ∧ bkB h a d (g'.2.1 21) ∧ (∀ k, k < 6 → g.2.1 21 k ≤ g'.2.1 21 k) ∧ (b = 0 → ∀ k, k < 6 → g'.2.1 21 k = g.2.1 21 k)) ∧ (∀ s : Nat, (s : Int) < h 1000 15 → h 1019 s ≠ -9 → h 1019 s ≤ g.2.1 21 (h 1017 s).toNat → h 1018 s ≤ g'.2.1 21 (h 1016 s).toNat)) := by
  refine AMet.of [vA 8, none, none] (by decide) rfl (Nat.le_of_ble_eq_true rfl) ?_
  have hc := hV.1
  unfold MVc at hc
  refine a_iconst (z := 0) 1 dX10_drawBackBySailings_0 rfl (zrl rfl) rfl ?_
  refine a_istore_n 2 dX10_drawBackBySailings_1 (by decide) rfl rfl ?_
  refine a_iconst (z := 0) 3 dX10_drawBackBySailings_2 rfl (zrl rfl) rfl ?_
  refine a_istore_n 4 dX10_drawBackBySailings_3 (by decide) rfl rfl ?_
  refine AW.loop (α := GH × Nat × Int) (fun p => (h 1000 15).toNat - p.2.1) (fun p => ((p.2.2 = 0 ∨ p.2.2 = 1) ∧ sameB (fun x _ => x = 21) g p.1 ∧ bkB h a d (p.1.2.1 21) ∧ (∀ k, k < 6 → g.2.1 21 k ≤ p.1.2.1 21 k) ∧ (p.2.2 = 0 → ∀ k, k < 6 → p.1.2.1 21 k = g.2.1 21 k)) ∧ (p.2.1 : Int) ≤ h 1000 15 ∧ (∀ s : Nat, s < p.2.1 → h 1019 s ≠ -9 → h 1019 s ≤ g.2.1 21 (h 1017 s).toNat → h 1018 s ≤ p.1.2.1 21 (h 1016 s).toNat)) (fun p => p.1) (fun p => [vA 8, vI p.2.2, vI (p.2.1 : Int)]) (fun p => []) ?_ (g, 0, 0) ?_
  · rintro ⟨g2, s, b⟩ ⟨⟨hb, h2, hS2, hle, hz⟩, hsn, hsl⟩ ih4
    try dsimp only at hI ih ⊢
    try dsimp only at hb h2 hS2 hle hz hsn hsl ih4 ⊢
    refine a_iload_n 5 dX10_drawBackBySailings_4 rfl rfl ?_
    refine a_aload_n 6 dX10_drawBackBySailings_5 rfl rfl ?_
    refine a_getIz (h 1000 15) 9 dX10_drawBackBySailings_6 fX10_35 (CWs.keep h2 hw).1 rfl ((h2.2.2 8 7 (show ¬ (8 : Nat) = 21 by decide)).trans ((hh 8 7 (by decide)).trans hv.1)) rfl ?_
    refine a_icmp_ge 88 12 dX10_drawBackBySailings_9 (by decide) rfl (fun c9 => ?_) (fun c9 => ?_)
    · skip
      refine a_iload_n 89 dX10_drawBackBySailings_88 rfl rfl ?_
      refine a_breturn dX10_drawBackBySailings_89 rfl (by omega) ⟨Nat.zero_le _, Nat.zero_le _⟩ ?_
      exact ⟨b, rfl, ⟨hb, h2, hS2, hle, hz⟩, fun x hx => hsl x (by omega)⟩
    · skip
      refine a_aload_n 13 dX10_drawBackBySailings_12 rfl rfl ?_
      refine a_getR 16 dX10_drawBackBySailings_13 fX10_21 (CWs.keep h2 hw).1 rfl (CWs.keep h2 hw).2.1.2.2.2.1 rfl ?_
      refine a_iload_n 17 dX10_drawBackBySailings_16 rfl rfl ?_
      refine a_ialdz (h 1019 s) 18 dX10_drawBackBySailings_17 (CWs.keep h2 hw).2.2.1.2.2.2.1 (by omega) (by omega) ((h2.2.2 12 s (show ¬ (12 : Nat) = 21 by decide)).trans ((hh 12 s (by decide)).trans (hv.2.1 s (by omega)).2.2.2)) rfl ?_
      refine a_bipush (z := (-9)) 20 dX10_drawBackBySailings_18 rfl (zrl rfl) rfl ?_
      refine a_icmp_eq 82 23 dX10_drawBackBySailings_20 (by decide) rfl (fun c20 => ?_) (fun c20 => ?_)
      · skip
        refine a_iinc 85 dX10_drawBackBySailings_82 rfl (by unfold zr; omega) (by decide) rfl rfl ?_
        refine a_goto 4 dX10_drawBackBySailings_85 (by decide) ?_
        refine ih4 (g2, s + 1, b) ⟨⟨hb, h2, hS2, hle, hz⟩, by dsimp only; omega, fun x hx y1 y2 => ?_⟩ (by dsimp only; omega)
        by_cases e : x = s
        · subst e
          have hms := hV.2.2.2.2.1 x (by omega)
          have := hle (h 1017 x).toNat (by omega)
          first
          | exact absurd c20 y1
          | omega
        · exact hsl x (by dsimp only at hx; omega) y1 y2
      · skip
        have hms := hV.2.2.2.2.1 s (by omega)
        refine a_aload_n 24 dX10_drawBackBySailings_23 rfl rfl ?_
        refine a_getR 27 dX10_drawBackBySailings_24 fX10_21 (CWs.keep h2 hw).1 rfl (CWs.keep h2 hw).2.1.2.2.2.1 rfl ?_
        refine a_iload_n 28 dX10_drawBackBySailings_27 rfl rfl ?_
        refine a_ialdz (h 1019 s) 29 dX10_drawBackBySailings_28 (CWs.keep h2 hw).2.2.1.2.2.2.1 (by omega) (by omega) ((h2.2.2 12 s (show ¬ (12 : Nat) = 21 by decide)).trans ((hh 12 s (by decide)).trans (hv.2.1 s (by omega)).2.2.2)) rfl ?_
        refine a_aload_n 30 dX10_drawBackBySailings_29 rfl rfl ?_
        refine a_getR 33 dX10_drawBackBySailings_30 fX10_32 (CWs.keep h2 hw).1 rfl (CWs.keep h2 hw).2.1.2.2.2.2.2.2 rfl ?_
        refine a_aload_n 34 dX10_drawBackBySailings_33 rfl rfl ?_
        refine a_getR 37 dX10_drawBackBySailings_34 fX10_15 (CWs.keep h2 hw).1 rfl (CWs.keep h2 hw).2.1.2.1 rfl ?_
        refine a_iload_n 38 dX10_drawBackBySailings_37 rfl rfl ?_
        refine a_ialdz (h 1017 s) 39 dX10_drawBackBySailings_38 (CWs.keep h2 hw).2.2.1.2.1 (by omega) (by omega) ((h2.2.2 10 s (show ¬ (10 : Nat) = 21 by decide)).trans ((hh 10 s (by decide)).trans (hv.2.1 s (by omega)).2.1)) rfl ?_
        refine a_iald 40 dX10_drawBackBySailings_39 (CWs.keep h2 hw).2.2.1.2.2.2.2.2.2 (by omega) (by omega) rfl ?_
        refine a_icmp_gt 82 43 dX10_drawBackBySailings_40 (by decide) rfl (fun c40 => ?_) (fun c40 => ?_)
        · skip
          refine a_iinc 85 dX10_drawBackBySailings_82 rfl (by unfold zr; omega) (by decide) rfl rfl ?_
          refine a_goto 4 dX10_drawBackBySailings_85 (by decide) ?_
          refine ih4 (g2, s + 1, b) ⟨⟨hb, h2, hS2, hle, hz⟩, by dsimp only; omega, fun x hx y1 y2 => ?_⟩ (by dsimp only; omega)
          by_cases e : x = s
          · subst e
            have hms := hV.2.2.2.2.1 x (by omega)
            have := hle (h 1017 x).toNat (by omega)
            first
            | exact absurd c20 y1
            | omega
          · exact hsl x (by dsimp only at hx; omega) y1 y2
        · skip
          refine a_aload_n 44 dX10_drawBackBySailings_43 rfl rfl ?_
          refine a_getR 47 dX10_drawBackBySailings_44 fX10_18 (CWs.keep h2 hw).1 rfl (CWs.keep h2 hw).2.1.2.2.1 rfl ?_
          refine a_iload_n 48 dX10_drawBackBySailings_47 rfl rfl ?_
          refine a_ialdz (h 1018 s) 49 dX10_drawBackBySailings_48 (CWs.keep h2 hw).2.2.1.2.2.1 (by omega) (by omega) ((h2.2.2 11 s (show ¬ (11 : Nat) = 21 by decide)).trans ((hh 11 s (by decide)).trans (hv.2.1 s (by omega)).2.2.1)) rfl ?_
          refine a_aload_n 50 dX10_drawBackBySailings_49 rfl rfl ?_
          refine a_getR 53 dX10_drawBackBySailings_50 fX10_32 (CWs.keep h2 hw).1 rfl (CWs.keep h2 hw).2.1.2.2.2.2.2.2 rfl ?_
          refine a_aload_n 54 dX10_drawBackBySailings_53 rfl rfl ?_
          refine a_getR 57 dX10_drawBackBySailings_54 fX10_9 (CWs.keep h2 hw).1 rfl (CWs.keep h2 hw).2.1.1 rfl ?_
          refine a_iload_n 58 dX10_drawBackBySailings_57 rfl rfl ?_
          refine a_ialdz (h 1016 s) 59 dX10_drawBackBySailings_58 (CWs.keep h2 hw).2.2.1.1 (by omega) (by omega) ((h2.2.2 9 s (show ¬ (9 : Nat) = 21 by decide)).trans ((hh 9 s (by decide)).trans (hv.2.1 s (by omega)).1)) rfl ?_
          refine a_iald 60 dX10_drawBackBySailings_59 (CWs.keep h2 hw).2.2.1.2.2.2.2.2.2 (by omega) (by omega) rfl ?_
          refine a_icmp_le 82 63 dX10_drawBackBySailings_60 (by decide) rfl (fun c60 => ?_) (fun c60 => ?_)
          · skip
            refine a_iinc 85 dX10_drawBackBySailings_82 rfl (by unfold zr; omega) (by decide) rfl rfl ?_
            refine a_goto 4 dX10_drawBackBySailings_85 (by decide) ?_
            refine ih4 (g2, s + 1, b) ⟨⟨hb, h2, hS2, hle, hz⟩, by dsimp only; omega, fun x hx y1 y2 => ?_⟩ (by dsimp only; omega)
            by_cases e : x = s
            · subst e
              have hms := hV.2.2.2.2.1 x (by omega)
              have := hle (h 1017 x).toNat (by omega)
              first
              | exact absurd c20 y1
              | omega
            · exact hsl x (by dsimp only at hx; omega) y1 y2
          · skip
            refine a_aload_n 64 dX10_drawBackBySailings_63 rfl rfl ?_
            refine a_getR 67 dX10_drawBackBySailings_64 fX10_32 (CWs.keep h2 hw).1 rfl (CWs.keep h2 hw).2.1.2.2.2.2.2.2 rfl ?_
            refine a_aload_n 68 dX10_drawBackBySailings_67 rfl rfl ?_
            refine a_getR 71 dX10_drawBackBySailings_68 fX10_9 (CWs.keep h2 hw).1 rfl (CWs.keep h2 hw).2.1.1 rfl ?_
            refine a_iload_n 72 dX10_drawBackBySailings_71 rfl rfl ?_
            refine a_ialdz (h 1016 s) 73 dX10_drawBackBySailings_72 (CWs.keep h2 hw).2.2.1.1 (by omega) (by omega) ((h2.2.2 9 s (show ¬ (9 : Nat) = 21 by decide)).trans ((hh 9 s (by decide)).trans (hv.2.1 s (by omega)).1)) rfl ?_
            refine a_aload_n 74 dX10_drawBackBySailings_73 rfl rfl ?_
            refine a_getR 77 dX10_drawBackBySailings_74 fX10_18 (CWs.keep h2 hw).1 rfl (CWs.keep h2 hw).2.1.2.2.1 rfl ?_
            refine a_iload_n 78 dX10_drawBackBySailings_77 rfl rfl ?_
            refine a_ialdz (h 1018 s) 79 dX10_drawBackBySailings_78 (CWs.keep h2 hw).2.2.1.2.2.1 (by omega) (by omega) ((h2.2.2 11 s (show ¬ (11 : Nat) = 21 by decide)).trans ((hh 11 s (by decide)).trans (hv.2.1 s (by omega)).2.2.1)) rfl ?_
            refine a_iast 80 dX10_drawBackBySailings_79 (CWs.keep h2 hw).2.2.1.2.2.2.2.2.2 (by omega) (by omega) rfl ?_
            refine a_iconst (z := 1) 81 dX10_drawBackBySailings_80 rfl (zrl rfl) rfl ?_
            refine a_istore_n 82 dX10_drawBackBySailings_81 (by decide) rfl rfl ?_
            refine a_iinc 85 dX10_drawBackBySailings_82 rfl (by unfold zr; omega) (by decide) rfl rfl ?_
            refine a_goto 4 dX10_drawBackBySailings_85 (by decide) ?_
            have hms := hV.2.2.2.2.1 s (by omega)
            have hp : ∃ n t, pth h n (h 1016 s).toNat (h 1018 s) a t ∧ t ≤ d := by
              rcases hS2.2.1 (h 1017 s).toNat (by omega) with z | ⟨n, t, z, z2⟩
              · omega
              · obtain ⟨t', y1, y2⟩ := pth_mono z (show h 1019 s ≤ _ by omega)
                exact ⟨n + 1, t', pth_cons ⟨by omega, by omega, Or.inr ⟨s, by omega, by omega, by omega, c20, Int.le_refl _, rfl⟩⟩ y1, by omega⟩
            have e1 : (gI g2 21 (h 1016 s).toNat (h 1018 s)).2.1 21 (h 1016 s).toNat = h 1018 s := gI_s
            have e2 : ∀ k, k ≠ (h 1016 s).toNat → (gI g2 21 (h 1016 s).toNat (h 1018 s)).2.1 21 k = g2.2.1 21 k := fun k hk => gI_n (Or.inr hk)
            have hle2 : ∀ k, g2.2.1 21 k ≤ (gI g2 21 (h 1016 s).toNat (h 1018 s)).2.1 21 k := fun k => by
              by_cases e : k = (h 1016 s).toNat
              · rw [e, e1]; omega
              · rw [e2 k e]; exact Int.le_refl _
            refine ih4 (gI g2 21 (h 1016 s).toNat (h 1018 s), s + 1, 1) ⟨⟨Or.inr rfl, h2.wr rfl, hS2.upd (by omega) hp (by omega) (by omega) e1 e2, fun k hk => Int.le_trans (hle k hk) (hle2 k), fun z => absurd (show (1 : Int) = 0 from z) (by decide)⟩, by dsimp only; omega, fun x hx y1 y2 => ?_⟩ (by dsimp only; omega)
            by_cases e : x = s
            · subst e; exact Int.le_of_eq e1.symm
            · exact Int.le_trans (hsl x (by dsimp only at hx; omega) y1 y2) (hle2 _)
  · exact ⟨⟨Or.inl rfl, sameB.rf, hS, fun _ _ => Int.le_refl _, fun _ _ _ => rfl⟩, by show ((0 : Nat) : Int) ≤ _; omega, fun s h => absurd h (Nat.not_lt_zero _)⟩
set_option maxHeartbeats 4000000 in
set_option maxRecDepth 100000 in
theorem c10_drawBackByRoads (g : GH) {h : Nat → Nat → Int} {a : Nat} {d : Int} (hh : ∀ x k, x ≠ 21 → g.2.1 x k = h x k) (hw : CWs g) (hv : CWv h) (hV : MV h) (hS : bkB h a d (g.2.1 21)) : AMet mX10_drawBackByRoads g [vA 8] (fun r g' => ∃ b, r = vI b ∧ ((b = 0 ∨ b = 1) ∧ sameB (fun x _ => x = 21) g g' ∧ bkB h a d (g'.2.1 21) ∧ (∀ k, k < 6 → g.2.1 21 k ≤ g'.2.1 21 k) ∧ (b = 0 → ∀ k, k < 6 → g'.2.1 21 k = g.2.1 21 k)) ∧ (∀ u v : Nat, u < 6 → v < 6 → True → h 1020 (6 * u + v) ≠ -9 → g.2.1 21 v - h 1020 (6 * u + v) ≤ g'.2.1 21 u)) := by
  refine AMet.of [vA 8, none, none, none] (by decide) rfl (Nat.le_of_ble_eq_true rfl) ?_
  refine a_iconst (z := 0) 1 dX10_drawBackByRoads_0 rfl (zrl rfl) rfl ?_
  refine a_istore_n 2 dX10_drawBackByRoads_1 (by decide) rfl rfl ?_
  refine a_iconst (z := 0) 3 dX10_drawBackByRoads_2 rfl (zrl rfl) rfl ?_
  refine a_istore_n 4 dX10_drawBackByRoads_3 (by decide) rfl rfl ?_
  refine AW.loop (α := GH × Nat × Int) (fun p => 6 - p.2.1) (fun p => ((p.2.2 = 0 ∨ p.2.2 = 1) ∧ sameB (fun x _ => x = 21) g p.1 ∧ bkB h a d (p.1.2.1 21) ∧ (∀ k, k < 6 → g.2.1 21 k ≤ p.1.2.1 21 k) ∧ (p.2.2 = 0 → ∀ k, k < 6 → p.1.2.1 21 k = g.2.1 21 k)) ∧ p.2.1 ≤ 6 ∧ (∀ u v : Nat, u < 6 → v < 6 → u < p.2.1 → h 1020 (6 * u + v) ≠ -9 → g.2.1 21 v - h 1020 (6 * u + v) ≤ p.1.2.1 21 u)) (fun p => p.1) (fun p => [vA 8, vI p.2.2, vI (p.2.1 : Int), none]) (fun p => []) ?_ (g, 0, 0) ?_
  · rintro ⟨g2, u, b⟩ ⟨⟨hb, h2, hS2, hle, hz⟩, hu6, hru⟩ ih4
    try dsimp only at hI ih ⊢
    try dsimp only at hb h2 hS2 hle hz hu6 hru ih4 ⊢
    refine a_iload_n 5 dX10_drawBackByRoads_4 rfl rfl ?_
    refine a_bipush (z := 6) 7 dX10_drawBackByRoads_5 rfl (zrl rfl) rfl ?_
    refine a_icmp_ge 90 10 dX10_drawBackByRoads_7 (by decide) rfl (fun c7 => ?_) (fun c7 => ?_)
    · skip
      refine a_iload_n 91 dX10_drawBackByRoads_90 rfl rfl ?_
      refine a_breturn dX10_drawBackByRoads_91 rfl (by omega) ⟨Nat.zero_le _, Nat.zero_le _⟩ ?_
      exact ⟨b, rfl, ⟨hb, h2, hS2, hle, hz⟩, fun x y h1 h3 _ h5 => hru x y h1 h3 (by omega) h5⟩
    · skip
      refine a_iconst (z := 0) 11 dX10_drawBackByRoads_10 rfl (zrl rfl) rfl ?_
      refine a_istore_n 12 dX10_drawBackByRoads_11 (by decide) rfl rfl ?_
      refine AW.loop (α := GH × Nat × Int) (fun p => 6 - p.2.1) (fun p => ((p.2.2 = 0 ∨ p.2.2 = 1) ∧ sameB (fun x _ => x = 21) g p.1 ∧ bkB h a d (p.1.2.1 21) ∧ (∀ k, k < 6 → g.2.1 21 k ≤ p.1.2.1 21 k) ∧ (p.2.2 = 0 → ∀ k, k < 6 → p.1.2.1 21 k = g.2.1 21 k)) ∧ p.2.1 ≤ 6 ∧ (∀ x y : Nat, x < 6 → y < 6 → (x < u ∨ (x = u ∧ y < p.2.1)) → h 1020 (6 * x + y) ≠ -9 → g.2.1 21 y - h 1020 (6 * x + y) ≤ p.1.2.1 21 x)) (fun p => p.1) (fun p => [vA 8, vI p.2.2, vI (u : Int), vI (p.2.1 : Int)]) (fun p => []) ?_ (g2, 0, b) ?_
      · rintro ⟨g2, v, b⟩ ⟨⟨hb, h2, hS2, hle, hz⟩, hv6, hrv⟩ ih12
        try dsimp only at hI ih ⊢
        try dsimp only at hb h2 hS2 hle hz hv6 hrv ih12 ⊢
        refine a_iload_n 13 dX10_drawBackByRoads_12 rfl rfl ?_
        refine a_bipush (z := 6) 15 dX10_drawBackByRoads_13 rfl (zrl rfl) rfl ?_
        refine a_icmp_ge 84 18 dX10_drawBackByRoads_15 (by decide) rfl (fun c15 => ?_) (fun c15 => ?_)
        · skip
          refine a_iinc 87 dX10_drawBackByRoads_84 rfl (by unfold zr; omega) (by decide) rfl rfl ?_
          refine a_goto 4 dX10_drawBackByRoads_87 (by decide) ?_
          refine AW.kill 3 ?_
          exact ih4 (g2, u + 1, b) ⟨⟨hb, h2, hS2, hle, hz⟩, by dsimp only; omega, fun x y h1 h3 h4 h5 => hrv x y h1 h3 (by dsimp only at h4; omega) h5⟩ (by dsimp only; omega)
        · skip
          refine a_aload_n 19 dX10_drawBackByRoads_18 rfl rfl ?_
          refine a_getR 22 dX10_drawBackByRoads_19 fX10_26 (CWs.keep h2 hw).1 rfl (CWs.keep h2 hw).2.1.2.2.2.2.1 rfl ?_
          refine a_iload_n 23 dX10_drawBackByRoads_22 rfl rfl ?_
          refine a_aald 24 dX10_drawBackByRoads_23 (CWs.keep h2 hw).2.2.1.2.2.2.2.1 rfl (by omega) (by omega) ((CWs.keep h2 hw).2.2.2 u (by omega)).1 rfl ?_
          refine a_iload_n 25 dX10_drawBackByRoads_24 rfl rfl ?_
          refine a_ialdz (h 1020 (6 * u + v)) 26 dX10_drawBackByRoads_25 ((CWs.keep h2 hw).2.2.2 u (by omega)).2 (by omega) (by omega) ((h2.2.2 (14 + u) v (show ¬ 14 + u = 21 by omega)).trans ((hh (14 + u) v (by omega)).trans (hv.2.2 u v (by omega) (by omega)))) rfl ?_
          refine a_bipush (z := (-9)) 28 dX10_drawBackByRoads_26 rfl (zrl rfl) rfl ?_
          refine a_icmp_eq 78 31 dX10_drawBackByRoads_28 (by decide) rfl (fun c28 => ?_) (fun c28 => ?_)
          · skip
            refine a_iinc 81 dX10_drawBackByRoads_78 rfl (by unfold zr; omega) (by decide) rfl rfl ?_
            refine a_goto 12 dX10_drawBackByRoads_81 (by decide) ?_
            have hlv := hle v (by omega)
            refine ih12 (g2, v + 1, b) ⟨⟨hb, h2, hS2, hle, hz⟩, by dsimp only; omega, fun x y h1 h3 h4 h5 => ?_⟩ (by dsimp only; omega)
            dsimp only at h4
            by_cases e : x = u ∧ y = v
            · obtain ⟨rfl, rfl⟩ := e
              first
              | exact absurd c28 h5
              | (dsimp only; omega)
            · exact hrv x y h1 h3 (by omega) h5
          · skip
            have hr := hV.2.2.2.2.2.1 (6 * u + v) (by omega)
            have hSu := hS2.1 u (by omega)
            have hSv := hS2.1 v (by omega)
            refine a_aload_n 32 dX10_drawBackByRoads_31 rfl rfl ?_
            refine a_getR 35 dX10_drawBackByRoads_32 fX10_32 (CWs.keep h2 hw).1 rfl (CWs.keep h2 hw).2.1.2.2.2.2.2.2 rfl ?_
            refine a_iload_n 36 dX10_drawBackByRoads_35 rfl rfl ?_
            refine a_ialdz (g2.2.1 21 v) 37 dX10_drawBackByRoads_36 (CWs.keep h2 hw).2.2.1.2.2.2.2.2.2 (by omega) (by omega) rfl rfl ?_
            refine a_aload_n 38 dX10_drawBackByRoads_37 rfl rfl ?_
            refine a_getR 41 dX10_drawBackByRoads_38 fX10_26 (CWs.keep h2 hw).1 rfl (CWs.keep h2 hw).2.1.2.2.2.2.1 rfl ?_
            refine a_iload_n 42 dX10_drawBackByRoads_41 rfl rfl ?_
            refine a_aald 43 dX10_drawBackByRoads_42 (CWs.keep h2 hw).2.2.1.2.2.2.2.1 rfl (by omega) (by omega) ((CWs.keep h2 hw).2.2.2 u (by omega)).1 rfl ?_
            refine a_iload_n 44 dX10_drawBackByRoads_43 rfl rfl ?_
            refine a_ialdz (h 1020 (6 * u + v)) 45 dX10_drawBackByRoads_44 ((CWs.keep h2 hw).2.2.2 u (by omega)).2 (by omega) (by omega) ((h2.2.2 (14 + u) v (show ¬ 14 + u = 21 by omega)).trans ((hh (14 + u) v (by omega)).trans (hv.2.2 u v (by omega) (by omega)))) rfl ?_
            refine a_isub 46 dX10_drawBackByRoads_45 (by unfold zr; omega) rfl ?_
            refine a_aload_n 47 dX10_drawBackByRoads_46 rfl rfl ?_
            refine a_getR 50 dX10_drawBackByRoads_47 fX10_32 (CWs.keep h2 hw).1 rfl (CWs.keep h2 hw).2.1.2.2.2.2.2.2 rfl ?_
            refine a_iload_n 51 dX10_drawBackByRoads_50 rfl rfl ?_
            refine a_ialdz (g2.2.1 21 u) 52 dX10_drawBackByRoads_51 (CWs.keep h2 hw).2.2.1.2.2.2.2.2.2 (by omega) (by omega) rfl rfl ?_
            refine a_icmp_le 78 55 dX10_drawBackByRoads_52 (by decide) rfl (fun c52 => ?_) (fun c52 => ?_)
            · skip
              refine a_iinc 81 dX10_drawBackByRoads_78 rfl (by unfold zr; omega) (by decide) rfl rfl ?_
              refine a_goto 12 dX10_drawBackByRoads_81 (by decide) ?_
              have hlv := hle v (by omega)
              refine ih12 (g2, v + 1, b) ⟨⟨hb, h2, hS2, hle, hz⟩, by dsimp only; omega, fun x y h1 h3 h4 h5 => ?_⟩ (by dsimp only; omega)
              dsimp only at h4
              by_cases e : x = u ∧ y = v
              · obtain ⟨rfl, rfl⟩ := e
                first
                | exact absurd c28 h5
                | (dsimp only; omega)
              · exact hrv x y h1 h3 (by omega) h5
            · skip
              refine a_aload_n 56 dX10_drawBackByRoads_55 rfl rfl ?_
              refine a_getR 59 dX10_drawBackByRoads_56 fX10_32 (CWs.keep h2 hw).1 rfl (CWs.keep h2 hw).2.1.2.2.2.2.2.2 rfl ?_
              refine a_iload_n 60 dX10_drawBackByRoads_59 rfl rfl ?_
              refine a_aload_n 61 dX10_drawBackByRoads_60 rfl rfl ?_
              refine a_getR 64 dX10_drawBackByRoads_61 fX10_32 (CWs.keep h2 hw).1 rfl (CWs.keep h2 hw).2.1.2.2.2.2.2.2 rfl ?_
              refine a_iload_n 65 dX10_drawBackByRoads_64 rfl rfl ?_
              refine a_ialdz (g2.2.1 21 v) 66 dX10_drawBackByRoads_65 (CWs.keep h2 hw).2.2.1.2.2.2.2.2.2 (by omega) (by omega) rfl rfl ?_
              refine a_aload_n 67 dX10_drawBackByRoads_66 rfl rfl ?_
              refine a_getR 70 dX10_drawBackByRoads_67 fX10_26 (CWs.keep h2 hw).1 rfl (CWs.keep h2 hw).2.1.2.2.2.2.1 rfl ?_
              refine a_iload_n 71 dX10_drawBackByRoads_70 rfl rfl ?_
              refine a_aald 72 dX10_drawBackByRoads_71 (CWs.keep h2 hw).2.2.1.2.2.2.2.1 rfl (by omega) (by omega) ((CWs.keep h2 hw).2.2.2 u (by omega)).1 rfl ?_
              refine a_iload_n 73 dX10_drawBackByRoads_72 rfl rfl ?_
              refine a_ialdz (h 1020 (6 * u + v)) 74 dX10_drawBackByRoads_73 ((CWs.keep h2 hw).2.2.2 u (by omega)).2 (by omega) (by omega) ((h2.2.2 (14 + u) v (show ¬ 14 + u = 21 by omega)).trans ((hh (14 + u) v (by omega)).trans (hv.2.2 u v (by omega) (by omega)))) rfl ?_
              refine a_isub 75 dX10_drawBackByRoads_74 (by unfold zr; omega) rfl ?_
              refine a_iast 76 dX10_drawBackByRoads_75 (CWs.keep h2 hw).2.2.1.2.2.2.2.2.2 (by omega) (by omega) rfl ?_
              refine a_iconst (z := 1) 77 dX10_drawBackByRoads_76 rfl (zrl rfl) rfl ?_
              refine a_istore_n 78 dX10_drawBackByRoads_77 (by decide) rfl rfl ?_
              refine a_iinc 81 dX10_drawBackByRoads_78 rfl (by unfold zr; omega) (by decide) rfl rfl ?_
              refine a_goto 12 dX10_drawBackByRoads_81 (by decide) ?_
              have hr := hV.2.2.2.2.2.1 (6 * u + v) (by omega)
              have hSu := hS2.1 u (by omega)
              have hSv := hS2.1 v (by omega)
              have hp : ∃ n t, pth h n u (g2.2.1 21 v - h 1020 (6 * u + v)) a t ∧ t ≤ d := by
                rcases hS2.2.1 v (by omega) with z | ⟨n, t, z, z2⟩
                · omega
                · exact ⟨n + 1, t, pth_cons ⟨by omega, by omega, Or.inl ⟨c28, by omega⟩⟩ z, z2⟩
              have e1 : (gI g2 21 u (g2.2.1 21 v - h 1020 (6 * u + v))).2.1 21 u = (g2.2.1 21 v - h 1020 (6 * u + v)) := gI_s
              have e2 : ∀ k, k ≠ u → (gI g2 21 u (g2.2.1 21 v - h 1020 (6 * u + v))).2.1 21 k = g2.2.1 21 k := fun k hk => gI_n (Or.inr hk)
              have hle2 : ∀ k, g2.2.1 21 k ≤ (gI g2 21 u (g2.2.1 21 v - h 1020 (6 * u + v))).2.1 21 k := fun k => by
                by_cases e : k = u
                · rw [e, e1]; omega
                · rw [e2 k e]; exact Int.le_refl _
              have hlv := hle v (by omega)
              refine ih12 (gI g2 21 u (g2.2.1 21 v - h 1020 (6 * u + v)), v + 1, 1) ⟨⟨Or.inr rfl, h2.wr rfl, hS2.upd (by omega) hp (by omega) (by omega) e1 e2, fun k hk => Int.le_trans (hle k hk) (hle2 k), fun z => absurd (show (1 : Int) = 0 from z) (by decide)⟩, by dsimp only; omega, fun x y h1 h3 h4 h5 => ?_⟩ (by dsimp only; omega)
              dsimp only at h4
              by_cases e : x = u ∧ y = v
              · obtain ⟨rfl, rfl⟩ := e
                exact Int.le_trans (by omega) (Int.le_of_eq e1.symm)
              · exact Int.le_trans (hrv x y h1 h3 (by omega) h5) (hle2 _)
      · exact ⟨⟨hb, h2, hS2, hle, hz⟩, Nat.zero_le _, fun x y h1 h3 h4 h5 => hru x y h1 h3 (by dsimp only at h4; omega) h5⟩
  · exact ⟨⟨Or.inl rfl, sameB.rf, hS, fun _ _ => Int.le_refl _, fun _ _ _ => rfl⟩, Nat.zero_le _, fun u v _ _ h => absurd h (Nat.not_lt_zero _)⟩
set_option maxHeartbeats 4000000 in
set_option maxRecDepth 100000 in
theorem c10_drawBackFrom (g : GH) (t d : Int) {h : Nat → Nat → Int} (hh : ∀ x k, x ≠ 21 → g.2.1 x k = h x k) (hw : CWs g) (hv : CWv h) (hV : MV h) (ht : 0 ≤ t ∧ t ≤ 5) (hd : 0 ≤ d ∧ d ≤ 999) : AMet mX10_drawBackFrom g [vA 8, vI t, vI d] (fun _ g' => sameB (fun x _ => x = 21) g g' ∧ ∀ k, k < 6 → isLt h t.toNat d k (g'.2.1 21 k)) := by
  refine AMet.of [vA 8, vI t, vI d, none, none] (by decide) rfl (Nat.le_of_ble_eq_true rfl) ?_
  refine a_aload_n 1 dX10_drawBackFrom_0 rfl rfl ?_
  refine a_getR 4 dX10_drawBackFrom_1 fX10_32 hw.1 rfl hw.2.1.2.2.2.2.2.2 rfl ?_
  refine a_iconst (z := (-1)) 5 dX10_drawBackFrom_4 rfl (zrl rfl) rfl ?_
  refine a_callS 8 (j_fill _ _ hw.2.2.1.2.2.2.2.2.2 (by decide)) cdJ7_fill_53178 lX10_39 dX10_drawBackFrom_5 rfl rfl ⟨by decide, by decide, rfl, rfl⟩ ⟨Nat.zero_le _, Nat.zero_le _⟩ (Nat.le_of_ble_eq_true rfl) rfl ?_
  rintro _ g2 - rfl -
  have h2 : sameB (fun x _ => x = 21) g (gF g 21 6 (-1)) := ⟨rfl, rfl, fun a k q => gF_n q⟩
  have hz2 : ∀ f : Nat, f < 6 → (gF g 21 6 (-1)).2.1 21 f = -1 := fun f hf => gF_i hf
  generalize gF g 21 6 (-1) = g2 at h2 hz2 ⊢
  refine a_aload_n 9 dX10_drawBackFrom_8 rfl rfl ?_
  refine a_getR 12 dX10_drawBackFrom_9 fX10_32 (CWs.keep h2 hw).1 rfl (CWs.keep h2 hw).2.1.2.2.2.2.2.2 rfl ?_
  refine a_iload_n 13 dX10_drawBackFrom_12 rfl rfl ?_
  refine a_iload_n 14 dX10_drawBackFrom_13 rfl rfl ?_
  refine a_iast 15 dX10_drawBackFrom_14 (CWs.keep h2 hw).2.2.1.2.2.2.2.2.2 (by omega) (by omega) rfl ?_
  have h3 : sameB (fun x _ => x = 21) g (gI g2 21 t.toNat d) := h2.wr rfl
  have e1 : (gI g2 21 t.toNat d).2.1 21 t.toNat = d := gI_s
  have e2 : ∀ k, k < 6 → k ≠ t.toNat → (gI g2 21 t.toNat d).2.1 21 k = -1 := fun k hk q => (gI_n (Or.inr q)).trans (hz2 k hk)
  generalize gI g2 21 t.toNat d = g3 at h3 e1 e2 ⊢
  have hS3 : bkB h t.toNat d (g3.2.1 21) := by
    refine ⟨fun k hk => ?_, fun k hk => ?_, Int.le_of_eq e1.symm⟩
    · by_cases e : k = t.toNat
      · rw [e, e1]; omega
      · rw [e2 k hk e]; omega
    · by_cases e : k = t.toNat
      · right; exact ⟨0, d, ⟨e, by rw [e, e1]⟩, Int.le_refl _⟩
      · exact Or.inl (e2 k hk e)
  have hR3 : bkR h t.toNat d (g3.2.1 21) 0 := fun n hn k x y _ _ p hy => by
    have hn0 : n = 0 := by omega
    subst hn0
    rw [p.1, p.2, e1]; exact hy
  refine a_iconst (z := 1) 16 dX10_drawBackFrom_15 rfl (zrl rfl) rfl ?_
  refine a_istore_n 17 dX10_drawBackFrom_16 (by decide) rfl rfl ?_
  refine a_iconst (z := 0) 18 dX10_drawBackFrom_17 rfl (zrl rfl) rfl ?_
  refine a_istore 20 dX10_drawBackFrom_18 (by decide) rfl rfl ?_
  refine AW.loop (α := GH × Nat × Int) (fun p => 6 - p.2.1) (fun p => sameB (fun x _ => x = 21) g p.1 ∧ bkB h t.toNat d (p.1.2.1 21) ∧ p.2.1 ≤ 6 ∧ bkR h t.toNat d (p.1.2.1 21) p.2.1 ∧ (p.2.2 = 0 ∨ p.2.2 = 1) ∧ (p.2.2 = 0 → ∀ u v x y, stp h u x v y → 0 ≤ x → y ≤ p.1.2.1 21 v → x ≤ p.1.2.1 21 u)) (fun p => p.1) (fun p => [vA 8, vI t, vI d, vI p.2.2, vI (p.2.1 : Int)]) (fun p => []) ?_ (g3, 0, 1) ?_
  · rintro ⟨g3, r, b⟩ ⟨h3, hS3, hr6, hR3, hb3, hcl⟩ ih20
    try dsimp only at hI ih ⊢
    try dsimp only at h3 hS3 hr6 hR3 hb3 hcl ih20 ⊢
    refine a_iload 22 dX10_drawBackFrom_20 rfl rfl ?_
    refine a_bipush (z := 6) 24 dX10_drawBackFrom_22 rfl (zrl rfl) rfl ?_
    refine a_icmp_ge 59 27 dX10_drawBackFrom_24 (by decide) rfl (fun c24 => ?_) (fun c24 => ?_)
    · skip
      refine a_return dX10_drawBackFrom_59 rfl ⟨Nat.zero_le _, Nat.zero_le _⟩ ?_
      refine ⟨h3, fun k hk => ⟨hS3.1 k hk, hS3.2.1 k hk, fun n x y h0 p hy => ?_⟩⟩
      first
      | (have e6 : r = 6 := by omega
         subst e6
         exact hR3.all hV.2.2.2.2.1 hV.2.2.2.2.2.1 hk h0 p hy)
      | exact bk_closed hV.2.2.2.2.1 hV.2.2.2.2.2.1 hS3.2.2 (hcl c28) n k x y h0 p hy
    · skip
      refine a_iload_n 28 dX10_drawBackFrom_27 rfl rfl ?_
      refine a_if_eq 59 31 dX10_drawBackFrom_28 (by decide) rfl (fun c28 => ?_) (fun c28 => ?_)
      · skip
        refine a_return dX10_drawBackFrom_59 rfl ⟨Nat.zero_le _, Nat.zero_le _⟩ ?_
        refine ⟨h3, fun k hk => ⟨hS3.1 k hk, hS3.2.1 k hk, fun n x y h0 p hy => ?_⟩⟩
        first
        | (have e6 : r = 6 := by omega
           subst e6
           exact hR3.all hV.2.2.2.2.1 hV.2.2.2.2.2.1 hk h0 p hy)
        | exact bk_closed hV.2.2.2.2.1 hV.2.2.2.2.2.1 hS3.2.2 (hcl c28) n k x y h0 p hy
      · skip
        refine a_aload_n 32 dX10_drawBackFrom_31 rfl rfl ?_
        refine a_callV 35 (c10_drawBackBySailings _ (fun x k hx => (h3.2.2 x k hx).trans (hh x k hx)) (CWs.keep h3 hw) hv hV hS3) cdX10_drawBackBySailings lX10_52 dX10_drawBackFrom_32 rfl (CWs.keep h3 hw).1 rfl ⟨by decide, by decide, rfl, rfl⟩ ⟨Nat.zero_le _, Nat.zero_le _⟩ (Nat.le_of_ble_eq_true rfl) rfl ?_
        rintro _ g4 - ⟨b4, rfl, ⟨hb4, s4, hS4, hle4, hz4⟩, hx4⟩ -
        have h4 := h3.tr s4
        refine a_istore_n 36 dX10_drawBackFrom_35 (by decide) rfl rfl ?_
        refine a_aload_n 37 dX10_drawBackFrom_36 rfl rfl ?_
        refine a_callV 40 (c10_drawBackByRoads _ (fun x k hx => (h4.2.2 x k hx).trans (hh x k hx)) (CWs.keep h4 hw) hv hV hS4) cdX10_drawBackByRoads lX10_55 dX10_drawBackFrom_37 rfl (CWs.keep h4 hw).1 rfl ⟨by decide, by decide, rfl, rfl⟩ ⟨Nat.zero_le _, Nat.zero_le _⟩ (Nat.le_of_ble_eq_true rfl) rfl ?_
        rintro _ g5 - ⟨b5, rfl, ⟨hb5, s5, hS5, hle5, hz5⟩, hx5⟩ -
        have h5 := h4.tr s5
        refine a_if_ne 47 43 dX10_drawBackFrom_40 (by decide) rfl (fun c40 => ?_) (fun c40 => ?_)
        · skip
          refine a_iconst (z := 1) 48 dX10_drawBackFrom_47 rfl (zrl rfl) rfl ?_
          refine a_goto 52 dX10_drawBackFrom_48 (by decide) ?_
          refine a_istore_n 53 dX10_drawBackFrom_52 (by decide) rfl rfl ?_
          refine a_iinc 56 dX10_drawBackFrom_53 rfl (by unfold zr; omega) (by decide) rfl rfl ?_
          refine a_goto 20 dX10_drawBackFrom_56 (by decide) ?_
          have hx : ∀ u v x y, stp h u x v y → 0 ≤ x → y ≤ g3.2.1 21 v → x ≤ g5.2.1 21 u := fun u v x y q _ hy => by
            obtain ⟨hu, hvv, ⟨q1, q2⟩ | ⟨s, q1, q2, q3, q4, q6, q7⟩⟩ := q
            · have y1 := hx5 u v hu hvv trivial q1
              have y2 := hle4 v hvv
              omega
            · have y1 := hx4 s q1 q4 (by rw [q3, Int.toNat_natCast, ← q7]; exact hy)
              rw [q2, Int.toNat_natCast] at y1
              have y2 := hle5 u hu
              omega
          have hR5 : bkR h t.toNat d (g5.2.1 21) (r + 1) := bkR.next hV.2.2.2.2.1 hV.2.2.2.2.2.1 hS5.2.2 hR3 hx
          refine ih20 (g5, r + 1, 1) ⟨h5, hS5, by dsimp only; omega, hR5, Or.inr rfl, fun z => absurd (show (1 : Int) = 0 from z) (by decide)⟩ (by dsimp only; omega)
        · skip
          refine a_iload_n 44 dX10_drawBackFrom_43 rfl rfl ?_
          refine a_if_eq 51 47 dX10_drawBackFrom_44 (by decide) rfl (fun c44 => ?_) (fun c44 => ?_)
          · skip
            refine a_iconst (z := 0) 52 dX10_drawBackFrom_51 rfl (zrl rfl) rfl ?_
            refine a_istore_n 53 dX10_drawBackFrom_52 (by decide) rfl rfl ?_
            refine a_iinc 56 dX10_drawBackFrom_53 rfl (by unfold zr; omega) (by decide) rfl rfl ?_
            refine a_goto 20 dX10_drawBackFrom_56 (by decide) ?_
            have hx : ∀ u v x y, stp h u x v y → 0 ≤ x → y ≤ g3.2.1 21 v → x ≤ g5.2.1 21 u := fun u v x y q _ hy => by
              obtain ⟨hu, hvv, ⟨q1, q2⟩ | ⟨s, q1, q2, q3, q4, q6, q7⟩⟩ := q
              · have y1 := hx5 u v hu hvv trivial q1
                have y2 := hle4 v hvv
                omega
              · have y1 := hx4 s q1 q4 (by rw [q3, Int.toNat_natCast, ← q7]; exact hy)
                rw [q2, Int.toNat_natCast] at y1
                have y2 := hle5 u hu
                omega
            have hR5 : bkR h t.toNat d (g5.2.1 21) (r + 1) := bkR.next hV.2.2.2.2.1 hV.2.2.2.2.2.1 hS5.2.2 hR3 hx
            refine ih20 (g5, r + 1, 0) ⟨h5, hS5, by dsimp only; omega, hR5, Or.inl rfl, fun _ u v x y q h0 hy => ?_⟩ (by dsimp only; omega)
            have e4 := hz4 c44
            have e5 := hz5 c40
            refine hx u v x y q h0 ?_
            rw [← e4 v q.2.1, ← e5 v q.2.1]; exact hy
          · skip
            refine a_iconst (z := 1) 48 dX10_drawBackFrom_47 rfl (zrl rfl) rfl ?_
            refine a_goto 52 dX10_drawBackFrom_48 (by decide) ?_
            refine a_istore_n 53 dX10_drawBackFrom_52 (by decide) rfl rfl ?_
            refine a_iinc 56 dX10_drawBackFrom_53 rfl (by unfold zr; omega) (by decide) rfl rfl ?_
            refine a_goto 20 dX10_drawBackFrom_56 (by decide) ?_
            have hx : ∀ u v x y, stp h u x v y → 0 ≤ x → y ≤ g3.2.1 21 v → x ≤ g5.2.1 21 u := fun u v x y q _ hy => by
              obtain ⟨hu, hvv, ⟨q1, q2⟩ | ⟨s, q1, q2, q3, q4, q6, q7⟩⟩ := q
              · have y1 := hx5 u v hu hvv trivial q1
                have y2 := hle4 v hvv
                omega
              · have y1 := hx4 s q1 q4 (by rw [q3, Int.toNat_natCast, ← q7]; exact hy)
                rw [q2, Int.toNat_natCast] at y1
                have y2 := hle5 u hu
                omega
            have hR5 : bkR h t.toNat d (g5.2.1 21) (r + 1) := bkR.next hV.2.2.2.2.1 hV.2.2.2.2.2.1 hS5.2.2 hR3 hx
            refine ih20 (g5, r + 1, 1) ⟨h5, hS5, by dsimp only; omega, hR5, Or.inr rfl, fun z => absurd (show (1 : Int) = 0 from z) (by decide)⟩ (by dsimp only; omega)
  · exact ⟨h3, hS3, Nat.zero_le _, hR3, Or.inr rfl, fun z => absurd (show (1 : Int) = 0 from z) (by decide)⟩
