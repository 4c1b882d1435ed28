/-! the class's ways at 8 -/
def CWs (g : GH) : Prop := g.1 8 = some (Sum.inl 10) ∧ (g.2.2.2 8 0 = some 9 ∧ g.2.2.2 8 1 = some 10 ∧ g.2.2.2 8 2 = some 11 ∧ g.2.2.2 8 3 = some 12 ∧ g.2.2.2 8 4 = some 13 ∧ g.2.2.2 8 5 = some 20 ∧ g.2.2.2 8 6 = some 21) ∧ (g.1 9 = some (Sum.inr (.int, 20)) ∧ g.1 10 = some (Sum.inr (.int, 20)) ∧ g.1 11 = some (Sum.inr (.int, 20)) ∧ g.1 12 = some (Sum.inr (.int, 20)) ∧ g.1 13 = some (Sum.inr (.array .int, 6)) ∧ g.1 20 = some (Sum.inr (.int, 6)) ∧ g.1 21 = some (Sum.inr (.int, 6))) ∧ ∀ a, a < 6 → g.2.2.2 13 a = some (14 + a) ∧ g.1 (14 + a) = some (Sum.inr (.int, 6))
def CWv (h : Nat → Nat → Int) : Prop := h 8 7 = h 1000 15 ∧ (∀ s : Nat, (s : Int) < h 1000 15 → h 9 s = h 1016 s ∧ h 10 s = h 1017 s ∧ h 11 s = h 1018 s ∧ h 12 s = h 1019 s) ∧ ∀ a b, a < 6 → b < 6 → h (14 + a) b = h 1020 (6 * a + b)
theorem CWs.keep {X : Nat → Nat → Prop} {g g' : GH} (h : sameB X g g') (q : CWs g) : CWs g' := by
  unfold CWs at q ⊢; rw [h.1, h.2.1]; exact q
theorem spB.upd {h : Nat → Nat → Int} {a v : Nat} {d z : Int} {S S' : Nat → Int} (q : spB h a d S) (hv : v < 6) (hp : ∃ n, pth h n a d v z) (h0 : 0 ≤ z) (hz : z < S v) (e1 : S' v = z) (e2 : ∀ k, k ≠ v → S' k = S k) : spB h a d S' := by
  obtain ⟨q1, q2, q3⟩ := q
  refine ⟨fun k hk => ?_, fun k hk => ?_, ?_⟩
  · by_cases e : k = v
    · subst e; rw [e1]; have := q1 k hk; omega
    · rw [e2 k e]; exact q1 k hk
  · by_cases e : k = v
    · subst e; rw [e1]; exact Or.inr hp
    · rw [e2 k e]; exact q2 k hk
  · by_cases e : a = v
    · subst e; rw [e1]; omega
    · rw [e2 a e]; exact q3
set_option maxHeartbeats 4000000 in
set_option maxRecDepth 100000 in
theorem c10_spreadBySailings (g : GH) {h : Nat → Nat → Int} {a : Nat} {d : Int} (hh : ∀ x k, x ≠ 20 → g.2.1 x k = h x k) (hw : CWs g) (hv : CWv h) (hV : MV h) (hS : spB h a d (g.2.1 20)) : AMet mX10_spreadBySailings g [vA 8] (fun r g' => ∃ b, r = vI b ∧ (b = 0 ∨ b = 1) ∧ sameB (fun x _ => x = 20) g g' ∧ spB h a d (g'.2.1 20) ∧ (∀ k, k < 6 → g'.2.1 20 k ≤ g.2.1 20 k) ∧ (b = 0 → ∀ k, k < 6 → g'.2.1 20 k = g.2.1 20 k) ∧ (∀ s : Nat, (s : Int) < h 1000 15 → h 1019 s ≠ -9 → g.2.1 20 (h 1016 s).toNat ≤ h 1018 s → g'.2.1 20 (h 1017 s).toNat ≤ h 1019 s)) := by
  refine AMet.of [vA 8, none, none] (by decide) rfl (Nat.le_of_ble_eq_true rfl) ?_
  have hc := hV.1
  unfold MVc at hc
  refine a_iconst (z := 0) 1 dX10_spreadBySailings_0 rfl (zrl rfl) rfl ?_
  refine a_istore_n 2 dX10_spreadBySailings_1 (by decide) rfl rfl ?_
  refine a_iconst (z := 0) 3 dX10_spreadBySailings_2 rfl (zrl rfl) rfl ?_
  refine a_istore_n 4 dX10_spreadBySailings_3 (by decide) rfl rfl ?_
  refine AW.loop (α := GH × Nat × Int) (fun p => (h 1000 15).toNat - p.2.1) (fun p => ((p.2.2 = 0 ∨ p.2.2 = 1) ∧ sameB (fun x _ => x = 20) g p.1 ∧ spB h a d (p.1.2.1 20) ∧ (∀ k, k < 6 → p.1.2.1 20 k ≤ g.2.1 20 k) ∧ (p.2.2 = 0 → ∀ k, k < 6 → p.1.2.1 20 k = g.2.1 20 k)) ∧ (p.2.1 : Int) ≤ h 1000 15 ∧ (∀ s : Nat, s < p.2.1 → h 1019 s ≠ -9 → g.2.1 20 (h 1016 s).toNat ≤ h 1018 s → p.1.2.1 20 (h 1017 s).toNat ≤ h 1019 s)) (fun p => p.1) (fun p => [vA 8, vI p.2.2, vI (p.2.1 : Int)]) (fun p => []) ?_ (g, 0, 0) ?_
  · rintro ⟨g2, s, b⟩ ⟨⟨hb, h2, hS2, hle, hz⟩, hsn, hsl⟩ ih4
    try dsimp only at hI ih ⊢
    try dsimp only at hb h2 hS2 hle hz hsn hsl ih4 ⊢
    refine a_iload_n 5 dX10_spreadBySailings_4 rfl rfl ?_
    refine a_aload_n 6 dX10_spreadBySailings_5 rfl rfl ?_
    refine a_getIz (h 1000 15) 9 dX10_spreadBySailings_6 fX10_35 (CWs.keep h2 hw).1 rfl ((h2.2.2 8 7 (show ¬ (8 : Nat) = 20 by decide)).trans ((hh 8 7 (by decide)).trans hv.1)) rfl ?_
    refine a_icmp_ge 88 12 dX10_spreadBySailings_9 (by decide) rfl (fun c9 => ?_) (fun c9 => ?_)
    · skip
      refine a_iload_n 89 dX10_spreadBySailings_88 rfl rfl ?_
      refine a_breturn dX10_spreadBySailings_89 rfl (by omega) ⟨Nat.zero_le _, Nat.zero_le _⟩ ?_
      exact ⟨b, rfl, hb, h2, hS2, hle, hz, fun x hx => hsl x (by omega)⟩
    · skip
      refine a_aload_n 13 dX10_spreadBySailings_12 rfl rfl ?_
      refine a_getR 16 dX10_spreadBySailings_13 fX10_21 (CWs.keep h2 hw).1 rfl (CWs.keep h2 hw).2.1.2.2.2.1 rfl ?_
      refine a_iload_n 17 dX10_spreadBySailings_16 rfl rfl ?_
      refine a_ialdz (h 1019 s) 18 dX10_spreadBySailings_17 (CWs.keep h2 hw).2.2.1.2.2.2.1 (by omega) (by omega) ((h2.2.2 12 s (show ¬ (12 : Nat) = 20 by decide)).trans ((hh 12 s (by decide)).trans (hv.2.1 s (by omega)).2.2.2)) rfl ?_
      refine a_bipush (z := (-9)) 20 dX10_spreadBySailings_18 rfl (zrl rfl) rfl ?_
      refine a_icmp_eq 82 23 dX10_spreadBySailings_20 (by decide) rfl (fun c20 => ?_) (fun c20 => ?_)
      · skip
        refine a_iinc 85 dX10_spreadBySailings_82 rfl (by unfold zr; omega) (by decide) rfl rfl ?_
        refine a_goto 4 dX10_spreadBySailings_85 (by decide) ?_
        refine ih4 (g2, s + 1, b) ⟨⟨hb, h2, hS2, hle, hz⟩, by dsimp only; omega, fun x hx y1 y2 => ?_⟩ (by dsimp only; omega)
        by_cases e : x = s
        · subst e
          have hms := hV.2.2.2.2.1 x (by omega)
          have := hle (h 1016 x).toNat (by omega)
          first
          | exact absurd c20 y1
          | omega
        · exact hsl x (by dsimp only at hx; omega) y1 y2
      · skip
        have hms := hV.2.2.2.2.1 s (by omega)
        refine a_aload_n 24 dX10_spreadBySailings_23 rfl rfl ?_
        refine a_getR 27 dX10_spreadBySailings_24 fX10_29 (CWs.keep h2 hw).1 rfl (CWs.keep h2 hw).2.1.2.2.2.2.2.1 rfl ?_
        refine a_aload_n 28 dX10_spreadBySailings_27 rfl rfl ?_
        refine a_getR 31 dX10_spreadBySailings_28 fX10_9 (CWs.keep h2 hw).1 rfl (CWs.keep h2 hw).2.1.1 rfl ?_
        refine a_iload_n 32 dX10_spreadBySailings_31 rfl rfl ?_
        refine a_ialdz (h 1016 s) 33 dX10_spreadBySailings_32 (CWs.keep h2 hw).2.2.1.1 (by omega) (by omega) ((h2.2.2 9 s (show ¬ (9 : Nat) = 20 by decide)).trans ((hh 9 s (by decide)).trans (hv.2.1 s (by omega)).1)) rfl ?_
        refine a_iald 34 dX10_spreadBySailings_33 (CWs.keep h2 hw).2.2.1.2.2.2.2.2.1 (by omega) (by omega) rfl ?_
        refine a_aload_n 35 dX10_spreadBySailings_34 rfl rfl ?_
        refine a_getR 38 dX10_spreadBySailings_35 fX10_18 (CWs.keep h2 hw).1 rfl (CWs.keep h2 hw).2.1.2.2.1 rfl ?_
        refine a_iload_n 39 dX10_spreadBySailings_38 rfl rfl ?_
        refine a_ialdz (h 1018 s) 40 dX10_spreadBySailings_39 (CWs.keep h2 hw).2.2.1.2.2.1 (by omega) (by omega) ((h2.2.2 11 s (show ¬ (11 : Nat) = 20 by decide)).trans ((hh 11 s (by decide)).trans (hv.2.1 s (by omega)).2.2.1)) rfl ?_
        refine a_icmp_gt 82 43 dX10_spreadBySailings_40 (by decide) rfl (fun c40 => ?_) (fun c40 => ?_)
        · skip
          refine a_iinc 85 dX10_spreadBySailings_82 rfl (by unfold zr; omega) (by decide) rfl rfl ?_
          refine a_goto 4 dX10_spreadBySailings_85 (by decide) ?_
          refine ih4 (g2, s + 1, b) ⟨⟨hb, h2, hS2, hle, hz⟩, by dsimp only; omega, fun x hx y1 y2 => ?_⟩ (by dsimp only; omega)
          by_cases e : x = s
          · subst e
            have hms := hV.2.2.2.2.1 x (by omega)
            have := hle (h 1016 x).toNat (by omega)
            first
            | exact absurd c20 y1
            | omega
          · exact hsl x (by dsimp only at hx; omega) y1 y2
        · skip
          refine a_aload_n 44 dX10_spreadBySailings_43 rfl rfl ?_
          refine a_getR 47 dX10_spreadBySailings_44 fX10_21 (CWs.keep h2 hw).1 rfl (CWs.keep h2 hw).2.1.2.2.2.1 rfl ?_
          refine a_iload_n 48 dX10_spreadBySailings_47 rfl rfl ?_
          refine a_ialdz (h 1019 s) 49 dX10_spreadBySailings_48 (CWs.keep h2 hw).2.2.1.2.2.2.1 (by omega) (by omega) ((h2.2.2 12 s (show ¬ (12 : Nat) = 20 by decide)).trans ((hh 12 s (by decide)).trans (hv.2.1 s (by omega)).2.2.2)) rfl ?_
          refine a_aload_n 50 dX10_spreadBySailings_49 rfl rfl ?_
          refine a_getR 53 dX10_spreadBySailings_50 fX10_29 (CWs.keep h2 hw).1 rfl (CWs.keep h2 hw).2.1.2.2.2.2.2.1 rfl ?_
          refine a_aload_n 54 dX10_spreadBySailings_53 rfl rfl ?_
          refine a_getR 57 dX10_spreadBySailings_54 fX10_15 (CWs.keep h2 hw).1 rfl (CWs.keep h2 hw).2.1.2.1 rfl ?_
          refine a_iload_n 58 dX10_spreadBySailings_57 rfl rfl ?_
          refine a_ialdz (h 1017 s) 59 dX10_spreadBySailings_58 (CWs.keep h2 hw).2.2.1.2.1 (by omega) (by omega) ((h2.2.2 10 s (show ¬ (10 : Nat) = 20 by decide)).trans ((hh 10 s (by decide)).trans (hv.2.1 s (by omega)).2.1)) rfl ?_
          refine a_iald 60 dX10_spreadBySailings_59 (CWs.keep h2 hw).2.2.1.2.2.2.2.2.1 (by omega) (by omega) rfl ?_
          refine a_icmp_ge 82 63 dX10_spreadBySailings_60 (by decide) rfl (fun c60 => ?_) (fun c60 => ?_)
          · skip
            refine a_iinc 85 dX10_spreadBySailings_82 rfl (by unfold zr; omega) (by decide) rfl rfl ?_
            refine a_goto 4 dX10_spreadBySailings_85 (by decide) ?_
            refine ih4 (g2, s + 1, b) ⟨⟨hb, h2, hS2, hle, hz⟩, by dsimp only; omega, fun x hx y1 y2 => ?_⟩ (by dsimp only; omega)
            by_cases e : x = s
            · subst e
              have hms := hV.2.2.2.2.1 x (by omega)
              have := hle (h 1016 x).toNat (by omega)
              first
              | exact absurd c20 y1
              | omega
            · exact hsl x (by dsimp only at hx; omega) y1 y2
          · skip
            refine a_aload_n 64 dX10_spreadBySailings_63 rfl rfl ?_
            refine a_getR 67 dX10_spreadBySailings_64 fX10_29 (CWs.keep h2 hw).1 rfl (CWs.keep h2 hw).2.1.2.2.2.2.2.1 rfl ?_
            refine a_aload_n 68 dX10_spreadBySailings_67 rfl rfl ?_
            refine a_getR 71 dX10_spreadBySailings_68 fX10_15 (CWs.keep h2 hw).1 rfl (CWs.keep h2 hw).2.1.2.1 rfl ?_
            refine a_iload_n 72 dX10_spreadBySailings_71 rfl rfl ?_
            refine a_ialdz (h 1017 s) 73 dX10_spreadBySailings_72 (CWs.keep h2 hw).2.2.1.2.1 (by omega) (by omega) ((h2.2.2 10 s (show ¬ (10 : Nat) = 20 by decide)).trans ((hh 10 s (by decide)).trans (hv.2.1 s (by omega)).2.1)) rfl ?_
            refine a_aload_n 74 dX10_spreadBySailings_73 rfl rfl ?_
            refine a_getR 77 dX10_spreadBySailings_74 fX10_21 (CWs.keep h2 hw).1 rfl (CWs.keep h2 hw).2.1.2.2.2.1 rfl ?_
            refine a_iload_n 78 dX10_spreadBySailings_77 rfl rfl ?_
            refine a_ialdz (h 1019 s) 79 dX10_spreadBySailings_78 (CWs.keep h2 hw).2.2.1.2.2.2.1 (by omega) (by omega) ((h2.2.2 12 s (show ¬ (12 : Nat) = 20 by decide)).trans ((hh 12 s (by decide)).trans (hv.2.1 s (by omega)).2.2.2)) rfl ?_
            refine a_iast 80 dX10_spreadBySailings_79 (CWs.keep h2 hw).2.2.1.2.2.2.2.2.1 (by omega) (by omega) rfl ?_
            refine a_iconst (z := 1) 81 dX10_spreadBySailings_80 rfl (zrl rfl) rfl ?_
            refine a_istore_n 82 dX10_spreadBySailings_81 (by decide) rfl rfl ?_
            refine a_iinc 85 dX10_spreadBySailings_82 rfl (by unfold zr; omega) (by decide) rfl rfl ?_
            refine a_goto 4 dX10_spreadBySailings_85 (by decide) ?_
            have hms := hV.2.2.2.2.1 s (by omega)
            have hp : ∃ n, pth h n a d (h 1017 s).toNat (h 1019 s) := by
              rcases hS2.2.1 (h 1016 s).toNat (by omega) with z | ⟨n, z⟩
              · omega
              · exact ⟨n + 1, (h 1016 s).toNat, _, z, by omega, by omega, Or.inr ⟨s, by omega, by omega, by omega, c20, c40, rfl⟩⟩
            have e1 : (gI g2 20 (h 1017 s).toNat (h 1019 s)).2.1 20 (h 1017 s).toNat = h 1019 s := gI_s
            have e2 : ∀ k, k ≠ (h 1017 s).toNat → (gI g2 20 (h 1017 s).toNat (h 1019 s)).2.1 20 k = g2.2.1 20 k := fun k hk => gI_n (Or.inr hk)
            have hle2 : ∀ k, (gI g2 20 (h 1017 s).toNat (h 1019 s)).2.1 20 k ≤ g2.2.1 20 k := fun k => by
              by_cases e : k = (h 1017 s).toNat
              · rw [e, e1]; omega
              · rw [e2 k e]; exact Int.le_refl _
            refine ih4 (gI g2 20 (h 1017 s).toNat (h 1019 s), s + 1, 1) ⟨⟨Or.inr rfl, h2.wr rfl, hS2.upd (by omega) hp (by omega) (by omega) e1 e2, fun k hk => Int.le_trans (hle2 k) (hle k hk), fun z => absurd (show (1 : Int) = 0 from z) (by decide)⟩, by dsimp only; omega, fun x hx y1 y2 => ?_⟩ (by dsimp only; omega)
            by_cases e : x = s
            · subst e; exact Int.le_of_eq e1
            · exact Int.le_trans (hle2 _) (hsl x (by dsimp only at hx; omega) y1 y2)
  · exact ⟨⟨Or.inl rfl, sameB.rf, hS, fun _ _ => Int.le_refl _, fun _ _ _ => rfl⟩, by show ((0 : Nat) : Int) ≤ _; omega, fun s h => absurd h (Nat.not_lt_zero _)⟩
set_option maxHeartbeats 4000000 in
set_option maxRecDepth 100000 in
theorem c10_spreadByRoads (g : GH) {h : Nat → Nat → Int} {a : Nat} {d : Int} (hh : ∀ x k, x ≠ 20 → g.2.1 x k = h x k) (hw : CWs g) (hv : CWv h) (hV : MV h) (hS : spB h a d (g.2.1 20)) : AMet mX10_spreadByRoads g [vA 8] (fun r g' => ∃ b, r = vI b ∧ (b = 0 ∨ b = 1) ∧ sameB (fun x _ => x = 20) g g' ∧ spB h a d (g'.2.1 20) ∧ (∀ k, k < 6 → g'.2.1 20 k ≤ g.2.1 20 k) ∧ (b = 0 → ∀ k, k < 6 → g'.2.1 20 k = g.2.1 20 k) ∧ (∀ u v : Nat, u < 6 → v < 6 → True → h 1020 (6 * u + v) ≠ -9 → g'.2.1 20 v ≤ g.2.1 20 u + h 1020 (6 * u + v))) := by
  refine AMet.of [vA 8, none, none, none] (by decide) rfl (Nat.le_of_ble_eq_true rfl) ?_
  refine a_iconst (z := 0) 1 dX10_spreadByRoads_0 rfl (zrl rfl) rfl ?_
  refine a_istore_n 2 dX10_spreadByRoads_1 (by decide) rfl rfl ?_
  refine a_iconst (z := 0) 3 dX10_spreadByRoads_2 rfl (zrl rfl) rfl ?_
  refine a_istore_n 4 dX10_spreadByRoads_3 (by decide) rfl rfl ?_
  refine AW.loop (α := GH × Nat × Int) (fun p => 6 - p.2.1) (fun p => ((p.2.2 = 0 ∨ p.2.2 = 1) ∧ sameB (fun x _ => x = 20) g p.1 ∧ spB h a d (p.1.2.1 20) ∧ (∀ k, k < 6 → p.1.2.1 20 k ≤ g.2.1 20 k) ∧ (p.2.2 = 0 → ∀ k, k < 6 → p.1.2.1 20 k = g.2.1 20 k)) ∧ p.2.1 ≤ 6 ∧ (∀ u v : Nat, u < 6 → v < 6 → u < p.2.1 → h 1020 (6 * u + v) ≠ -9 → p.1.2.1 20 v ≤ g.2.1 20 u + h 1020 (6 * u + v))) (fun p => p.1) (fun p => [vA 8, vI p.2.2, vI (p.2.1 : Int), none]) (fun p => []) ?_ (g, 0, 0) ?_
  · rintro ⟨g2, u, b⟩ ⟨⟨hb, h2, hS2, hle, hz⟩, hu6, hru⟩ ih4
    try dsimp only at hI ih ⊢
    try dsimp only at hb h2 hS2 hle hz hu6 hru ih4 ⊢
    refine a_iload_n 5 dX10_spreadByRoads_4 rfl rfl ?_
    refine a_bipush (z := 6) 7 dX10_spreadByRoads_5 rfl (zrl rfl) rfl ?_
    refine a_icmp_ge 90 10 dX10_spreadByRoads_7 (by decide) rfl (fun c7 => ?_) (fun c7 => ?_)
    · skip
      refine a_iload_n 91 dX10_spreadByRoads_90 rfl rfl ?_
      refine a_breturn dX10_spreadByRoads_91 rfl (by omega) ⟨Nat.zero_le _, Nat.zero_le _⟩ ?_
      exact ⟨b, rfl, hb, h2, hS2, hle, hz, fun x y h1 h3 _ h5 => hru x y h1 h3 (by omega) h5⟩
    · skip
      refine a_iconst (z := 0) 11 dX10_spreadByRoads_10 rfl (zrl rfl) rfl ?_
      refine a_istore_n 12 dX10_spreadByRoads_11 (by decide) rfl rfl ?_
      refine AW.loop (α := GH × Nat × Int) (fun p => 6 - p.2.1) (fun p => ((p.2.2 = 0 ∨ p.2.2 = 1) ∧ sameB (fun x _ => x = 20) g p.1 ∧ spB h a d (p.1.2.1 20) ∧ (∀ k, k < 6 → p.1.2.1 20 k ≤ g.2.1 20 k) ∧ (p.2.2 = 0 → ∀ k, k < 6 → p.1.2.1 20 k = g.2.1 20 k)) ∧ p.2.1 ≤ 6 ∧ (∀ x y : Nat, x < 6 → y < 6 → (x < u ∨ (x = u ∧ y < p.2.1)) → h 1020 (6 * x + y) ≠ -9 → p.1.2.1 20 y ≤ g.2.1 20 x + h 1020 (6 * x + y))) (fun p => p.1) (fun p => [vA 8, vI p.2.2, vI (u : Int), vI (p.2.1 : Int)]) (fun p => []) ?_ (g2, 0, b) ?_
      · rintro ⟨g2, v, b⟩ ⟨⟨hb, h2, hS2, hle, hz⟩, hv6, hrv⟩ ih12
        try dsimp only at hI ih ⊢
        try dsimp only at hb h2 hS2 hle hz hv6 hrv ih12 ⊢
        refine a_iload_n 13 dX10_spreadByRoads_12 rfl rfl ?_
        refine a_bipush (z := 6) 15 dX10_spreadByRoads_13 rfl (zrl rfl) rfl ?_
        refine a_icmp_ge 84 18 dX10_spreadByRoads_15 (by decide) rfl (fun c15 => ?_) (fun c15 => ?_)
        · skip
          refine a_iinc 87 dX10_spreadByRoads_84 rfl (by unfold zr; omega) (by decide) rfl rfl ?_
          refine a_goto 4 dX10_spreadByRoads_87 (by decide) ?_
          refine AW.kill 3 ?_
          exact ih4 (g2, u + 1, b) ⟨⟨hb, h2, hS2, hle, hz⟩, by dsimp only; omega, fun x y h1 h3 h4 h5 => hrv x y h1 h3 (by dsimp only at h4; omega) h5⟩ (by dsimp only; omega)
        · skip
          refine a_aload_n 19 dX10_spreadByRoads_18 rfl rfl ?_
          refine a_getR 22 dX10_spreadByRoads_19 fX10_26 (CWs.keep h2 hw).1 rfl (CWs.keep h2 hw).2.1.2.2.2.2.1 rfl ?_
          refine a_iload_n 23 dX10_spreadByRoads_22 rfl rfl ?_
          refine a_aald 24 dX10_spreadByRoads_23 (CWs.keep h2 hw).2.2.1.2.2.2.2.1 rfl (by omega) (by omega) ((CWs.keep h2 hw).2.2.2 u (by omega)).1 rfl ?_
          refine a_iload_n 25 dX10_spreadByRoads_24 rfl rfl ?_
          refine a_ialdz (h 1020 (6 * u + v)) 26 dX10_spreadByRoads_25 ((CWs.keep h2 hw).2.2.2 u (by omega)).2 (by omega) (by omega) ((h2.2.2 (14 + u) v (show ¬ 14 + u = 20 by omega)).trans ((hh (14 + u) v (by omega)).trans (hv.2.2 u v (by omega) (by omega)))) rfl ?_
          refine a_bipush (z := (-9)) 28 dX10_spreadByRoads_26 rfl (zrl rfl) rfl ?_
          refine a_icmp_eq 78 31 dX10_spreadByRoads_28 (by decide) rfl (fun c28 => ?_) (fun c28 => ?_)
          · skip
            refine a_iinc 81 dX10_spreadByRoads_78 rfl (by unfold zr; omega) (by decide) rfl rfl ?_
            refine a_goto 12 dX10_spreadByRoads_81 (by decide) ?_
            have hlu := hle u (by omega)
            refine ih12 (g2, v + 1, b) ⟨⟨hb, h2, hS2, hle, hz⟩, by dsimp only; omega, fun x y h1 h3 h4 h5 => ?_⟩ (by dsimp only; omega)
            dsimp only at h4
            by_cases e : x = u ∧ y = v
            · obtain ⟨rfl, rfl⟩ := e
              first
              | exact absurd c28 h5
              | (dsimp only; omega)
            · exact hrv x y h1 h3 (by omega) h5
          · skip
            have hr := hV.2.2.2.2.2.1 (6 * u + v) (by omega)
            have hSu := hS2.1 u (by omega)
            have hSv := hS2.1 v (by omega)
            refine a_aload_n 32 dX10_spreadByRoads_31 rfl rfl ?_
            refine a_getR 35 dX10_spreadByRoads_32 fX10_29 (CWs.keep h2 hw).1 rfl (CWs.keep h2 hw).2.1.2.2.2.2.2.1 rfl ?_
            refine a_iload_n 36 dX10_spreadByRoads_35 rfl rfl ?_
            refine a_ialdz (g2.2.1 20 u) 37 dX10_spreadByRoads_36 (CWs.keep h2 hw).2.2.1.2.2.2.2.2.1 (by omega) (by omega) rfl rfl ?_
            refine a_aload_n 38 dX10_spreadByRoads_37 rfl rfl ?_
            refine a_getR 41 dX10_spreadByRoads_38 fX10_26 (CWs.keep h2 hw).1 rfl (CWs.keep h2 hw).2.1.2.2.2.2.1 rfl ?_
            refine a_iload_n 42 dX10_spreadByRoads_41 rfl rfl ?_
            refine a_aald 43 dX10_spreadByRoads_42 (CWs.keep h2 hw).2.2.1.2.2.2.2.1 rfl (by omega) (by omega) ((CWs.keep h2 hw).2.2.2 u (by omega)).1 rfl ?_
            refine a_iload_n 44 dX10_spreadByRoads_43 rfl rfl ?_
            refine a_ialdz (h 1020 (6 * u + v)) 45 dX10_spreadByRoads_44 ((CWs.keep h2 hw).2.2.2 u (by omega)).2 (by omega) (by omega) ((h2.2.2 (14 + u) v (show ¬ 14 + u = 20 by omega)).trans ((hh (14 + u) v (by omega)).trans (hv.2.2 u v (by omega) (by omega)))) rfl ?_
            refine a_iadd 46 dX10_spreadByRoads_45 (by unfold zr; omega) rfl ?_
            refine a_aload_n 47 dX10_spreadByRoads_46 rfl rfl ?_
            refine a_getR 50 dX10_spreadByRoads_47 fX10_29 (CWs.keep h2 hw).1 rfl (CWs.keep h2 hw).2.1.2.2.2.2.2.1 rfl ?_
            refine a_iload_n 51 dX10_spreadByRoads_50 rfl rfl ?_
            refine a_ialdz (g2.2.1 20 v) 52 dX10_spreadByRoads_51 (CWs.keep h2 hw).2.2.1.2.2.2.2.2.1 (by omega) (by omega) rfl rfl ?_
            refine a_icmp_ge 78 55 dX10_spreadByRoads_52 (by decide) rfl (fun c52 => ?_) (fun c52 => ?_)
            · skip
              refine a_iinc 81 dX10_spreadByRoads_78 rfl (by unfold zr; omega) (by decide) rfl rfl ?_
              refine a_goto 12 dX10_spreadByRoads_81 (by decide) ?_
              have hlu := hle u (by omega)
              refine ih12 (g2, v + 1, b) ⟨⟨hb, h2, hS2, hle, hz⟩, by dsimp only; omega, fun x y h1 h3 h4 h5 => ?_⟩ (by dsimp only; omega)
              dsimp only at h4
              by_cases e : x = u ∧ y = v
              · obtain ⟨rfl, rfl⟩ := e
                first
                | exact absurd c28 h5
                | (dsimp only; omega)
              · exact hrv x y h1 h3 (by omega) h5
            · skip
              refine a_aload_n 56 dX10_spreadByRoads_55 rfl rfl ?_
              refine a_getR 59 dX10_spreadByRoads_56 fX10_29 (CWs.keep h2 hw).1 rfl (CWs.keep h2 hw).2.1.2.2.2.2.2.1 rfl ?_
              refine a_iload_n 60 dX10_spreadByRoads_59 rfl rfl ?_
              refine a_aload_n 61 dX10_spreadByRoads_60 rfl rfl ?_
              refine a_getR 64 dX10_spreadByRoads_61 fX10_29 (CWs.keep h2 hw).1 rfl (CWs.keep h2 hw).2.1.2.2.2.2.2.1 rfl ?_
              refine a_iload_n 65 dX10_spreadByRoads_64 rfl rfl ?_
              refine a_ialdz (g2.2.1 20 u) 66 dX10_spreadByRoads_65 (CWs.keep h2 hw).2.2.1.2.2.2.2.2.1 (by omega) (by omega) rfl rfl ?_
              refine a_aload_n 67 dX10_spreadByRoads_66 rfl rfl ?_
              refine a_getR 70 dX10_spreadByRoads_67 fX10_26 (CWs.keep h2 hw).1 rfl (CWs.keep h2 hw).2.1.2.2.2.2.1 rfl ?_
              refine a_iload_n 71 dX10_spreadByRoads_70 rfl rfl ?_
              refine a_aald 72 dX10_spreadByRoads_71 (CWs.keep h2 hw).2.2.1.2.2.2.2.1 rfl (by omega) (by omega) ((CWs.keep h2 hw).2.2.2 u (by omega)).1 rfl ?_
              refine a_iload_n 73 dX10_spreadByRoads_72 rfl rfl ?_
              refine a_ialdz (h 1020 (6 * u + v)) 74 dX10_spreadByRoads_73 ((CWs.keep h2 hw).2.2.2 u (by omega)).2 (by omega) (by omega) ((h2.2.2 (14 + u) v (show ¬ 14 + u = 20 by omega)).trans ((hh (14 + u) v (by omega)).trans (hv.2.2 u v (by omega) (by omega)))) rfl ?_
              refine a_iadd 75 dX10_spreadByRoads_74 (by unfold zr; omega) rfl ?_
              refine a_iast 76 dX10_spreadByRoads_75 (CWs.keep h2 hw).2.2.1.2.2.2.2.2.1 (by omega) (by omega) rfl ?_
              refine a_iconst (z := 1) 77 dX10_spreadByRoads_76 rfl (zrl rfl) rfl ?_
              refine a_istore_n 78 dX10_spreadByRoads_77 (by decide) rfl rfl ?_
              refine a_iinc 81 dX10_spreadByRoads_78 rfl (by unfold zr; omega) (by decide) rfl rfl ?_
              refine a_goto 12 dX10_spreadByRoads_81 (by decide) ?_
              have hr := hV.2.2.2.2.2.1 (6 * u + v) (by omega)
              have hSu := hS2.1 u (by omega)
              have hSv := hS2.1 v (by omega)
              have hp : ∃ n, pth h n a d v (g2.2.1 20 u + h 1020 (6 * u + v)) := by
                rcases hS2.2.1 u (by omega) with z | ⟨n, z⟩
                · omega
                · exact ⟨n + 1, u, _, z, by omega, by omega, Or.inl ⟨c28, rfl⟩⟩
              have e1 : (gI g2 20 v (g2.2.1 20 u + h 1020 (6 * u + v))).2.1 20 v = g2.2.1 20 u + h 1020 (6 * u + v) := gI_s
              have e2 : ∀ k, k ≠ v → (gI g2 20 v (g2.2.1 20 u + h 1020 (6 * u + v))).2.1 20 k = g2.2.1 20 k := fun k hk => gI_n (Or.inr hk)
              have hle2 : ∀ k, (gI g2 20 v (g2.2.1 20 u + h 1020 (6 * u + v))).2.1 20 k ≤ g2.2.1 20 k := fun k => by
                by_cases e : k = v
                · rw [e, e1]; omega
                · rw [e2 k e]; exact Int.le_refl _
              have hlu := hle u (by omega)
              refine ih12 (gI g2 20 v (g2.2.1 20 u + h 1020 (6 * u + v)), v + 1, 1) ⟨⟨Or.inr rfl, h2.wr rfl, hS2.upd (by omega) hp (by omega) (by omega) e1 e2, fun k hk => Int.le_trans (hle2 k) (hle k hk), fun z => absurd (show (1 : Int) = 0 from z) (by decide)⟩, by dsimp only; omega, fun x y h1 h3 h4 h5 => ?_⟩ (by dsimp only; omega)
              dsimp only at h4
              by_cases e : x = u ∧ y = v
              · obtain ⟨rfl, rfl⟩ := e
                exact Int.le_trans (Int.le_of_eq e1) (by omega)
              · exact Int.le_trans (hle2 _) (hrv x y h1 h3 (by omega) h5)
      · exact ⟨⟨hb, h2, hS2, hle, hz⟩, Nat.zero_le _, fun x y h1 h3 h4 h5 => hru x y h1 h3 (by dsimp only at h4; omega) h5⟩
  · exact ⟨⟨Or.inl rfl, sameB.rf, hS, fun _ _ => Int.le_refl _, fun _ _ _ => rfl⟩, Nat.zero_le _, fun u v _ _ h => absurd h (Nat.not_lt_zero _)⟩
