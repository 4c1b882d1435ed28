theorem gI_s {g : GH} {a k : Nat} {z : Int} : (gI g a k z).2.1 a k = z := u2_s
theorem twn_b {h : Nat → Nat → Int} (hV : MV h) {m : Int} (hm : 0 ≤ m ∧ m < h 1000 13) (hd : h 1014 (10 * m + 2).toNat ≠ -9) : 0 ≤ twn h m ∧ twn h m ≤ 5 := by
  have hc := hV.1
  unfold MVc at hc
  have hm9 := hV.2.2.2.1 m hm.1 hm.2
  have hd9 := hV.2.2.1.at (i := h 1014 (10 * m + 2).toNat) (by omega) (by omega)
  have ho9 := hV.2.1.at (i := h 1008 (h 1014 (10 * m + 2).toNat).toNat) (by omega) (by omega)
  exact ho9.1
theorem soon_b {h : Nat → Nat → Int} (hV : MV h) {a b : Nat} {d z : Int} (hd : 0 ≤ d) (q : isSoon h a d b z) : 0 ≤ z ∧ z ≤ 1000 := by
  refine ⟨?_, q.1⟩
  rcases q.2.1 with q | ⟨n, q⟩
  · omega
  · have := pth_le hV.2.2.2.2.1 hV.2.2.2.2.2.1 q; omega
def fromV (h : Nat → Nat → Int) (T Dy : Int) (m : Int) : Int → Prop := fun z => z = (if T = -9 then 0 else soonV h T.toNat Dy (twn h m).toNat)
/-- what is asked of the ways' row -/
def wOK (h : Nat → Nat → Int) (w : Nat → Int) (n : Nat) : Prop := h 1000 23 = n ∧ n ≤ 10 ∧ ∀ i : Nat, i < n → h 1024 i = w i ∧ (0 ≤ w i ∧ w i < h 1000 13) ∧ h 1014 (10 * w i + 2).toNat ≠ -9
abbrev goPost (g : GH) (w : Nat → Int) (L : Int) (n : Nat) : AV → GH → Prop := fun r g' => (∃ b, r = vI b ∧ isb b ((gst g.2.1 w L n).2.2 = -9)) ∧ sameB iX g g' ∧ g'.2.1 1000 27 = (gst g.2.1 w L n).2.2 ∧ ((gst g.2.1 w L n).2.2 = -9 → fstB g.2.1 w L n (g'.2.1 1025))
set_option maxHeartbeats 4000000 in
set_option maxRecDepth 100000 in
theorem r_isGoing (g : GH) (L : Int) (w : Nat → Int) (n : Nat) (hM : MR g) (hV : MV g.2.1) (hw : wOK g.2.1 w n) (hL : 0 ≤ L) : AMet mX12_isGoing g [vA 1000, vI L] (goPost g w L n) := by
  refine AMet.of [vA 1000, vI L, none, none, none, none, none, none] (by decide) rfl (Nat.le_of_ble_eq_true rfl) ?_
  have hc := hV.1
  unfold MVc at hc
  obtain ⟨hn, hn10, hw⟩ := hw
  refine a_bipush (z := (-9)) 2 dX12_isGoing_0 rfl (zrl rfl) rfl ?_
  refine a_istore_n 3 dX12_isGoing_2 (by decide) rfl rfl ?_
  refine a_iconst (z := 0) 4 dX12_isGoing_3 rfl (zrl rfl) rfl ?_
  refine a_istore_n 5 dX12_isGoing_4 (by decide) rfl rfl ?_
  refine a_iconst (z := 0) 6 dX12_isGoing_5 rfl (zrl rfl) rfl ?_
  refine a_istore 8 dX12_isGoing_6 (by decide) rfl rfl ?_
  refine AW.loop (α := GH × Nat) (fun p => n - p.2) (fun p => p.2 ≤ n ∧ sameB iX g p.1 ∧ (gst g.2.1 w L p.2).2.2 = -9 ∧ (((gst g.2.1 w L p.2).1 = -9 ∨ (0 ≤ (gst g.2.1 w L p.2).1 ∧ (gst g.2.1 w L p.2).1 ≤ 5)) ∧ 0 ≤ (gst g.2.1 w L p.2).2.1 ∧ (gst g.2.1 w L p.2).2.1 ≤ 999) ∧ fstB g.2.1 w L p.2 (p.1.2.1 1025)) (fun p => p.1) (fun p => [vA 1000, vI L, vI (gst g.2.1 w L p.2).1, vI (gst g.2.1 w L p.2).2.1, vI (p.2 : Int), none, none, none]) (fun p => []) ?_ (g, 0) ?_
  · rintro ⟨g2, i⟩ ⟨hI, hk, hb9, htd, hfs⟩ ih8
    try dsimp only at hI ih ⊢
    try dsimp only at hI hk hb9 htd hfs ih8 ⊢
    have hh := hk.hk iX_scr
    have hV2 := MV_keep iX_scr hk hV
    refine a_iload 10 dX12_isGoing_8 rfl rfl ?_
    refine a_aload_n 11 dX12_isGoing_10 rfl rfl ?_
    refine a_getIz ((n : Int)) 14 dX12_isGoing_11 fX12_146 (hk.MR hM).1 rfl ((hk.2.2 1000 23 (by unfold iX; omega)).trans hn) rfl ?_
    refine a_icmp_ge 125 17 dX12_isGoing_14 (by decide) rfl (fun c14 => ?_) (fun c14 => ?_)
    · skip
      refine a_aload_n 126 dX12_isGoing_125 rfl rfl ?_
      refine a_bipush (z := (-9)) 128 dX12_isGoing_126 rfl (zrl rfl) rfl ?_
      refine a_putI 131 dX12_isGoing_128 fX12_152 (Or.inl rfl) (hk.MR hM).1 (Or.inl rfl) rfl ?_
      refine a_iconst (z := 1) 132 dX12_isGoing_131 rfl (zrl rfl) rfl ?_
      refine a_breturn dX12_isGoing_132 rfl (by decide) ⟨Nat.zero_le _, Nat.zero_le _⟩ ?_
      have e : i = n := by omega
      subst e
      refine ⟨⟨_, rfl, Or.inl ⟨rfl, hb9⟩⟩, hk.wr (Or.inl ⟨rfl, rfl⟩), ?_, fun _ => fun j hj hz => ?_⟩
      · rw [hb9]; exact gI_s
      · rw [gI_n (Or.inl (by decide))]; exact hfs j hj hz
    · skip
      refine a_iload_n 18 dX12_isGoing_17 rfl rfl ?_
      refine a_iload 20 dX12_isGoing_18 rfl rfl ?_
      refine a_ishr (L / 2 ^ i) 21 dX12_isGoing_20 (v_shr (y := (i : Int)) hL (by omega) (by omega)) rfl ?_
      refine a_iconst (z := 1) 22 dX12_isGoing_21 rfl (zrl rfl) rfl ?_
      refine a_iand _ 23 dX12_isGoing_22 v_and1 rfl ?_
      refine a_if_ne 119 26 dX12_isGoing_23 (by decide) rfl (fun c23 => ?_) (fun c23 => ?_)
      · skip
        refine a_iinc 122 dX12_isGoing_119 rfl (by unfold zr; omega) (by decide) rfl rfl ?_
        refine a_goto 8 dX12_isGoing_122 (by decide) ?_
        first
        | (have e9 := gst_let (h := g.2.1) (w := w) (L := L) (i := i) (by omega)
           have h9 := ih8 (g2, i + 1) ⟨by omega, hk, by rw [e9]; exact hb9, by rw [e9]; exact htd, fun j hj hz => by
             by_cases e : j = i
             · subst e; exact absurd hz (by omega)
             · exact hfs j (by dsimp only at hj; omega) hz⟩ (by dsimp only; omega)
           rw [e9] at h9
           exact h9)
        | (refine AW.kill 5 (AW.kill 6 (AW.kill 7 ?_))
           have e9 := gst_go (h := g.2.1) (w := w) (L := L) (i := i) hb9 (by omega) (by rw [← h61.2.2.1, ← hF]; omega)
           rw [← h61.2.2.1, ← hF] at e9
           have h9 := ih8 (gI g61 1025 (i : Int).toNat d, i + 1) ⟨by omega, h61.1.wr (Or.inr (Or.inr (Or.inr rfl))), by rw [e9], by rw [e9]; dsimp only; omega, fun j hj hz => by
             dsimp only at hj ⊢
             by_cases e : j = i
             · subst e; rw [e9]; show u2 _ 1025 (j : Int).toNat d 1025 j = d; rw [Int.toNat_natCast, u2_s]
             · rw [gI_n (Or.inr (by omega)), h61.2.1]; exact hfs j (by omega) hz⟩ (by dsimp only; omega)
           rw [e9] at h9
           exact h9)
      · skip
        have hwi := hw i (by omega)
        refine a_aload_n 27 dX12_isGoing_26 rfl rfl ?_
        refine a_getR 30 dX12_isGoing_27 fX12_62 (hk.MR hM).1 rfl (mr_24 (hk.MR hM)).1 rfl ?_
        refine a_iload 32 dX12_isGoing_30 rfl rfl ?_
        refine a_ialdz (w i) 33 dX12_isGoing_32 (mr_24 (hk.MR hM)).2 (by omega) (by omega) ((hk.2.2 1024 i (by unfold iX; omega)).trans hwi.1) rfl ?_
        refine a_istore 35 dX12_isGoing_33 (by decide) rfl rfl ?_
        refine a_aload_n 36 dX12_isGoing_35 rfl rfl ?_
        refine a_iload 38 dX12_isGoing_36 rfl rfl ?_
        refine a_callV 41 (r_townOf _ _ (hk.MR hM) hV2 (by rw [hh.cnt (by omega)]; exact hwi.2.1) (by rw [hh.row (by omega)]; exact hwi.2.2)) cdX12_townOf lX12_149 dX12_isGoing_38 rfl (hk.MR hM).1 rfl ⟨by decide, by decide, rfl, rfl⟩ ⟨Nat.zero_le _, Nat.zero_le _⟩ (Nat.le_of_ble_eq_true rfl) rfl ?_
        rintro _ _ - ⟨rfl, rfl⟩ -
        have e38 : g2.2.1 1004 (g2.2.1 1008 (g2.2.1 1014 (10 * w i + 2).toNat).toNat).toNat = twn g.2.1 (w i) := congrFun hh.twn (w i)
        rw [e38]
        have htb := twn_b hV hwi.2.1 hwi.2.2
        refine a_istore 43 dX12_isGoing_41 (by decide) rfl rfl ?_
        refine AW.cutG (J := 61) (P := fun z g' => sameB iX g g' ∧ g'.2.1 1025 = g2.2.1 1025 ∧ z = (if (gst g.2.1 w L i).1 = -9 then 0 else soonV g.2.1 (gst g.2.1 w L i).1.toNat (gst g.2.1 w L i).2.1 (twn g.2.1 (w i)).toNat) ∧ 0 ≤ z ∧ z ≤ 1000) ?_ (fun J61 => ?_)
        · intro z61 g61 h61
          have hh3 := h61.1.hk iX_scr
          have hV3 := MV_keep iX_scr h61.1 hV
          refine a_istore 63 dX12_isGoing_61 (by decide) rfl rfl ?_
          refine AW.loop (α := Int) (fun p => (1000 - p).toNat) (fun p => (z61 ≤ p ∧ p ≤ 1000) ∧ ∀ x, z61 ≤ x → x < p → ¬ canB g.2.1 (w i) x) (fun p => g61) (fun p => [vA 1000, vI L, vI (gst g.2.1 w L i).1, vI (gst g.2.1 w L i).2.1, vI (i : Int), vI (w i), vI (twn g.2.1 (w i)), vI p]) (fun p => []) ?_ z61 ?_
          · intro d hI2 ih63
            try dsimp only at hI ih ⊢
            refine a_iload 65 dX12_isGoing_63 rfl rfl ?_
            refine a_sipush (z := 999) 68 dX12_isGoing_65 rfl (zrl rfl) rfl ?_
            refine a_icmp_gt 88 71 dX12_isGoing_68 (by decide) rfl (fun c68 => ?_) (fun c68 => ?_)
            · skip
              have hF : d = fdV (canB g.2.1 (w i)) z61 := fdV_eq (by first | exact Or.inr ⟨by omega, fun x h1 h2 => hI2.2 x h1 (by omega)⟩ | exact Or.inl ⟨by omega, by omega, isT h76 c79, fun x h1 h2 => hI2.2 x h1 h2⟩)
              refine a_iload 90 dX12_isGoing_88 rfl rfl ?_
              refine a_sipush (z := 999) 93 dX12_isGoing_90 rfl (zrl rfl) rfl ?_
              refine a_icmp_le 104 96 dX12_isGoing_93 (by decide) rfl (fun c93 => ?_) (fun c93 => ?_)
              · exfalso; omega
              · skip
                refine a_aload_n 97 dX12_isGoing_96 rfl rfl ?_
                refine a_iload 99 dX12_isGoing_97 rfl rfl ?_
                refine a_putI 102 dX12_isGoing_99 fX12_152 (Or.inl rfl) (h61.1.MR hM).1 (Or.inl rfl) rfl ?_
                refine a_iconst (z := 0) 103 dX12_isGoing_102 rfl (zrl rfl) rfl ?_
                refine a_breturn dX12_isGoing_103 rfl (by decide) ⟨Nat.zero_le _, Nat.zero_le _⟩ ?_
                have e9 := gst_bar (h := g.2.1) (w := w) (L := L) (i := i) hb9 (by omega) (by rw [← h61.2.2.1, ← hF]; omega)
                have e10 := gst_end (h := g.2.1) (w := w) (L := L) (i := i + 1) (n := n) (by rw [e9]; dsimp only; omega) (by omega)
                rw [e9] at e10
                refine ⟨⟨_, rfl, Or.inr ⟨rfl, by rw [e10]; dsimp only; omega⟩⟩, h61.1.wr (Or.inl ⟨rfl, rfl⟩), ?_, fun q => ?_⟩
                · rw [e10]; exact gI_s
                · rw [e10] at q; dsimp only at q; omega
            · skip
              refine a_aload_n 72 dX12_isGoing_71 rfl rfl ?_
              refine a_iload 74 dX12_isGoing_72 rfl rfl ?_
              refine a_iload 76 dX12_isGoing_74 rfl rfl ?_
              refine a_callV 79 (r_canBe _ _ _ (h61.1.MR hM) hV3 (by rw [hh3.cnt (by omega)]; exact hwi.2.1) (by omega)) cdX12_canBe lX12_128 dX12_isGoing_76 rfl (h61.1.MR hM).1 rfl ⟨by decide, by decide, rfl, rfl⟩ ⟨Nat.zero_le _, Nat.zero_le _⟩ (Nat.le_of_ble_eq_true rfl) rfl ?_
              rintro _ _ - ⟨b76, rfl, rfl, h76⟩ -
              rw [hh3.canB] at h76
              refine a_if_ne 88 82 dX12_isGoing_79 (by decide) rfl (fun c79 => ?_) (fun c79 => ?_)
              · skip
                have hF : d = fdV (canB g.2.1 (w i)) z61 := fdV_eq (by first | exact Or.inr ⟨by omega, fun x h1 h2 => hI2.2 x h1 (by omega)⟩ | exact Or.inl ⟨by omega, by omega, isT h76 c79, fun x h1 h2 => hI2.2 x h1 h2⟩)
                refine a_iload 90 dX12_isGoing_88 rfl rfl ?_
                refine a_sipush (z := 999) 93 dX12_isGoing_90 rfl (zrl rfl) rfl ?_
                refine a_icmp_le 104 96 dX12_isGoing_93 (by decide) rfl (fun c93 => ?_) (fun c93 => ?_)
                · skip
                  refine a_aload_n 105 dX12_isGoing_104 rfl rfl ?_
                  refine a_getR 108 dX12_isGoing_105 fX12_65 (h61.1.MR hM).1 rfl (mr_25 (h61.1.MR hM)).1 rfl ?_
                  refine a_iload 110 dX12_isGoing_108 rfl rfl ?_
                  refine a_iload 112 dX12_isGoing_110 rfl rfl ?_
                  refine a_iast 113 dX12_isGoing_112 (mr_25 (h61.1.MR hM)).2 (by omega) (by omega) rfl ?_
                  refine a_iload 115 dX12_isGoing_113 rfl rfl ?_
                  refine a_istore_n 116 dX12_isGoing_115 (by decide) rfl rfl ?_
                  refine a_iload 118 dX12_isGoing_116 rfl rfl ?_
                  refine a_istore_n 119 dX12_isGoing_118 (by decide) rfl rfl ?_
                  refine a_iinc 122 dX12_isGoing_119 rfl (by unfold zr; omega) (by decide) rfl rfl ?_
                  refine a_goto 8 dX12_isGoing_122 (by decide) ?_
                  first
                  | (have e9 := gst_let (h := g.2.1) (w := w) (L := L) (i := i) (by omega)
                     have h9 := ih8 (g2, i + 1) ⟨by omega, hk, by rw [e9]; exact hb9, by rw [e9]; exact htd, fun j hj hz => by
                       by_cases e : j = i
                       · subst e; exact absurd hz (by omega)
                       · exact hfs j (by dsimp only at hj; omega) hz⟩ (by dsimp only; omega)
                     rw [e9] at h9
                     exact h9)
                  | (refine AW.kill 5 (AW.kill 6 (AW.kill 7 ?_))
                     have e9 := gst_go (h := g.2.1) (w := w) (L := L) (i := i) hb9 (by omega) (by rw [← h61.2.2.1, ← hF]; omega)
                     rw [← h61.2.2.1, ← hF] at e9
                     have h9 := ih8 (gI g61 1025 (i : Int).toNat d, i + 1) ⟨by omega, h61.1.wr (Or.inr (Or.inr (Or.inr rfl))), by rw [e9], by rw [e9]; dsimp only; omega, fun j hj hz => by
                       dsimp only at hj ⊢
                       by_cases e : j = i
                       · subst e; rw [e9]; show u2 _ 1025 (j : Int).toNat d 1025 j = d; rw [Int.toNat_natCast, u2_s]
                       · rw [gI_n (Or.inr (by omega)), h61.2.1]; exact hfs j (by omega) hz⟩ (by dsimp only; omega)
                     rw [e9] at h9
                     exact h9)
                · exfalso; omega
              · skip
                refine a_iinc 85 dX12_isGoing_82 rfl (by unfold zr; omega) (by decide) rfl rfl ?_
                refine a_goto 63 dX12_isGoing_85 (by decide) ?_
                exact ih63 (d + 1) ⟨by omega, fun x h1 h2 => by
                  by_cases e : x = d
                  · subst e; exact isN h76 c79
                  · exact hI2.2 x h1 (by omega)⟩ (by omega)
          · exact ⟨by omega, fun x h1 h2 => by omega⟩
        · skip
          refine a_iload_n 44 dX12_isGoing_43 rfl rfl ?_
          refine a_bipush (z := (-9)) 46 dX12_isGoing_44 rfl (zrl rfl) rfl ?_
          refine a_icmp_ne 53 49 dX12_isGoing_46 (by decide) rfl (fun c46 => ?_) (fun c46 => ?_)
          · skip
            refine a_aload_n 54 dX12_isGoing_53 rfl rfl ?_
            refine a_iload_n 55 dX12_isGoing_54 rfl rfl ?_
            refine a_iload_n 56 dX12_isGoing_55 rfl rfl ?_
            refine a_iload 58 dX12_isGoing_56 rfl rfl ?_
            refine a_callV 61 (r_soonestOf _ _ _ _ (hk.MR hM) hV2 (by omega) (by omega) (by omega)) cdX12_soonestOf lX12_142 dX12_isGoing_58 rfl (hk.MR hM).1 rfl ⟨by decide, by decide, rfl, rfl⟩ ⟨Nat.zero_le _, Nat.zero_le _⟩ (Nat.le_of_ble_eq_true rfl) rfl ?_
            rintro _ g58 - ⟨S58, D58, rfl, e58, hs58⟩ -
            rw [hh.soonV] at hs58 ⊢
            rw [hh.isSoon] at hs58
            first
            | exact J61 _ _ ⟨hk, rfl, by rw [if_pos c46], by omega, by omega⟩
            | (have hsb := soon_b hV (by omega) hs58
               refine J61 _ _ ⟨?_, ?_, by rw [if_neg c46], hsb.1, hsb.2⟩
               · rw [e58]; exact hk.tr ((gSD_same _ _ _).mono (by unfold iX; omega))
               · rw [e58]; funext k; exact (gSD_same g2 S58 D58).2.2 1025 k (by omega))
          · skip
            refine a_iconst (z := 0) 50 dX12_isGoing_49 rfl (zrl rfl) rfl ?_
            refine a_goto 61 dX12_isGoing_50 (by decide) ?_
            first
            | exact J61 _ _ ⟨hk, rfl, by rw [if_pos c46], by omega, by omega⟩
            | (have hsb := soon_b hV (by omega) hs58
               refine J61 _ _ ⟨?_, ?_, by rw [if_neg c46], hsb.1, hsb.2⟩
               · rw [e58]; exact hk.tr ((gSD_same _ _ _).mono (by unfold iX; omega))
               · rw [e58]; funext k; exact (gSD_same g2 S58 D58).2.2 1025 k (by omega))
  · exact ⟨Nat.zero_le _, sameB.rf, rfl, ⟨Or.inl rfl, by show (0 : Int) ≤ 0; omega, by show (0 : Int) ≤ 999; omega⟩, fun j hj => absurd hj (Nat.not_lt_zero j)⟩
