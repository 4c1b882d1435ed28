/-- the chain holds n marks M, all with a die -/
def CHn (g : GH) (n : Nat) (M : Nat → Nat) : Prop := n ≤ 10 ∧ g.2.1 22 4 = n ∧ ∀ i, i < n → g.2.2.2 23 i = some (100 + M i) ∧ (M i : Int) < g.2.1 1000 13 ∧ g.2.1 1014 (10 * M i + 2) ≠ -9
def gX (x _ : Nat) : Prop := x = 20 ∨ x = 24
theorem gX_hk {g g' : GH} (h : sameB gX g g') : HK g.2.1 g'.2.1 := fun a k y _ => h.2.2 a k (by unfold gX; omega)
theorem gX_cm {g g' : GH} (h : sameB gX g g') (hC : CMk g) (hn : g.2.1 1000 13 ≤ 40) : CMk g' := hC.keep h.1 (gX_hk h) (fun a k q => h.2.2 a k (by unfold kpC at q; unfold gX; omega)) (fun a _ => by rw [h.lg]) (fun a k _ => by rw [h.2.1]) hn
theorem gX_cg {X : Nat → Nat → Prop} {g g' : GH} (h : sameB X g g') (q : CGs g) : CGs g' := by unfold CGs at q ⊢; rw [h.1, h.2.1]; exact q
theorem CHn.town {g : GH} {n i : Nat} {M : Nat → Nat} (q : CHn g n M) (hC : CMk g) (hi : i < n) : g.2.1 (100 + M i) 11 = twn g.2.1 (M i : Int) := (hC.k (q.2.2 i hi).2.1).2.2.2.2.1.2 (q.2.2 i hi).2.2
/-- days of a mark of the class, first from x on -/
theorem MKd.fd {g : GH} {m : Nat} (h : MKd g m) {x z : Int} (hx : 0 ≤ x) (q : isFd (dB (g.2.2.1 (300 + m))) x z) : z = fdV (canB g.2.1 m) x := by
  refine fdV_eq ?_
  rcases q with ⟨a1, a2, a3, a4⟩ | ⟨a1, a2⟩
  · exact Or.inl ⟨a1, a2, ((h z (by omega)).mp a3).2, fun d b1 b2 b3 => a4 d b1 b2 ((h d (by omega)).mpr ⟨by omega, b3⟩)⟩
  · exact Or.inr ⟨a1, fun d b1 b2 b3 => a2 d b1 b2 ((h d (by omega)).mpr ⟨b2, b3⟩)⟩
theorem gX13 {g g' : GH} (h : sameB gX g g') : g'.2.1 1000 13 = g.2.1 1000 13 := h.2.2 1000 13 (by unfold gX; omega)
theorem CWv.gX {g g' : GH} (h : sameB gX g g') (q : CWv g.2.1) : CWv g'.2.1 := by
  have e : ∀ a k, a ≠ 20 → a ≠ 24 → g'.2.1 a k = g.2.1 a k := fun a k h1 h2 => h.2.2 a k (by unfold Jvm.Pilot.@@N@@.gX; omega)
  refine ⟨by rw [e 8 7 (by decide) (by decide), e 1000 15 (by decide) (by decide)]; exact q.1, fun s hs => ?_, fun a b ha hb => by rw [e (14 + a) b (by omega) (by omega), e 1020 _ (by decide) (by decide)]; exact q.2.2 a b ha hb⟩
  rw [e 1000 15 (by decide) (by decide)] at hs
  rw [e 9 s (by decide) (by decide), e 10 s (by decide) (by decide), e 11 s (by decide) (by decide), e 12 s (by decide) (by decide), e 1016 s (by decide) (by decide), e 1017 s (by decide) (by decide), e 1018 s (by decide) (by decide), e 1019 s (by decide) (by decide)]
  exact q.2.1 s hs
set_option maxHeartbeats 4000000 in
set_option maxRecDepth 100000 in
theorem c3_firstBarred (g : GH) (L : Int) {n : Nat} {M : Nat → Nat} (hC : CMk g) (hG : CGs g) (hw : CWs g) (hv : CWv g.2.1) (hV : MV g.2.1) (hch : CHn g n M) (hL0 : 0 ≤ L) (hn : 0 ≤ g.2.1 1000 13 ∧ g.2.1 1000 13 ≤ 40) : AMet mX3_firstBarred g [vA 22, vI L] (fun r g' => r = vI (gst g.2.1 (fun i => (M i : Int)) L n).2.2 ∧ sameB gX g g' ∧ ((gst g.2.1 (fun i => (M i : Int)) L n).2.2 = -9 → L = 0 → ∀ j, j < n → g'.2.1 24 j = fsV g.2.1 (fun i => (M i : Int)) j)) := by
  refine AMet.of [vA 22, vI L, none, none, none] (by decide) rfl (Nat.le_of_ble_eq_true rfl) ?_
  have hn10 := hch.1
  have htb : ∀ j, j < n → 0 ≤ twn g.2.1 (M j : Int) ∧ twn g.2.1 (M j : Int) ≤ 5 := fun j hj => twn_b hV ⟨by omega, (hch.2.2 j hj).2.1⟩ (by rw [show (10 * (M j : Int) + 2).toNat = 10 * M j + 2 by omega]; exact (hch.2.2 j hj).2.2)
  refine a_bipush (z := (-9)) 2 dX3_firstBarred_0 rfl (zrl rfl) rfl ?_
  refine a_istore_n 3 dX3_firstBarred_2 (by decide) rfl rfl ?_
  refine a_iconst (z := 0) 4 dX3_firstBarred_3 rfl (zrl rfl) rfl ?_
  refine a_istore_n 5 dX3_firstBarred_4 (by decide) rfl rfl ?_
  refine AW.loop (α := GH × Nat × Int) (fun p => n - p.2.1) (fun p => sameB gX g p.1 ∧ p.2.1 ≤ n ∧ (gst g.2.1 (fun i => (M i : Int)) L p.2.1).2.2 = -9 ∧ (((gst g.2.1 (fun i => (M i : Int)) L p.2.1).1 = -9 ∧ p.2.2 = -9) ∨ ∃ ah : Nat, p.2.2 = ah ∧ ah < p.2.1 ∧ ((gst g.2.1 (fun i => (M i : Int)) L p.2.1).1 = twn g.2.1 (M ah : Int) ∧ p.1.2.1 24 ah = (gst g.2.1 (fun i => (M i : Int)) L p.2.1).2.1 ∧ 0 ≤ (gst g.2.1 (fun i => (M i : Int)) L p.2.1).2.1 ∧ (gst g.2.1 (fun i => (M i : Int)) L p.2.1).2.1 ≤ 999)) ∧ (L = 0 → ∀ j, j < p.2.1 → p.1.2.1 24 j = fsV g.2.1 (fun i => (M i : Int)) j)) (fun p => p.1) (fun p => [vA 22, vI L, vI p.2.2, vI (p.2.1 : Int), none]) (fun p => []) ?_ (g, 0, -9) ?_
  · rintro ⟨g2, i, ahead⟩ ⟨h2, hin, hg9, hah, hfs⟩ ih5
    try dsimp only at hI ih ⊢
    try dsimp only at h2 hin hg9 hah hfs ih5 ⊢
    refine a_iload_n 6 dX3_firstBarred_5 rfl rfl ?_
    refine a_aload_n 7 dX3_firstBarred_6 rfl rfl ?_
    refine a_getIz ((n : Int)) 10 dX3_firstBarred_7 fX3_24 (gX_cg h2 hG).1 rfl ((h2.2.2 22 4 (by unfold gX; omega)).trans hch.2.1) rfl ?_
    refine a_icmp_ge 116 13 dX3_firstBarred_10 (by decide) rfl (fun c10 => ?_) (fun c10 => ?_)
    · skip
      refine a_bipush (z := (-9)) 118 dX3_firstBarred_116 rfl (zrl rfl) rfl ?_
      refine a_ireturn dX3_firstBarred_118 rfl ⟨Nat.zero_le _, Nat.zero_le _⟩ ?_
      have e : i = n := by omega
      subst e
      exact ⟨congrArg vI hg9.symm, h2, fun _ hL => hfs hL⟩
    · skip
      have hi : i < n := by omega
      have hp2 : ((2 : Int) ^ ((i : Int)).toNat) = 2 ^ i := by rw [Int.toNat_natCast]
      have hti := htb i hi
      refine a_iload_n 14 dX3_firstBarred_13 rfl rfl ?_
      refine a_iload_n 15 dX3_firstBarred_14 rfl rfl ?_
      refine a_ishr _ 16 dX3_firstBarred_15 (v_shr (by omega) (by omega) (by omega)) rfl ?_
      refine a_iconst (z := 1) 17 dX3_firstBarred_16 rfl (zrl rfl) rfl ?_
      refine a_iand _ 18 dX3_firstBarred_17 v_and1 rfl ?_
      refine a_iconst (z := 1) 19 dX3_firstBarred_18 rfl (zrl rfl) rfl ?_
      refine a_icmp_ne 25 22 dX3_firstBarred_19 (by decide) rfl (fun c19 => ?_) (fun c19 => ?_)
      · skip
        have hbit : L / 2 ^ i % 2 = 0 := by rw [← hp2]; omega
        refine a_iconst (z := 0) 26 dX3_firstBarred_25 rfl (zrl rfl) rfl ?_
        refine a_istore 28 dX3_firstBarred_26 (by decide) rfl rfl ?_
        skip
        refine a_iload_n 29 dX3_firstBarred_28 rfl rfl ?_
        refine a_bipush (z := (-9)) 31 dX3_firstBarred_29 rfl (zrl rfl) rfl ?_
        refine a_icmp_eq 75 34 dX3_firstBarred_31 (by decide) rfl (fun c31 => ?_) (fun c31 => ?_)
        · skip
          have h3 := h2
          have hm9 : (gst g.2.1 (fun i => (M i : Int)) L i).1 = -9 := by
            rcases hah with q | ⟨x, q, _⟩
            · exact q.1
            · omega
          have hfr : (0 : Int) = (if (gst g.2.1 (fun i => (M i : Int)) L i).1 = -9 then 0 else soonV g.2.1 (gst g.2.1 (fun i => (M i : Int)) L i).1.toNat (gst g.2.1 (fun i => (M i : Int)) L i).2.1 (twn g.2.1 (M i : Int)).toNat) := by rw [if_pos hm9]
          refine a_aload_n 76 dX3_firstBarred_75 rfl rfl ?_
          refine a_getR 79 dX3_firstBarred_76 fX3_17 (gX_cg h3 hG).1 rfl (gX_cg h3 hG).2.1.2.2.1 rfl ?_
          refine a_iload_n 80 dX3_firstBarred_79 rfl rfl ?_
          refine a_aload_n 81 dX3_firstBarred_80 rfl rfl ?_
          refine a_getR 84 dX3_firstBarred_81 fX3_11 (gX_cg h3 hG).1 rfl (gX_cg h3 hG).2.1.2.1 rfl ?_
          refine a_iload_n 85 dX3_firstBarred_84 rfl rfl ?_
          refine a_aald 86 dX3_firstBarred_85 (gX_cg h3 hG).2.2.1 rfl (by omega) (by omega) (h3.rr (hch.2.2 i hi).1) rfl ?_
          refine a_getR 89 dX3_firstBarred_86 fX3_69 ((gX_cm h3 hC hn.2).k (m := M i) (by rw [gX13 h3]; exact (hch.2.2 _ hi).2.1)).1.1 rfl ((gX_cm h3 hC hn.2).k (m := M i) (by rw [gX13 h3]; exact (hch.2.2 _ hi).2.1)).1.2.1 rfl ?_
          refine a_iload 91 dX3_firstBarred_89 rfl rfl ?_
          refine a_callV 94 (c1_firstFrom _ (0 : Int) ((gX_cm h3 hC hn.2).k (m := M i) (by rw [gX13 h3]; exact (hch.2.2 _ hi).2.1)).1.2.2.1 ((gX_cm h3 hC hn.2).k (m := M i) (by rw [gX13 h3]; exact (hch.2.2 _ hi).2.1)).1.2.2.2.1 ((gX_cm h3 hC hn.2).k (m := M i) (by rw [gX13 h3]; exact (hch.2.2 _ hi).2.1)).1.2.2.2.2.1 (by omega)) cdX1_firstFrom lX3_73 dX3_firstBarred_91 rfl ((gX_cm h3 hC hn.2).k (m := M i) (by rw [gX13 h3]; exact (hch.2.2 _ hi).2.1)).1.2.2.1 rfl ⟨by decide, by decide, rfl, rfl⟩ ⟨Nat.zero_le _, Nat.zero_le _⟩ (Nat.le_of_ble_eq_true rfl) rfl ?_
          rintro _ _ - ⟨z, hz, rfl, rfl⟩ -
          rw [if_neg (by omega), h3.lg] at hz
          have hzb : 0 ≤ z ∧ z ≤ 1000 := by rcases hz with q | q <;> omega
          have hzf := (hC.k (hch.2.2 i hi).2.1).2.2.1.fd (by omega) hz
          refine a_iast 95 dX3_firstBarred_94 (gX_cg h3 hG).2.2.2.1 (by omega) (by omega) rfl ?_
          refine a_aload_n 96 dX3_firstBarred_95 rfl rfl ?_
          refine a_getR 99 dX3_firstBarred_96 fX3_17 (gX_cg h3 hG).1 rfl (gX_cg h3 hG).2.1.2.2.1 rfl ?_
          refine a_iload_n 100 dX3_firstBarred_99 rfl rfl ?_
          refine a_ialdz ((if z = 1000 then -9 else z)) 101 dX3_firstBarred_100 (gX_cg h3 hG).2.2.2.1 (by omega) (by omega) gI_s rfl ?_
          refine a_bipush (z := (-9)) 103 dX3_firstBarred_101 rfl (zrl rfl) rfl ?_
          refine a_icmp_ne 108 106 dX3_firstBarred_103 (by decide) rfl (fun c103 => ?_) (fun c103 => ?_)
          · skip
            refine a_iload_n 109 dX3_firstBarred_108 rfl rfl ?_
            refine a_istore_n 110 dX3_firstBarred_109 (by decide) rfl rfl ?_
            refine a_iinc 113 dX3_firstBarred_110 rfl (by unfold zr; omega) (by decide) rfl rfl ?_
            refine a_goto 5 dX3_firstBarred_113 (by decide) ?_
            rw [hfr] at hzf
            have hz9 : z ≤ 999 := by
              refine Classical.byContradiction (fun q => c103 ?_)
              rw [if_pos (by omega)]
            have e9 := gst_go (h := g.2.1) (w := (fun i => (M i : Int))) (L := L) (i := i) hg9 hbit (by rw [← hzf]; exact hz9)
            rw [← hzf] at e9
            have ez : (if z = 1000 then -9 else z) = z := if_neg (by omega)
            rw [ez, Int.toNat_natCast]
            refine AW.kill 4 ?_
            refine ih5 (gI _ 24 i z, i + 1, (i : Int)) ⟨h3.wr (Or.inr rfl), by dsimp only; omega, by dsimp only; rw [e9], Or.inr ⟨i, rfl, Nat.lt_succ_self i, by dsimp only; rw [e9], ?_, by dsimp only; rw [e9]; exact hzb.1, by dsimp only; rw [e9]; exact hz9⟩, fun hL j hj => ?_⟩ (by dsimp only; omega)
            · dsimp only; rw [e9]; exact gI_s
            · dsimp only at hj ⊢
              by_cases e : j = i
              · subst e
                refine gI_s.trans ?_
                show z = (gst g.2.1 (fun i => (M i : Int)) 0 (j + 1)).2.1
                rw [hL] at e9
                rw [e9]
              · refine (gI_n (Or.inr e)).trans (Eq.trans ?_ (hfs hL j (by omega)))
                rfl
          · skip
            refine a_iload_n 107 dX3_firstBarred_106 rfl rfl ?_
            refine a_ireturn dX3_firstBarred_107 rfl ⟨Nat.zero_le _, Nat.zero_le _⟩ ?_
            rw [hfr] at hzf
            have hz9 : 999 < z := by
              refine Classical.byContradiction (fun q => ?_)
              rw [if_neg (by omega)] at c103
              omega
            have e9 := gst_bar (h := g.2.1) (w := (fun i => (M i : Int))) (L := L) (i := i) hg9 hbit (by rw [← hzf]; exact hz9)
            have e10 : (gst g.2.1 (fun i => (M i : Int)) L (i + 1)).2.2 = i := by rw [e9]
            have e11 := gst_end (n := n) (show (gst g.2.1 (fun i => (M i : Int)) L (i + 1)).2.2 ≠ -9 by rw [e10]; omega) (by omega)
            refine ⟨congrArg vI (by rw [e11, e10]), h3.wr (Or.inr rfl), fun q => ?_⟩
            rw [e11, e10] at q; omega
        · skip
          obtain ⟨ah, rfl, hahi, hah2⟩ : ∃ ah : Nat, ahead = ah ∧ ah < i ∧ ((gst g.2.1 (fun i => (M i : Int)) L i).1 = twn g.2.1 (M ah : Int) ∧ g2.2.1 24 ah = (gst g.2.1 (fun i => (M i : Int)) L i).2.1 ∧ 0 ≤ (gst g.2.1 (fun i => (M i : Int)) L i).2.1 ∧ (gst g.2.1 (fun i => (M i : Int)) L i).2.1 ≤ 999) := by
            rcases hah with q | q
            · exact absurd q.2 c31
            · exact q
          have hahn : ah < n := by omega
          have htw := htb ah hahn
          have hda : 0 ≤ (gst g.2.1 (fun i => (M i : Int)) L i).2.1 ∧ (gst g.2.1 (fun i => (M i : Int)) L i).2.1 ≤ 999 := hah2.2.2
          refine a_aload_n 35 dX3_firstBarred_34 rfl rfl ?_
          refine a_getR 38 dX3_firstBarred_35 fX3_37 (gX_cg h2 hG).1 rfl (gX_cg h2 hG).2.1.1 rfl ?_
          refine a_aload_n 39 dX3_firstBarred_38 rfl rfl ?_
          refine a_getR 42 dX3_firstBarred_39 fX3_11 (gX_cg h2 hG).1 rfl (gX_cg h2 hG).2.1.2.1 rfl ?_
          refine a_iload_n 43 dX3_firstBarred_42 rfl rfl ?_
          refine a_aald 44 dX3_firstBarred_43 (gX_cg h2 hG).2.2.1 rfl (by omega) (by omega) (h2.rr (hch.2.2 ah hahn).1) rfl ?_
          refine a_getIz (twn g.2.1 (M ah : Int)) 47 dX3_firstBarred_44 fX3_57 ((gX_cm h2 hC hn.2).k (m := M ah) (by rw [gX13 h2]; exact (hch.2.2 _ hahn).2.1)).1.1 rfl ((h2.2.2 _ 11 (by unfold gX; omega)).trans (hch.town hC hahn)) rfl ?_
          refine a_aload_n 48 dX3_firstBarred_47 rfl rfl ?_
          refine a_getR 51 dX3_firstBarred_48 fX3_17 (gX_cg h2 hG).1 rfl (gX_cg h2 hG).2.1.2.2.1 rfl ?_
          refine a_iload_n 52 dX3_firstBarred_51 rfl rfl ?_
          refine a_ialdz ((gst g.2.1 (fun i => (M i : Int)) L i).2.1) 53 dX3_firstBarred_52 (gX_cg h2 hG).2.2.2.1 (by omega) (by omega) hah2.2.1 rfl ?_
          refine a_callV 56 (c10_spreadFrom _ _ _ (h := g2.2.1) (fun _ _ _ => rfl) (CWs.keep h2 hw) (hv.gX h2) ((gX_hk h2).MV hV) htw hda) cdX10_spreadFrom lX3_60 dX3_firstBarred_53 rfl (CWs.keep h2 hw).1 rfl ⟨by decide, by decide, rfl, rfl⟩ ⟨Nat.zero_le _, Nat.zero_le _⟩ (Nat.le_of_ble_eq_true rfl) rfl ?_
          rintro _ g3 - ⟨s3, hso⟩ -
          have h3 := h2.tr (s3.mono (fun x _ z => Or.inl z))
          have hso2 := hso (twn g.2.1 (M i : Int)).toNat (by omega)
          rw [(gX_hk h2).isSoon] at hso2
          have hso3 := soonV_eq hso2
          have hsb := soon_b hV (by omega) hso2
          refine a_aload_n 57 dX3_firstBarred_56 rfl rfl ?_
          refine a_getR 60 dX3_firstBarred_57 fX3_37 (gX_cg h3 hG).1 rfl (gX_cg h3 hG).2.1.1 rfl ?_
          refine a_getR 63 dX3_firstBarred_60 fX3_66 (CWs.keep h3 hw).1 rfl (CWs.keep h3 hw).2.1.2.2.2.2.2.1 rfl ?_
          refine a_aload_n 64 dX3_firstBarred_63 rfl rfl ?_
          refine a_getR 67 dX3_firstBarred_64 fX3_11 (gX_cg h3 hG).1 rfl (gX_cg h3 hG).2.1.2.1 rfl ?_
          refine a_iload_n 68 dX3_firstBarred_67 rfl rfl ?_
          refine a_aald 69 dX3_firstBarred_68 (gX_cg h3 hG).2.2.1 rfl (by omega) (by omega) (h3.rr (hch.2.2 i hi).1) rfl ?_
          refine a_getIz (twn g.2.1 (M i : Int)) 72 dX3_firstBarred_69 fX3_57 ((gX_cm h3 hC hn.2).k (m := M i) (by rw [gX13 h3]; exact (hch.2.2 _ hi).2.1)).1.1 rfl ((h3.2.2 _ 11 (by unfold gX; omega)).trans (hch.town hC hi)) rfl ?_
          refine a_ialdz (soonV g.2.1 (twn g.2.1 (M ah : Int)).toNat (gst g.2.1 (fun i => (M i : Int)) L i).2.1 (twn g.2.1 (M i : Int)).toNat) 73 dX3_firstBarred_72 (CWs.keep h3 hw).2.2.1.2.2.2.2.2.1 (by omega) (by omega) hso3 rfl ?_
          refine a_istore 75 dX3_firstBarred_73 (by decide) rfl rfl ?_
          have hfr : soonV g.2.1 (twn g.2.1 (M ah : Int)).toNat (gst g.2.1 (fun i => (M i : Int)) L i).2.1 (twn g.2.1 (M i : Int)).toNat = (if (gst g.2.1 (fun i => (M i : Int)) L i).1 = -9 then 0 else soonV g.2.1 (gst g.2.1 (fun i => (M i : Int)) L i).1.toNat (gst g.2.1 (fun i => (M i : Int)) L i).2.1 (twn g.2.1 (M i : Int)).toNat) := by rw [if_neg (by omega), hah2.1]
          refine a_aload_n 76 dX3_firstBarred_75 rfl rfl ?_
          refine a_getR 79 dX3_firstBarred_76 fX3_17 (gX_cg h3 hG).1 rfl (gX_cg h3 hG).2.1.2.2.1 rfl ?_
          refine a_iload_n 80 dX3_firstBarred_79 rfl rfl ?_
          refine a_aload_n 81 dX3_firstBarred_80 rfl rfl ?_
          refine a_getR 84 dX3_firstBarred_81 fX3_11 (gX_cg h3 hG).1 rfl (gX_cg h3 hG).2.1.2.1 rfl ?_
          refine a_iload_n 85 dX3_firstBarred_84 rfl rfl ?_
          refine a_aald 86 dX3_firstBarred_85 (gX_cg h3 hG).2.2.1 rfl (by omega) (by omega) (h3.rr (hch.2.2 i hi).1) rfl ?_
          refine a_getR 89 dX3_firstBarred_86 fX3_69 ((gX_cm h3 hC hn.2).k (m := M i) (by rw [gX13 h3]; exact (hch.2.2 _ hi).2.1)).1.1 rfl ((gX_cm h3 hC hn.2).k (m := M i) (by rw [gX13 h3]; exact (hch.2.2 _ hi).2.1)).1.2.1 rfl ?_
          refine a_iload 91 dX3_firstBarred_89 rfl rfl ?_
          refine a_callV 94 (c1_firstFrom _ (soonV g.2.1 (twn g.2.1 (M ah : Int)).toNat (gst g.2.1 (fun i => (M i : Int)) L i).2.1 (twn g.2.1 (M i : Int)).toNat) ((gX_cm h3 hC hn.2).k (m := M i) (by rw [gX13 h3]; exact (hch.2.2 _ hi).2.1)).1.2.2.1 ((gX_cm h3 hC hn.2).k (m := M i) (by rw [gX13 h3]; exact (hch.2.2 _ hi).2.1)).1.2.2.2.1 ((gX_cm h3 hC hn.2).k (m := M i) (by rw [gX13 h3]; exact (hch.2.2 _ hi).2.1)).1.2.2.2.2.1 (by omega)) cdX1_firstFrom lX3_73 dX3_firstBarred_91 rfl ((gX_cm h3 hC hn.2).k (m := M i) (by rw [gX13 h3]; exact (hch.2.2 _ hi).2.1)).1.2.2.1 rfl ⟨by decide, by decide, rfl, rfl⟩ ⟨Nat.zero_le _, Nat.zero_le _⟩ (Nat.le_of_ble_eq_true rfl) rfl ?_
          rintro _ _ - ⟨z, hz, rfl, rfl⟩ -
          rw [if_neg (by omega), h3.lg] at hz
          have hzb : 0 ≤ z ∧ z ≤ 1000 := by rcases hz with q | q <;> omega
          have hzf := (hC.k (hch.2.2 i hi).2.1).2.2.1.fd (by omega) hz
          refine a_iast 95 dX3_firstBarred_94 (gX_cg h3 hG).2.2.2.1 (by omega) (by omega) rfl ?_
          refine a_aload_n 96 dX3_firstBarred_95 rfl rfl ?_
          refine a_getR 99 dX3_firstBarred_96 fX3_17 (gX_cg h3 hG).1 rfl (gX_cg h3 hG).2.1.2.2.1 rfl ?_
          refine a_iload_n 100 dX3_firstBarred_99 rfl rfl ?_
          refine a_ialdz ((if z = 1000 then -9 else z)) 101 dX3_firstBarred_100 (gX_cg h3 hG).2.2.2.1 (by omega) (by omega) gI_s rfl ?_
          refine a_bipush (z := (-9)) 103 dX3_firstBarred_101 rfl (zrl rfl) rfl ?_
          refine a_icmp_ne 108 106 dX3_firstBarred_103 (by decide) rfl (fun c103 => ?_) (fun c103 => ?_)
          · skip
            refine a_iload_n 109 dX3_firstBarred_108 rfl rfl ?_
            refine a_istore_n 110 dX3_firstBarred_109 (by decide) rfl rfl ?_
            refine a_iinc 113 dX3_firstBarred_110 rfl (by unfold zr; omega) (by decide) rfl rfl ?_
            refine a_goto 5 dX3_firstBarred_113 (by decide) ?_
            rw [hfr] at hzf
            have hz9 : z ≤ 999 := by
              refine Classical.byContradiction (fun q => c103 ?_)
              rw [if_pos (by omega)]
            have e9 := gst_go (h := g.2.1) (w := (fun i => (M i : Int))) (L := L) (i := i) hg9 hbit (by rw [← hzf]; exact hz9)
            rw [← hzf] at e9
            have ez : (if z = 1000 then -9 else z) = z := if_neg (by omega)
            rw [ez, Int.toNat_natCast]
            refine AW.kill 4 ?_
            refine ih5 (gI _ 24 i z, i + 1, (i : Int)) ⟨h3.wr (Or.inr rfl), by dsimp only; omega, by dsimp only; rw [e9], Or.inr ⟨i, rfl, Nat.lt_succ_self i, by dsimp only; rw [e9], ?_, by dsimp only; rw [e9]; exact hzb.1, by dsimp only; rw [e9]; exact hz9⟩, fun hL j hj => ?_⟩ (by dsimp only; omega)
            · dsimp only; rw [e9]; exact gI_s
            · dsimp only at hj ⊢
              by_cases e : j = i
              · subst e
                refine gI_s.trans ?_
                show z = (gst g.2.1 (fun i => (M i : Int)) 0 (j + 1)).2.1
                rw [hL] at e9
                rw [e9]
              · refine (gI_n (Or.inr e)).trans (Eq.trans ?_ (hfs hL j (by omega)))
                exact s3.2.2 24 j (show ¬ (24 : Nat) = 20 by decide)
          · skip
            refine a_iload_n 107 dX3_firstBarred_106 rfl rfl ?_
            refine a_ireturn dX3_firstBarred_107 rfl ⟨Nat.zero_le _, Nat.zero_le _⟩ ?_
            rw [hfr] at hzf
            have hz9 : 999 < z := by
              refine Classical.byContradiction (fun q => ?_)
              rw [if_neg (by omega)] at c103
              omega
            have e9 := gst_bar (h := g.2.1) (w := (fun i => (M i : Int))) (L := L) (i := i) hg9 hbit (by rw [← hzf]; exact hz9)
            have e10 : (gst g.2.1 (fun i => (M i : Int)) L (i + 1)).2.2 = i := by rw [e9]
            have e11 := gst_end (n := n) (show (gst g.2.1 (fun i => (M i : Int)) L (i + 1)).2.2 ≠ -9 by rw [e10]; omega) (by omega)
            refine ⟨congrArg vI (by rw [e11, e10]), h3.wr (Or.inr rfl), fun q => ?_⟩
            rw [e11, e10] at q; omega
      · skip
        refine a_goto 110 dX3_firstBarred_22 (by decide) ?_
        refine a_iinc 113 dX3_firstBarred_110 rfl (by unfold zr; omega) (by decide) rfl rfl ?_
        refine a_goto 5 dX3_firstBarred_113 (by decide) ?_
        refine AW.kill 4 ?_
        have e9 := gst_let (h := g.2.1) (w := (fun i => (M i : Int))) (L := L) (i := i) (by rw [← hp2]; omega)
        refine ih5 (g2, i + 1, ahead) ⟨h2, by dsimp only; omega, by dsimp only; rw [e9]; exact hg9, by dsimp only; rw [e9]; exact hah.imp id (fun ⟨x, a1, a2, a3⟩ => ⟨x, a1, Nat.lt_succ_of_lt a2, a3⟩), fun hL => ?_⟩ (by dsimp only; omega)
        exfalso
        rw [hL] at c19
        simp at c19
  · exact ⟨sameB.rf, Nat.zero_le _, rfl, Or.inl ⟨rfl, rfl⟩, fun _ j hj => absurd hj (Nat.not_lt_zero _)⟩
