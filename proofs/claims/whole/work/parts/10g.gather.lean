/-! the class's going at 22 -/
def CGs (g : GH) : Prop := g.1 22 = some (Sum.inl 3) ∧ (g.2.2.2 22 0 = some 8 ∧ g.2.2.2 22 1 = some 23 ∧ g.2.2.2 22 2 = some 24 ∧ g.2.2.2 22 3 = some 25) ∧ (g.1 23 = some (Sum.inr (.object RX5, 10)) ∧ g.1 24 = some (Sum.inr (.int, 10)) ∧ g.1 25 = some (Sum.inr (.int, 1024)))
/-- only the length of the going and its chain have changed -/
def frG (g g' : GH) : Prop := g'.1 = g.1 ∧ g'.2.2.1 = g.2.2.1 ∧ (∀ a k, ¬ (a = 22 ∧ k = 4) → g'.2.1 a k = g.2.1 a k) ∧ ∀ a k, a ≠ 23 → g'.2.2.2 a k = g.2.2.2 a k
theorem frG.rf {g : GH} : frG g g := ⟨rfl, rfl, fun _ _ _ => rfl, fun _ _ _ => rfl⟩
theorem frG.wI {g g' : GH} {z : Int} (h : frG g g') : frG g (gI g' 22 4 z) := ⟨h.1, h.2.1, fun a k q => (u2_n (by omega)).trans (h.2.2.1 a k q), h.2.2.2⟩
theorem frG.wR {g g' : GH} {i : Nat} {r : Option Nat} (h : frG g g') : frG g (gR g' 23 i r) := ⟨h.1, h.2.1, h.2.2.1, fun a k q => (u2_n (Or.inl q)).trans (h.2.2.2 a k q)⟩
theorem frG.hk {g g' : GH} (h : frG g g') : HK g.2.1 g'.2.1 := fun a k y _ => h.2.2.1 a k (by omega)
theorem frG.cm {g g' : GH} (h : frG g g') (hC : CMk g) (hn : g.2.1 1000 13 ≤ 40) : CMk g' := hC.keep h.1 h.hk (fun a k q => h.2.2.1 a k (by unfold kpC at q; omega)) (fun a _ => by rw [h.2.1]) (fun a k q => h.2.2.2 a k (by unfold kpC at q; omega)) hn
theorem frG.cg {g g' : GH} (h : frG g g') (q : CGs g) : CGs g' := by
  unfold CGs at q ⊢; rw [h.1, h.2.2.2 22 0 (by decide), h.2.2.2 22 1 (by decide), h.2.2.2 22 2 (by decide), h.2.2.2 22 3 (by decide)]; exact q
theorem wl_mono {h : Nat → Nat → Int} {c D : Int} (n : Nat) : ∀ k : Nat, (wl h c D n).length ≤ (wl h c D (n + k)).length
  | 0 => Nat.le_refl _
  | k + 1 => by
    refine Nat.le_trans (wl_mono n k) ?_
    show (wl h c D (n + k)).length ≤ (wl h c D (n + k + 1)).length
    by_cases q : wqB h c D ((n + k : Nat) : Int)
    · rw [wl_t q, List.length_append]; omega
    · rw [wl_f q]; exact Nat.le_refl _
set_option maxHeartbeats 4000000 in
set_option maxRecDepth 100000 in
theorem c3_gather (g : GH) (c D : Int) (hC : CMk g) (hG : CGs g) (hn : 0 ≤ g.2.1 1000 13 ∧ g.2.1 1000 13 ≤ 40) : AMet mX3_gather g [vA 22, vA 5, vI c, vI D] (fun r g' => ∃ b, r = vI b ∧ frG g g' ∧ ((b = 1 ∧ (WS g.2.1 c D).length ≤ 10 ∧ g'.2.1 22 4 = ((WS g.2.1 c D).length : Int) ∧ ∀ i, i < (WS g.2.1 c D).length → g'.2.2.2 23 i = some (100 + ((WS g.2.1 c D)[i]?.getD 0))) ∨ (b = 0 ∧ 10 < (WS g.2.1 c D).length))) := by
  refine AMet.of [vA 22, vA 5, vI c, vI D, none, none] (by decide) rfl (Nat.le_of_ble_eq_true rfl) ?_
  refine a_aload_n 1 dX3_gather_0 rfl rfl ?_
  refine a_iconst (z := 0) 2 dX3_gather_1 rfl (zrl rfl) rfl ?_
  refine a_putI 5 dX3_gather_2 fX3_24 (Or.inl rfl) hG.1 (Or.inl rfl) rfl ?_
  refine a_iconst (z := 0) 6 dX3_gather_5 rfl (zrl rfl) rfl ?_
  refine a_istore 8 dX3_gather_6 (by decide) rfl rfl ?_
  refine AW.loop (α := GH × Nat) (fun p => (g.2.1 1000 13).toNat - p.2) (fun p => frG g p.1 ∧ (p.2 : Int) ≤ g.2.1 1000 13 ∧ ((wl g.2.1 c D p.2).length ≤ 10 ∧ p.1.2.1 22 4 = ((wl g.2.1 c D p.2).length : Int) ∧ ∀ i, i < (wl g.2.1 c D p.2).length → p.1.2.2.2 23 i = some (100 + ((wl g.2.1 c D p.2)[i]?.getD 0)))) (fun p => p.1) (fun p => [vA 22, vA 5, vI c, vI D, vI (p.2 : Int), none]) (fun p => []) ?_ (gI g 22 4 0, 0) ?_
  · rintro ⟨g2, m⟩ ⟨h2, hm, hw⟩ ih8
    try dsimp only at hI ih ⊢
    try dsimp only at h2 hm hw ih8 ⊢
    have hC2 := h2.cm hC hn.2
    have e13 : g2.2.1 1000 13 = g.2.1 1000 13 := h2.hk.cnt (by omega)
    refine a_iload 10 dX3_gather_8 rfl rfl ?_
    refine a_aload_n 11 dX3_gather_10 rfl rfl ?_
    refine a_getIz (g.2.1 1000 13) 14 dX3_gather_11 fX3_41 hC2.1 rfl (hC2.2.2.2.1.trans e13) rfl ?_
    refine a_icmp_ge 79 17 dX3_gather_14 (by decide) rfl (fun c14 => ?_) (fun c14 => ?_)
    · skip
      refine a_iconst (z := 1) 80 dX3_gather_79 rfl (zrl rfl) rfl ?_
      refine a_breturn dX3_gather_80 rfl (by omega) ⟨Nat.zero_le _, Nat.zero_le _⟩ ?_
      have e : m = (g.2.1 1000 13).toNat := by omega
      subst e
      exact ⟨_, rfl, h2, Or.inl ⟨rfl, hw⟩⟩
    · skip
      refine a_aload_n 18 dX3_gather_17 rfl rfl ?_
      refine a_getR 21 dX3_gather_18 fX3_46 hC2.1 rfl hC2.2.1 rfl ?_
      refine a_iload 23 dX3_gather_21 rfl rfl ?_
      refine a_aald 24 dX3_gather_23 hC2.2.2.1 rfl (by omega) (by omega) (hC2.r (m := m) (by rw [e13]; omega)) rfl ?_
      refine a_astore 26 dX3_gather_24 (by decide) rfl rfl ?_
      refine a_aload 28 dX3_gather_26 rfl rfl ?_
      refine a_getR 31 dX3_gather_28 fX3_49 (hC2.k (m := m) (by rw [e13]; omega)).1.1 rfl rfl rfl ?_
      refine a_ifnull 73 34 dX3_gather_31 (by decide) rfl (fun c31 => ?_) (fun a31 c31 => ?_)
      · skip
        refine a_iinc 76 dX3_gather_73 rfl (by unfold zr; omega) (by decide) rfl rfl ?_
        refine a_goto 8 dX3_gather_76 (by decide) ?_
        refine AW.kill 5 ?_
        have hq : ¬ wqB g.2.1 c D m := fun z => by
          first
          | exact isN h38 c41 z.1
          | (have z2 := (hC2.k (m := m) (by rw [e13]; omega)).2.2.2.2.1.non.mp c31
             rw [h2.hk.row (a := 1014) (by omega)] at z2
             exact z.2 z2)
        refine ih8 (g2, m + 1) ⟨h2, by dsimp only; omega, ?_⟩ (by dsimp only; omega)
        dsimp only; rw [wl_f hq]; exact hw
      · skip
        refine a_aload 36 dX3_gather_34 rfl rfl ?_
        refine a_iload_n 37 dX3_gather_36 rfl rfl ?_
        refine a_iload_n 38 dX3_gather_37 rfl rfl ?_
        refine a_callV 41 (c5_isOn _ _ _ (hC2.k (m := m) (by rw [e13]; omega)).1.1) cdX5_isOn lX3_53 dX3_gather_38 rfl (hC2.k (m := m) (by rw [e13]; omega)).1.1 rfl ⟨by decide, by decide, rfl, rfl⟩ ⟨Nat.zero_le _, Nat.zero_le _⟩ (Nat.le_of_ble_eq_true rfl) rfl ?_
        rintro _ _ - ⟨b38, rfl, rfl, h38⟩ -
        rw [(hC2.k (m := m) (by rw [e13]; omega)).2.1.on, show isOfB g2.2.1 c D m = isOfB g.2.1 c D m by unfold isOfB; rw [h2.hk.row (a := 1014) (by omega)]] at h38
        refine a_if_eq 73 44 dX3_gather_41 (by decide) rfl (fun c41 => ?_) (fun c41 => ?_)
        · skip
          refine a_iinc 76 dX3_gather_73 rfl (by unfold zr; omega) (by decide) rfl rfl ?_
          refine a_goto 8 dX3_gather_76 (by decide) ?_
          refine AW.kill 5 ?_
          have hq : ¬ wqB g.2.1 c D m := fun z => by
            first
            | exact isN h38 c41 z.1
            | (have z2 := (hC2.k (m := m) (by rw [e13]; omega)).2.2.2.2.1.non.mp c31
               rw [h2.hk.row (a := 1014) (by omega)] at z2
               exact z.2 z2)
          refine ih8 (g2, m + 1) ⟨h2, by dsimp only; omega, ?_⟩ (by dsimp only; omega)
          dsimp only; rw [wl_f hq]; exact hw
        · skip
          refine a_aload_n 45 dX3_gather_44 rfl rfl ?_
          refine a_getIz (((wl g.2.1 c D m).length : Int)) 48 dX3_gather_45 fX3_24 (h2.cg hG).1 rfl hw.2.1 rfl ?_
          refine a_bipush (z := 10) 50 dX3_gather_48 rfl (zrl rfl) rfl ?_
          refine a_icmp_lt 55 53 dX3_gather_50 (by decide) rfl (fun c50 => ?_) (fun c50 => ?_)
          · skip
            refine a_aload_n 56 dX3_gather_55 rfl rfl ?_
            refine a_getR 59 dX3_gather_56 fX3_11 (h2.cg hG).1 rfl (h2.cg hG).2.1.2.1 rfl ?_
            refine a_aload_n 60 dX3_gather_59 rfl rfl ?_
            refine a_dup 61 dX3_gather_60 (by intro w h; cases h) rfl ?_
            refine a_getIz (((wl g.2.1 c D m).length : Int)) 64 dX3_gather_61 fX3_24 (h2.cg hG).1 rfl hw.2.1 rfl ?_
            refine a_dup_x1 65 dX3_gather_64 (by intro w h; cases h) (by intro w h; cases h) rfl ?_
            refine a_iconst (z := 1) 66 dX3_gather_65 rfl (zrl rfl) rfl ?_
            refine a_iadd 67 dX3_gather_66 (by unfold zr; omega) rfl ?_
            refine a_putI 70 dX3_gather_67 fX3_24 (Or.inl rfl) (h2.cg hG).1 (Or.inl rfl) rfl ?_
            refine a_aload 72 dX3_gather_70 rfl rfl ?_
            refine a_aast (ci := 5) 73 dX3_gather_72 (h2.cg hG).2.2.1 (hC2.k (m := m) (by rw [e13]; omega)).1.1 (by omega) (by omega) rfl ?_
            refine a_iinc 76 dX3_gather_73 rfl (by unfold zr; omega) (by decide) rfl rfl ?_
            refine a_goto 8 dX3_gather_76 (by decide) ?_
            refine AW.kill 5 ?_
            have hq : wqB g.2.1 c D m := ⟨isT h38 c41, fun z => by
              have z2 := (hC2.k (m := m) (by rw [e13]; omega)).2.2.2.2.1.non.mpr (by rw [h2.hk.row (a := 1014) (by omega)]; exact z)
              exact absurd (z2.symm.trans c31) (by simp)⟩
            refine ih8 (_, m + 1) ⟨h2.wI.wR, by dsimp only; omega, ?_⟩ (by dsimp only; omega)
            dsimp only; rw [wl_t hq]
            refine ⟨by rw [List.length_append]; show _ + 1 ≤ 10; omega, ?_, fun i hi => ?_⟩
            · rw [List.length_append]
              show (gI g2 22 4 _).2.1 22 4 = _
              rw [gI_s]; show _ = ((_ + 1 : Nat) : Int); omega
            · rw [List.length_append] at hi
              have hi2 : i < (wl g.2.1 c D m).length + 1 := hi
              show u2 g2.2.2.2 23 _ _ 23 i = _
              by_cases e : i = (wl g.2.1 c D m).length
              · subst e
                rw [Int.toNat_natCast, u2_s]
                simp
              · rw [u2_n (Or.inr (by omega)), hw.2.2 i (by omega)]
                rw [List.getElem?_append_left (by omega)]
          · skip
            refine a_iconst (z := 0) 54 dX3_gather_53 rfl (zrl rfl) rfl ?_
            refine a_breturn dX3_gather_54 rfl (by omega) ⟨Nat.zero_le _, Nat.zero_le _⟩ ?_
            refine ⟨_, rfl, h2, Or.inr ⟨rfl, ?_⟩⟩
            have hq : wqB g.2.1 c D m := ⟨isT h38 c41, fun z => by
              have z2 := (hC2.k (m := m) (by rw [e13]; omega)).2.2.2.2.1.non.mpr (by rw [h2.hk.row (a := 1014) (by omega)]; exact z)
              exact absurd (z2.symm.trans c31) (by simp)⟩
            have e1 := wl_mono (h := g.2.1) (c := c) (D := D) (m + 1) ((g.2.1 1000 13).toNat - (m + 1))
            rw [wl_t hq, List.length_append, show m + 1 + ((g.2.1 1000 13).toNat - (m + 1)) = (g.2.1 1000 13).toNat by omega] at e1
            have e2 : (wl g.2.1 c D m).length + 1 ≤ (WS g.2.1 c D).length := e1
            omega
  · exact ⟨frG.rf.wI, by show ((0 : Nat) : Int) ≤ _; omega, Nat.zero_le _, gI_s, fun i hi => absurd hi (Nat.not_lt_zero _)⟩
