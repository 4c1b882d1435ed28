theorem lstU_cg {P Q : Int → Prop} : ∀ n : Nat, (∀ k : Nat, k < n → (P k ↔ Q k)) → lstU P n = lstU Q n
  | 0, _ => rfl
  | n + 1, h => by
    have i := lstU_cg n (fun k hk => h k (by omega))
    by_cases q : P n
    · rw [(lstU_s P n).1 q, (lstU_s Q n).1 ((h n (by omega)).mp q)]
    · rw [(lstU_s P n).2 q, (lstU_s Q n).2 (fun z => q ((h n (by omega)).mpr z)), i]
theorem frG.kp {g g' : GH} (h : frG g g') : kp g g' := ⟨fun a _ => by rw [h.1], fun a k _ y => h.2.2.1 a k (fun z => y (by unfold zC; omega)), fun a k _ y => h.2.2.2 a k (fun z => y z), fun a _ _ => by rw [h.2.1]⟩
/-- what stands behind a gathering that succeeds -/
theorem gath {g g1 : GH} {c D : Int} (hP : CPL g) (h : frG g g1) (hl : (WS g.2.1 c D).length ≤ 10) (h4 : g1.2.1 22 4 = ((WS g.2.1 c D).length : Int)) (hr : ∀ i, i < (WS g.2.1 c D).length → g1.2.2.2 23 i = some (100 + ((WS g.2.1 c D)[i]?.getD 0))) : CHn g1 (WS g.2.1 c D).length (fun i => (WS g.2.1 c D)[i]?.getD 0) := by
  refine ⟨hl, h4, fun i hi => ⟨hr i hi, ?_, ?_⟩⟩
  · have := (wk_ok hi).2.1
    rw [h.hk.cnt (k := 13) (by omega)]
    exact this
  · have := (wk_ok hi).2.2
    rw [h.hk.row (a := 1014) (by omega)]
    have e : (10 * wk g.2.1 c D i + 2).toNat = 10 * ((WS g.2.1 c D)[i]?.getD 0) + 2 := by
      show (10 * (((WS g.2.1 c D)[i]?.getD 0 : Nat) : Int) + 2).toNat = _
      omega
    rw [e] at this
    exact this
theorem gX_kp {g g' : GH} (h : sameB gX g g') : kp g g' := kp.of h (fun a k x => by unfold gX at x; unfold zC; omega)
theorem lX2_kp {g g' : GH} (h : sameB lX2 g g') : kp g g' := kp.of h (fun a k x => by unfold lX2 at x; unfold zC; omega)
theorem wsX_kp {g g' : GH} (h : sameB wsX g g') : kp g g' := kp.of h (fun a k x => by unfold wsX at x; unfold zC; omega)
theorem x20_kp {g g' : GH} (h : sameB (fun x _ => x = 20) g g') : kp g g' := kp.of h (fun a k x => Or.inl x)
/-- the rule of the class's book -/
theorem ru_eq {g : GH} {bk : Nat} {f t d : Int} (h : CBv g.2.1 bk) (h12 : 0 ≤ g.2.1 1000 35 ∧ g.2.1 1000 35 ≤ 12) : lstU (hdP g.2.1 (fun i => bk + 2 + i) f t d) (g.2.1 bk 1).toNat = rOf g.2.1 f t d := by
  unfold rOf
  rw [h.1]
  refine lstU_cg _ (fun k hk => ?_)
  have e := h.2 k (by omega)
  unfold hdP ruM
  dsimp only
  rw [Int.toNat_natCast, e 0 (by decide), e 1 (by decide), e 2 (by decide), e 3 (by decide), show (10 * (k : Int)).toNat = 10 * k + 0 by omega, show (10 * (k : Int) + 1).toNat = 10 * k + 1 by omega, show (10 * (k : Int) + 2).toNat = 10 * k + 2 by omega, show (10 * (k : Int) + 3).toNat = 10 * k + 3 by omega]
theorem off_f {P : Int → Prop} : ∀ n : Nat, off1 (fstU (fun w => P (w + 1)) n) = (if fstU (fun w => P (w + 1)) n = -9 then -9 else fstU (fun w => P (w + 1)) n + 1) := fun _ => rfl
set_option maxHeartbeats 4000000 in
set_option maxRecDepth 100000 in
theorem c11_soonest (g : GH) (f d t : Int) (hP : CPL g) : AMet mX11_soonest g [vA 1, vI f, vI d, vI t] (fun r g' => (((0 ≤ f ∧ f ≤ 5) ∧ (0 ≤ d ∧ d ≤ 999) ∧ (0 ≤ t ∧ t ≤ 5)) ∧ r = vI (if 999 < soonV g.2.1 f.toNat d t.toNat then -9 else soonV g.2.1 f.toNat d t.toNat) ∧ kp g g') ∨ (¬ ((0 ≤ f ∧ f ≤ 5) ∧ (0 ≤ d ∧ d ≤ 999) ∧ (0 ≤ t ∧ t ≤ 5)) ∧ r = vI (-1) ∧ g = g')) := by
  refine AMet.of [vA 1, vI f, vI d, vI t] (by decide) rfl (Nat.le_of_ble_eq_true rfl) ?_
  obtain ⟨⟨hM, hV⟩, ⟨hO, hl⟩, ⟨hof, hdi⟩, ⟨hC, hw, hv, hG⟩, ⟨hT, hTr, hF⟩, bk, hB, hBv⟩ := id hP
  have hcn := hV.1
  unfold MVc at hcn
  have hn : 0 ≤ g.2.1 1000 13 ∧ g.2.1 1000 13 ≤ 40 := hcn.2.2.1
  refine a_iload_n 1 dX11_soonest_0 rfl rfl ?_
  refine a_iconst (z := 0) 2 dX11_soonest_1 rfl (zrl rfl) rfl ?_
  refine a_iconst (z := 5) 3 dX11_soonest_2 rfl (zrl rfl) rfl ?_
  refine a_callS 6 (c11_within _ _ _ _) cdX11_within lX11_79 dX11_soonest_3 rfl rfl ⟨by decide, by decide, rfl, rfl⟩ ⟨Nat.zero_le _, Nat.zero_le _⟩ (Nat.le_of_ble_eq_true rfl) rfl ?_
  rintro _ _ - ⟨b3, rfl, rfl, h3⟩ -
  refine a_if_eq 25 9 dX11_soonest_6 (by decide) rfl (fun c6 => ?_) (fun c6 => ?_)
  · skip
    refine a_iconst (z := (-1)) 26 dX11_soonest_25 rfl (zrl rfl) rfl ?_
    refine a_ireturn dX11_soonest_26 rfl ⟨Nat.zero_le _, Nat.zero_le _⟩ ?_
    refine Or.inr ⟨fun z => ?_, rfl, rfl⟩
    first
    | exact isN h3 (by omega) z.1
    | exact isN h10 (by omega) z.2.1
    | exact isN h19 (by omega) z.2.2
  · skip
    refine a_iload_n 10 dX11_soonest_9 rfl rfl ?_
    refine a_callS 13 (c11_isDay _ _) cdX11_isDay lX11_100 dX11_soonest_10 rfl rfl ⟨by decide, by decide, rfl, rfl⟩ ⟨Nat.zero_le _, Nat.zero_le _⟩ (Nat.le_of_ble_eq_true rfl) rfl ?_
    rintro _ _ - ⟨b10, rfl, rfl, h10⟩ -
    refine a_if_eq 25 16 dX11_soonest_13 (by decide) rfl (fun c13 => ?_) (fun c13 => ?_)
    · skip
      refine a_iconst (z := (-1)) 26 dX11_soonest_25 rfl (zrl rfl) rfl ?_
      refine a_ireturn dX11_soonest_26 rfl ⟨Nat.zero_le _, Nat.zero_le _⟩ ?_
      refine Or.inr ⟨fun z => ?_, rfl, rfl⟩
      first
      | exact isN h3 (by omega) z.1
      | exact isN h10 (by omega) z.2.1
      | exact isN h19 (by omega) z.2.2
    · skip
      refine a_iload_n 17 dX11_soonest_16 rfl rfl ?_
      refine a_iconst (z := 0) 18 dX11_soonest_17 rfl (zrl rfl) rfl ?_
      refine a_iconst (z := 5) 19 dX11_soonest_18 rfl (zrl rfl) rfl ?_
      refine a_callS 22 (c11_within _ _ _ _) cdX11_within lX11_79 dX11_soonest_19 rfl rfl ⟨by decide, by decide, rfl, rfl⟩ ⟨Nat.zero_le _, Nat.zero_le _⟩ (Nat.le_of_ble_eq_true rfl) rfl ?_
      rintro _ _ - ⟨b19, rfl, rfl, h19⟩ -
      refine a_if_ne 27 25 dX11_soonest_22 (by decide) rfl (fun c22 => ?_) (fun c22 => ?_)
      · skip
        refine a_aload_n 28 dX11_soonest_27 rfl rfl ?_
        refine a_getR 31 dX11_soonest_28 fX11_42 hO.1.1 rfl hO.1.2.2.2.2.2.2.1 rfl ?_
        refine a_iload_n 32 dX11_soonest_31 rfl rfl ?_
        refine a_iload_n 33 dX11_soonest_32 rfl rfl ?_
        refine a_callV 36 (c10_spreadFrom _ _ _ (h := g.2.1) (fun _ _ _ => rfl) hw hv hV (isT h3 c6) (isT h10 c13)) cdX10_spreadFrom lX11_197 dX11_soonest_33 rfl hw.1 rfl ⟨by decide, by decide, rfl, rfl⟩ ⟨Nat.zero_le _, Nat.zero_le _⟩ (Nat.le_of_ble_eq_true rfl) rfl ?_
        rintro _ g1 - ⟨s1, hso⟩ -
        have ht := isT h19 c22
        have hsv := soonV_eq (hso t.toNat (by omega))
        have hsb := soon_b hV (by have := isT h10 c13; omega) (hso t.toNat (by omega))
        refine a_aload_n 37 dX11_soonest_36 rfl rfl ?_
        refine a_getR 40 dX11_soonest_37 fX11_42 (s1.sh hO.1.1) rfl (s1.rr hO.1.2.2.2.2.2.2.1) rfl ?_
        refine a_getR 43 dX11_soonest_40 fX11_200 (CWs.keep s1 hw).1 rfl (CWs.keep s1 hw).2.1.2.2.2.2.2.1 rfl ?_
        refine a_iload_n 44 dX11_soonest_43 rfl rfl ?_
        refine a_ialdz (soonV g.2.1 f.toNat d t.toNat) 45 dX11_soonest_44 (CWs.keep s1 hw).2.2.1.2.2.2.2.2.1 (by omega) (by omega) hsv rfl ?_
        refine a_sipush (z := 1000) 48 dX11_soonest_45 rfl (zrl rfl) rfl ?_
        refine a_icmp_ge 63 51 dX11_soonest_48 (by decide) rfl (fun c48 => ?_) (fun c48 => ?_)
        · skip
          refine a_bipush (z := (-9)) 65 dX11_soonest_63 rfl (zrl rfl) rfl ?_
          refine a_ireturn dX11_soonest_65 rfl ⟨Nat.zero_le _, Nat.zero_le _⟩ ?_
          refine Or.inl ⟨⟨isT h3 c6, isT h10 c13, ht⟩, congrArg vI ?_, x20_kp s1⟩
          first
          | rw [if_pos (by omega)]
          | rw [if_neg (by omega)]
        · skip
          refine a_aload_n 52 dX11_soonest_51 rfl rfl ?_
          refine a_getR 55 dX11_soonest_52 fX11_42 (s1.sh hO.1.1) rfl (s1.rr hO.1.2.2.2.2.2.2.1) rfl ?_
          refine a_getR 58 dX11_soonest_55 fX11_200 (CWs.keep s1 hw).1 rfl (CWs.keep s1 hw).2.1.2.2.2.2.2.1 rfl ?_
          refine a_iload_n 59 dX11_soonest_58 rfl rfl ?_
          refine a_ialdz (soonV g.2.1 f.toNat d t.toNat) 60 dX11_soonest_59 (CWs.keep s1 hw).2.2.1.2.2.2.2.2.1 (by omega) (by omega) hsv rfl ?_
          refine a_goto 65 dX11_soonest_60 (by decide) ?_
          refine a_ireturn dX11_soonest_65 rfl ⟨Nat.zero_le _, Nat.zero_le _⟩ ?_
          refine Or.inl ⟨⟨isT h3 c6, isT h10 c13, ht⟩, congrArg vI ?_, x20_kp s1⟩
          first
          | rw [if_pos (by omega)]
          | rw [if_neg (by omega)]
      · skip
        refine a_iconst (z := (-1)) 26 dX11_soonest_25 rfl (zrl rfl) rfl ?_
        refine a_ireturn dX11_soonest_26 rfl ⟨Nat.zero_le _, Nat.zero_le _⟩ ?_
        refine Or.inr ⟨fun z => ?_, rfl, rfl⟩
        first
        | exact isN h3 (by omega) z.1
        | exact isN h10 (by omega) z.2.1
        | exact isN h19 (by omega) z.2.2
set_option maxHeartbeats 4000000 in
set_option maxRecDepth 100000 in
theorem c11_goes (g : GH) (c D L : Int) (hP : CPL g) : AMet mX11_goes g [vA 1, vI c, vI D, vI L] (fun r g' => r = vI (goesR g.2.1 c D L) ∧ kp g g') := by
  refine AMet.of [vA 1, vI c, vI D, vI L] (by decide) rfl (Nat.le_of_ble_eq_true rfl) ?_
  obtain ⟨⟨hM, hV⟩, ⟨hO, hl⟩, ⟨hof, hdi⟩, ⟨hC, hw, hv, hG⟩, ⟨hT, hTr, hF⟩, bk, hB, hBv⟩ := id hP
  have hcn := hV.1
  unfold MVc at hcn
  have hn : 0 ≤ g.2.1 1000 13 ∧ g.2.1 1000 13 ≤ 40 := hcn.2.2.1
  refine a_iload_n 1 dX11_goes_0 rfl rfl ?_
  refine a_callS 4 (c11_isCover _ _) cdX11_isCover lX11_97 dX11_goes_1 rfl rfl ⟨by decide, by decide, rfl, rfl⟩ ⟨Nat.zero_le _, Nat.zero_le _⟩ (Nat.le_of_ble_eq_true rfl) rfl ?_
  rintro _ _ - ⟨b1, rfl, rfl, h1⟩ -
  refine a_if_eq 14 7 dX11_goes_4 (by decide) rfl (fun c4 => ?_) (fun c4 => ?_)
  · skip
    refine a_iconst (z := (-1)) 15 dX11_goes_14 rfl (zrl rfl) rfl ?_
    refine a_ireturn dX11_goes_15 rfl ⟨Nat.zero_le _, Nat.zero_le _⟩ ?_
    refine ⟨congrArg vI ?_, rel.rf⟩
    unfold goesR
    rw [if_pos (fun z => by
      first
      | exact isN h1 (by omega) z.1
      | exact isN h8 (by omega) z.2)]
  · skip
    refine a_iload_n 8 dX11_goes_7 rfl rfl ?_
    refine a_callS 11 (c11_isDay _ _) cdX11_isDay lX11_100 dX11_goes_8 rfl rfl ⟨by decide, by decide, rfl, rfl⟩ ⟨Nat.zero_le _, Nat.zero_le _⟩ (Nat.le_of_ble_eq_true rfl) rfl ?_
    rintro _ _ - ⟨b8, rfl, rfl, h8⟩ -
    refine a_if_ne 16 14 dX11_goes_11 (by decide) rfl (fun c11 => ?_) (fun c11 => ?_)
    · skip
      refine a_aload_n 17 dX11_goes_16 rfl rfl ?_
      refine a_getR 20 dX11_goes_17 fX11_51 hO.1.1 rfl hO.1.2.2.2.2.2.2.2.1 rfl ?_
      refine a_aload_n 21 dX11_goes_20 rfl rfl ?_
      refine a_getR 24 dX11_goes_21 fX11_28 hO.1.1 rfl hO.1.2.2.2.2.1 rfl ?_
      refine a_iload_n 25 dX11_goes_24 rfl rfl ?_
      refine a_iload_n 26 dX11_goes_25 rfl rfl ?_
      refine a_callV 29 (c3_gather _ _ _ hC hG hn) cdX3_gather lX11_203 dX11_goes_26 rfl hG.1 rfl ⟨by decide, by decide, rfl, rfl⟩ ⟨Nat.zero_le _, Nat.zero_le _⟩ (Nat.le_of_ble_eq_true rfl) rfl ?_
      rintro _ g1 - ⟨bg, rfl, f1, hg1⟩ -
      have k1 := f1.kp
      have hP1 := hP.kp k1
      obtain ⟨⟨hM1, hV1⟩, ⟨hO1, hl1⟩, ⟨hof1, hdi1⟩, ⟨hC1, hw1, hv1, hG1⟩, ⟨hT1, hTr1, hF1⟩, bk1, hB1, hBv1⟩ := id hP1
      have hbg : bg = 1 ∨ bg = 0 := by rcases hg1 with q | q; exact Or.inl q.1; exact Or.inr q.1
      refine a_if_ne 35 32 dX11_goes_29 (by decide) rfl (fun c29 => ?_) (fun c29 => ?_)
      · skip
        obtain ⟨-, hlen, h4, hrow⟩ := hg1.resolve_right (fun q => c29 q.1)
        have hch := gath hP f1 hlen h4 hrow
        have egst : gst g1.2.1 = gst g.2.1 := k1.hk.gst
        have hz : ((2 : Int) ^ (((WS g.2.1 c D).length : Nat) : Int).toNat) = ((2 ^ (WS g.2.1 c D).length : Nat) : Int) := (by rw [Int.toNat_natCast]; exact_mod_cast rfl)
        have hp0 : (2 : Int) ^ (WS g.2.1 c D).length = ((2 ^ (WS g.2.1 c D).length : Nat) : Int) := by exact_mod_cast rfl
        have hp10 : (2 : Nat) ^ (WS g.2.1 c D).length ≤ 2 ^ 10 := Nat.pow_le_pow_right (by decide) hlen
        refine a_iload_n 36 dX11_goes_35 rfl rfl ?_
        refine a_iconst (z := 0) 37 dX11_goes_36 rfl (zrl rfl) rfl ?_
        refine a_iconst (z := 1) 38 dX11_goes_37 rfl (zrl rfl) rfl ?_
        refine a_aload_n 39 dX11_goes_38 rfl rfl ?_
        refine a_getR 42 dX11_goes_39 fX11_51 hO1.1.1 rfl hO1.1.2.2.2.2.2.2.2.1 rfl ?_
        refine a_getIz (((WS g.2.1 c D).length : Int)) 45 dX11_goes_42 fX11_207 hG1.1 rfl h4 rfl ?_
        refine a_ishl ((2 ^ (WS g.2.1 c D).length : Nat) : Int) 46 dX11_goes_45 (fun a b => by have := v_shl (x := 1) (y := ((WS g.2.1 c D).length : Int)) (by omega) (by omega) (by omega) (by rw [hz]; omega) a b; rw [hz, Int.one_mul] at this; exact this) rfl ?_
        refine a_iconst (z := 1) 47 dX11_goes_46 rfl (zrl rfl) rfl ?_
        refine a_isub 48 dX11_goes_47 (by have h1 : (0 : Int) ≤ ((2 ^ (WS g.2.1 c D).length : Nat) : Int) := Int.natCast_nonneg _; have h2 : ((2 ^ (WS g.2.1 c D).length : Nat) : Int) ≤ 1024 := (by exact_mod_cast hp10); generalize ((2 ^ (WS g.2.1 c D).length : Nat) : Int) = y at *; unfold zr; omega) rfl ?_
        refine a_callS 51 (c11_within _ _ _ _) cdX11_within lX11_79 dX11_goes_48 rfl rfl ⟨by decide, by decide, rfl, rfl⟩ ⟨Nat.zero_le _, Nat.zero_le _⟩ (Nat.le_of_ble_eq_true rfl) rfl ?_
        rintro _ _ - ⟨b48, rfl, rfl, h48⟩ -
        refine a_if_ne 56 54 dX11_goes_51 (by decide) rfl (fun c51 => ?_) (fun c51 => ?_)
        · skip
          have hL := isT h48 c51
          have hL0 := hL.1
          refine a_aload_n 57 dX11_goes_56 rfl rfl ?_
          refine a_getR 60 dX11_goes_57 fX11_51 hO1.1.1 rfl hO1.1.2.2.2.2.2.2.2.1 rfl ?_
          refine a_iload_n 61 dX11_goes_60 rfl rfl ?_
          refine a_callV 64 (c3_firstBarred _ L hC1 hG1 hw1 hv1 hV1 hch hL0 (by rw [k1.hk.cnt (k := 13) (by omega)]; exact hn)) cdX3_firstBarred lX11_210 dX11_goes_61 rfl hG1.1 rfl ⟨by decide, by decide, rfl, rfl⟩ ⟨Nat.zero_le _, Nat.zero_le _⟩ (Nat.le_of_ble_eq_true rfl) rfl ?_
          rintro _ g2 - ⟨rfl, s2, hfs⟩ -
          rw [egst] at hfs ⊢
          have k2 : kp g g2 := k1.tr (gX_kp s2)
          refine a_bipush (z := (-9)) 66 dX11_goes_64 rfl (zrl rfl) rfl ?_
          refine a_icmp_ne 73 69 dX11_goes_66 (by decide) rfl (fun c66 => ?_) (fun c66 => ?_)
          · skip
            refine a_iconst (z := 0) 74 dX11_goes_73 rfl (zrl rfl) rfl ?_
            refine a_ireturn dX11_goes_74 rfl ⟨Nat.zero_le _, Nat.zero_le _⟩ ?_
            refine ⟨congrArg vI ?_, k2⟩
            unfold goesR
            rw [if_neg (fun z => z ⟨isT h1 c4, isT h8 c11⟩), if_neg (by omega), if_neg (fun z => z (by rw [hp0]; exact hL))]
            first
            | exact (ci_t c66).symm
            | exact (ci_f c66).symm
          · skip
            refine a_iconst (z := 1) 70 dX11_goes_69 rfl (zrl rfl) rfl ?_
            refine a_goto 74 dX11_goes_70 (by decide) ?_
            refine a_ireturn dX11_goes_74 rfl ⟨Nat.zero_le _, Nat.zero_le _⟩ ?_
            refine ⟨congrArg vI ?_, k2⟩
            unfold goesR
            rw [if_neg (fun z => z ⟨isT h1 c4, isT h8 c11⟩), if_neg (by omega), if_neg (fun z => z (by rw [hp0]; exact hL))]
            first
            | exact (ci_t c66).symm
            | exact (ci_f c66).symm
        · skip
          refine a_iconst (z := (-1)) 55 dX11_goes_54 rfl (zrl rfl) rfl ?_
          refine a_ireturn dX11_goes_55 rfl ⟨Nat.zero_le _, Nat.zero_le _⟩ ?_
          refine ⟨congrArg vI ?_, k1⟩
          unfold goesR
          rw [if_neg (fun z => z ⟨isT h1 c4, isT h8 c11⟩), if_neg (by omega), if_pos (fun z => isN h48 (by omega) (by rw [hp0] at z; exact z))]
      · skip
        refine a_bipush (z := (-2)) 34 dX11_goes_32 rfl (zrl rfl) rfl ?_
        refine a_ireturn dX11_goes_34 rfl ⟨Nat.zero_le _, Nat.zero_le _⟩ ?_
        have hl11 : 10 < (WS g.2.1 c D).length := (hg1.resolve_left (fun q => by have := q.1; omega)).2
        refine ⟨congrArg vI ?_, k1⟩
        unfold goesR
        rw [if_neg (fun z => z ⟨isT h1 c4, isT h8 c11⟩), if_pos hl11]
    · skip
      refine a_iconst (z := (-1)) 15 dX11_goes_14 rfl (zrl rfl) rfl ?_
      refine a_ireturn dX11_goes_15 rfl ⟨Nat.zero_le _, Nat.zero_le _⟩ ?_
      refine ⟨congrArg vI ?_, rel.rf⟩
      unfold goesR
      rw [if_pos (fun z => by
        first
        | exact isN h1 (by omega) z.1
        | exact isN h8 (by omega) z.2)]
set_option maxHeartbeats 4000000 in
set_option maxRecDepth 100000 in
theorem c11_bars (g : GH) (c D : Int) (hP : CPL g) : AMet mX11_bars g [vA 1, vI c, vI D] (fun r g' => r = vI (barsR g.2.1 c D) ∧ kp g g') := by
  refine AMet.of [vA 1, vI c, vI D] (by decide) rfl (Nat.le_of_ble_eq_true rfl) ?_
  obtain ⟨⟨hM, hV⟩, ⟨hO, hl⟩, ⟨hof, hdi⟩, ⟨hC, hw, hv, hG⟩, ⟨hT, hTr, hF⟩, bk, hB, hBv⟩ := id hP
  have hcn := hV.1
  unfold MVc at hcn
  have hn : 0 ≤ g.2.1 1000 13 ∧ g.2.1 1000 13 ≤ 40 := hcn.2.2.1
  refine a_iload_n 1 dX11_bars_0 rfl rfl ?_
  refine a_callS 4 (c11_isCover _ _) cdX11_isCover lX11_97 dX11_bars_1 rfl rfl ⟨by decide, by decide, rfl, rfl⟩ ⟨Nat.zero_le _, Nat.zero_le _⟩ (Nat.le_of_ble_eq_true rfl) rfl ?_
  rintro _ _ - ⟨b1, rfl, rfl, h1⟩ -
  refine a_if_eq 14 7 dX11_bars_4 (by decide) rfl (fun c4 => ?_) (fun c4 => ?_)
  · skip
    refine a_iconst (z := (-1)) 15 dX11_bars_14 rfl (zrl rfl) rfl ?_
    refine a_ireturn dX11_bars_15 rfl ⟨Nat.zero_le _, Nat.zero_le _⟩ ?_
    refine ⟨congrArg vI ?_, rel.rf⟩
    unfold barsR
    rw [if_pos (fun z => by
      first
      | exact isN h1 (by omega) z.1
      | exact isN h8 (by omega) z.2)]
  · skip
    refine a_iload_n 8 dX11_bars_7 rfl rfl ?_
    refine a_callS 11 (c11_isDay _ _) cdX11_isDay lX11_100 dX11_bars_8 rfl rfl ⟨by decide, by decide, rfl, rfl⟩ ⟨Nat.zero_le _, Nat.zero_le _⟩ (Nat.le_of_ble_eq_true rfl) rfl ?_
    rintro _ _ - ⟨b8, rfl, rfl, h8⟩ -
    refine a_if_ne 16 14 dX11_bars_11 (by decide) rfl (fun c11 => ?_) (fun c11 => ?_)
    · skip
      refine a_aload_n 17 dX11_bars_16 rfl rfl ?_
      refine a_getR 20 dX11_bars_17 fX11_51 hO.1.1 rfl hO.1.2.2.2.2.2.2.2.1 rfl ?_
      refine a_aload_n 21 dX11_bars_20 rfl rfl ?_
      refine a_getR 24 dX11_bars_21 fX11_28 hO.1.1 rfl hO.1.2.2.2.2.1 rfl ?_
      refine a_iload_n 25 dX11_bars_24 rfl rfl ?_
      refine a_iload_n 26 dX11_bars_25 rfl rfl ?_
      refine a_callV 29 (c3_gather _ _ _ hC hG hn) cdX3_gather lX11_203 dX11_bars_26 rfl hG.1 rfl ⟨by decide, by decide, rfl, rfl⟩ ⟨Nat.zero_le _, Nat.zero_le _⟩ (Nat.le_of_ble_eq_true rfl) rfl ?_
      rintro _ g1 - ⟨bg, rfl, f1, hg1⟩ -
      have k1 := f1.kp
      have hP1 := hP.kp k1
      obtain ⟨⟨hM1, hV1⟩, ⟨hO1, hl1⟩, ⟨hof1, hdi1⟩, ⟨hC1, hw1, hv1, hG1⟩, ⟨hT1, hTr1, hF1⟩, bk1, hB1, hBv1⟩ := id hP1
      have hbg : bg = 1 ∨ bg = 0 := by rcases hg1 with q | q; exact Or.inl q.1; exact Or.inr q.1
      refine a_if_ne 35 32 dX11_bars_29 (by decide) rfl (fun c29 => ?_) (fun c29 => ?_)
      · skip
        obtain ⟨-, hlen, h4, hrow⟩ := hg1.resolve_right (fun q => c29 q.1)
        have hch := gath hP f1 hlen h4 hrow
        have egst : gst g1.2.1 = gst g.2.1 := k1.hk.gst
        have hL0 : (0 : Int) ≤ 0 := Int.le_refl _
        refine a_aload_n 36 dX11_bars_35 rfl rfl ?_
        refine a_getR 39 dX11_bars_36 fX11_51 hO1.1.1 rfl hO1.1.2.2.2.2.2.2.2.1 rfl ?_
        refine a_iconst (z := 0) 40 dX11_bars_39 rfl (zrl rfl) rfl ?_
        refine a_callV 43 (c3_firstBarred _ 0 hC1 hG1 hw1 hv1 hV1 hch hL0 (by rw [k1.hk.cnt (k := 13) (by omega)]; exact hn)) cdX3_firstBarred lX11_210 dX11_bars_40 rfl hG1.1 rfl ⟨by decide, by decide, rfl, rfl⟩ ⟨Nat.zero_le _, Nat.zero_le _⟩ (Nat.le_of_ble_eq_true rfl) rfl ?_
        rintro _ g2 - ⟨rfl, s2, hfs⟩ -
        rw [egst] at hfs ⊢
        have k2 : kp g g2 := k1.tr (gX_kp s2)
        refine a_ireturn dX11_bars_43 rfl ⟨Nat.zero_le _, Nat.zero_le _⟩ ?_
        refine ⟨congrArg vI ?_, k2⟩
        unfold barsR
        rw [if_neg (fun z => z ⟨isT h1 c4, isT h8 c11⟩), if_neg (by omega)]
        rfl
      · skip
        refine a_bipush (z := (-2)) 34 dX11_bars_32 rfl (zrl rfl) rfl ?_
        refine a_ireturn dX11_bars_34 rfl ⟨Nat.zero_le _, Nat.zero_le _⟩ ?_
        have hl11 : 10 < (WS g.2.1 c D).length := (hg1.resolve_left (fun q => by have := q.1; omega)).2
        refine ⟨congrArg vI ?_, k1⟩
        unfold barsR
        rw [if_neg (fun z => z ⟨isT h1 c4, isT h8 c11⟩), if_pos hl11]
    · skip
      refine a_iconst (z := (-1)) 15 dX11_bars_14 rfl (zrl rfl) rfl ?_
      refine a_ireturn dX11_bars_15 rfl ⟨Nat.zero_le _, Nat.zero_le _⟩ ?_
      refine ⟨congrArg vI ?_, rel.rf⟩
      unfold barsR
      rw [if_pos (fun z => by
        first
        | exact isN h1 (by omega) z.1
        | exact isN h8 (by omega) z.2)]
set_option maxHeartbeats 4000000 in
set_option maxRecDepth 100000 in
theorem c11_when (g : GH) (c D i l : Int) (hP : CPL g) : AMet mX11_when g [vA 1, vI c, vI D, vI i, vI l] (fun r g' => r = vI (whenR g.2.1 c D i l) ∧ kp g g') := by
  refine AMet.of [vA 1, vI c, vI D, vI i, vI l] (by decide) rfl (Nat.le_of_ble_eq_true rfl) ?_
  obtain ⟨⟨hM, hV⟩, ⟨hO, hl⟩, ⟨hof, hdi⟩, ⟨hC, hw, hv, hG⟩, ⟨hT, hTr, hF⟩, bk, hB, hBv⟩ := id hP
  have hcn := hV.1
  unfold MVc at hcn
  have hn : 0 ≤ g.2.1 1000 13 ∧ g.2.1 1000 13 ≤ 40 := hcn.2.2.1
  refine a_iload_n 1 dX11_when_0 rfl rfl ?_
  refine a_callS 4 (c11_isCover _ _) cdX11_isCover lX11_97 dX11_when_1 rfl rfl ⟨by decide, by decide, rfl, rfl⟩ ⟨Nat.zero_le _, Nat.zero_le _⟩ (Nat.le_of_ble_eq_true rfl) rfl ?_
  rintro _ _ - ⟨b1, rfl, rfl, h1⟩ -
  refine a_if_eq 24 7 dX11_when_4 (by decide) rfl (fun c4 => ?_) (fun c4 => ?_)
  · skip
    refine a_iconst (z := (-1)) 25 dX11_when_24 rfl (zrl rfl) rfl ?_
    refine a_ireturn dX11_when_25 rfl ⟨Nat.zero_le _, Nat.zero_le _⟩ ?_
    refine ⟨congrArg vI ?_, rel.rf⟩
    unfold whenR
    by_cases q : 0 ≤ l ∧ l ≤ 1
    · rw [if_neg (fun z => z q), if_pos (fun z => by
        first
        | exact isN h1 (by omega) z.1
        | exact isN h8 (by omega) z.2
        | exact isN h18 (by omega) q)]
    · rw [if_pos q]
  · skip
    refine a_iload_n 8 dX11_when_7 rfl rfl ?_
    refine a_callS 11 (c11_isDay _ _) cdX11_isDay lX11_100 dX11_when_8 rfl rfl ⟨by decide, by decide, rfl, rfl⟩ ⟨Nat.zero_le _, Nat.zero_le _⟩ (Nat.le_of_ble_eq_true rfl) rfl ?_
    rintro _ _ - ⟨b8, rfl, rfl, h8⟩ -
    refine a_if_eq 24 14 dX11_when_11 (by decide) rfl (fun c11 => ?_) (fun c11 => ?_)
    · skip
      refine a_iconst (z := (-1)) 25 dX11_when_24 rfl (zrl rfl) rfl ?_
      refine a_ireturn dX11_when_25 rfl ⟨Nat.zero_le _, Nat.zero_le _⟩ ?_
      refine ⟨congrArg vI ?_, rel.rf⟩
      unfold whenR
      by_cases q : 0 ≤ l ∧ l ≤ 1
      · rw [if_neg (fun z => z q), if_pos (fun z => by
          first
          | exact isN h1 (by omega) z.1
          | exact isN h8 (by omega) z.2
          | exact isN h18 (by omega) q)]
      · rw [if_pos q]
    · skip
      refine a_iload 16 dX11_when_14 rfl rfl ?_
      refine a_iconst (z := 0) 17 dX11_when_16 rfl (zrl rfl) rfl ?_
      refine a_iconst (z := 1) 18 dX11_when_17 rfl (zrl rfl) rfl ?_
      refine a_callS 21 (c11_within _ _ _ _) cdX11_within lX11_79 dX11_when_18 rfl rfl ⟨by decide, by decide, rfl, rfl⟩ ⟨Nat.zero_le _, Nat.zero_le _⟩ (Nat.le_of_ble_eq_true rfl) rfl ?_
      rintro _ _ - ⟨b18, rfl, rfl, h18⟩ -
      refine a_if_ne 26 24 dX11_when_21 (by decide) rfl (fun c21 => ?_) (fun c21 => ?_)
      · skip
        refine a_aload_n 27 dX11_when_26 rfl rfl ?_
        refine a_getR 30 dX11_when_27 fX11_51 hO.1.1 rfl hO.1.2.2.2.2.2.2.2.1 rfl ?_
        refine a_aload_n 31 dX11_when_30 rfl rfl ?_
        refine a_getR 34 dX11_when_31 fX11_28 hO.1.1 rfl hO.1.2.2.2.2.1 rfl ?_
        refine a_iload_n 35 dX11_when_34 rfl rfl ?_
        refine a_iload_n 36 dX11_when_35 rfl rfl ?_
        refine a_callV 39 (c3_gather _ _ _ hC hG hn) cdX3_gather lX11_203 dX11_when_36 rfl hG.1 rfl ⟨by decide, by decide, rfl, rfl⟩ ⟨Nat.zero_le _, Nat.zero_le _⟩ (Nat.le_of_ble_eq_true rfl) rfl ?_
        rintro _ g1 - ⟨bg, rfl, f1, hg1⟩ -
        have k1 := f1.kp
        have hP1 := hP.kp k1
        obtain ⟨⟨hM1, hV1⟩, ⟨hO1, hl1⟩, ⟨hof1, hdi1⟩, ⟨hC1, hw1, hv1, hG1⟩, ⟨hT1, hTr1, hF1⟩, bk1, hB1, hBv1⟩ := id hP1
        have hbg : bg = 1 ∨ bg = 0 := by rcases hg1 with q | q; exact Or.inl q.1; exact Or.inr q.1
        refine a_if_ne 45 42 dX11_when_39 (by decide) rfl (fun c39 => ?_) (fun c39 => ?_)
        · skip
          obtain ⟨-, hlen, h4, hrow⟩ := hg1.resolve_right (fun q => c39 q.1)
          have hch := gath hP f1 hlen h4 hrow
          have egst : gst g1.2.1 = gst g.2.1 := k1.hk.gst
          have hL0 : (0 : Int) ≤ 0 := Int.le_refl _
          refine a_iload_n 46 dX11_when_45 rfl rfl ?_
          refine a_iconst (z := 0) 47 dX11_when_46 rfl (zrl rfl) rfl ?_
          refine a_aload_n 48 dX11_when_47 rfl rfl ?_
          refine a_getR 51 dX11_when_48 fX11_51 hO1.1.1 rfl hO1.1.2.2.2.2.2.2.2.1 rfl ?_
          refine a_getIz (((WS g.2.1 c D).length : Int)) 54 dX11_when_51 fX11_207 hG1.1 rfl h4 rfl ?_
          refine a_iconst (z := 1) 55 dX11_when_54 rfl (zrl rfl) rfl ?_
          refine a_isub 56 dX11_when_55 (by unfold zr; omega) rfl ?_
          refine a_callS 59 (c11_within _ _ _ _) cdX11_within lX11_79 dX11_when_56 rfl rfl ⟨by decide, by decide, rfl, rfl⟩ ⟨Nat.zero_le _, Nat.zero_le _⟩ (Nat.le_of_ble_eq_true rfl) rfl ?_
          rintro _ _ - ⟨b56, rfl, rfl, h56⟩ -
          refine a_if_ne 64 62 dX11_when_59 (by decide) rfl (fun c59 => ?_) (fun c59 => ?_)
          · skip
            have hi := isT h56 c59
            refine a_aload_n 65 dX11_when_64 rfl rfl ?_
            refine a_getR 68 dX11_when_65 fX11_51 hO1.1.1 rfl hO1.1.2.2.2.2.2.2.2.1 rfl ?_
            refine a_iconst (z := 0) 69 dX11_when_68 rfl (zrl rfl) rfl ?_
            refine a_callV 72 (c3_firstBarred _ 0 hC1 hG1 hw1 hv1 hV1 hch hL0 (by rw [k1.hk.cnt (k := 13) (by omega)]; exact hn)) cdX3_firstBarred lX11_210 dX11_when_69 rfl hG1.1 rfl ⟨by decide, by decide, rfl, rfl⟩ ⟨Nat.zero_le _, Nat.zero_le _⟩ (Nat.le_of_ble_eq_true rfl) rfl ?_
            rintro _ g2 - ⟨rfl, s2, hfs⟩ -
            rw [egst] at hfs ⊢
            have k2 : kp g g2 := k1.tr (gX_kp s2)
            have hP2 := hP.kp k2
            obtain ⟨⟨hM2, hV2⟩, ⟨hO2, hl2⟩, ⟨hof2, hdi2⟩, ⟨hC2, hw2, hv2, hG2⟩, ⟨hT2, hTr2, hF2⟩, bk2, hB2, hBv2⟩ := id hP2
            have hch2 : CHn g2 (WS g.2.1 c D).length (fun i => (WS g.2.1 c D)[i]?.getD 0) := by
              refine ⟨hch.1, (s2.2.2 22 4 (by unfold gX; omega)).trans hch.2.1, fun i hi => ⟨(s2.rr (hch.2.2 i hi).1), ?_, ?_⟩⟩
              · rw [gX13 s2]; exact (hch.2.2 i hi).2.1
              · rw [s2.2.2 1014 _ (by unfold gX; omega)]; exact (hch.2.2 i hi).2.2
            refine a_bipush (z := (-9)) 74 dX11_when_72 rfl (zrl rfl) rfl ?_
            refine a_icmp_eq 80 77 dX11_when_74 (by decide) rfl (fun c74 => ?_) (fun c74 => ?_)
            · skip
              have hfs2 := hfs c74 rfl
              have hgo2 : (gst g2.2.1 (fun i => (((fun i => (WS g.2.1 c D)[i]?.getD 0) i : Nat) : Int)) 0 (WS g.2.1 c D).length).2.2 = -9 := by rw [k2.hk.gst]; exact c74
              refine a_iload 82 dX11_when_80 rfl rfl ?_
              refine a_if_ne 97 85 dX11_when_82 (by decide) rfl (fun c82 => ?_) (fun c82 => ?_)
              · skip
                refine a_aload_n 98 dX11_when_97 rfl rfl ?_
                refine a_getR 101 dX11_when_98 fX11_51 hO2.1.1 rfl hO2.1.2.2.2.2.2.2.2.1 rfl ?_
                refine a_iload_n 102 dX11_when_101 rfl rfl ?_
                refine a_callV 105 (c3_lastDayOf _ _ hC2 hG2 hw2 hv2 hV2 hch2 (by omega) hgo2 (by rw [k2.hk.cnt (k := 13) (by omega)]; exact hn)) cdX3_lastDayOf lX11_216 dX11_when_102 rfl hG2.1 rfl ⟨by decide, by decide, rfl, rfl⟩ ⟨Nat.zero_le _, Nat.zero_le _⟩ (Nat.le_of_ble_eq_true rfl) rfl ?_
                rintro _ g3 - ⟨rfl, s3⟩ -
                have k3 : kp g g3 := k2.tr (lX2_kp s3)
                refine a_ireturn dX11_when_105 rfl ⟨Nat.zero_le _, Nat.zero_le _⟩ ?_
                refine ⟨congrArg vI ?_, k3⟩
                unfold whenR
                rw [if_neg (fun z => z (isT h18 c21)), if_neg (fun z => z ⟨isT h1 c4, isT h8 c11⟩), if_neg (by omega), if_neg (fun z => z hi), if_neg (fun z => z c74), if_pos (by have := isT h18 c21; omega), k2.hk.lastJ]
                rfl
              · skip
                refine a_aload_n 86 dX11_when_85 rfl rfl ?_
                refine a_getR 89 dX11_when_86 fX11_51 hO2.1.1 rfl hO2.1.2.2.2.2.2.2.2.1 rfl ?_
                refine a_getR 92 dX11_when_89 fX11_213 hG2.1 rfl hG2.2.1.2.2.1 rfl ?_
                refine a_iload_n 93 dX11_when_92 rfl rfl ?_
                refine a_ialdz (fsV g.2.1 (wk g.2.1 c D) i.toNat) 94 dX11_when_93 hG2.2.2.2.1 (by omega) (by omega) ((hfs2 i.toNat (by omega)).trans (by unfold fsV; rw [egst]; rfl)) rfl ?_
                refine a_goto 105 dX11_when_94 (by decide) ?_
                refine a_ireturn dX11_when_105 rfl ⟨Nat.zero_le _, Nat.zero_le _⟩ ?_
                refine ⟨congrArg vI ?_, k2⟩
                unfold whenR
                rw [if_neg (fun z => z (isT h18 c21)), if_neg (fun z => z ⟨isT h1 c4, isT h8 c11⟩), if_neg (by omega), if_neg (fun z => z hi), if_neg (fun z => z c74), if_neg (by omega)]
            · skip
              refine a_bipush (z := (-9)) 79 dX11_when_77 rfl (zrl rfl) rfl ?_
              refine a_ireturn dX11_when_79 rfl ⟨Nat.zero_le _, Nat.zero_le _⟩ ?_
              refine ⟨congrArg vI ?_, k2⟩
              unfold whenR
              rw [if_neg (fun z => z (isT h18 c21)), if_neg (fun z => z ⟨isT h1 c4, isT h8 c11⟩), if_neg (by omega), if_neg (fun z => z hi), if_pos (show (gst g.2.1 (wk g.2.1 c D) 0 (WS g.2.1 c D).length).2.2 ≠ -9 from c74)]
          · skip
            refine a_iconst (z := (-1)) 63 dX11_when_62 rfl (zrl rfl) rfl ?_
            refine a_ireturn dX11_when_63 rfl ⟨Nat.zero_le _, Nat.zero_le _⟩ ?_
            refine ⟨congrArg vI ?_, k1⟩
            unfold whenR
            rw [if_neg (fun z => z (isT h18 c21)), if_neg (fun z => z ⟨isT h1 c4, isT h8 c11⟩), if_neg (by omega), if_pos (fun z => isN h56 (by omega) z)]
        · skip
          refine a_bipush (z := (-2)) 44 dX11_when_42 rfl (zrl rfl) rfl ?_
          refine a_ireturn dX11_when_44 rfl ⟨Nat.zero_le _, Nat.zero_le _⟩ ?_
          have hl11 : 10 < (WS g.2.1 c D).length := (hg1.resolve_left (fun q => by have := q.1; omega)).2
          refine ⟨congrArg vI ?_, k1⟩
          unfold whenR
          rw [if_neg (fun z => z (isT h18 c21)), if_neg (fun z => z ⟨isT h1 c4, isT h8 c11⟩), if_pos hl11]
      · skip
        refine a_iconst (z := (-1)) 25 dX11_when_24 rfl (zrl rfl) rfl ?_
        refine a_ireturn dX11_when_25 rfl ⟨Nat.zero_le _, Nat.zero_le _⟩ ?_
        refine ⟨congrArg vI ?_, rel.rf⟩
        unfold whenR
        by_cases q : 0 ≤ l ∧ l ≤ 1
        · rw [if_neg (fun z => z q), if_pos (fun z => by
            first
            | exact isN h1 (by omega) z.1
            | exact isN h8 (by omega) z.2
            | exact isN h18 (by omega) q)]
        · rw [if_pos q]
set_option maxHeartbeats 4000000 in
set_option maxRecDepth 100000 in
theorem c11_fewest (g : GH) (c D k : Int) (hP : CPL g) : AMet mX11_fewest g [vA 1, vI c, vI D, vI k] (fun r g' => r = vI (fewR g.2.1 c D k) ∧ kp g g') := by
  refine AMet.of [vA 1, vI c, vI D, vI k] (by decide) rfl (Nat.le_of_ble_eq_true rfl) ?_
  obtain ⟨⟨hM, hV⟩, ⟨hO, hl⟩, ⟨hof, hdi⟩, ⟨hC, hw, hv, hG⟩, ⟨hT, hTr, hF⟩, bk, hB, hBv⟩ := id hP
  have hcn := hV.1
  unfold MVc at hcn
  have hn : 0 ≤ g.2.1 1000 13 ∧ g.2.1 1000 13 ≤ 40 := hcn.2.2.1
  refine a_iload_n 1 dX11_fewest_0 rfl rfl ?_
  refine a_callS 4 (c11_isCover _ _) cdX11_isCover lX11_97 dX11_fewest_1 rfl rfl ⟨by decide, by decide, rfl, rfl⟩ ⟨Nat.zero_le _, Nat.zero_le _⟩ (Nat.le_of_ble_eq_true rfl) rfl ?_
  rintro _ _ - ⟨b1, rfl, rfl, h1⟩ -
  refine a_if_eq 23 7 dX11_fewest_4 (by decide) rfl (fun c4 => ?_) (fun c4 => ?_)
  · skip
    refine a_iconst (z := (-1)) 24 dX11_fewest_23 rfl (zrl rfl) rfl ?_
    refine a_ireturn dX11_fewest_24 rfl ⟨Nat.zero_le _, Nat.zero_le _⟩ ?_
    refine ⟨congrArg vI ?_, rel.rf⟩
    unfold fewR
    by_cases q : 0 ≤ k ∧ k ≤ 2
    · rw [if_neg (fun z => z q), if_pos (fun z => by
        first
        | exact isN h1 (by omega) z.1
        | exact isN h8 (by omega) z.2
        | exact isN h17 (by omega) q)]
    · rw [if_pos q]
  · skip
    refine a_iload_n 8 dX11_fewest_7 rfl rfl ?_
    refine a_callS 11 (c11_isDay _ _) cdX11_isDay lX11_100 dX11_fewest_8 rfl rfl ⟨by decide, by decide, rfl, rfl⟩ ⟨Nat.zero_le _, Nat.zero_le _⟩ (Nat.le_of_ble_eq_true rfl) rfl ?_
    rintro _ _ - ⟨b8, rfl, rfl, h8⟩ -
    refine a_if_eq 23 14 dX11_fewest_11 (by decide) rfl (fun c11 => ?_) (fun c11 => ?_)
    · skip
      refine a_iconst (z := (-1)) 24 dX11_fewest_23 rfl (zrl rfl) rfl ?_
      refine a_ireturn dX11_fewest_24 rfl ⟨Nat.zero_le _, Nat.zero_le _⟩ ?_
      refine ⟨congrArg vI ?_, rel.rf⟩
      unfold fewR
      by_cases q : 0 ≤ k ∧ k ≤ 2
      · rw [if_neg (fun z => z q), if_pos (fun z => by
          first
          | exact isN h1 (by omega) z.1
          | exact isN h8 (by omega) z.2
          | exact isN h17 (by omega) q)]
      · rw [if_pos q]
    · skip
      refine a_iload_n 15 dX11_fewest_14 rfl rfl ?_
      refine a_iconst (z := 0) 16 dX11_fewest_15 rfl (zrl rfl) rfl ?_
      refine a_iconst (z := 2) 17 dX11_fewest_16 rfl (zrl rfl) rfl ?_
      refine a_callS 20 (c11_within _ _ _ _) cdX11_within lX11_79 dX11_fewest_17 rfl rfl ⟨by decide, by decide, rfl, rfl⟩ ⟨Nat.zero_le _, Nat.zero_le _⟩ (Nat.le_of_ble_eq_true rfl) rfl ?_
      rintro _ _ - ⟨b17, rfl, rfl, h17⟩ -
      refine a_if_ne 25 23 dX11_fewest_20 (by decide) rfl (fun c20 => ?_) (fun c20 => ?_)
      · skip
        refine a_aload_n 26 dX11_fewest_25 rfl rfl ?_
        refine a_getR 29 dX11_fewest_26 fX11_51 hO.1.1 rfl hO.1.2.2.2.2.2.2.2.1 rfl ?_
        refine a_aload_n 30 dX11_fewest_29 rfl rfl ?_
        refine a_getR 33 dX11_fewest_30 fX11_28 hO.1.1 rfl hO.1.2.2.2.2.1 rfl ?_
        refine a_iload_n 34 dX11_fewest_33 rfl rfl ?_
        refine a_iload_n 35 dX11_fewest_34 rfl rfl ?_
        refine a_callV 38 (c3_gather _ _ _ hC hG hn) cdX3_gather lX11_203 dX11_fewest_35 rfl hG.1 rfl ⟨by decide, by decide, rfl, rfl⟩ ⟨Nat.zero_le _, Nat.zero_le _⟩ (Nat.le_of_ble_eq_true rfl) rfl ?_
        rintro _ g1 - ⟨bg, rfl, f1, hg1⟩ -
        have k1 := f1.kp
        have hP1 := hP.kp k1
        obtain ⟨⟨hM1, hV1⟩, ⟨hO1, hl1⟩, ⟨hof1, hdi1⟩, ⟨hC1, hw1, hv1, hG1⟩, ⟨hT1, hTr1, hF1⟩, bk1, hB1, hBv1⟩ := id hP1
        have hbg : bg = 1 ∨ bg = 0 := by rcases hg1 with q | q; exact Or.inl q.1; exact Or.inr q.1
        refine a_if_ne 44 41 dX11_fewest_38 (by decide) rfl (fun c38 => ?_) (fun c38 => ?_)
        · skip
          obtain ⟨-, hlen, h4, hrow⟩ := hg1.resolve_right (fun q => c38 q.1)
          have hch := gath hP f1 hlen h4 hrow
          have egst : gst g1.2.1 = gst g.2.1 := k1.hk.gst
          refine a_aload_n 45 dX11_fewest_44 rfl rfl ?_
          refine a_getR 48 dX11_fewest_45 fX11_51 hO1.1.1 rfl hO1.1.2.2.2.2.2.2.2.1 rfl ?_
          refine a_callV 51 (c3_weighSets _ hC1 hG1 hw1 hv1 hV1 hch (by rw [k1.hk.cnt (k := 13) (by omega)]; exact hn)) cdX3_weighSets lX11_219 dX11_fewest_48 rfl hG1.1 rfl ⟨by decide, by decide, rfl, rfl⟩ ⟨Nat.zero_le _, Nat.zero_le _⟩ (Nat.le_of_ble_eq_true rfl) rfl ?_
          rintro _ g2 - ⟨s2, h5, h6, h7⟩ -
          rw [egst] at h5 h6 h7
          have k2 : kp g g2 := k1.tr (wsX_kp s2)
          refine a_iload_n 52 dX11_fewest_51 rfl rfl ?_
          refine a_case (0) (fun c52_0 => ?_) (fun c52_0 => ?_)
          · refine a_look (28) 80 dX11_fewest_52 (by decide) (by rw [c52_0]; rfl) (by decide) ?_
            refine a_aload_n 81 dX11_fewest_80 rfl rfl ?_
            refine a_getR 84 dX11_fewest_81 fX11_51 (s2.sh hO1.1.1) rfl (s2.rr hO1.1.2.2.2.2.2.2.2.1) rfl ?_
            refine a_getIz (onesU (fewP (2 ^ (WS g.2.1 c D).length) (gB g.2.1 c D)).1 10) 87 dX11_fewest_84 fX11_222 (s2.sh hG1.1) rfl h5 rfl ?_
            refine a_ireturn dX11_fewest_87 rfl ⟨Nat.zero_le _, Nat.zero_le _⟩ ?_
            refine ⟨congrArg vI ?_, k2⟩
            unfold fewR
            rw [if_neg (fun z => z (isT h17 c20)), if_neg (fun z => z ⟨isT h1 c4, isT h8 c11⟩), if_neg (by omega), if_pos (by omega)]
          refine a_case (1) (fun c52_1 => ?_) (fun c52_1 => ?_)
          · refine a_look (36) 88 dX11_fewest_52 (by decide) (by rw [c52_1]; rfl) (by decide) ?_
            refine a_aload_n 89 dX11_fewest_88 rfl rfl ?_
            refine a_getR 92 dX11_fewest_89 fX11_51 (s2.sh hO1.1.1) rfl (s2.rr hO1.1.2.2.2.2.2.2.2.1) rfl ?_
            refine a_getIz ((fewP (2 ^ (WS g.2.1 c D).length) (gB g.2.1 c D)).1) 95 dX11_fewest_92 fX11_225 (s2.sh hG1.1) rfl h6 rfl ?_
            refine a_ireturn dX11_fewest_95 rfl ⟨Nat.zero_le _, Nat.zero_le _⟩ ?_
            refine ⟨congrArg vI ?_, k2⟩
            unfold fewR
            rw [if_neg (fun z => z (isT h17 c20)), if_neg (fun z => z ⟨isT h1 c4, isT h8 c11⟩), if_neg (by omega), if_neg (by omega), if_pos (by omega)]
          refine a_look (44) 96 dX11_fewest_52 (by decide) (by simp only [Op.lookupswitch.offset_cons, Op.lookupswitch.offset_nil]; rw [if_neg (by omega)]; rw [if_neg (by omega)]) (by decide) ?_
          refine a_aload_n 97 dX11_fewest_96 rfl rfl ?_
          refine a_getR 100 dX11_fewest_97 fX11_51 (s2.sh hO1.1.1) rfl (s2.rr hO1.1.2.2.2.2.2.2.2.1) rfl ?_
          refine a_getIz ((fewP (2 ^ (WS g.2.1 c D).length) (gB g.2.1 c D)).2) 103 dX11_fewest_100 fX11_228 (s2.sh hG1.1) rfl h7 rfl ?_
          refine a_ireturn dX11_fewest_103 rfl ⟨Nat.zero_le _, Nat.zero_le _⟩ ?_
          refine ⟨congrArg vI ?_, k2⟩
          unfold fewR
          rw [if_neg (fun z => z (isT h17 c20)), if_neg (fun z => z ⟨isT h1 c4, isT h8 c11⟩), if_neg (by omega), if_neg (by omega), if_neg (by have := isT h17 c20; omega)]
        · skip
          refine a_bipush (z := (-2)) 43 dX11_fewest_41 rfl (zrl rfl) rfl ?_
          refine a_ireturn dX11_fewest_43 rfl ⟨Nat.zero_le _, Nat.zero_le _⟩ ?_
          have hl11 : 10 < (WS g.2.1 c D).length := (hg1.resolve_left (fun q => by have := q.1; omega)).2
          refine ⟨congrArg vI ?_, k1⟩
          unfold fewR
          rw [if_neg (fun z => z (isT h17 c20)), if_neg (fun z => z ⟨isT h1 c4, isT h8 c11⟩), if_pos hl11]
      · skip
        refine a_iconst (z := (-1)) 24 dX11_fewest_23 rfl (zrl rfl) rfl ?_
        refine a_ireturn dX11_fewest_24 rfl ⟨Nat.zero_le _, Nat.zero_le _⟩ ?_
        refine ⟨congrArg vI ?_, rel.rf⟩
        unfold fewR
        by_cases q : 0 ≤ k ∧ k ≤ 2
        · rw [if_neg (fun z => z q), if_pos (fun z => by
            first
            | exact isN h1 (by omega) z.1
            | exact isN h8 (by omega) z.2
            | exact isN h17 (by omega) q)]
        · rw [if_pos q]
theorem sum_eq {g : GH} {bk i : Nat} {w : Int} (h : CBv g.2.1 bk) (hi : (i : Int) < g.2.1 1000 35) (h5 : 1 ≤ g.2.1 1037 (10 * i + 5)) : g.2.1 (bk + 2 + i) 4 + g.2.1 (bk + 2 + i) 6 * ((w - 1) / g.2.1 (bk + 2 + i) 5) = oBy g.2.1 i w := by
  unfold oBy
  rw [h.2 i hi 4 (by decide), h.2 i hi 5 (by decide), h.2 i hi 6 (by decide), show (10 * (i : Int) + 4).toNat = 10 * i + 4 by omega, show (10 * (i : Int) + 5).toNat = 10 * i + 5 by omega, show (10 * (i : Int) + 6).toNat = 10 * i + 6 by omega, stp_eq h5, Int.mul_comm]
theorem oBy_b {h : Nat → Nat → Int} {i : Int} {w : Int} (hu : (0 ≤ h 1037 (10 * i + 4).toNat ∧ h 1037 (10 * i + 4).toNat ≤ 999) ∧ (1 ≤ h 1037 (10 * i + 5).toNat ∧ h 1037 (10 * i + 5).toNat ≤ 500) ∧ (0 ≤ h 1037 (10 * i + 6).toNat ∧ h 1037 (10 * i + 6).toNat ≤ 999) ∧ (0 ≤ h 1037 (10 * i + 7).toNat ∧ h 1037 (10 * i + 7).toNat ≤ 99) ∧ (1 ≤ h 1037 (10 * i + 8).toNat ∧ h 1037 (10 * i + 8).toNat ≤ 99) ∧ (h 1037 (10 * i + 9).toNat = 0 ∨ h 1037 (10 * i + 9).toNat = 1)) (hw : 1 ≤ w ∧ w ≤ 2000) : 0 ≤ oBy h i w ∧ oBy h i w ≤ 2000000 := by
  unfold oBy
  rw [stp_eq hu.2.1.1]
  have hb := div_le_b hw.1 hu.2.1.1
  have hm := mul_le2 (x := (w - 1) / h 1037 (10 * i + 5).toNat) (y := h 1037 (10 * i + 6).toNat) (X := 1999) (Y := 999) (by omega) (by omega) (by omega) (by omega)
  omega
set_option maxHeartbeats 4000000 in
set_option maxRecDepth 100000 in
theorem c11_owed (g : GH) (f t d w k : Int) (hP : CPL g) : AMet mX11_owed g [vA 1, vI f, vI t, vI d, vI w, vI k] (fun r g' => (((0 ≤ f ∧ f ≤ 2) ∧ (0 ≤ t ∧ t ≤ 2) ∧ (0 ≤ d ∧ d ≤ 999) ∧ (1 ≤ w ∧ w ≤ 2000) ∧ (0 ≤ k ∧ k ≤ 3)) ∧ r = vI (if (rOf g.2.1 f t d) = -9 then -9 else owedV g.2.1 (rOf g.2.1 f t d) w k) ∧ g = g') ∨ (¬ ((0 ≤ f ∧ f ≤ 2) ∧ (0 ≤ t ∧ t ≤ 2) ∧ (0 ≤ d ∧ d ≤ 999) ∧ (1 ≤ w ∧ w ≤ 2000) ∧ (0 ≤ k ∧ k ≤ 3)) ∧ r = vI (-1) ∧ g = g')) := by
  refine AMet.of [vA 1, vI f, vI t, vI d, vI w, vI k, none, none] (by decide) rfl (Nat.le_of_ble_eq_true rfl) ?_
  obtain ⟨⟨hM, hV⟩, ⟨hO, hl⟩, ⟨hof, hdi⟩, ⟨hC, hw, hv, hG⟩, ⟨hT, hTr, hF⟩, bk, hB, hBv⟩ := id hP
  have hcn := hV.1
  unfold MVc at hcn
  have hn : 0 ≤ g.2.1 1000 13 ∧ g.2.1 1000 13 ≤ 40 := hcn.2.2.1
  refine a_iload_n 1 dX11_owed_0 rfl rfl ?_
  refine a_iload_n 2 dX11_owed_1 rfl rfl ?_
  refine a_iload_n 3 dX11_owed_2 rfl rfl ?_
  refine a_callS 6 (c11_areLandsAndDay _ _ _ _) cdX11_areLandsAndDay lX11_241 dX11_owed_3 rfl rfl ⟨by decide, by decide, rfl, rfl⟩ ⟨Nat.zero_le _, Nat.zero_le _⟩ (Nat.le_of_ble_eq_true rfl) rfl ?_
  rintro _ _ - ⟨b3, rfl, rfl, h3⟩ -
  refine a_if_eq 31 9 dX11_owed_6 (by decide) rfl (fun c6 => ?_) (fun c6 => ?_)
  · skip
    refine a_iconst (z := (-1)) 32 dX11_owed_31 rfl (zrl rfl) rfl ?_
    refine a_ireturn dX11_owed_32 rfl ⟨Nat.zero_le _, Nat.zero_le _⟩ ?_
    refine Or.inr ⟨fun z => ?_, rfl, rfl⟩
    first
    | exact isN h3 (by omega) ⟨z.1, z.2.1, z.2.2.1⟩
    | exact isN h15 (by omega) z.2.2.2.1
    | exact isN h25 (by omega) z.2.2.2.2
  · skip
    refine a_iload 11 dX11_owed_9 rfl rfl ?_
    refine a_iconst (z := 1) 12 dX11_owed_11 rfl (zrl rfl) rfl ?_
    refine a_sipush (z := 2000) 15 dX11_owed_12 rfl (zrl rfl) rfl ?_
    refine a_callS 18 (c11_within _ _ _ _) cdX11_within lX11_79 dX11_owed_15 rfl rfl ⟨by decide, by decide, rfl, rfl⟩ ⟨Nat.zero_le _, Nat.zero_le _⟩ (Nat.le_of_ble_eq_true rfl) rfl ?_
    rintro _ _ - ⟨b15, rfl, rfl, h15⟩ -
    refine a_if_eq 31 21 dX11_owed_18 (by decide) rfl (fun c18 => ?_) (fun c18 => ?_)
    · skip
      refine a_iconst (z := (-1)) 32 dX11_owed_31 rfl (zrl rfl) rfl ?_
      refine a_ireturn dX11_owed_32 rfl ⟨Nat.zero_le _, Nat.zero_le _⟩ ?_
      refine Or.inr ⟨fun z => ?_, rfl, rfl⟩
      first
      | exact isN h3 (by omega) ⟨z.1, z.2.1, z.2.2.1⟩
      | exact isN h15 (by omega) z.2.2.2.1
      | exact isN h25 (by omega) z.2.2.2.2
    · skip
      refine a_iload 23 dX11_owed_21 rfl rfl ?_
      refine a_iconst (z := 0) 24 dX11_owed_23 rfl (zrl rfl) rfl ?_
      refine a_iconst (z := 3) 25 dX11_owed_24 rfl (zrl rfl) rfl ?_
      refine a_callS 28 (c11_within _ _ _ _) cdX11_within lX11_79 dX11_owed_25 rfl rfl ⟨by decide, by decide, rfl, rfl⟩ ⟨Nat.zero_le _, Nat.zero_le _⟩ (Nat.le_of_ble_eq_true rfl) rfl ?_
      rintro _ _ - ⟨b25, rfl, rfl, h25⟩ -
      refine a_if_ne 33 31 dX11_owed_28 (by decide) rfl (fun c28 => ?_) (fun c28 => ?_)
      · skip
        refine a_aload_n 34 dX11_owed_33 rfl rfl ?_
        refine a_getR 37 dX11_owed_34 fX11_65 hO.1.1 rfl hB.2.1.1 rfl ?_
        refine a_iload_n 38 dX11_owed_37 rfl rfl ?_
        refine a_iload_n 39 dX11_owed_38 rfl rfl ?_
        refine a_iload_n 40 dX11_owed_39 rfl rfl ?_
        refine a_callV 43 (c7_lastThatHolds _ _ _ _ hB.b (by rw [hBv.1]; exact hcn.2.2.2.2.2)) cdX7_lastThatHolds lX11_244 dX11_owed_40 rfl hB.b.1 rfl ⟨by decide, by decide, rfl, rfl⟩ ⟨Nat.zero_le _, Nat.zero_le _⟩ (Nat.le_of_ble_eq_true rfl) rfl ?_
        rintro _ _ - ⟨rfl, rfl⟩ -
        rw [ru_eq hBv hcn.2.2.2.2.2]
        have hro := lstU_or (ruM g.2.1 f t d) (g.2.1 1000 35).toNat
        have hrl := lstU_le (ruM g.2.1 f t d) (g.2.1 1000 35).toNat
        refine a_istore 45 dX11_owed_43 (by decide) rfl rfl ?_
        refine a_iload 47 dX11_owed_45 rfl rfl ?_
        refine a_bipush (z := (-9)) 49 dX11_owed_47 rfl (zrl rfl) rfl ?_
        refine a_icmp_ne 55 52 dX11_owed_49 (by decide) rfl (fun c49 => ?_) (fun c49 => ?_)
        · skip
          have NE := c49
          obtain ⟨i, hi⟩ : ∃ i : Nat, rOf g.2.1 f t d = i := ⟨(rOf g.2.1 f t d).toNat, by unfold rOf; unfold rOf at NE; omega⟩
          have hi35 : (i : Int) < g.2.1 1000 35 := by rw [← hi]; unfold rOf; omega
          have hi12 : i < 12 := by omega
          have hu := MVu.at hV.2.2.2.2.2.2.2.2 (i := (i : Int)) (by omega) hi35
          have hcell := hBv.2 i hi35
          rw [hi]
          refine a_aload_n 56 dX11_owed_55 rfl rfl ?_
          refine a_getR 59 dX11_owed_56 fX11_65 hO.1.1 rfl hB.2.1.1 rfl ?_
          refine a_getR 62 dX11_owed_59 fX11_248 hB.b.1 rfl hB.b.2.1 rfl ?_
          refine a_iload 64 dX11_owed_62 rfl rfl ?_
          refine a_aald 65 dX11_owed_64 hB.b.2.2.1 rfl (by omega) (by omega) (hB.b.2.2.2 i hi12).1 rfl ?_
          refine a_astore 67 dX11_owed_65 (by decide) rfl rfl ?_
          refine a_iload 69 dX11_owed_67 rfl rfl ?_
          refine a_case (0) (fun c69_0 => ?_) (fun c69_0 => ?_)
          · refine a_tblIn (27) 96 dX11_owed_69 (by omega) (by omega) (by rw [c69_0]; rfl) (by decide) ?_
            refine a_aload 98 dX11_owed_96 rfl rfl ?_
            refine a_iload 100 dX11_owed_98 rfl rfl ?_
            refine a_callV 103 (c9_sumFor _ _ (r := bk + 2 + i) (hB.b.2.2.2 i hi12).2 (by rw [hcell 4 (by decide)]; have := hu.1; rw [show (10 * (i : Int) + 4).toNat = 10 * i + 4 by omega] at this; exact this) (by rw [hcell 5 (by decide)]; have := hu.2.1; rw [show (10 * (i : Int) + 5).toNat = 10 * i + 5 by omega] at this; exact this) (by rw [hcell 6 (by decide)]; have := hu.2.2.1; rw [show (10 * (i : Int) + 6).toNat = 10 * i + 6 by omega] at this; exact this) (isT h15 c18)) cdX9_sumFor lX11_252 dX11_owed_100 rfl (hB.b.2.2.2 i hi12).2 rfl ⟨by decide, by decide, rfl, rfl⟩ ⟨Nat.zero_le _, Nat.zero_le _⟩ (Nat.le_of_ble_eq_true rfl) rfl ?_
            rintro _ _ - ⟨rfl, rfl⟩ -
            have hsm : g.2.1 (bk + 2 + i) 4 + g.2.1 (bk + 2 + i) 6 * ((w - 1) / g.2.1 (bk + 2 + i) 5) = oBy g.2.1 i w := sum_eq hBv hi35 (by have := hu.2.1.1; rw [show (10 * (i : Int) + 5).toNat = 10 * i + 5 by omega] at this; exact this)
            rw [hsm]
            refine a_ireturn dX11_owed_103 rfl ⟨Nat.zero_le _, Nat.zero_le _⟩ ?_
            refine Or.inl ⟨⟨(isT h3 c6).1, (isT h3 c6).2.1, (isT h3 c6).2.2, isT h15 c18, isT h25 c28⟩, congrArg vI ?_, rfl⟩
            rw [if_neg (by omega)]
            unfold owedV
            rw [if_pos (by omega)]
          refine a_case (1) (fun c69_1 => ?_) (fun c69_1 => ?_)
          · refine a_tblIn (35) 104 dX11_owed_69 (by omega) (by omega) (by rw [c69_1]; rfl) (by decide) ?_
            refine a_aload 106 dX11_owed_104 rfl rfl ?_
            refine a_aload 108 dX11_owed_106 rfl rfl ?_
            refine a_iload 110 dX11_owed_108 rfl rfl ?_
            refine a_callV 113 (c9_sumFor _ _ (r := bk + 2 + i) (hB.b.2.2.2 i hi12).2 (by rw [hcell 4 (by decide)]; have := hu.1; rw [show (10 * (i : Int) + 4).toNat = 10 * i + 4 by omega] at this; exact this) (by rw [hcell 5 (by decide)]; have := hu.2.1; rw [show (10 * (i : Int) + 5).toNat = 10 * i + 5 by omega] at this; exact this) (by rw [hcell 6 (by decide)]; have := hu.2.2.1; rw [show (10 * (i : Int) + 6).toNat = 10 * i + 6 by omega] at this; exact this) (isT h15 c18)) cdX9_sumFor lX11_252 dX11_owed_110 rfl (hB.b.2.2.2 i hi12).2 rfl ⟨by decide, by decide, rfl, rfl⟩ ⟨Nat.zero_le _, Nat.zero_le _⟩ (Nat.le_of_ble_eq_true rfl) rfl ?_
            rintro _ _ - ⟨rfl, rfl⟩ -
            have hsm : g.2.1 (bk + 2 + i) 4 + g.2.1 (bk + 2 + i) 6 * ((w - 1) / g.2.1 (bk + 2 + i) 5) = oBy g.2.1 i w := sum_eq hBv hi35 (by have := hu.2.1.1; rw [show (10 * (i : Int) + 5).toNat = 10 * i + 5 by omega] at this; exact this)
            rw [hsm]
            refine a_callV 116 (c9_partOf _ _ (r := bk + 2 + i) (hB.b.2.2.2 i hi12).2 (by rw [hcell 7 (by decide)]; have := hu.2.2.2.1; rw [show (10 * (i : Int) + 7).toNat = 10 * i + 7 by omega] at this; exact this) (by rw [hcell 8 (by decide)]; have := hu.2.2.2.2.1; rw [show (10 * (i : Int) + 8).toNat = 10 * i + 8 by omega] at this; exact this) (oBy_b hu (isT h15 c18))) cdX9_partOf lX11_257 dX11_owed_113 rfl (hB.b.2.2.2 i hi12).2 rfl ⟨by decide, by decide, rfl, rfl⟩ ⟨Nat.zero_le _, Nat.zero_le _⟩ (Nat.le_of_ble_eq_true rfl) rfl ?_
            rintro _ _ - ⟨rfl, rfl⟩ -
            refine a_ireturn dX11_owed_116 rfl ⟨Nat.zero_le _, Nat.zero_le _⟩ ?_
            refine Or.inl ⟨⟨(isT h3 c6).1, (isT h3 c6).2.1, (isT h3 c6).2.2, isT h15 c18, isT h25 c28⟩, congrArg vI ?_, rfl⟩
            rw [if_neg (by omega)]
            unfold owedV
            rw [if_neg (by omega), if_pos (by omega), hcell 7 (by decide), hcell 8 (by decide), show (10 * (i : Int) + 7).toNat = 10 * i + 7 by omega, show (10 * (i : Int) + 8).toNat = 10 * i + 8 by omega]
          refine a_case (2) (fun c69_2 => ?_) (fun c69_2 => ?_)
          · refine a_tblIn (48) 117 dX11_owed_69 (by omega) (by omega) (by rw [c69_2]; rfl) (by decide) ?_
            refine a_aload 119 dX11_owed_117 rfl rfl ?_
            refine a_getIz (g.2.1 1037 (10 * i + 9)) 122 dX11_owed_119 fX11_260 (hB.b.2.2.2 i hi12).2 rfl (hcell 9 (by decide)) rfl ?_
            refine a_if_eq 129 125 dX11_owed_122 (by decide) rfl (fun c122 => ?_) (fun c122 => ?_)
            · skip
              refine a_iconst (z := 0) 130 dX11_owed_129 rfl (zrl rfl) rfl ?_
              refine a_ireturn dX11_owed_130 rfl ⟨Nat.zero_le _, Nat.zero_le _⟩ ?_
              refine Or.inl ⟨⟨(isT h3 c6).1, (isT h3 c6).2.1, (isT h3 c6).2.2, isT h15 c18, isT h25 c28⟩, congrArg vI ?_, rfl⟩
              rw [if_neg (by omega)]
              unfold owedV
              rw [if_neg (by omega), if_neg (by omega), if_pos (by omega), show (10 * (i : Int) + 9).toNat = 10 * i + 9 by omega]
              have := hu.2.2.2.2.2
              rw [show (10 * (i : Int) + 9).toNat = 10 * i + 9 by omega] at this
              omega
            · skip
              refine a_iconst (z := 1) 126 dX11_owed_125 rfl (zrl rfl) rfl ?_
              refine a_goto 130 dX11_owed_126 (by decide) ?_
              refine a_ireturn dX11_owed_130 rfl ⟨Nat.zero_le _, Nat.zero_le _⟩ ?_
              refine Or.inl ⟨⟨(isT h3 c6).1, (isT h3 c6).2.1, (isT h3 c6).2.2, isT h15 c18, isT h25 c28⟩, congrArg vI ?_, rfl⟩
              rw [if_neg (by omega)]
              unfold owedV
              rw [if_neg (by omega), if_neg (by omega), if_pos (by omega), show (10 * (i : Int) + 9).toNat = 10 * i + 9 by omega]
              have := hu.2.2.2.2.2
              rw [show (10 * (i : Int) + 9).toNat = 10 * i + 9 by omega] at this
              omega
          refine a_tblOut 131 dX11_owed_69 (by omega) (by decide) ?_
          refine a_iload 133 dX11_owed_131 rfl rfl ?_
          refine a_ireturn dX11_owed_133 rfl ⟨Nat.zero_le _, Nat.zero_le _⟩ ?_
          refine Or.inl ⟨⟨(isT h3 c6).1, (isT h3 c6).2.1, (isT h3 c6).2.2, isT h15 c18, isT h25 c28⟩, congrArg vI ?_, rfl⟩
          rw [if_neg (by omega)]
          unfold owedV
          have := isT h25 c28
          rw [if_neg (by omega), if_neg (by omega), if_neg (by omega)]
        · skip
          refine a_bipush (z := (-9)) 54 dX11_owed_52 rfl (zrl rfl) rfl ?_
          refine a_ireturn dX11_owed_54 rfl ⟨Nat.zero_le _, Nat.zero_le _⟩ ?_
          exact Or.inl ⟨⟨(isT h3 c6).1, (isT h3 c6).2.1, (isT h3 c6).2.2, isT h15 c18, isT h25 c28⟩, congrArg vI (by rw [if_pos c49]), rfl⟩
      · skip
        refine a_iconst (z := (-1)) 32 dX11_owed_31 rfl (zrl rfl) rfl ?_
        refine a_ireturn dX11_owed_32 rfl ⟨Nat.zero_le _, Nat.zero_le _⟩ ?_
        refine Or.inr ⟨fun z => ?_, rfl, rfl⟩
        first
        | exact isN h3 (by omega) ⟨z.1, z.2.1, z.2.2.1⟩
        | exact isN h15 (by omega) z.2.2.2.1
        | exact isN h25 (by omega) z.2.2.2.2
