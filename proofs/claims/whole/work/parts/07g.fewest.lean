/-- b is the least of the fewest, r how many there are, of those from s on -/
def fewB (N : Int) (G : Int → Prop) (s b r : Int) : Prop := (s ≤ b ∧ b < N) ∧ G b ∧ (∀ x, s ≤ x → x < N → G x → onesU b 10 ≤ onesU x 10 ∧ (onesU x 10 = onesU b 10 → b ≤ x)) ∧ r = cnt (fun x => G x ∧ onesU x 10 = onesU b 10) N.toNat - cnt (fun x => G x ∧ onesU x 10 = onesU b 10) s.toNat
theorem fewB.uniq {N : Int} {G : Int → Prop} {b r b' r' : Int} (h : fewB N G 0 b r) (h' : fewB N G 0 b' r') : b = b' ∧ r = r' := by
  obtain ⟨⟨a1, a2⟩, a3, a4, a5⟩ := h
  obtain ⟨⟨b1, b2⟩, b3, b4, b5⟩ := h'
  have e1 := a4 b' b1 b2 b3
  have e2 := b4 b a1 a2 a3
  have e3 : onesU b 10 = onesU b' 10 := by omega
  have e4 := e1.2 e3.symm
  have e5 := e2.2 e3
  have e6 : b = b' := by omega
  subst e6
  exact ⟨rfl, by rw [a5, b5]⟩
noncomputable def fewP (N : Int) (G : Int → Prop) : Int × Int := @Classical.epsilon (Int × Int) ⟨(0, 0)⟩ (fun p => fewB N G 0 p.1 p.2)
theorem fewP_eq {N : Int} {G : Int → Prop} {b r : Int} (h : fewB N G 0 b r) : (b, r) = fewP N G := by
  have h1 := @Classical.epsilon_spec_aux (Int × Int) ⟨(0, 0)⟩ (fun p => fewB N G 0 p.1 p.2) ⟨(b, r), h⟩
  have h2 := h.uniq h1
  exact Prod.ext h2.1 h2.2
theorem cnt_step {P : Int → Prop} {s : Int} (hs : 0 ≤ s) : cnt P (s + 1).toNat = cnt P s.toNat + ci (P s) := by
  rw [show (s + 1).toNat = s.toNat + 1 by omega]
  show cnt P s.toNat + ci (P (s.toNat : Int)) = _
  rw [Int.toNat_of_nonneg hs]
theorem cnt_diff0 {P : Int → Prop} {s N : Int} (h0 : 0 ≤ s) (hN : s ≤ N) (h : ∀ x, s ≤ x → x < N → ¬ P x) : cnt P N.toNat = cnt P s.toNat := by
  obtain ⟨k, rfl⟩ : ∃ k : Nat, N = s + k := ⟨(N - s).toNat, by omega⟩
  clear hN
  induction k with
  | zero => rw [show s + ((0 : Nat) : Int) = s by omega]
  | succ k ih =>
    rw [show s + ((k + 1 : Nat) : Int) = (s + k) + 1 by omega, cnt_step (by omega), ci_f (h _ (by omega) (by omega)), ih (fun x h1 h2 => h x h1 (by omega))]
    omega
theorem cnt_mono {P : Int → Prop} {s N : Int} (h0 : 0 ≤ s) (hN : s ≤ N) : cnt P s.toNat ≤ cnt P N.toNat ∧ cnt P N.toNat - cnt P s.toNat ≤ N - s := by
  obtain ⟨k, rfl⟩ : ∃ k : Nat, N = s + k := ⟨(N - s).toNat, by omega⟩
  clear hN
  induction k with
  | zero => rw [show s + ((0 : Nat) : Int) = s by omega]; omega
  | succ k ih =>
    rw [show s + ((k + 1 : Nat) : Int) = (s + k) + 1 by omega, cnt_step (by omega)]
    have := ci_01 (P (s + k))
    omega
theorem fewB.no {N s b r : Int} {G : Int → Prop} (h0 : 0 ≤ s) (h : fewB N G (s + 1) b r) (hn : ¬ (onesU s 10 ≤ onesU b 10 ∧ G s)) : fewB N G s b r := by
  obtain ⟨⟨a1, a2⟩, a3, a4, a5⟩ := h
  refine ⟨⟨by omega, a2⟩, a3, fun x h1 h2 h3 => ?_, ?_⟩
  · by_cases e : x = s
    · subst e
      have : ¬ onesU x 10 ≤ onesU b 10 := fun q => hn ⟨q, h3⟩
      omega
    · exact a4 x (by omega) h2 h3
  · rw [a5, cnt_step h0, ci_f (fun q => hn ⟨by omega, q.1⟩)]; omega
theorem fewB.less {N s b r : Int} {G : Int → Prop} (h0 : 0 ≤ s) (h : fewB N G (s + 1) b r) (hg : G s) (hl : onesU s 10 < onesU b 10) : fewB N G s s 1 := by
  obtain ⟨⟨a1, a2⟩, a3, a4, a5⟩ := h
  refine ⟨⟨by omega, by omega⟩, hg, fun x h1 h2 h3 => ?_, ?_⟩
  · by_cases e : x = s
    · subst e; omega
    · have := a4 x (by omega) h2 h3; omega
  · rw [cnt_diff0 (s := s + 1) (by omega) (by omega) (fun x h1 h2 q => by have := a4 x h1 h2 q.1; omega), cnt_step h0, ci_t ⟨hg, rfl⟩]; omega
theorem fewB.same {N s b r : Int} {G : Int → Prop} (h0 : 0 ≤ s) (h : fewB N G (s + 1) b r) (hg : G s) (hl : onesU s 10 = onesU b 10) : fewB N G s s (r + 1) := by
  obtain ⟨⟨a1, a2⟩, a3, a4, a5⟩ := h
  refine ⟨⟨by omega, by omega⟩, hg, fun x h1 h2 h3 => ?_, ?_⟩
  · by_cases e : x = s
    · subst e; omega
    · have := a4 x (by omega) h2 h3; omega
  · rw [hl, a5, cnt_step h0, ci_t ⟨hg, hl⟩]; omega
theorem fewB.start {N : Int} {G : Int → Prop} (hN : 0 < N) (hg : G (N - 1)) : fewB N G (N - 1) (N - 1) 1 := by
  refine ⟨⟨by omega, by omega⟩, hg, fun x h1 h2 h3 => ?_, ?_⟩
  · have : x = N - 1 := by omega
    subst this; omega
  · have := cnt_step (P := fun x => G x ∧ onesU x 10 = onesU (N - 1) 10) (s := N - 1) (by omega)
    rw [show N - 1 + 1 = N by omega, ci_t ⟨hg, rfl⟩] at this
    omega
theorem fewB.le {N s b r : Int} {G : Int → Prop} (h0 : 0 ≤ s) (h : fewB N G s b r) : 0 ≤ r ∧ r ≤ N - s := by
  obtain ⟨⟨a1, a2⟩, a3, a4, a5⟩ := h
  have := cnt_mono (P := fun x => G x ∧ onesU x 10 = onesU b 10) (s := s) (N := N) h0 (by omega)
  omega
theorem bits_all {n : Nat} : ∀ i : Nat, i < n → ((2 : Int) ^ n - 1) / 2 ^ i % 2 = 1 := by
  intro i hi
  obtain ⟨k, rfl⟩ : ∃ k, n = i + (k + 1) := ⟨n - i - 1, by omega⟩
  have hp : (0 : Int) < 2 ^ i := Int.pow_pos (by decide)
  rw [Int.pow_add, Int.pow_succ]
  generalize (2 : Int) ^ i = X at hp ⊢
  generalize (2 : Int) ^ k = Y
  have e : X * (Y * 2) - 1 = (X - 1) + X * (Y * 2 - 1) := by
    rw [Int.mul_sub, Int.mul_one]; omega
  rw [e, Int.add_mul_ediv_left _ _ (by omega), Int.ediv_eq_zero_of_lt (by omega) (by omega)]
  omega
theorem gst_all {h : Nat → Nat → Int} {w : Nat → Int} {n : Nat} : (gst h w (2 ^ n - 1) n).2.2 = -9 := by
  have : ∀ i, i ≤ n → gst h w (2 ^ n - 1) i = (-9, 0, -9) := by
    intro i
    induction i with
    | zero => intro _; rfl
    | succ i ih => intro hi; rw [gst_let (by rw [bits_all i (by omega)]; decide), ih (by omega)]
  rw [this n (Nat.le_refl n)]
abbrev gB (h : Nat → Nat → Int) (c D : Int) : Int → Prop := fun s => (gst h (wk h c D) s (WS h c D).length).2.2 = -9
noncomputable def fewR (h : Nat → Nat → Int) (c D k : Int) : Int := if ¬ (0 ≤ k ∧ k ≤ 2) then -1 else if ¬ okCD c D then -1 else if 10 < (WS h c D).length then -2 else if k = 0 then onesU (fewP (2 ^ (WS h c D).length) (gB h c D)).1 10 else if k = 1 then (fewP (2 ^ (WS h c D).length) (gB h c D)).1 else (fewP (2 ^ (WS h c D).length) (gB h c D)).2
theorem wOK.keep {g g' : GH} {w : Nat → Int} {n : Nat} (h : wOK g.2.1 w n) (hk : sameB iX g g') : wOK g'.2.1 w n := by
  have hh := hk.hk iX_scr
  refine ⟨(hk.2.2 1000 23 (by unfold iX; omega)).trans h.1, h.2.1, fun i hi => ?_⟩
  rw [hk.2.2 1024 i (by unfold iX; omega), hh.row (a := 1014) (by omega), hh.cnt (k := 13) (by omega)]
  exact h.2.2 i hi
set_option maxHeartbeats 4000000 in
set_option maxRecDepth 100000 in
theorem r_fewest (g : GH) (c D k : Int) (hM : MR g) (hV : MV g.2.1) : AMet mX12_fewest g [vA 1000, vI c, vI D, vI k] (fun r g' => r = vI (fewR (gI g 1000 0 0).2.1 c D k) ∧ Keep (gI g 1000 0 0) g') := by
  refine AMet.of [vA 1000, vI c, vI D, vI k, none, none, none, none] (by decide) rfl (Nat.le_of_ble_eq_true rfl) ?_
  refine a_aload_n 1 dX12_fewest_0 rfl rfl ?_
  refine a_iconst (z := 0) 2 dX12_fewest_1 rfl (zrl rfl) rfl ?_
  refine a_putI 5 dX12_fewest_2 fX12_80 (Or.inl rfl) hM.1 (Or.inl rfl) rfl ?_
  have hM : MR (gI g 1000 0 0) := hM
  have hV : MV (gI g 1000 0 0).2.1 := MV_th hV
  have hc := hV.1
  unfold MVc at hc
  generalize gI g 1000 0 0 = g1 at hM hV hc ⊢
  refine a_iload_n 6 dX12_fewest_5 rfl rfl ?_
  refine a_iconst (z := 0) 7 dX12_fewest_6 rfl (zrl rfl) rfl ?_
  refine a_iconst (z := 2) 8 dX12_fewest_7 rfl (zrl rfl) rfl ?_
  refine a_callS 11 (r_in _ _ _ _) cdX12_in lX12_84 dX12_fewest_8 rfl rfl ⟨by decide, by decide, rfl, rfl⟩ ⟨Nat.zero_le _, Nat.zero_le _⟩ (Nat.le_of_ble_eq_true rfl) rfl ?_
  rintro _ _ - ⟨b8, rfl, rfl, h8⟩ -
  refine a_if_ne 16 14 dX12_fewest_11 (by decide) rfl (fun c11 => ?_) (fun c11 => ?_)
  · skip
    refine a_aload_n 17 dX12_fewest_16 rfl rfl ?_
    refine a_iload_n 18 dX12_fewest_17 rfl rfl ?_
    refine a_iload_n 19 dX12_fewest_18 rfl rfl ?_
    refine a_callV 22 (r_refuses _ _ _ hM hV) cdX12_refuses lX12_159 dX12_fewest_19 rfl hM.1 rfl ⟨by decide, by decide, rfl, rfl⟩ ⟨Nat.zero_le _, Nat.zero_le _⟩ (Nat.le_of_ble_eq_true rfl) rfl ?_
    rintro r19 g19 - ref19 -
    obtain ⟨rv, rfl, hrv⟩ : ∃ rv, r19 = vI rv ∧ ((¬ okCD c D ∧ rv = -1 ∧ g19 = g1) ∨ (okCD c D ∧ sameB wX g1 g19 ∧ wayB g1.2.1 c D g19.2.1 ∧ ((10 < (WS g1.2.1 c D).length ∧ rv = -2) ∨ ((WS g1.2.1 c D).length ≤ 10 ∧ rv = 0)))) := by
      rcases ref19 with ⟨z1, z2, z3⟩ | ⟨z1, z2, z3, ⟨z4, z5⟩ | ⟨z4, z5⟩⟩
      · exact ⟨_, z2, Or.inl ⟨z1, rfl, z3⟩⟩
      · exact ⟨_, z5, Or.inr ⟨z1, z2, z3, Or.inl ⟨z4, rfl⟩⟩⟩
      · exact ⟨_, z5, Or.inr ⟨z1, z2, z3, Or.inr ⟨z4, rfl⟩⟩⟩
    have hk0 : sameB wX g1 g19 := by
      rcases hrv with ⟨-, -, z3⟩ | ⟨-, z2, -⟩
      · rw [z3]; exact sameB.rf
      · exact z2
    clear ref19
    refine a_istore 24 dX12_fewest_22 (by decide) rfl rfl ?_
    refine a_iload 26 dX12_fewest_24 rfl rfl ?_
    refine a_if_ge 32 29 dX12_fewest_26 (by decide) rfl (fun c26 => ?_) (fun c26 => ?_)
    · skip
      have hok : okCD c D ∧ wayB g1.2.1 c D g19.2.1 ∧ (WS g1.2.1 c D).length ≤ 10 := by
        rcases hrv with ⟨-, z2, -⟩ | ⟨z1, z2, z3, ⟨z4, z5⟩ | ⟨z4, z5⟩⟩
        · omega
        · omega
        · exact ⟨z1, z3, z4⟩
      have hh0 := hk0.hk wX_scr
      have hwo := wOK_of hok.2.1 hh0 hok.2.2
      have hV0 := MV_keep wX_scr hk0 hV
      have hp2 := pow2N hok.2.2
      refine a_iconst (z := 1) 33 dX12_fewest_32 rfl (zrl rfl) rfl ?_
      refine a_aload_n 34 dX12_fewest_33 rfl rfl ?_
      refine a_getIz (((WS g1.2.1 c D).length : Int)) 37 dX12_fewest_34 fX12_146 (hk0.MR hM).1 rfl hok.2.1.1 rfl ?_
      refine a_ishl _ 38 dX12_fewest_37 (v_shl1 hok.2.2) rfl ?_
      refine a_iconst (z := 1) 39 dX12_fewest_38 rfl (zrl rfl) rfl ?_
      refine a_isub 40 dX12_fewest_39 (by unfold zr; omega) rfl ?_
      refine a_istore 42 dX12_fewest_40 (by decide) rfl rfl ?_
      refine a_iconst (z := 1) 43 dX12_fewest_42 rfl (zrl rfl) rfl ?_
      refine a_istore 45 dX12_fewest_43 (by decide) rfl rfl ?_
      have hst := fewB.start (N := (2 ^ (WS g1.2.1 c D).length : Int)) (G := gB g1.2.1 c D) (by omega) gst_all
      refine a_iload 47 dX12_fewest_45 rfl rfl ?_
      refine a_iconst (z := 1) 48 dX12_fewest_47 rfl (zrl rfl) rfl ?_
      refine a_isub 49 dX12_fewest_48 (by unfold zr; omega) rfl ?_
      refine a_istore 51 dX12_fewest_49 (by decide) rfl rfl ?_
      refine AW.loop (α := GH × Int × Int × Int) (fun p => p.2.1.toNat) (fun p => sameB iX g19 p.1 ∧ (0 ≤ p.2.1 ∧ p.2.1 ≤ (2 ^ (WS g1.2.1 c D).length : Int) - 1) ∧ fewB (2 ^ (WS g1.2.1 c D).length : Int) (gB g1.2.1 c D) p.2.1 p.2.2.1 p.2.2.2) (fun p => p.1) (fun p => [vA 1000, vI c, vI D, vI k, vI rv, vI p.2.2.1, vI p.2.2.2, vI (p.2.1 - 1)]) (fun p => []) ?_ (g19, (2 ^ (WS g1.2.1 c D).length : Int) - 1, (2 ^ (WS g1.2.1 c D).length : Int) - 1, 1) ?_
      · rintro ⟨g2, s, best, riv⟩ ⟨hk2, hI, hFB⟩ ih51
        try dsimp only at hI ih ⊢
        try dsimp only at hk2 hI hFB ih51 ⊢
        have hkM : MR g1 → MR g2 := fun z => hk2.MR (hk0.MR z)
        have hh2 := hh0.tr (hk2.hk iX_scr)
        have hV2 := MV_keep iX_scr hk2 hV0
        have hw2 := hwo.keep hk2
        have hle := hFB.le hI.1
        have hb0 := hFB.1
        
        refine a_iload 53 dX12_fewest_51 rfl rfl ?_
        refine a_if_lt 111 56 dX12_fewest_53 (by decide) rfl (fun c53 => ?_) (fun c53 => ?_)
        · skip
          refine a_iload_n 112 dX12_fewest_111 rfl rfl ?_
          refine a_if_ne 123 115 dX12_fewest_112 (by decide) rfl (fun c112 => ?_) (fun c112 => ?_)
          · skip
            refine a_iload_n 124 dX12_fewest_123 rfl rfl ?_
            refine a_iconst (z := 1) 125 dX12_fewest_124 rfl (zrl rfl) rfl ?_
            refine a_icmp_ne 133 128 dX12_fewest_125 (by decide) rfl (fun c125 => ?_) (fun c125 => ?_)
            · skip
              refine a_iload 135 dX12_fewest_133 rfl rfl ?_
              refine a_ireturn dX12_fewest_135 rfl ⟨Nat.zero_le _, Nat.zero_le _⟩ ?_
              have e : s = 0 := by omega
              subst e
              have hE := fewP_eq hFB
              exact ⟨congrArg vI (by unfold fewR; rw [if_neg (by omega), if_neg (fun z => z hok.1), if_neg (by omega), ← hE]; repeat (first | rw [if_pos (by omega)] | rw [if_neg (by omega)])), (hk0.mono wX_scr).tr (hk2.mono iX_scr)⟩
            · skip
              refine a_iload 130 dX12_fewest_128 rfl rfl ?_
              refine a_goto 135 dX12_fewest_130 (by decide) ?_
              refine a_ireturn dX12_fewest_135 rfl ⟨Nat.zero_le _, Nat.zero_le _⟩ ?_
              have e : s = 0 := by omega
              subst e
              have hE := fewP_eq hFB
              exact ⟨congrArg vI (by unfold fewR; rw [if_neg (by omega), if_neg (fun z => z hok.1), if_neg (by omega), ← hE]; repeat (first | rw [if_pos (by omega)] | rw [if_neg (by omega)])), (hk0.mono wX_scr).tr (hk2.mono iX_scr)⟩
          · skip
            refine a_iload 117 dX12_fewest_115 rfl rfl ?_
            refine a_callS 120 (r_ones _ _ (by omega)) cdX12_ones lX12_165 dX12_fewest_117 rfl rfl ⟨by decide, by decide, rfl, rfl⟩ ⟨Nat.zero_le _, Nat.zero_le _⟩ (Nat.le_of_ble_eq_true rfl) rfl ?_
            rintro _ _ - ⟨rfl, rfl⟩ -
            refine a_goto 135 dX12_fewest_120 (by decide) ?_
            refine a_ireturn dX12_fewest_135 rfl ⟨Nat.zero_le _, Nat.zero_le _⟩ ?_
            have e : s = 0 := by omega
            subst e
            have hE := fewP_eq hFB
            exact ⟨congrArg vI (by unfold fewR; rw [if_neg (by omega), if_neg (fun z => z hok.1), if_neg (by omega), ← hE]; repeat (first | rw [if_pos (by omega)] | rw [if_neg (by omega)])), (hk0.mono wX_scr).tr (hk2.mono iX_scr)⟩
        · skip
          refine a_iload 58 dX12_fewest_56 rfl rfl ?_
          refine a_callS 61 (r_ones _ _ (by omega)) cdX12_ones lX12_165 dX12_fewest_58 rfl rfl ⟨by decide, by decide, rfl, rfl⟩ ⟨Nat.zero_le _, Nat.zero_le _⟩ (Nat.le_of_ble_eq_true rfl) rfl ?_
          rintro _ _ - ⟨rfl, rfl⟩ -
          refine a_iload 63 dX12_fewest_61 rfl rfl ?_
          refine a_callS 66 (r_ones _ _ (by omega)) cdX12_ones lX12_165 dX12_fewest_63 rfl rfl ⟨by decide, by decide, rfl, rfl⟩ ⟨Nat.zero_le _, Nat.zero_le _⟩ (Nat.le_of_ble_eq_true rfl) rfl ?_
          rintro _ _ - ⟨rfl, rfl⟩ -
          refine a_icmp_gt 105 69 dX12_fewest_66 (by decide) rfl (fun c66 => ?_) (fun c66 => ?_)
          · skip
            refine a_iinc 108 dX12_fewest_105 rfl (by unfold zr; omega) (by decide) rfl rfl ?_
            refine a_goto 51 dX12_fewest_108 (by decide) ?_
            rw [show s - 1 + -1 = (s - 1) - 1 by omega]
            have hFB2 : fewB (2 ^ (WS g1.2.1 c D).length : Int) (gB g1.2.1 c D) ((s - 1) + 1) best riv := by rw [show s - 1 + 1 = s by omega]; exact hFB
            first
            | exact ih51 (_, s - 1, _, _) ⟨hk2.tr hk72, by dsimp only; omega, h99⟩ (by dsimp only; omega)
            | exact ih51 (_, s - 1, _, _) ⟨hk2.tr hk72, by dsimp only; omega, hFB2.no (by omega) (fun z => isN h72 c75 z.2)⟩ (by dsimp only; omega)
            | exact ih51 (_, s - 1, _, _) ⟨hk2, by dsimp only; omega, hFB2.no (by omega) (fun z => absurd (show onesU (s - 1) 10 ≤ onesU best 10 from z.1) (by omega))⟩ (by dsimp only; omega)
          · skip
            refine a_aload_n 70 dX12_fewest_69 rfl rfl ?_
            refine a_iload 72 dX12_fewest_70 rfl rfl ?_
            refine a_callV 75 (r_isGoing _ _ _ _ (hkM hM) hV2 hw2 (by omega)) cdX12_isGoing lX12_162 dX12_fewest_72 rfl (hk2.MR (hk0.MR hM)).1 rfl ⟨by decide, by decide, rfl, rfl⟩ ⟨Nat.zero_le _, Nat.zero_le _⟩ (Nat.le_of_ble_eq_true rfl) rfl ?_
            rintro _ g72 - ⟨⟨b72, rfl, h72⟩, hk72, hb72, hf72⟩ -
            rw [hh2.gst] at h72
            refine a_if_eq 105 78 dX12_fewest_75 (by decide) rfl (fun c75 => ?_) (fun c75 => ?_)
            · skip
              refine a_iinc 108 dX12_fewest_105 rfl (by unfold zr; omega) (by decide) rfl rfl ?_
              refine a_goto 51 dX12_fewest_108 (by decide) ?_
              rw [show s - 1 + -1 = (s - 1) - 1 by omega]
              have hFB2 : fewB (2 ^ (WS g1.2.1 c D).length : Int) (gB g1.2.1 c D) ((s - 1) + 1) best riv := by rw [show s - 1 + 1 = s by omega]; exact hFB
              first
              | exact ih51 (_, s - 1, _, _) ⟨hk2.tr hk72, by dsimp only; omega, h99⟩ (by dsimp only; omega)
              | exact ih51 (_, s - 1, _, _) ⟨hk2.tr hk72, by dsimp only; omega, hFB2.no (by omega) (fun z => isN h72 c75 z.2)⟩ (by dsimp only; omega)
              | exact ih51 (_, s - 1, _, _) ⟨hk2, by dsimp only; omega, hFB2.no (by omega) (fun z => absurd (show onesU (s - 1) 10 ≤ onesU best 10 from z.1) (by omega))⟩ (by dsimp only; omega)
            · skip
              refine AW.cut (J := 99) (P := fun z => fewB (2 ^ (WS g1.2.1 c D).length : Int) (gB g1.2.1 c D) (s - 1) (s - 1) z) ?_ (fun J99 => ?_)
              · intro z99 h99
                refine a_istore 101 dX12_fewest_99 (by decide) rfl rfl ?_
                refine a_iload 103 dX12_fewest_101 rfl rfl ?_
                refine a_istore 105 dX12_fewest_103 (by decide) rfl rfl ?_
                refine a_iinc 108 dX12_fewest_105 rfl (by unfold zr; omega) (by decide) rfl rfl ?_
                refine a_goto 51 dX12_fewest_108 (by decide) ?_
                rw [show s - 1 + -1 = (s - 1) - 1 by omega]
                have hFB2 : fewB (2 ^ (WS g1.2.1 c D).length : Int) (gB g1.2.1 c D) ((s - 1) + 1) best riv := by rw [show s - 1 + 1 = s by omega]; exact hFB
                first
                | exact ih51 (_, s - 1, _, _) ⟨hk2.tr hk72, by dsimp only; omega, h99⟩ (by dsimp only; omega)
                | exact ih51 (_, s - 1, _, _) ⟨hk2.tr hk72, by dsimp only; omega, hFB2.no (by omega) (fun z => isN h72 c75 z.2)⟩ (by dsimp only; omega)
                | exact ih51 (_, s - 1, _, _) ⟨hk2, by dsimp only; omega, hFB2.no (by omega) (fun z => absurd (show onesU (s - 1) 10 ≤ onesU best 10 from z.1) (by omega))⟩ (by dsimp only; omega)
              · skip
                refine a_iload 80 dX12_fewest_78 rfl rfl ?_
                refine a_callS 83 (r_ones _ _ (by omega)) cdX12_ones lX12_165 dX12_fewest_80 rfl rfl ⟨by decide, by decide, rfl, rfl⟩ ⟨Nat.zero_le _, Nat.zero_le _⟩ (Nat.le_of_ble_eq_true rfl) rfl ?_
                rintro _ _ - ⟨rfl, rfl⟩ -
                refine a_iload 85 dX12_fewest_83 rfl rfl ?_
                refine a_callS 88 (r_ones _ _ (by omega)) cdX12_ones lX12_165 dX12_fewest_85 rfl rfl ⟨by decide, by decide, rfl, rfl⟩ ⟨Nat.zero_le _, Nat.zero_le _⟩ (Nat.le_of_ble_eq_true rfl) rfl ?_
                rintro _ _ - ⟨rfl, rfl⟩ -
                refine a_icmp_ge 95 91 dX12_fewest_88 (by decide) rfl (fun c88 => ?_) (fun c88 => ?_)
                · skip
                  refine a_iload 97 dX12_fewest_95 rfl rfl ?_
                  refine a_iconst (z := 1) 98 dX12_fewest_97 rfl (zrl rfl) rfl ?_
                  refine a_iadd 99 dX12_fewest_98 (by unfold zr; omega) rfl ?_
                  have hFB2 : fewB (2 ^ (WS g1.2.1 c D).length : Int) (gB g1.2.1 c D) ((s - 1) + 1) best riv := by rw [show s - 1 + 1 = s by omega]; exact hFB
                  first
                  | exact J99 _ (hFB2.less (by omega) (isT h72 c75) c88)
                  | exact J99 _ (hFB2.same (by omega) (isT h72 c75) (by omega))
                · skip
                  refine a_iconst (z := 1) 92 dX12_fewest_91 rfl (zrl rfl) rfl ?_
                  refine a_goto 99 dX12_fewest_92 (by decide) ?_
                  have hFB2 : fewB (2 ^ (WS g1.2.1 c D).length : Int) (gB g1.2.1 c D) ((s - 1) + 1) best riv := by rw [show s - 1 + 1 = s by omega]; exact hFB
                  first
                  | exact J99 _ (hFB2.less (by omega) (isT h72 c75) c88)
                  | exact J99 _ (hFB2.same (by omega) (isT h72 c75) (by omega))
      · exact ⟨sameB.rf, by dsimp only; omega, hst⟩
    · skip
      refine a_iload 31 dX12_fewest_29 rfl rfl ?_
      refine a_ireturn dX12_fewest_31 rfl ⟨Nat.zero_le _, Nat.zero_le _⟩ ?_
      rcases hrv with ⟨z1, z2, z3⟩ | ⟨z1, z2, z3, ⟨z4, z5⟩ | ⟨z4, z5⟩⟩
      · exact ⟨congrArg vI (by unfold fewR; rw [if_neg (by omega), if_pos z1]; exact z2), hk0.mono wX_scr⟩
      · exact ⟨congrArg vI (by unfold fewR; rw [if_neg (by omega), if_neg (fun z => z z1), if_pos z4]; exact z5), hk0.mono wX_scr⟩
      · omega
  · skip
    refine a_iconst (z := (-1)) 15 dX12_fewest_14 rfl (zrl rfl) rfl ?_
    refine a_ireturn dX12_fewest_15 rfl ⟨Nat.zero_le _, Nat.zero_le _⟩ ?_
    exact ⟨congrArg vI (by unfold fewR; rw [if_pos (by omega)]), sameB.rf⟩
