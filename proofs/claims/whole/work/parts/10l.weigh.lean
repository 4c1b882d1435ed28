theorem i32n {n : Nat} (h : n < 2 ^ 32) : (nI n).toBitVec.toNat = n := by
  show (BitVec.ofNat 32 n).toNat = n
  rw [BitVec.toNat_ofNat, Nat.mod_eq_of_lt h]
theorem v_ushr {n k : Nat} {y : Int} (hk : k < 32) (hy : y = (k : Int)) : zr (n : Int) → zr y → ((Int32.ofInt (n : Int)).toUInt32 >>> ((Int32.ofInt y).toUInt32 &&& Int32.toUInt32 31)).toInt32 = Int32.ofInt ((n / 2 ^ k : Nat) : Int) ∧ zr ((n / 2 ^ k : Nat) : Int) := by
  intro hx _
  subst hy
  have hn : n < 2 ^ 31 := by have := hx.2; omega
  have h1 : n / 2 ^ k ≤ n := Nat.div_le_self _ _
  have hs : ∀ k : Nat, k < 32 → (((Int32.ofInt (k : Int)).toUInt32 &&& Int32.toUInt32 31).toBitVec % 32).toNat = k := by decide +kernel
  constructor
  · rw [zN, zN (n := n / 2 ^ k)]
    apply Int32.toBitVec.inj
    apply BitVec.eq_of_toNat_eq
    rw [i32n (by omega)]
    show ((nI n).toBitVec >>> (((Int32.ofInt (k : Int)).toUInt32 &&& Int32.toUInt32 31).toBitVec % 32)).toNat = _
    rw [BitVec.ushiftRight_eq', BitVec.toNat_ushiftRight, hs k hk, Nat.shiftRight_eq_div_pow, i32n (by omega)]
  · generalize n / 2 ^ k = q at *
    exact ⟨by omega, by omega⟩
theorem v_andN {a b : Nat} {y : Int} (hy : y = (b : Int)) : zr (a : Int) → zr y → (Int32.ofInt (a : Int) &&& Int32.ofInt y) = Int32.ofInt ((a &&& b : Nat) : Int) ∧ zr ((a &&& b : Nat) : Int) := by
  intro hx h2
  subst hy
  exact v_and (x := (a : Int)) (y := (b : Int)) (by omega) (by omega) hx h2
def b1 (x : Nat) : Nat := x - ((x / 2) &&& 1431655765)
def b2 (x : Nat) : Nat := (b1 x &&& 858993459) + ((b1 x / 4) &&& 858993459)
def b3 (x : Nat) : Nat := (b2 x + b2 x / 16) &&& 252645135
def b4 (x : Nat) : Nat := b3 x + b3 x / 256
def b5 (x : Nat) : Nat := b4 x + b4 x / 65536
theorem b_all : ∀ x, x < 1024 → ((x / 2) &&& 1431655765) ≤ x ∧ b1 x < 2048 ∧ b2 x < 4096 ∧ b3 x < 4096 ∧ b4 x < 8192 ∧ b5 x < 8192 ∧ b5 x % 64 = bcN x 10 := by decide +kernel
theorem bc_on {x : Nat} : ∀ n : Nat, ((bcN x n : Nat) : Int) = onesU (x : Int) n
  | 0 => rfl
  | n + 1 => by
    show ((bcN x n + x / 2 ^ n % 2 : Nat) : Int) = onesU (x : Int) n + (x : Int) / 2 ^ n % 2
    rw [← bc_on n, zpow]; omega
theorem on_le {x n : Nat} (h : x < 2 ^ n) : ∀ k : Nat, onesU (x : Int) (n + k) = onesU (x : Int) n
  | 0 => rfl
  | k + 1 => by
    show onesU (x : Int) (n + k) + (x : Int) / 2 ^ (n + k) % 2 = _
    rw [on_le h k, zpow, Nat.div_eq_of_lt (Nat.lt_of_lt_of_le h (Nat.pow_le_pow_right (by decide) (by omega)))]
    simp
theorem on_le2 {x n : Nat} (h : x < 2 ^ n) (hn : n ≤ 10) : onesU (x : Int) 10 ≤ n := by
  have e := on_le h (10 - n)
  rw [show n + (10 - n) = 10 by omega] at e
  rw [e]; exact (onesU_le _ n).2
set_option maxHeartbeats 4000000 in
set_option maxRecDepth 100000 in
theorem j_bcI (g : GH) (i : Int) (hi : 0 ≤ i ∧ i < 1024) : AMet mJ6_bitCount_0f7a4 g [vI i] (fun r g' => r = vI (onesU i 10) ∧ g = g') := by
  refine AMet.of [vI i] (by decide) rfl (Nat.le_of_ble_eq_true rfl) ?_
  obtain ⟨x, rfl⟩ : ∃ x : Nat, i = x := ⟨i.toNat, by omega⟩
  have hx : x < 1024 := by omega
  obtain ⟨h0, h1, h2, h3, h4, h5, h6⟩ := b_all x hx
  have e1 : (((x / 2 : Nat) &&& 1431655765 : Nat) : Int) ≤ x := by exact_mod_cast h0
  refine a_iload_n 1 dJ6_bitCount_0f7a4_0 rfl rfl ?_
  refine a_iload_n 2 dJ6_bitCount_0f7a4_1 rfl rfl ?_
  refine a_iconst (z := 1) 3 dJ6_bitCount_0f7a4_2 rfl (zrl rfl) rfl ?_
  refine a_iushr ((x / 2 : Nat) : Int) 4 dJ6_bitCount_0f7a4_3 (v_ushr (k := 1) (by decide) rfl) rfl ?_
  refine a_ldcw 7 dJ6_bitCount_0f7a4_4 kJ6_265 (zrl rfl) rfl ?_
  refine a_iand (((x / 2 : Nat) &&& 1431655765 : Nat) : Int) 8 dJ6_bitCount_0f7a4_7 (v_andN rfl) rfl ?_
  refine a_isub 9 dJ6_bitCount_0f7a4_8 (by unfold zr; omega) rfl ?_
  rw [show (x : Int) - (((x / 2 : Nat) &&& 1431655765 : Nat) : Int) = ((b1 x : Nat) : Int) by unfold b1; omega]
  refine a_istore_n 10 dJ6_bitCount_0f7a4_9 (by decide) rfl rfl ?_
  refine a_iload_n 11 dJ6_bitCount_0f7a4_10 rfl rfl ?_
  refine a_ldcw 14 dJ6_bitCount_0f7a4_11 kJ6_266 (zrl rfl) rfl ?_
  refine a_iand ((b1 x &&& 858993459 : Nat) : Int) 15 dJ6_bitCount_0f7a4_14 (v_andN rfl) rfl ?_
  refine a_iload_n 16 dJ6_bitCount_0f7a4_15 rfl rfl ?_
  refine a_iconst (z := 2) 17 dJ6_bitCount_0f7a4_16 rfl (zrl rfl) rfl ?_
  refine a_iushr ((b1 x / 4 : Nat) : Int) 18 dJ6_bitCount_0f7a4_17 (v_ushr (k := 2) (by decide) rfl) rfl ?_
  refine a_ldcw 21 dJ6_bitCount_0f7a4_18 kJ6_266 (zrl rfl) rfl ?_
  skip
  refine a_iand (((b1 x / 4) &&& 858993459 : Nat) : Int) 22 dJ6_bitCount_0f7a4_21 (v_andN rfl) rfl ?_
  have e2 : (b1 x &&& 858993459) ≤ b1 x := Nat.and_le_left
  have e3 : ((b1 x / 4) &&& 858993459) ≤ b1 x / 4 := Nat.and_le_left
  refine a_iadd 23 dJ6_bitCount_0f7a4_22 (by unfold zr; omega) rfl ?_
  rw [show ((b1 x &&& 858993459 : Nat) : Int) + (((b1 x / 4) &&& 858993459 : Nat) : Int) = ((b2 x : Nat) : Int) by unfold b2; omega]
  refine a_istore_n 24 dJ6_bitCount_0f7a4_23 (by decide) rfl rfl ?_
  refine a_iload_n 25 dJ6_bitCount_0f7a4_24 rfl rfl ?_
  refine a_iload_n 26 dJ6_bitCount_0f7a4_25 rfl rfl ?_
  refine a_iconst (z := 4) 27 dJ6_bitCount_0f7a4_26 rfl (zrl rfl) rfl ?_
  refine a_iushr ((b2 x / 16 : Nat) : Int) 28 dJ6_bitCount_0f7a4_27 (v_ushr (k := 4) (by decide) rfl) rfl ?_
  refine a_iadd 29 dJ6_bitCount_0f7a4_28 (by unfold zr; omega) rfl ?_
  rw [show ((b2 x : Nat) : Int) + ((b2 x / 16 : Nat) : Int) = ((b2 x + b2 x / 16 : Nat) : Int) by omega]
  refine a_ldcw 32 dJ6_bitCount_0f7a4_29 kJ6_267 (zrl rfl) rfl ?_
  refine a_iand ((b3 x : Nat) : Int) 33 dJ6_bitCount_0f7a4_32 (v_andN rfl) rfl ?_
  refine a_istore_n 34 dJ6_bitCount_0f7a4_33 (by decide) rfl rfl ?_
  refine a_iload_n 35 dJ6_bitCount_0f7a4_34 rfl rfl ?_
  refine a_iload_n 36 dJ6_bitCount_0f7a4_35 rfl rfl ?_
  refine a_bipush (z := 8) 38 dJ6_bitCount_0f7a4_36 rfl (zrl rfl) rfl ?_
  refine a_iushr ((b3 x / 256 : Nat) : Int) 39 dJ6_bitCount_0f7a4_38 (v_ushr (k := 8) (by decide) rfl) rfl ?_
  refine a_iadd 40 dJ6_bitCount_0f7a4_39 (by unfold zr; omega) rfl ?_
  rw [show ((b3 x : Nat) : Int) + ((b3 x / 256 : Nat) : Int) = ((b4 x : Nat) : Int) by unfold b4; omega]
  refine a_istore_n 41 dJ6_bitCount_0f7a4_40 (by decide) rfl rfl ?_
  refine a_iload_n 42 dJ6_bitCount_0f7a4_41 rfl rfl ?_
  refine a_iload_n 43 dJ6_bitCount_0f7a4_42 rfl rfl ?_
  refine a_bipush (z := 16) 45 dJ6_bitCount_0f7a4_43 rfl (zrl rfl) rfl ?_
  refine a_iushr ((b4 x / 65536 : Nat) : Int) 46 dJ6_bitCount_0f7a4_45 (v_ushr (k := 16) (by decide) rfl) rfl ?_
  refine a_iadd 47 dJ6_bitCount_0f7a4_46 (by unfold zr; omega) rfl ?_
  rw [show ((b4 x : Nat) : Int) + ((b4 x / 65536 : Nat) : Int) = ((b5 x : Nat) : Int) by unfold b5; omega]
  refine a_istore_n 48 dJ6_bitCount_0f7a4_47 (by decide) rfl rfl ?_
  refine a_iload_n 49 dJ6_bitCount_0f7a4_48 rfl rfl ?_
  refine a_bipush (z := 63) 51 dJ6_bitCount_0f7a4_49 rfl (zrl rfl) rfl ?_
  refine a_iand _ 52 dJ6_bitCount_0f7a4_51 v_and63 rfl ?_
  refine a_ireturn dJ6_bitCount_0f7a4_52 rfl ⟨Nat.zero_le _, Nat.zero_le _⟩ ?_
  refine ⟨congrArg vI ?_, rfl⟩
  rw [← bc_on]; omega
/-! the fewest, from below on -/
theorem fewB.skip {L b r : Int} {G : Int → Prop} (h0 : 0 ≤ L) (h : fewB L G 0 b r) (hn : ¬ (G L ∧ onesU L 10 ≤ onesU b 10)) : fewB (L + 1) G 0 b r := by
  obtain ⟨⟨a1, a2⟩, a3, a4, a5⟩ := h
  refine ⟨⟨a1, by omega⟩, a3, fun x x0 x1 x2 => ?_, ?_⟩
  · by_cases e : x = L
    · subst e
      have : ¬ onesU x 10 ≤ onesU b 10 := fun z => hn ⟨x2, z⟩
      omega
    · exact a4 x x0 (by omega) x2
  · rw [cnt_step h0, ci_f (fun z => hn ⟨z.1, by rw [z.2]; exact Int.le_refl _⟩)]; omega
theorem fewB.also {L b r : Int} {G : Int → Prop} (h0 : 0 ≤ L) (h : fewB L G 0 b r) (hg : G L) (he : onesU L 10 = onesU b 10) : fewB (L + 1) G 0 b (r + 1) := by
  obtain ⟨⟨a1, a2⟩, a3, a4, a5⟩ := h
  refine ⟨⟨a1, by omega⟩, a3, fun x x0 x1 x2 => ?_, ?_⟩
  · by_cases e : x = L
    · subst e; omega
    · exact a4 x x0 (by omega) x2
  · rw [cnt_step h0, ci_t ⟨hg, he⟩]; omega
theorem fewB.new {L : Int} {G : Int → Prop} (h0 : 0 ≤ L) (hg : G L) (hl : ∀ x, 0 ≤ x → x < L → G x → onesU L 10 < onesU x 10) : fewB (L + 1) G 0 L 1 := by
  refine ⟨⟨h0, by omega⟩, hg, fun x x0 x1 x2 => ?_, ?_⟩
  · by_cases e : x = L
    · subst e; exact ⟨Int.le_refl _, fun _ => Int.le_refl _⟩
    · have := hl x x0 (by omega) x2; omega
  · rw [cnt_step h0, ci_t ⟨hg, rfl⟩, cnt_diff0 (Int.le_refl 0) h0 (fun x x0 x1 x2 => by have := hl x x0 x1 x2.1; omega)]
    show (1 : Int) = cnt _ (0 : Int).toNat + 1 - cnt _ (0 : Int).toNat
    omega
def wsX (x k : Nat) : Prop := x = 20 ∨ x = 25 ∨ (x = 22 ∧ 5 ≤ k ∧ k ≤ 7)
theorem v_allbut {n L : Nat} (hn : n ≤ 10) (hL : L < 2 ^ n) : zr (((2 ^ n - 1 : Nat)) : Int) → zr (-1 - (L : Int)) → (Int32.ofInt ((2 ^ n - 1 : Nat) : Int) &&& Int32.ofInt (-1 - (L : Int))) = Int32.ofInt ((2 ^ n - 1 - L : Nat) : Int) ∧ zr ((2 ^ n - 1 - L : Nat) : Int) := by
  intro h1 h2
  have hp : ((2 : Int) ^ n) = ((2 ^ n : Nat) : Int) := by exact_mod_cast rfl
  have e : (-1 - (L : Int)) % 2 ^ n = ((2 ^ n - 1 - L : Nat) : Int) := by
    rw [hp, show (-1 - (L : Int)) = ((2 ^ n - 1 - L : Nat) : Int) + ((2 ^ n : Nat) : Int) * (-1) by omega, Int.add_mul_emod_self_left]
    exact Int.emod_eq_of_lt (by omega) (by omega)
  rw [Int32.and_comm]
  have := v_mask (x := -1 - (L : Int)) (m := ((2 ^ n - 1 : Nat) : Int)) n (by omega) (by rw [hp]; omega) h2 h1
  rw [e] at this
  exact this
/-- the set kept, with L let be -/
theorem kS_all {h : Nat → Nat → Int} {w : Nat → Int} {n L : Nat} (hL : L < 2 ^ n) : kS h w n (2 ^ n - 1 - L) n = gst h w (L : Int) n := by
  unfold kS cmK
  rw [show 2 ^ n - (2 ^ n - 1 - L + 1) = L by omega]
set_option maxHeartbeats 4000000 in
set_option maxRecDepth 100000 in
theorem c3_weighSets (g : GH) {n : Nat} {M : Nat → Nat} (hC : CMk g) (hG : CGs g) (hw : CWs g) (hv : CWv g.2.1) (hV : MV g.2.1) (hch : CHn g n M) (hn : 0 ≤ g.2.1 1000 13 ∧ g.2.1 1000 13 ≤ 40) : AMet mX3_weighSets g [vA 22] (fun _ g' => sameB wsX g g' ∧ g'.2.1 22 5 = onesU (fewP (2 ^ n) (fun x => (gst g.2.1 (fun i => (M i : Int)) x n).2.2 = -9)).1 10 ∧ g'.2.1 22 6 = (fewP (2 ^ n) (fun x => (gst g.2.1 (fun i => (M i : Int)) x n).2.2 = -9)).1 ∧ g'.2.1 22 7 = (fewP (2 ^ n) (fun x => (gst g.2.1 (fun i => (M i : Int)) x n).2.2 = -9)).2) := by
  refine AMet.of [vA 22, none, none, none] (by decide) rfl (Nat.le_of_ble_eq_true rfl) ?_
  have hn10 := hch.1
  have hp10 : (2 : Nat) ^ n ≤ 2 ^ 10 := Nat.pow_le_pow_right (by decide) hn10
  have hp0 : 0 < 2 ^ n := Nat.pow_pos (by decide)
  have hpz : ((2 : Int) ^ ((n : Int)).toNat) = ((2 ^ n : Nat) : Int) := by rw [Int.toNat_natCast]; exact_mod_cast rfl
  refine a_aload_n 1 dX3_weighSets_0 rfl rfl ?_
  refine a_callV 4 (c3_endAllSets _ hC hG hw hv hV hch hn) cdX3_endAllSets lX3_88 dX3_weighSets_1 rfl (gX_cg (sameB.rf (X := wsX) (g := g)) hG).1 rfl ⟨by decide, by decide, rfl, rfl⟩ ⟨Nat.zero_le _, Nat.zero_le _⟩ (Nat.le_of_ble_eq_true rfl) rfl ?_
  rintro _ g1 - ⟨s1, hE⟩ -
  have h1 : sameB wsX g g1 := s1.mono (fun a k q => by unfold sX at q; unfold wsX; omega)
  have e14 : g1.2.1 22 4 = n := (s1.2.2 22 4 (by unfold sX; omega)).trans hch.2.1
  refine a_iconst (z := 1) 5 dX3_weighSets_4 rfl (zrl rfl) rfl ?_
  refine a_aload_n 6 dX3_weighSets_5 rfl rfl ?_
  refine a_getIz ((n : Int)) 9 dX3_weighSets_6 fX3_24 (gX_cg h1 hG).1 rfl e14 rfl ?_
  refine a_ishl ((2 ^ n : Nat) : Int) 10 dX3_weighSets_9 (fun a b => by have := v_shl (x := 1) (y := (n : Int)) (by omega) (by omega) (by omega) (by rw [hpz]; omega) a b; rw [hpz, Int.one_mul] at this; exact this) rfl ?_
  refine a_iconst (z := 1) 11 dX3_weighSets_10 rfl (zrl rfl) rfl ?_
  refine a_isub 12 dX3_weighSets_11 (by unfold zr; omega) rfl ?_
  rw [show ((2 ^ n : Nat) : Int) - 1 = ((2 ^ n - 1 : Nat) : Int) by omega]
  refine a_istore_n 13 dX3_weighSets_12 (by decide) rfl rfl ?_
  refine a_aload_n 14 dX3_weighSets_13 rfl rfl ?_
  refine a_aload_n 15 dX3_weighSets_14 rfl rfl ?_
  refine a_getIz ((n : Int)) 18 dX3_weighSets_15 fX3_24 (gX_cg h1 hG).1 rfl e14 rfl ?_
  refine a_iconst (z := 1) 19 dX3_weighSets_18 rfl (zrl rfl) rfl ?_
  refine a_iadd 20 dX3_weighSets_19 (by unfold zr; omega) rfl ?_
  refine a_putI 23 dX3_weighSets_20 fX3_28 (Or.inl rfl) (gX_cg h1 hG).1 (Or.inl rfl) rfl ?_
  refine a_iconst (z := 0) 24 dX3_weighSets_23 rfl (zrl rfl) rfl ?_
  refine a_istore_n 25 dX3_weighSets_24 (by decide) rfl rfl ?_
  refine AW.loop (α := GH × Nat) (fun p => 2 ^ n - p.2) (fun p => sameB wsX g p.1 ∧ p.2 ≤ 2 ^ n ∧ (∀ K, K < 2 ^ n → p.1.2.1 25 K = eS g.2.1 (fun i => (M i : Int)) n K) ∧ (((∀ x : Int, 0 ≤ x → x < (p.2 : Int) → ¬ (fun x => (gst g.2.1 (fun i => (M i : Int)) x n).2.2 = -9) x) ∧ p.1.2.1 22 5 = n + 1) ∨ ∃ b r, fewB (p.2 : Int) (fun x => (gst g.2.1 (fun i => (M i : Int)) x n).2.2 = -9) 0 b r ∧ p.1.2.1 22 5 = onesU b 10 ∧ p.1.2.1 22 6 = b ∧ p.1.2.1 22 7 = r)) (fun p => p.1) (fun p => [vA 22, vI ((2 ^ n - 1 : Nat) : Int), vI (p.2 : Int), none]) (fun p => []) ?_ (gI g1 22 5 ((n : Int) + 1), 0) ?_
  · rintro ⟨g2, L⟩ ⟨h2, hLn, hE2, hI⟩ ih25
    try dsimp only at hI ih ⊢
    try dsimp only at h2 hLn hE2 hI ih25 ⊢
    refine a_iload_n 26 dX3_weighSets_25 rfl rfl ?_
    refine a_iload_n 27 dX3_weighSets_26 rfl rfl ?_
    refine a_icmp_gt 100 30 dX3_weighSets_27 (by decide) rfl (fun c27 => ?_) (fun c27 => ?_)
    · skip
      refine a_return dX3_weighSets_100 rfl ⟨Nat.zero_le _, Nat.zero_le _⟩ ?_
      have e : L = 2 ^ n := by omega
      subst e
      refine ⟨h2, ?_⟩
      have ep : (((2 ^ n : Nat)) : Int) = (2 : Int) ^ n := by exact_mod_cast rfl
      rcases hI with q | ⟨b, r, q1, q2, q3, q4⟩
      · exfalso
        exact q.1 (2 ^ n - 1) (by omega) (by omega) gst_all
      · rw [ep] at q1
        have e2 := fewP_eq q1
        rw [← e2]
        exact ⟨q2, q3, q4⟩
    · skip
      have hL : L < 2 ^ n := by omega
      refine a_iload_n 31 dX3_weighSets_30 rfl rfl ?_
      refine a_callS 34 (j_bcI _ _ ⟨by omega, by omega⟩) cdJ6_bitCount_0f7a4 lX3_91 dX3_weighSets_31 rfl rfl ⟨by decide, by decide, rfl, rfl⟩ ⟨Nat.zero_le _, Nat.zero_le _⟩ (Nat.le_of_ble_eq_true rfl) rfl ?_
      rintro _ _ - ⟨rfl, rfl⟩ -
      have hol := on_le2 hL hn10
      refine a_istore_n 35 dX3_weighSets_34 (by decide) rfl rfl ?_
      have hgb : (fun x => (gst g.2.1 (fun i => (M i : Int)) x n).2.2 = -9) (L : Int) → eS g.2.1 (fun i => (M i : Int)) n (2 ^ n - 1 - L) ≠ -9 := fun z => by
        rcases eS_b (h := g.2.1) (w := (fun i => (M i : Int))) (n := n) (K := 2 ^ n - 1 - L) hV with q | q
        · rw [kS_all hL] at q; exact absurd z q.2
        · omega
      have hgc : eS g.2.1 (fun i => (M i : Int)) n (2 ^ n - 1 - L) ≠ -9 → (fun x => (gst g.2.1 (fun i => (M i : Int)) x n).2.2 = -9) (L : Int) := fun z => by
        rcases eS_b (h := g.2.1) (w := (fun i => (M i : Int))) (n := n) (K := 2 ^ n - 1 - L) hV with q | q
        · exact absurd q.1 z
        · rw [kS_all hL] at q; exact q.1
      refine a_aload_n 36 dX3_weighSets_35 rfl rfl ?_
      refine a_getR 39 dX3_weighSets_36 fX3_21 (gX_cg h2 hG).1 rfl (gX_cg h2 hG).2.1.2.2.2 rfl ?_
      refine a_iload_n 40 dX3_weighSets_39 rfl rfl ?_
      refine a_iload_n 41 dX3_weighSets_40 rfl rfl ?_
      refine a_iconst (z := (-1)) 42 dX3_weighSets_41 rfl (zrl rfl) rfl ?_
      refine a_ixor _ 43 dX3_weighSets_42 v_not rfl ?_
      refine a_iand ((2 ^ n - 1 - L : Nat) : Int) 44 dX3_weighSets_43 (v_allbut hn10 hL) rfl ?_
      refine a_ialdz (eS g.2.1 (fun i => (M i : Int)) n (2 ^ n - 1 - L)) 45 dX3_weighSets_44 (gX_cg h2 hG).2.2.2.2 (by omega) (by omega) (by rw [Int.toNat_natCast]; exact hE2 _ (by omega)) rfl ?_
      refine a_bipush (z := (-9)) 47 dX3_weighSets_45 rfl (zrl rfl) rfl ?_
      refine a_icmp_eq 94 50 dX3_weighSets_47 (by decide) rfl (fun c47 => ?_) (fun c47 => ?_)
      · skip
        refine a_iinc 97 dX3_weighSets_94 rfl (by unfold zr; omega) (by decide) rfl rfl ?_
        refine a_goto 25 dX3_weighSets_97 (by decide) ?_
        refine AW.kill 3 ?_
        have hb : ¬ (fun x => (gst g.2.1 (fun i => (M i : Int)) x n).2.2 = -9) (L : Int) := fun z => hgb z c47
        refine ih25 (g2, L + 1) ⟨h2, by dsimp only; omega, hE2, ?_⟩ (by dsimp only; omega)
        dsimp only
        rw [show ((L + 1 : Nat) : Int) = (L : Int) + 1 by omega]
        rcases hI with q | ⟨b, r, q1, q2⟩
        · refine Or.inl ⟨fun x x0 x1 => ?_, q.2⟩
          by_cases e : x = (L : Int)
          · rw [e]; exact hb
          · exact q.1 x x0 (by omega)
        · exact Or.inr ⟨b, r, q1.skip (by omega) (fun z => hb z.1), q2⟩
      · skip
        have hgL : (fun x => (gst g.2.1 (fun i => (M i : Int)) x n).2.2 = -9) (L : Int) := hgc c47
        refine a_iload_n 51 dX3_weighSets_50 rfl rfl ?_
        refine a_aload_n 52 dX3_weighSets_51 rfl rfl ?_
        refine a_getI 55 dX3_weighSets_52 fX3_28 (gX_cg h2 hG).1 rfl rfl ?_
        refine a_icmp_le 61 58 dX3_weighSets_55 (by decide) rfl (fun c55 => ?_) (fun c55 => ?_)
        · skip
          refine AW.cutH (J := 84) (P := fun g' => (sameB wsX g g' ∧ ∀ x, g'.2.1 25 x = g2.2.1 25 x) ∧ ∃ b r, fewB ((L : Int) + 1) (fun x => (gst g.2.1 (fun i => (M i : Int)) x n).2.2 = -9) 0 b (r + 1) ∧ g'.2.1 22 5 = onesU b 10 ∧ g'.2.1 22 6 = b ∧ g'.2.1 22 7 = r) ?_ (fun J84 => ?_)
          · intro g84 h84
            obtain ⟨⟨h84a, h84b⟩, b, r, q1, q2, q3, q4⟩ := h84
            have hrb := q1.le (Int.le_refl 0)
            refine a_aload_n 85 dX3_weighSets_84 rfl rfl ?_
            refine a_dup 86 dX3_weighSets_85 (by intro w h; cases h) rfl ?_
            refine a_getIz (r) 89 dX3_weighSets_86 fX3_34 (gX_cg h84a hG).1 rfl q4 rfl ?_
            refine a_iconst (z := 1) 90 dX3_weighSets_89 rfl (zrl rfl) rfl ?_
            refine a_iadd 91 dX3_weighSets_90 (by unfold zr; omega) rfl ?_
            refine a_putI 94 dX3_weighSets_91 fX3_34 (Or.inl rfl) (gX_cg h84a hG).1 (Or.inl rfl) rfl ?_
            refine a_iinc 97 dX3_weighSets_94 rfl (by unfold zr; omega) (by decide) rfl rfl ?_
            refine a_goto 25 dX3_weighSets_97 (by decide) ?_
            refine AW.kill 3 ?_
            refine ih25 (_, L + 1) ⟨h84a.wr (by unfold wsX; omega), by dsimp only; omega, fun K hK => (gI_n (Or.inl (by decide))).trans ((h84b K).trans (hE2 K hK)), ?_⟩ (by dsimp only; omega)
            dsimp only
            rw [show ((L + 1 : Nat) : Int) = (L : Int) + 1 by omega]
            exact Or.inr ⟨b, r + 1, q1, (u2_n (Or.inr (by decide))).trans q2, (u2_n (Or.inr (by decide))).trans q3, u2_s⟩
          · skip
            refine a_iload_n 62 dX3_weighSets_61 rfl rfl ?_
            refine a_aload_n 63 dX3_weighSets_62 rfl rfl ?_
            refine a_getI 66 dX3_weighSets_63 fX3_28 (gX_cg h2 hG).1 rfl rfl ?_
            refine a_icmp_ge 84 69 dX3_weighSets_66 (by decide) rfl (fun c66 => ?_) (fun c66 => ?_)
            · skip
              refine J84 _ ⟨⟨h2, fun _ => rfl⟩, ?_⟩
              rcases hI with q | ⟨b, r, q1, q2, q3, q4⟩
              · exfalso; rw [q.2] at c66; omega
              · exact ⟨b, r, q1.also (by omega) hgL (by rw [q2] at c66 c55; omega), q2, q3, q4⟩
            · skip
              refine a_aload_n 70 dX3_weighSets_69 rfl rfl ?_
              refine a_iload_n 71 dX3_weighSets_70 rfl rfl ?_
              refine a_putI 74 dX3_weighSets_71 fX3_28 (Or.inl rfl) (gX_cg h2 hG).1 (Or.inl rfl) rfl ?_
              refine a_aload_n 75 dX3_weighSets_74 rfl rfl ?_
              refine a_iload_n 76 dX3_weighSets_75 rfl rfl ?_
              refine a_putI 79 dX3_weighSets_76 fX3_31 (Or.inl rfl) (gX_cg h2 hG).1 (Or.inl rfl) rfl ?_
              refine a_aload_n 80 dX3_weighSets_79 rfl rfl ?_
              refine a_iconst (z := 0) 81 dX3_weighSets_80 rfl (zrl rfl) rfl ?_
              refine a_putI 84 dX3_weighSets_81 fX3_34 (Or.inl rfl) (gX_cg h2 hG).1 (Or.inl rfl) rfl ?_
              refine J84 _ ⟨⟨((h2.wr ?_).wr ?_).wr ?_, fun x => ?_⟩, (L : Int), 0, ?_, ?_, ?_, gI_s⟩
              · unfold wsX; omega
              · unfold wsX; omega
              · unfold wsX; omega
              · rw [gI_n (Or.inl (by decide)), gI_n (Or.inl (by decide)), gI_n (Or.inl (by decide))]
              · refine fewB.new (by omega) hgL (fun x x0 x1 x2 => ?_)
                rcases hI with q | ⟨b, r, q1, q2, q3, q4⟩
                · exact absurd x2 (q.1 x x0 x1)
                · have := (q1.2.2.1 x x0 x1 x2).1
                  rw [q2] at c66; omega
              · rw [gI_n (Or.inr (by decide)), gI_n (Or.inr (by decide))]; exact gI_s
              · rw [gI_n (Or.inr (by decide))]; exact gI_s
        · skip
          refine a_goto 94 dX3_weighSets_58 (by decide) ?_
          refine a_iinc 97 dX3_weighSets_94 rfl (by unfold zr; omega) (by decide) rfl rfl ?_
          refine a_goto 25 dX3_weighSets_97 (by decide) ?_
          refine AW.kill 3 ?_
          refine ih25 (g2, L + 1) ⟨h2, by dsimp only; omega, hE2, ?_⟩ (by dsimp only; omega)
          dsimp only
          rw [show ((L + 1 : Nat) : Int) = (L : Int) + 1 by omega]
          rcases hI with q | ⟨b, r, q1, q2⟩
          · exfalso; rw [q.2] at c55; omega
          · exact Or.inr ⟨b, r, q1.skip (by omega) (fun z => by rw [q2.1] at c55; have := z.2; omega), q2⟩
  · exact ⟨h1.wr (by unfold wsX; omega), Nat.zero_le _, fun K hK => (gI_n (Or.inl (by decide))).trans (hE K hK), Or.inl ⟨fun x x0 x1 => by dsimp only at x1; omega, gI_s⟩⟩
