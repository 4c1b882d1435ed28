/-! bytes of a long -/
theorem byt_tn {v : Int64} {k : Int} (h0 : 0 ≤ k) (h7 : k ≤ 7) : byt v k = ((tn v / 2 ^ (8 * k).toNat % 256 : Nat) : Int) := by
  obtain ⟨n, rfl⟩ := Int.eq_ofNat_of_zero_le h0
  have hn : n ≤ 7 := by omega
  have hs : ∀ n : Nat, n ≤ 7 → ((((Int32.ofInt (8 * (n : Int))).toInt64 &&& 63).toBitVec.smod 64)).toNat = 8 * n := by decide +kernel
  rw [show (8 * (n : Int)).toNat = 8 * n by omega]
  have e1 : tn (v >>> ((Int32.ofInt (8 * (n : Int))).toInt64 &&& 63) &&& 255) = tn v / 2 ^ (8 * n) % 256 := by
    rw [tn_and, show tn (255 : Int64) = 2 ^ 8 - 1 by decide +kernel]
    show (BitVec.sshiftRight' v.toBitVec (((Int32.ofInt (8 * (n : Int))).toInt64 &&& 63).toBitVec.smod 64)).toNat &&& (2 ^ 8 - 1) = _
    rw [Nat.and_two_pow_sub_one_eq_mod]
    unfold BitVec.sshiftRight'
    rw [hs n hn]
    apply Nat.eq_of_testBit_eq
    intro i
    rw [show (256 : Nat) = 2 ^ 8 from rfl, Nat.testBit_mod_two_pow, Nat.testBit_mod_two_pow, Nat.testBit_div_two_pow]
    by_cases h : i < 8
    · have e : (v.toBitVec.sshiftRight (8 * n)).toNat.testBit i = (v.toBitVec.sshiftRight (8 * n)).getLsbD i := rfl
      rw [e, BitVec.getLsbD_sshiftRight]
      have h1 : ¬ (64 ≤ i) := by omega
      have h2 : 8 * n + i < 64 := by omega
      simp [h1, h2, h]
      rw [BitVec.getElem_eq_testBit_toNat, Nat.add_comm]
      rfl
    · simp [h]
  have e2 : tn (v >>> ((Int32.ofInt (8 * (n : Int))).toInt64 &&& 63) &&& 255) < 256 := by rw [e1]; exact Nat.mod_lt _ (by decide)
  unfold byt
  have e3 := i32_mod (v >>> ((Int32.ofInt (8 * (n : Int))).toInt64 &&& 63) &&& 255) 32 (by decide)
  have e4 : (v >>> ((Int32.ofInt (8 * (n : Int))).toInt64 &&& 63) &&& 255).toInt32.toInt = ((tn (v >>> ((Int32.ofInt (8 * (n : Int))).toInt64 &&& 63) &&& 255) : Nat) : Int) := by
    generalize (v >>> ((Int32.ofInt (8 * (n : Int))).toInt64 &&& 63) &&& 255) = x at *
    have hz := zr_32 x.toInt32
    have hz1 := hz.1
    have hz2 := hz.2
    rw [Nat.mod_eq_of_lt (by omega)] at e3
    have e5 : ((2 : Int) ^ 32) = 4294967296 := by decide
    rw [e5] at e3
    omega
  rw [e4, e1]
theorem v_i2b {x : Int} : (Int32.ofInt x).toInt8.toInt32 = Int32.ofInt (sg (x % 256)) ∧ zr (sg (x % 256)) := by
  have hb : 0 ≤ x % 256 ∧ x % 256 ≤ 255 := by omega
  refine ⟨?_, ?_⟩
  · have e1 : (Int32.ofInt x).toInt8 = Int8.ofInt x := Int32.toInt8_ofInt ..
    rw [e1]
    have e2 : (Int8.ofInt x).toInt = sg (x % 256) := by
      rw [Int8.toInt_ofInt]
      show Int.bmod x 256 = _
      unfold sg
      rw [Int.bmod_def]
      rfl
    rw [← Int32.ofInt_int8ToInt, e2]
  · unfold sg zr; split <;> omega
theorem sg_nb {b : Int} (h : 0 ≤ b ∧ b ≤ 255) : (Int32.ofInt (sg b)).toInt8.toInt32 = Int32.ofInt (sg b) := by
  rw [(v_i2b (x := sg b)).1]
  congr 1
  unfold sg
  by_cases q : b < 128
  · rw [if_pos q, show b % 256 = b by omega, if_pos q]
  · rw [if_neg q, show (b - 256) % 256 = b by omega, if_neg q]
def xA (a k : Nat) : Prop := (a = 26 ∧ k = 1) ∨ a = 27
theorem byt_b {v : Int64} {k : Int} (h0 : 0 ≤ k) (h7 : k ≤ 7) : 0 ≤ byt v k ∧ byt v k ≤ 255 := by
  rw [byt_tn h0 h7]
  have : tn v / 2 ^ (8 * k).toNat % 256 < 256 := Nat.mod_lt _ (by decide)
  omega
theorem bv_ok {v : Int64} {k : Int} (h0 : 0 ≤ k) (h7 : k ≤ 7) : (Int32.ofInt ((v.toUInt64 >>> ((Int32.ofInt (8 * k)).toInt64.toUInt64 &&& Int64.toUInt64 63)).toInt64.toInt32.toInt)).toInt8.toInt32 = Int32.ofInt (sg (byt v k)) ∧ zr (sg (byt v k)) := by
  have e : (v.toUInt64 >>> ((Int32.ofInt (8 * k)).toInt64.toUInt64 &&& Int64.toUInt64 63)).toInt64.toInt32.toInt % 256 = byt v k := by
    rw [byt_tn h0 h7]
    have e1 := i32_mod (v.toUInt64 >>> ((Int32.ofInt (8 * k)).toInt64.toUInt64 &&& Int64.toUInt64 63)).toInt64 8 (by decide)
    have e2 : tn ((v.toUInt64 >>> ((Int32.ofInt (8 * k)).toInt64.toUInt64 &&& Int64.toUInt64 63)).toInt64) = tn v / 2 ^ (8 * k).toNat := by
      have := tn_ushr (x := v) (k := (8 * k).toNat) (by omega)
      rw [show (((8 * k).toNat : Nat) : Int) = 8 * k by omega] at this
      exact this
    rw [e2] at e1
    exact e1
  rw [← e]
  exact v_i2b
set_option maxHeartbeats 4000000 in
set_option maxRecDepth 100000 in
theorem c8_addBytes (g : GH) (n : Int) (v : Int64) {L : Int} (hs : TXs g) (hL : g.2.1 26 1 = L) (h0 : 0 ≤ L) (hn : 1 ≤ n ∧ n ≤ 8) (hLn : L + n ≤ 600) : AMet mX8_addBytes g [vA 26, vL v, vI n] (fun _ g' => sameB xA g g' ∧ g'.2.1 26 1 = L + n ∧ ∀ k : Nat, g'.2.1 27 k = if L ≤ k ∧ (k : Int) < L + n then sg (byt v (n - 1 - (k - L))) else g.2.1 27 k) := by
  refine AMet.of [vA 26, vL v, none, vI n, none] (by decide) rfl (Nat.le_of_ble_eq_true rfl) ?_
  refine a_iload_n 1 dX8_addBytes_0 rfl rfl ?_
  refine a_iconst (z := 1) 2 dX8_addBytes_1 rfl (zrl rfl) rfl ?_
  refine a_isub 3 dX8_addBytes_2 (by unfold zr; omega) rfl ?_
  refine a_istore 5 dX8_addBytes_3 (by decide) rfl rfl ?_
  refine AW.loop (α := GH × Int) (fun p => (p.2 + 1).toNat) (fun p => sameB xA g p.1 ∧ p.1.2.1 26 1 = L + (n - 1 - p.2) ∧ (-1 ≤ p.2 ∧ p.2 ≤ n - 1) ∧ ∀ k : Nat, p.1.2.1 27 k = if L ≤ k ∧ (k : Int) < L + (n - 1 - p.2) then sg (byt v (n - 1 - (k - L))) else g.2.1 27 k) (fun p => p.1) (fun p => [vA 26, vL v, none, vI n, vI p.2]) (fun p => []) ?_ (g, n - 1) ?_
  · rintro ⟨g2, b⟩ ⟨h2, h2l, hj, hk⟩ ih5
    try dsimp only at hI ih ⊢
    try dsimp only at h2 h2l hj hk ih5 ⊢
    obtain ⟨j, rfl⟩ : ∃ j : Int, b = n - 1 - j := ⟨n - 1 - b, by omega⟩
    rw [show n - 1 - (n - 1 - j) = j by omega] at h2l hk
    refine a_iload 7 dX8_addBytes_5 rfl rfl ?_
    refine a_if_lt 51 10 dX8_addBytes_7 (by decide) rfl (fun c7 => ?_) (fun c7 => ?_)
    · skip
      refine a_return dX8_addBytes_51 rfl ⟨Nat.zero_le _, Nat.zero_le _⟩ ?_
      have e : j = n := by omega
      subst e
      exact ⟨h2, h2l, hk⟩
    · skip
      have hb8 : 0 ≤ n - 1 - j ∧ n - 1 - j ≤ 7 := by omega
      refine a_aload_n 11 dX8_addBytes_10 rfl rfl ?_
      refine a_getIz (L + j) 14 dX8_addBytes_11 fX8_15 (h2.sh hs.1) rfl h2l rfl ?_
      refine a_sipush (z := 600) 17 dX8_addBytes_14 rfl (zrl rfl) rfl ?_
      refine a_icmp_ge 51 20 dX8_addBytes_17 (by decide) rfl (fun c17 => ?_) (fun c17 => ?_)
      · skip
        refine a_return dX8_addBytes_51 rfl ⟨Nat.zero_le _, Nat.zero_le _⟩ ?_
        exfalso; omega
      · skip
        refine a_aload_n 21 dX8_addBytes_20 rfl rfl ?_
        refine a_getR 24 dX8_addBytes_21 fX8_9 (h2.sh hs.1) rfl (h2.rr hs.2.1) rfl ?_
        refine a_aload_n 25 dX8_addBytes_24 rfl rfl ?_
        refine a_dup 26 dX8_addBytes_25 (by intro w h; cases h) rfl ?_
        refine a_getIz (L + j) 29 dX8_addBytes_26 fX8_15 (h2.sh hs.1) rfl h2l rfl ?_
        refine a_dup_x1 30 dX8_addBytes_29 (by intro w h; cases h) (by intro w h; cases h) rfl ?_
        refine a_iconst (z := 1) 31 dX8_addBytes_30 rfl (zrl rfl) rfl ?_
        refine a_iadd 32 dX8_addBytes_31 (by unfold zr; omega) rfl ?_
        refine a_putI 35 dX8_addBytes_32 fX8_15 (Or.inl rfl) (h2.sh hs.1) (Or.inl rfl) rfl ?_
        refine a_lload_n 36 dX8_addBytes_35 rfl rfl ?_
        refine a_bipush (z := 8) 38 dX8_addBytes_36 rfl (zrl rfl) rfl ?_
        refine a_iload 40 dX8_addBytes_38 rfl rfl ?_
        refine a_imul 41 dX8_addBytes_40 (by unfold zr; omega) rfl ?_
        refine a_lushr 42 dX8_addBytes_41 rfl rfl ?_
        refine a_l2i 43 dX8_addBytes_42 rfl ?_
        refine a_i2b (sg (byt v (n - 1 - j))) 44 dX8_addBytes_43 (bv_ok hb8.1 hb8.2) rfl ?_
        refine a_bast 45 dX8_addBytes_44 (h2.sh hs.2.2) (by omega) (by omega) (sg_nb (byt_b hb8.1 hb8.2)) rfl ?_
        refine a_iinc 48 dX8_addBytes_45 rfl (by unfold zr; omega) (by decide) rfl rfl ?_
        refine a_goto 5 dX8_addBytes_48 (by decide) ?_
        rw [show n - 1 - j + -1 = n - 1 - (j + 1) by omega]
        refine ih5 (_, n - 1 - (j + 1)) ⟨(h2.wr (Or.inl ⟨rfl, rfl⟩)).wr (Or.inr rfl), (gI_n (Or.inl (by decide))).trans (gI_s.trans (by dsimp only; omega)), by dsimp only; omega, fun k => ?_⟩ (by dsimp only; omega)
        dsimp only
        by_cases e : k = (L + j).toNat
        · subst e
          rw [if_pos (by omega), show n - 1 - (((L + j).toNat : Nat) - L : Int) = n - 1 - j by omega]
          exact gI_s
        · refine (gI_n (Or.inr e)).trans ((gI_n (Or.inl (by decide))).trans ((hk k).trans ?_))
          by_cases y : L ≤ k ∧ (k : Int) < L + j
          · rw [if_pos y, if_pos (by omega)]
          · rw [if_neg y, if_neg (by omega)]
  · exact ⟨sameB.rf, by dsimp only; omega, by dsimp only; omega, fun k => by dsimp only; rw [if_neg (by omega)]⟩
set_option maxHeartbeats 4000000 in
set_option maxRecDepth 100000 in
theorem c11_isDate (g : GH) (d : Int)  : AMet mX11_isDate g [vI d] (pB g ((0 ≤ d ∧ d ≤ 16777215) ∧ ∀ i : Int, 0 ≤ i → i ≤ 2 → isF (bOf d i))) := by
  refine AMet.of [vI d, none, none] (by decide) rfl (Nat.le_of_ble_eq_true rfl) ?_
  refine a_iload_n 1 dX11_isDate_0 rfl rfl ?_
  refine a_iconst (z := 0) 2 dX11_isDate_1 rfl (zrl rfl) rfl ?_
  refine a_ldcw 5 dX11_isDate_2 kX11_284 (zrl rfl) rfl ?_
  refine a_callS 8 (c11_within _ _ _ _) cdX11_within lX11_79 dX11_isDate_5 rfl rfl ⟨by decide, by decide, rfl, rfl⟩ ⟨Nat.zero_le _, Nat.zero_le _⟩ (Nat.le_of_ble_eq_true rfl) rfl ?_
  rintro _ _ - ⟨b5, rfl, rfl, h5⟩ -
  refine a_if_ne 13 11 dX11_isDate_8 (by decide) rfl (fun c8 => ?_) (fun c8 => ?_)
  · skip
    have hd := isT h5 c8
    refine a_iconst (z := 0) 14 dX11_isDate_13 rfl (zrl rfl) rfl ?_
    refine a_istore_n 15 dX11_isDate_14 (by decide) rfl rfl ?_
    refine AW.loop (α := Int) (fun p => (3 - p).toNat) (fun p => (0 ≤ p ∧ p ≤ 3) ∧ ∀ x : Int, 0 ≤ x → x < p → isF (bOf d x)) (fun p => g) (fun p => [vI d, vI p, none]) (fun p => []) ?_ 0 ?_
    · rintro i ⟨hi, hI⟩ ih15
      try dsimp only at hI ih ⊢
      try dsimp only at hi hI ih15 ⊢
      refine a_iload_n 16 dX11_isDate_15 rfl rfl ?_
      refine a_iconst (z := 3) 17 dX11_isDate_16 rfl (zrl rfl) rfl ?_
      refine a_icmp_ge 51 20 dX11_isDate_17 (by decide) rfl (fun c17 => ?_) (fun c17 => ?_)
      · skip
        refine a_iconst (z := 1) 52 dX11_isDate_51 rfl (zrl rfl) rfl ?_
        refine a_breturn dX11_isDate_52 rfl (by omega) ⟨Nat.zero_le _, Nat.zero_le _⟩ ?_
        exact ⟨_, rfl, rfl, Or.inl ⟨rfl, hd, fun x a b => hI x a (by omega)⟩⟩
      · skip
        refine a_iload_n 21 dX11_isDate_20 rfl rfl ?_
        refine a_iload_n 22 dX11_isDate_21 rfl rfl ?_
        refine a_callS 25 (c11_byteOf _ _ _ hd.1 (by omega)) cdX11_byteOf lX11_285 dX11_isDate_22 rfl rfl ⟨by decide, by decide, rfl, rfl⟩ ⟨Nat.zero_le _, Nat.zero_le _⟩ (Nat.le_of_ble_eq_true rfl) rfl ?_
        rintro _ _ - ⟨rfl, rfl⟩ -
        refine a_istore_n 26 dX11_isDate_25 (by decide) rfl rfl ?_
        have hbb : 0 ≤ bOf d i ∧ bOf d i ≤ 255 := by unfold bOf; omega
        refine a_iload_n 27 dX11_isDate_26 rfl rfl ?_
        refine a_bipush (z := 63) 29 dX11_isDate_27 rfl (zrl rfl) rfl ?_
        refine a_icmp_eq 45 32 dX11_isDate_29 (by decide) rfl (fun c29 => ?_) (fun c29 => ?_)
        · skip
          refine a_iinc 48 dX11_isDate_45 rfl (by unfold zr; omega) (by decide) rfl rfl ?_
          refine a_goto 15 dX11_isDate_48 (by decide) ?_
          refine AW.kill 2 ?_
          refine ih15 (i + 1) ⟨by omega, fun x a b => ?_⟩ (by omega)
          by_cases e : x = i
          · rw [e]; exact Or.inl c29
          · exact hI x a (by omega)
        · skip
          refine a_iload_n 33 dX11_isDate_32 rfl rfl ?_
          refine a_bipush (z := 48) 35 dX11_isDate_33 rfl (zrl rfl) rfl ?_
          refine a_bipush (z := 57) 37 dX11_isDate_35 rfl (zrl rfl) rfl ?_
          refine a_callS 40 (c11_within _ _ _ _) cdX11_within lX11_79 dX11_isDate_37 rfl rfl ⟨by decide, by decide, rfl, rfl⟩ ⟨Nat.zero_le _, Nat.zero_le _⟩ (Nat.le_of_ble_eq_true rfl) rfl ?_
          rintro _ _ - ⟨b37, rfl, rfl, h37⟩ -
          refine a_if_ne 45 43 dX11_isDate_40 (by decide) rfl (fun c40 => ?_) (fun c40 => ?_)
          · skip
            refine a_iinc 48 dX11_isDate_45 rfl (by unfold zr; omega) (by decide) rfl rfl ?_
            refine a_goto 15 dX11_isDate_48 (by decide) ?_
            refine AW.kill 2 ?_
            refine ih15 (i + 1) ⟨by omega, fun x a b => ?_⟩ (by omega)
            by_cases e : x = i
            · rw [e]; exact Or.inr (isT h37 c40)
            · exact hI x a (by omega)
          · skip
            refine a_iconst (z := 0) 44 dX11_isDate_43 rfl (zrl rfl) rfl ?_
            refine a_breturn dX11_isDate_44 rfl (by omega) ⟨Nat.zero_le _, Nat.zero_le _⟩ ?_
            exact ⟨_, rfl, rfl, Or.inr ⟨rfl, fun z => by rcases z.2 i (by omega) (by omega) with y | y; exact c29 y; exact isN h37 (by omega) y⟩⟩
    · exact ⟨by omega, fun x a b => by omega⟩
  · skip
    refine a_iconst (z := 0) 12 dX11_isDate_11 rfl (zrl rfl) rfl ?_
    refine a_breturn dX11_isDate_12 rfl (by omega) ⟨Nat.zero_le _, Nat.zero_le _⟩ ?_
    exact ⟨_, rfl, rfl, Or.inr ⟨rfl, fun z => isN h5 (by omega) z.1⟩⟩
set_option maxHeartbeats 4000000 in
set_option maxRecDepth 100000 in
theorem c10_addSailing (g : GH) (f t l c : Int) {n : Int} (hw : CWs g) (hn : g.2.1 8 7 = n) (h20 : 0 ≤ n ∧ n < 20) : AMet mX10_addSailing g [vA 8, vI f, vI t, vI l, vI c] (fun r g' => r = vI n ∧ g' = gI (gI (gI (gI (gI g 9 n.toNat f) 10 n.toNat t) 11 n.toNat l) 12 n.toNat c) 8 7 (n + 1)) := by
  refine AMet.of [vA 8, vI f, vI t, vI l, vI c] (by decide) rfl (Nat.le_of_ble_eq_true rfl) ?_
  refine a_aload_n 1 dX10_addSailing_0 rfl rfl ?_
  refine a_getR 4 dX10_addSailing_1 fX10_9 hw.1 rfl hw.2.1.1 rfl ?_
  refine a_aload_n 5 dX10_addSailing_4 rfl rfl ?_
  refine a_getIz (n) 8 dX10_addSailing_5 fX10_35 hw.1 rfl hn rfl ?_
  refine a_iload_n 9 dX10_addSailing_8 rfl rfl ?_
  refine a_iast 10 dX10_addSailing_9 hw.2.2.1.1 (by omega) (by omega) rfl ?_
  refine a_aload_n 11 dX10_addSailing_10 rfl rfl ?_
  refine a_getR 14 dX10_addSailing_11 fX10_15 hw.1 rfl hw.2.1.2.1 rfl ?_
  refine a_aload_n 15 dX10_addSailing_14 rfl rfl ?_
  refine a_getIz (n) 18 dX10_addSailing_15 fX10_35 hw.1 rfl ((gI_n (Or.inl (by decide))).trans hn) rfl ?_
  refine a_iload_n 19 dX10_addSailing_18 rfl rfl ?_
  refine a_iast 20 dX10_addSailing_19 hw.2.2.1.2.1 (by omega) (by omega) rfl ?_
  refine a_aload_n 21 dX10_addSailing_20 rfl rfl ?_
  refine a_getR 24 dX10_addSailing_21 fX10_18 hw.1 rfl hw.2.1.2.2.1 rfl ?_
  refine a_aload_n 25 dX10_addSailing_24 rfl rfl ?_
  refine a_getIz (n) 28 dX10_addSailing_25 fX10_35 hw.1 rfl ((gI_n (Or.inl (by decide))).trans ((gI_n (Or.inl (by decide))).trans hn)) rfl ?_
  refine a_iload_n 29 dX10_addSailing_28 rfl rfl ?_
  refine a_iast 30 dX10_addSailing_29 hw.2.2.1.2.2.1 (by omega) (by omega) rfl ?_
  refine a_aload_n 31 dX10_addSailing_30 rfl rfl ?_
  refine a_getR 34 dX10_addSailing_31 fX10_21 hw.1 rfl hw.2.1.2.2.2.1 rfl ?_
  refine a_aload_n 35 dX10_addSailing_34 rfl rfl ?_
  refine a_getIz (n) 38 dX10_addSailing_35 fX10_35 hw.1 rfl ((gI_n (Or.inl (by decide))).trans ((gI_n (Or.inl (by decide))).trans ((gI_n (Or.inl (by decide))).trans hn))) rfl ?_
  refine a_iload 40 dX10_addSailing_38 rfl rfl ?_
  refine a_iast 41 dX10_addSailing_40 hw.2.2.1.2.2.2.1 (by omega) (by omega) rfl ?_
  refine a_aload_n 42 dX10_addSailing_41 rfl rfl ?_
  refine a_dup 43 dX10_addSailing_42 (by intro w h; cases h) rfl ?_
  refine a_getIz (n) 46 dX10_addSailing_43 fX10_35 hw.1 rfl ((gI_n (Or.inl (by decide))).trans ((gI_n (Or.inl (by decide))).trans ((gI_n (Or.inl (by decide))).trans ((gI_n (Or.inl (by decide))).trans hn)))) rfl ?_
  refine a_dup_x1 47 dX10_addSailing_46 (by intro w h; cases h) (by intro w h; cases h) rfl ?_
  refine a_iconst (z := 1) 48 dX10_addSailing_47 rfl (zrl rfl) rfl ?_
  refine a_iadd 49 dX10_addSailing_48 (by unfold zr; omega) rfl ?_
  refine a_putI 52 dX10_addSailing_49 fX10_35 (Or.inl rfl) hw.1 (Or.inl rfl) rfl ?_
  refine a_ireturn dX10_addSailing_52 rfl ⟨Nat.zero_le _, Nat.zero_le _⟩ ?_
  exact ⟨rfl, rfl⟩
set_option maxHeartbeats 4000000 in
set_option maxRecDepth 100000 in
theorem c10_lostSailings (g : GH) (hw : CWs g) (h20 : 0 ≤ g.2.1 8 7 ∧ g.2.1 8 7 ≤ 20) : AMet mX10_lostSailings g [vA 8] (pZ g (cnt (fun s => g.2.1 12 s.toNat = -9) (g.2.1 8 7).toNat)) := by
  refine AMet.of [vA 8, none, none] (by decide) rfl (Nat.le_of_ble_eq_true rfl) ?_
  refine a_iconst (z := 0) 1 dX10_lostSailings_0 rfl (zrl rfl) rfl ?_
  refine a_istore_n 2 dX10_lostSailings_1 (by decide) rfl rfl ?_
  refine a_iconst (z := 0) 3 dX10_lostSailings_2 rfl (zrl rfl) rfl ?_
  refine a_istore_n 4 dX10_lostSailings_3 (by decide) rfl rfl ?_
  refine AW.loop (α := Nat) (fun p => (g.2.1 8 7).toNat - p) (fun p => (p : Int) ≤ g.2.1 8 7) (fun p => g) (fun p => [vA 8, vI (cnt (fun s => g.2.1 12 s.toNat = -9) p), vI (p : Int)]) (fun p => []) ?_ 0 ?_
  · rintro i hi ih4
    try dsimp only at hI ih ⊢
    try dsimp only at hi ih4 ⊢
    have hcl := cnt_le (fun s => g.2.1 12 s.toNat = -9) i
    refine a_iload_n 5 dX10_lostSailings_4 rfl rfl ?_
    refine a_aload_n 6 dX10_lostSailings_5 rfl rfl ?_
    refine a_getI 9 dX10_lostSailings_6 fX10_35 hw.1 rfl rfl ?_
    refine a_icmp_ge 37 12 dX10_lostSailings_9 (by decide) rfl (fun c9 => ?_) (fun c9 => ?_)
    · skip
      refine a_iload_n 38 dX10_lostSailings_37 rfl rfl ?_
      refine a_ireturn dX10_lostSailings_38 rfl ⟨Nat.zero_le _, Nat.zero_le _⟩ ?_
      have e : i = (g.2.1 8 7).toNat := by omega
      subst e
      exact ⟨rfl, rfl⟩
    · skip
      refine a_iload_n 13 dX10_lostSailings_12 rfl rfl ?_
      refine AW.cut (J := 29) (P := fun z => z = ci (g.2.1 12 i = -9)) ?_ (fun J29 => ?_)
      · intro z29 h29
        subst h29
        have hci := ci_01 (g.2.1 12 i = -9)
        refine a_iadd 30 dX10_lostSailings_29 (by unfold zr; omega) rfl ?_
        refine a_istore_n 31 dX10_lostSailings_30 (by decide) rfl rfl ?_
        refine a_iinc 34 dX10_lostSailings_31 rfl (by unfold zr; omega) (by decide) rfl rfl ?_
        refine a_goto 4 dX10_lostSailings_34 (by decide) ?_
        have e9 : cnt (fun s => g.2.1 12 s.toNat = -9) i + ci (g.2.1 12 i = -9) = cnt (fun s => g.2.1 12 s.toNat = -9) (i + 1) := rfl
        rw [e9]
        refine ih4 (i + 1) (by (try dsimp only); omega) (by (try dsimp only); omega)
      · skip
        refine a_aload_n 14 dX10_lostSailings_13 rfl rfl ?_
        refine a_getR 17 dX10_lostSailings_14 fX10_21 hw.1 rfl hw.2.1.2.2.2.1 rfl ?_
        refine a_iload_n 18 dX10_lostSailings_17 rfl rfl ?_
        refine a_iald 19 dX10_lostSailings_18 hw.2.2.1.2.2.2.1 (by omega) (by omega) rfl ?_
        refine a_bipush (z := (-9)) 21 dX10_lostSailings_19 rfl (zrl rfl) rfl ?_
        refine a_icmp_ne 28 24 dX10_lostSailings_21 (by decide) rfl (fun c21 => ?_) (fun c21 => ?_)
        · skip
          refine a_iconst (z := 0) 29 dX10_lostSailings_28 rfl (zrl rfl) rfl ?_
          exact J29 _ (by first | (rw [ci_t (by simpa using c21)]) | (rw [ci_f (by simpa using c21)]))
        · skip
          refine a_iconst (z := 1) 25 dX10_lostSailings_24 rfl (zrl rfl) rfl ?_
          refine a_goto 29 dX10_lostSailings_25 (by decide) ?_
          exact J29 _ (by first | (rw [ci_t (by simpa using c21)]) | (rw [ci_f (by simpa using c21)]))
  · (try dsimp only); omega
