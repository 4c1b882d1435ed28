theorem nI_andn (a b : Nat) (hb : b < 2147483648) : nI a &&& Int32.ofInt (-1 - (b : Int)) = nI (a ^^^ (a &&& b)) := by
  have h1 : Int32.ofInt (-1 - (b : Int)) = ~~~ (nI b) := by
    have := (v_not (x := (b : Int)) ⟨by omega, by omega⟩ ⟨by decide, by decide⟩).1
    rw [← this, show Int32.ofInt (-1) = -1 from rfl, Int32.xor_neg_one, zN]
  rw [h1]
  apply Int32.toBitVec.inj
  show BitVec.ofNat 32 a &&& ~~~ (BitVec.ofNat 32 b) = BitVec.ofNat 32 (a ^^^ (a &&& b))
  apply BitVec.eq_of_getLsbD_eq
  intro i hi
  simp only [BitVec.getLsbD_and, BitVec.getLsbD_not, BitVec.getLsbD_ofNat, hi, Nat.testBit_xor, Nat.testBit_and, decide_true, Bool.true_and]
  cases a.testBit i <;> cases b.testBit i <;> rfl
theorem v_andn {x y : Nat} (hx : x < 256) (hy : y < 256) : zr (x : Int) → zr (-1 - (y : Int)) → (Int32.ofInt (x : Int) &&& Int32.ofInt (-1 - (y : Int))) = Int32.ofInt ((x ^^^ (x &&& y) : Nat) : Int) ∧ zr ((x ^^^ (x &&& y) : Nat) : Int) := by
  intro _ _
  have h1 : x &&& y < 2 ^ 8 := Nat.and_lt_two_pow x hy
  have := Nat.xor_lt_two_pow (n := 8) hx h1
  exact ⟨by rw [zN, zN, nI_andn x y (by omega)], ⟨by omega, by omega⟩⟩
theorem bt_andn {x y i : Nat} : bt (x ^^^ (x &&& y)) i ↔ bt x i ∧ ¬ bt y i := by
  unfold bt
  rw [Nat.testBit_xor, Nat.testBit_and]
  cases x.testBit i <;> cases y.testBit i <;> simp
theorem k_bc1 : ∀ a, a < 256 → ∀ n, n < 8 → a.testBit n = false → bcN (a ||| 2 ^ n) 8 = bcN a 8 + 1 := by decide +kernel
theorem k_bc8 : ∀ a, a < 256 → bcN a 8 = 8 → a = 255 := by decide +kernel
set_option maxHeartbeats 4000000 in
set_option maxRecDepth 100000 in
theorem c0_lowestOf (g : GH) (z : Int) {s : Nat} (hz : z = s) (h8 : s < 256) : AMet mX0_lowestOf g [vI z] (fun r g' => ∃ x : Nat, r = vI (x : Int) ∧ g = g' ∧ x < 8 ∧ (bt s x ∨ ∀ y, y < 8 → ¬ bt s y)) := by
  refine AMet.of [vI z, none] (by decide) rfl (Nat.le_of_ble_eq_true rfl) ?_
  subst hz
  refine a_iconst (z := 0) 1 dX0_lowestOf_0 rfl (zrl rfl) rfl ?_
  refine a_istore_n 2 dX0_lowestOf_1 (by decide) rfl rfl ?_
  refine AW.loop (α := Nat) (fun p => 8 - p) (fun p => p ≤ 8 ∧ ∀ y, y < p → ¬ bt s y) (fun p => g) (fun p => [vI (s : Int), vI (p : Int)]) (fun p => []) ?_ 0 ?_
  · intro k hk ih2
    try dsimp only at hI ih ⊢
    refine a_iload_n 3 dX0_lowestOf_2 rfl rfl ?_
    refine a_bipush (z := 8) 5 dX0_lowestOf_3 rfl (zrl rfl) rfl ?_
    refine a_icmp_ge 25 8 dX0_lowestOf_5 (by decide) rfl (fun c5 => ?_) (fun c5 => ?_)
    · skip
      refine a_iconst (z := 0) 26 dX0_lowestOf_25 rfl (zrl rfl) rfl ?_
      refine a_ireturn dX0_lowestOf_26 rfl ⟨Nat.zero_le _, Nat.zero_le _⟩ ?_
      exact ⟨0, rfl, rfl, by decide, Or.inr (fun y hy => hk.2 y (by omega))⟩
    · skip
      refine a_iload_n 9 dX0_lowestOf_8 rfl rfl ?_
      refine a_iload_n 10 dX0_lowestOf_9 rfl rfl ?_
      refine a_ishr _ 11 dX0_lowestOf_10 (v_shr (by omega) (by omega) (by omega)) rfl ?_
      refine a_iconst (z := 1) 12 dX0_lowestOf_11 rfl (zrl rfl) rfl ?_
      refine a_iand _ 13 dX0_lowestOf_12 v_and1 rfl ?_
      refine a_iconst (z := 1) 14 dX0_lowestOf_13 rfl (zrl rfl) rfl ?_
      refine a_icmp_ne 19 17 dX0_lowestOf_14 (by decide) rfl (fun c14 => ?_) (fun c14 => ?_)
      · skip
        refine a_iinc 22 dX0_lowestOf_19 rfl (by unfold zr; omega) (by decide) rfl rfl ?_
        refine a_goto 2 dX0_lowestOf_22 (by decide) ?_
        refine ih2 (k + 1) ⟨by omega, fun y hy z => ?_⟩ (by omega)
        by_cases e : y = k
        · subst e; exact c14 (bt_z.mpr z)
        · exact hk.2 y (by omega) z
      · skip
        refine a_iload_n 18 dX0_lowestOf_17 rfl rfl ?_
        refine a_ireturn dX0_lowestOf_18 rfl ⟨Nat.zero_le _, Nat.zero_le _⟩ ?_
        exact ⟨k, rfl, rfl, by omega, Or.inl (bt_z.mp c14)⟩
  · exact ⟨Nat.zero_le _, fun y h => absurd h (Nat.not_lt_zero _)⟩
set_option maxHeartbeats 4000000 in
set_option maxRecDepth 100000 in
theorem c0_heapOf (g : GH) (c D : Int) (hC : CMk g) (hn : 0 ≤ g.2.1 1000 13 ∧ g.2.1 1000 13 ≤ 40) (hc : 0 ≤ c ∧ c ≤ 7) : AMet mX0_heapOf g [vA 5, vI c, vI D] (fun r g' => ∃ z : Nat, r = vI (z : Int) ∧ g = g' ∧ isHp g.2.1 D c z) := by
  refine AMet.of [vA 5, vI c, vI D, none, none, none, none, none] (by decide) rfl (Nat.le_of_ble_eq_true rfl) ?_
  obtain ⟨c, rfl⟩ : ∃ k : Nat, c = k := ⟨c.toNat, by omega⟩
  have hp2 := p2_le (x := c) (n := 8) (by omega)
  have hp2i : ((2 : Int) ^ c) < 256 := by exact_mod_cast hp2
  refine a_iconst (z := 1) 1 dX0_heapOf_0 rfl (zrl rfl) rfl ?_
  refine a_iload_n 2 dX0_heapOf_1 rfl rfl ?_
  refine a_ishl _ 3 dX0_heapOf_2 (v_shl (by omega) (by omega) (by omega) (by rw [Int.toNat_natCast]; omega)) rfl ?_
  refine a_istore_n 4 dX0_heapOf_3 (by decide) rfl rfl ?_
  rw [show (1 : Int) * 2 ^ ((c : Int)).toNat = ((2 ^ c : Nat) : Int) by rw [Int.toNat_natCast]; norm_cast; omega]
  have hI0 : hpI g.2.1 D (c : Int) 0 (2 ^ c) (fun _ _ => True) := by
    refine ⟨⟨by decide, hp2⟩, by rw [Int.toNat_natCast]; exact bt_1.mpr rfl, fun x hx => absurd hx bt_0, fun x h8 hx => ?_, fun a b h1 h2 h3 h4 => absurd h4 bt_0⟩
    have := bt_1.mp hx; subst this
    exact fun S h1 _ => by rw [Int.toNat_natCast] at h1; exact h1
  refine a_iconst (z := 0) 5 dX0_heapOf_4 rfl (zrl rfl) rfl ?_
  refine a_istore 7 dX0_heapOf_5 (by decide) rfl rfl ?_
  refine a_iconst (z := 0) 8 dX0_heapOf_7 rfl (zrl rfl) rfl ?_
  refine a_istore 10 dX0_heapOf_8 (by decide) rfl rfl ?_
  refine AW.loop (α := Nat × Nat × Nat) (fun p => 8 - p.1) (fun p => hpI g.2.1 D (c : Int) p.2.1 p.2.2 (fun _ _ => True) ∧ p.1 ≤ 8 ∧ bcN p.2.1 8 = p.1) (fun p => g) (fun p => [vA 5, vI (c : Int), vI D, vI (p.2.2 : Int), vI (p.2.1 : Int), vI (p.1 : Int), none, none]) (fun p => []) ?_ (0, 0, 2 ^ c) ?_
  · rintro ⟨r, a, t⟩ ⟨hI, hr8, hbc⟩ ih10
    try dsimp only at hI ih ⊢
    try dsimp only at hI hr8 hbc ih10 ⊢
    refine a_iload 12 dX0_heapOf_10 rfl rfl ?_
    refine a_bipush (z := 8) 14 dX0_heapOf_12 rfl (zrl rfl) rfl ?_
    refine a_icmp_ge 93 17 dX0_heapOf_14 (by decide) rfl (fun c14 => ?_) (fun c14 => ?_)
    · skip
      refine a_iload_n 94 dX0_heapOf_93 rfl rfl ?_
      refine a_ireturn dX0_heapOf_94 rfl ⟨Nat.zero_le _, Nat.zero_le _⟩ ?_
      refine ⟨t, rfl, rfl, hI.end ?_⟩
      first
      | omega
      | (have e8 : r = 8 := by omega
         rw [e8] at hbc
         have e9 := k_bc8 a hI.1.1 hbc
         have := bt_le hI.2.2.1
         have := hI.1.2
         omega)
    · skip
      refine a_iload 19 dX0_heapOf_17 rfl rfl ?_
      refine a_iload_n 20 dX0_heapOf_19 rfl rfl ?_
      refine a_icmp_eq 93 23 dX0_heapOf_20 (by decide) rfl (fun c20 => ?_) (fun c20 => ?_)
      · skip
        refine a_iload_n 94 dX0_heapOf_93 rfl rfl ?_
        refine a_ireturn dX0_heapOf_94 rfl ⟨Nat.zero_le _, Nat.zero_le _⟩ ?_
        refine ⟨t, rfl, rfl, hI.end ?_⟩
        first
        | omega
        | (have e8 : r = 8 := by omega
           rw [e8] at hbc
           have e9 := k_bc8 a hI.1.1 hbc
           have := bt_le hI.2.2.1
           have := hI.1.2
           omega)
      · skip
        refine a_iload_n 24 dX0_heapOf_23 rfl rfl ?_
        refine a_iload 26 dX0_heapOf_24 rfl rfl ?_
        refine a_iconst (z := (-1)) 27 dX0_heapOf_26 rfl (zrl rfl) rfl ?_
        refine a_ixor _ 28 dX0_heapOf_27 v_not rfl ?_
        refine a_iand _ 29 dX0_heapOf_28 (v_andn hI.1.2 hI.1.1) rfl ?_
        refine a_callS 32 (c0_lowestOf _ _ rfl (Nat.xor_lt_two_pow (n := 8) hI.1.2 (Nat.and_lt_two_pow _ hI.1.1))) cdX0_lowestOf lX0_46 dX0_heapOf_29 rfl rfl ⟨by decide, by decide, rfl, rfl⟩ ⟨Nat.zero_le _, Nat.zero_le _⟩ (Nat.le_of_ble_eq_true rfl) rfl ?_
        rintro _ _ - ⟨n, rfl, rfl, hn8, hnb⟩ -
        have hnn : bt t n ∧ ¬ bt a n := by
          rcases hnb with z | z
          · exact bt_andn.mp z
          · exact absurd (bt_ext (n := 8) hI.1.1 hI.1.2 (fun x hx => ⟨fun y => hI.2.2.1 x y, fun y => Classical.byContradiction (fun w => z x hx (bt_andn.mpr ⟨y, w⟩))⟩)) (by omega)
        have hpn := p2_le (x := n) (n := 8) hn8
        have hpni : ((2 : Int) ^ ((n : Int)).toNat) < 256 := by rw [Int.toNat_natCast]; exact_mod_cast hpn
        have hpnp : 0 < ((2 : Int) ^ ((n : Int)).toNat) := Int.pow_pos (by decide)
        refine a_istore 34 dX0_heapOf_32 (by decide) rfl rfl ?_
        refine a_iload 36 dX0_heapOf_34 rfl rfl ?_
        refine a_iconst (z := 1) 37 dX0_heapOf_36 rfl (zrl rfl) rfl ?_
        refine a_iload 39 dX0_heapOf_37 rfl rfl ?_
        refine a_ishl _ 40 dX0_heapOf_39 (v_shl (by omega) (by omega) (by omega) (by omega)) rfl ?_
        refine a_ior _ 41 dX0_heapOf_40 (v_or (by omega) (by omega)) rfl ?_
        refine a_istore 43 dX0_heapOf_41 (by decide) rfl rfl ?_
        rw [show ((((a : Int).toNat ||| ((1 : Int) * 2 ^ ((n : Int)).toNat).toNat : Nat)) : Int) = (((a ||| 2 ^ n) : Nat) : Int) by rw [Int.toNat_natCast, Int.toNat_natCast, Int.one_mul]; norm_cast]
        have hA : (a ||| 2 ^ n) < 256 := Nat.or_lt_two_pow (n := 8) hI.1.1 hpn
        have hJ0 : hpI g.2.1 D (c : Int) (a ||| 2 ^ n) t (fun x y => x ≠ n ∨ y < 0) := by
          refine ⟨⟨hA, hI.1.2⟩, hI.2.1, fun x hx => ?_, hI.2.2.2.1, fun x y h1 h2 h3 h4 h5 => ?_⟩
          · rcases bt_or.mp hx with z | z
            · exact hI.2.2.1 x z
            · rw [← bt_1.mp z]; exact hnn.1
          · rcases bt_or.mp h4 with z | z
            · exact hI.2.2.2.2 x y h1 h2 trivial z h5
            · have := bt_1.mp z; omega
        refine a_iconst (z := 0) 44 dX0_heapOf_43 rfl (zrl rfl) rfl ?_
        refine a_istore 46 dX0_heapOf_44 (by decide) rfl rfl ?_
        refine AW.loop (α := Nat × Nat) (fun p => 8 - p.2) (fun p => p.2 ≤ 8 ∧ hpI g.2.1 D (c : Int) (a ||| 2 ^ n) p.1 (fun x y => x ≠ n ∨ y < p.2)) (fun p => g) (fun p => [vA 5, vI (c : Int), vI D, vI (p.1 : Int), vI (((a ||| 2 ^ n) : Nat) : Int), vI (r : Int), vI (n : Int), vI (p.2 : Int)]) (fun p => []) ?_ (t, 0) ?_
        · rintro ⟨u, b⟩ ⟨hb8, hK⟩ ih46
          try dsimp only at hI ih ⊢
          try dsimp only at hb8 hK ih46 ⊢
          have hu := hK.1.2
          refine a_iload 48 dX0_heapOf_46 rfl rfl ?_
          refine a_bipush (z := 8) 50 dX0_heapOf_48 rfl (zrl rfl) rfl ?_
          refine a_icmp_ge 87 53 dX0_heapOf_50 (by decide) rfl (fun c50 => ?_) (fun c50 => ?_)
          · skip
            refine a_iinc 90 dX0_heapOf_87 rfl (by unfold zr; omega) (by decide) rfl rfl ?_
            refine a_goto 10 dX0_heapOf_90 (by decide) ?_
            refine AW.kill 6 (AW.kill 7 ?_)
            refine ih10 (r + 1, (a ||| 2 ^ n), u) ⟨hK.mono (fun x y h1 h2 _ => by omega), by dsimp only; omega, ?_⟩ (by dsimp only; omega)
            have e9 := k_bc1 a hI.1.1 n hn8 (by have := hnn.2; unfold bt at this; rw [Bool.not_eq_true] at this; exact this)
            dsimp only; rw [e9, hbc]
          · skip
            refine a_iload_n 54 dX0_heapOf_53 rfl rfl ?_
            refine a_iload 56 dX0_heapOf_54 rfl rfl ?_
            refine a_ishr _ 57 dX0_heapOf_56 (v_shr (by omega) (by omega) (by omega)) rfl ?_
            refine a_iconst (z := 1) 58 dX0_heapOf_57 rfl (zrl rfl) rfl ?_
            refine a_iand _ 59 dX0_heapOf_58 v_and1 rfl ?_
            refine a_if_ne 81 62 dX0_heapOf_59 (by decide) rfl (fun c59 => ?_) (fun c59 => ?_)
            · skip
              refine a_iinc 84 dX0_heapOf_81 rfl (by unfold zr; omega) (by decide) rfl rfl ?_
              refine a_goto 46 dX0_heapOf_84 (by decide) ?_
              have hq := hK.no (a := n) (b := b) (fun q => by
                first
                | exact c59 (bt_z0.mpr q.2.1)
                | exact isN h68 c71 q.2.2)
              exact ih46 (u, b + 1) ⟨by dsimp only; omega, hq.mono (fun x y h1 h2 h3 => by dsimp only at h3; omega)⟩ (by dsimp only; omega)
            · skip
              refine a_aload_n 63 dX0_heapOf_62 rfl rfl ?_
              refine a_iload 65 dX0_heapOf_63 rfl rfl ?_
              refine a_iload 67 dX0_heapOf_65 rfl rfl ?_
              refine a_iload_n 68 dX0_heapOf_67 rfl rfl ?_
              refine a_callV 71 (c0_areOneMail _ _ _ _ hC hn) cdX0_areOneMail lX0_50 dX0_heapOf_68 rfl hC.1 rfl ⟨by decide, by decide, rfl, rfl⟩ ⟨Nat.zero_le _, Nat.zero_le _⟩ (Nat.le_of_ble_eq_true rfl) rfl ?_
              rintro _ _ - ⟨b68, rfl, rfl, h68⟩ -
              refine a_if_eq 81 74 dX0_heapOf_71 (by decide) rfl (fun c71 => ?_) (fun c71 => ?_)
              · skip
                refine a_iinc 84 dX0_heapOf_81 rfl (by unfold zr; omega) (by decide) rfl rfl ?_
                refine a_goto 46 dX0_heapOf_84 (by decide) ?_
                have hq := hK.no (a := n) (b := b) (fun q => by
                  first
                  | exact c59 (bt_z0.mpr q.2.1)
                  | exact isN h68 c71 q.2.2)
                exact ih46 (u, b + 1) ⟨by dsimp only; omega, hq.mono (fun x y h1 h2 h3 => by dsimp only at h3; omega)⟩ (by dsimp only; omega)
              · skip
                refine a_iload_n 75 dX0_heapOf_74 rfl rfl ?_
                refine a_iconst (z := 1) 76 dX0_heapOf_75 rfl (zrl rfl) rfl ?_
                refine a_iload 78 dX0_heapOf_76 rfl rfl ?_
                refine a_ishl _ 79 dX0_heapOf_78 (v_shl (by omega) (by omega) (by omega) (by have : ((2 : Int) ^ ((b : Int)).toNat) < 256 := (by rw [Int.toNat_natCast]; exact_mod_cast p2_le (x := b) (n := 8) (by omega)); omega)) rfl ?_
                refine a_ior _ 80 dX0_heapOf_79 (v_or (by omega) (by have : 0 < ((2 : Int) ^ ((b : Int)).toNat) := Int.pow_pos (by decide); omega)) rfl ?_
                refine a_istore_n 81 dX0_heapOf_80 (by decide) rfl rfl ?_
                refine a_iinc 84 dX0_heapOf_81 rfl (by unfold zr; omega) (by decide) rfl rfl ?_
                refine a_goto 46 dX0_heapOf_84 (by decide) ?_
                rw [show ((((u : Int).toNat ||| ((1 : Int) * 2 ^ ((b : Int)).toNat).toNat : Nat)) : Int) = ((u ||| 2 ^ b : Nat) : Int) by rw [Int.toNat_natCast, Int.toNat_natCast, Int.one_mul]; norm_cast]
                have hq := hK.yes (a := n) (b := b) hn8 (by omega) ⟨bt_or.mpr (Or.inr (bt_1.mpr rfl)), bt_z0.mp c59, isT h68 c71⟩
                exact ih46 (u ||| 2 ^ b, b + 1) ⟨by dsimp only; omega, hq.mono (fun x y h1 h2 h3 => by dsimp only at h3; omega)⟩ (by dsimp only; omega)
        · exact ⟨Nat.zero_le _, hJ0⟩
  · exact ⟨hI0, Nat.zero_le _, show bcN 0 8 = 0 by decide +kernel⟩
/-- the days 64 w + i on which cover c has a mark of die e, as bits -/
def wdB (g : GH) (e D n c : Int) (w : Nat) (x : Int64) : Prop := ∀ i : Nat, i < 64 → (bt (tn x) i ↔ (64 * (w : Int) + i ≤ 999 ∧ hsE g.2.1 e D n (64 * (w : Int) + i) c))
set_option maxHeartbeats 4000000 in
set_option maxRecDepth 100000 in
theorem c0_wordOf (g : GH) (c e D w : Int) (hC : CMk g) (hn : 0 ≤ g.2.1 1000 13 ∧ g.2.1 1000 13 ≤ 40) {k : Nat} (hw : w = k) (hk : k < 16) : AMet mX0_wordOf g [vA 5, vI c, vI e, vI D, vI w] (fun r g' => ∃ x : Int64, r = vL x ∧ g = g' ∧ wdB g e D (g.2.1 1000 13) c k x) := by
  refine AMet.of [vA 5, vI c, vI e, vI D, vI w, none, none, none] (by decide) rfl (Nat.le_of_ble_eq_true rfl) ?_
  subst hw
  refine a_lconst (w := 0) 1 dX0_wordOf_0 rfl rfl ?_
  refine a_lstore 3 dX0_wordOf_1 (by decide) rfl rfl ?_
  refine a_iconst (z := 0) 4 dX0_wordOf_3 rfl (zrl rfl) rfl ?_
  refine a_istore 6 dX0_wordOf_4 (by decide) rfl rfl ?_
  refine AW.loop (α := Nat × Int64) (fun p => (g.2.1 1000 13).toNat - p.1) (fun p => (p.1 : Int) ≤ g.2.1 1000 13 ∧ wdB g e D p.1 c k p.2) (fun p => g) (fun p => [vA 5, vI c, vI e, vI D, vI (k : Int), vL p.2, none, vI (p.1 : Int)]) (fun p => []) ?_ (0, 0) ?_
  · rintro ⟨m, x⟩ ⟨hm, hx⟩ ih6
    try dsimp only at hI ih ⊢
    try dsimp only at hm hx ih6 ⊢
    refine a_iload 8 dX0_wordOf_6 rfl rfl ?_
    refine a_aload_n 9 dX0_wordOf_8 rfl rfl ?_
    refine a_getIz (g.2.1 1000 13) 12 dX0_wordOf_9 fX0_17 hC.1 rfl hC.2.2.2.1 rfl ?_
    refine a_icmp_ge 71 15 dX0_wordOf_12 (by decide) rfl (fun c12 => ?_) (fun c12 => ?_)
    · skip
      refine a_lload 73 dX0_wordOf_71 rfl rfl ?_
      refine a_lreturn dX0_wordOf_73 rfl ⟨Nat.zero_le _, Nat.zero_le _⟩ ?_
      have e9 : (m : Int) = g.2.1 1000 13 := by omega
      exact ⟨x, rfl, rfl, e9 ▸ hx⟩
    · skip
      refine a_aload_n 16 dX0_wordOf_15 rfl rfl ?_
      refine a_getR 19 dX0_wordOf_16 fX0_11 hC.1 rfl hC.2.1 rfl ?_
      refine a_iload 21 dX0_wordOf_19 rfl rfl ?_
      refine a_aald 22 dX0_wordOf_21 hC.2.2.1 rfl (by omega) (by omega) (hC.r (m := m) (by omega)) rfl ?_
      refine a_getIz (g.2.1 1014 (10 * (m : Int) + 2).toNat) 25 dX0_wordOf_22 fX0_33 (hC.k (m := m) (by omega)).1.1 rfl (hC.k (m := m) (by omega)).2.1.die rfl ?_
      refine a_iload_n 26 dX0_wordOf_25 rfl rfl ?_
      refine a_icmp_ne 65 29 dX0_wordOf_26 (by decide) rfl (fun c26 => ?_) (fun c26 => ?_)
      · skip
        refine a_iinc 68 dX0_wordOf_65 rfl (by unfold zr; omega) (by decide) rfl rfl ?_
        refine a_goto 6 dX0_wordOf_68 (by decide) ?_
        refine ih6 (m + 1, x) ⟨by dsimp only; omega, fun i hi => ?_⟩ (by dsimp only; omega)
        dsimp only
        rw [hx i hi]
        constructor
        · rintro ⟨q1, j, y1, y2, y3⟩
          exact ⟨q1, j, y1, by omega, y3⟩
        · rintro ⟨q1, j, y1, y2, y3, y4, y5⟩
          refine ⟨q1, j, y1, ?_, y3, y4, y5⟩
          have hne : j ≠ m := fun y => by
            subst y
            first
            | exact c26 y4
            | exact isN h38 c41 y3
          omega
      · skip
        refine a_aload_n 30 dX0_wordOf_29 rfl rfl ?_
        refine a_getR 33 dX0_wordOf_30 fX0_11 hC.1 rfl hC.2.1 rfl ?_
        refine a_iload 35 dX0_wordOf_33 rfl rfl ?_
        refine a_aald 36 dX0_wordOf_35 hC.2.2.1 rfl (by omega) (by omega) (hC.r (m := m) (by omega)) rfl ?_
        refine a_iload_n 37 dX0_wordOf_36 rfl rfl ?_
        refine a_iload_n 38 dX0_wordOf_37 rfl rfl ?_
        refine a_callV 41 (c5_isOn _ _ _ (hC.k (m := m) (by omega)).1.1) cdX5_isOn lX0_21 dX0_wordOf_38 rfl (hC.k (m := m) (by omega)).1.1 rfl ⟨by decide, by decide, rfl, rfl⟩ ⟨Nat.zero_le _, Nat.zero_le _⟩ (Nat.le_of_ble_eq_true rfl) rfl ?_
        rintro _ _ - ⟨b38, rfl, rfl, h38⟩ -
        rw [(hC.k (m := m) (by omega)).2.1.on] at h38
        refine a_if_eq 65 44 dX0_wordOf_41 (by decide) rfl (fun c41 => ?_) (fun c41 => ?_)
        · skip
          refine a_iinc 68 dX0_wordOf_65 rfl (by unfold zr; omega) (by decide) rfl rfl ?_
          refine a_goto 6 dX0_wordOf_68 (by decide) ?_
          refine ih6 (m + 1, x) ⟨by dsimp only; omega, fun i hi => ?_⟩ (by dsimp only; omega)
          dsimp only
          rw [hx i hi]
          constructor
          · rintro ⟨q1, j, y1, y2, y3⟩
            exact ⟨q1, j, y1, by omega, y3⟩
          · rintro ⟨q1, j, y1, y2, y3, y4, y5⟩
            refine ⟨q1, j, y1, ?_, y3, y4, y5⟩
            have hne : j ≠ m := fun y => by
              subst y
              first
              | exact c26 y4
              | exact isN h38 c41 y3
            omega
        · skip
          refine a_lload 46 dX0_wordOf_44 rfl rfl ?_
          refine a_aload_n 47 dX0_wordOf_46 rfl rfl ?_
          refine a_getR 50 dX0_wordOf_47 fX0_11 hC.1 rfl hC.2.1 rfl ?_
          refine a_iload 52 dX0_wordOf_50 rfl rfl ?_
          refine a_aald 53 dX0_wordOf_52 hC.2.2.1 rfl (by omega) (by omega) (hC.r (m := m) (by omega)) rfl ?_
          refine a_getR 56 dX0_wordOf_53 fX0_36 (hC.k (m := m) (by omega)).1.1 rfl (hC.k (m := m) (by omega)).1.2.1 rfl ?_
          refine a_getR 59 dX0_wordOf_56 fX0_69 (hC.k (m := m) (by omega)).1.2.2.1 rfl (hC.k (m := m) (by omega)).1.2.2.2.1 rfl ?_
          refine a_iload 61 dX0_wordOf_59 rfl rfl ?_
          refine a_lald 62 dX0_wordOf_61 (hC.k (m := m) (by omega)).1.2.2.2.2.1 (by omega) (by omega) rfl ?_
          refine a_lor 63 dX0_wordOf_62 rfl ?_
          refine a_lstore 65 dX0_wordOf_63 (by decide) rfl rfl ?_
          refine a_iinc 68 dX0_wordOf_65 rfl (by unfold zr; omega) (by decide) rfl rfl ?_
          refine a_goto 6 dX0_wordOf_68 (by decide) ?_
          refine ih6 (m + 1, _) ⟨by dsimp only; omega, fun i hi => ?_⟩ (by dsimp only; omega)
          dsimp only
          have hd := (hC.k (m := m) (by omega)).2.2.1 (64 * (k : Int) + i) (by omega)
          have h64 := dB_64 (L := g.2.2.1 (300 + m)) (w := k) (k := i) hi
          rw [show ((64 * k : Nat) : Int) + (i : Int) = 64 * (k : Int) + i by omega] at h64
          rw [tn_or, bt_or, hx i hi, Int.toNat_natCast, ← h64, hd]
          have hof := isT h38 c41
          constructor
          · rintro (⟨q1, q2⟩ | ⟨q1, q2⟩)
            · obtain ⟨j, y1, y2, y3⟩ := q2
              exact ⟨q1, j, y1, by omega, y3⟩
            · exact ⟨q1, m, by omega, by omega, hof, c26, q2⟩
          · rintro ⟨q1, j, y1, y2, y3, y4, y5⟩
            by_cases y : j = m
            · subst y; exact Or.inr ⟨q1, y5⟩
            · exact Or.inl ⟨q1, j, y1, by omega, y3, y4, y5⟩
  · exact ⟨by show ((0 : Nat) : Int) ≤ _; omega, fun i _ => ⟨fun z => absurd z bt_0, fun ⟨_, j, q1, q2, _⟩ => by dsimp only at q2; omega⟩⟩
