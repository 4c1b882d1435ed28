theorem tn_not1 {x : Int64} {i : Nat} (hi : i < 64) : bt (tn (x ^^^ (-1))) i ↔ ¬ bt (tn x) i := by
  have h1 : x ^^^ (-1) = ~~~ x := Int64.xor_neg_one
  rw [h1]
  unfold bt
  show (~~~ x.toBitVec).toNat.testBit i = true ↔ ¬ x.toBitVec.toNat.testBit i = true
  rw [BitVec.testBit_toNat, BitVec.testBit_toNat, BitVec.getLsbD_not]
  simp [hi]
/-- the bits of x are the days d = 64 w + i with P d -/
def wB (w : Nat) (x : Int64) (P : Int → Prop) : Prop := ∀ i : Nat, i < 64 → (bt (tn x) i ↔ P (64 * (w : Int) + i))
theorem wB.cnt {w : Nat} {x : Int64} {P : Int → Prop} (h : wB w x P) : cnt P (64 * w) + bcU x = cnt P (64 * (w + 1)) := by
  rw [show 64 * (w + 1) = 64 * w + 64 by omega, cnt_add]
  congr 1
  refine bcN_cnt 64 (fun k hk => ?_)
  rw [h k hk, show ((64 * w : Nat) : Int) + (k : Int) = 64 * (w : Int) + k by omega]
theorem wB.cg {w : Nat} {x : Int64} {P Q : Int → Prop} (h : wB w x P) (q : ∀ d, P d ↔ Q d) : wB w x Q := fun i hi => (h i hi).trans (q _)
theorem wB.or {w : Nat} {x y : Int64} {P Q : Int → Prop} (h : wB w x P) (q : wB w y Q) : wB w (x ||| y) (fun d => P d ∨ Q d) := fun i hi => by rw [tn_or, bt_or, h i hi, q i hi]
theorem wB.and {w : Nat} {x y : Int64} {P Q : Int → Prop} (h : wB w x P) (q : wB w y Q) : wB w (x &&& y) (fun d => P d ∧ Q d) := fun i hi => by rw [tn_and, bt_and, h i hi, q i hi]
theorem wB.not {w : Nat} {x : Int64} {P : Int → Prop} (h : wB w x P) : wB w (x ^^^ (-1)) (fun d => ¬ P d) := fun i hi => by rw [tn_not1 hi, h i hi]
theorem wB.zero {w : Nat} : wB w 0 (fun _ => False) := fun i _ => ⟨fun z => absurd z bt_0, fun z => z.elim⟩
/-- the covers of d, the first c of them -/
noncomputable def cvN (h : Nat → Nat → Int) (e D d : Int) (c : Nat) : Int := cnt (fun x => d ≤ 999 ∧ hsE h e D (h 1000 13) d x) c
theorem cvN_s (h : Nat → Nat → Int) (e D d : Int) (c : Nat) : cvN h e D d (c + 1) = cvN h e D d c + ci (d ≤ 999 ∧ hsE h e D (h 1000 13) d c) := rfl
theorem cvN_b (h : Nat → Nat → Int) (e D d : Int) (c : Nat) : 0 ≤ cvN h e D d c := (cnt_le _ c).1
theorem cvN_k {h : Nat → Nat → Int} {e D d : Int} {c : Nat} (k : Int) : (k ≤ cvN h e D d c ∨ (k - 1 ≤ cvN h e D d c ∧ (d ≤ 999 ∧ hsE h e D (h 1000 13) d c))) ↔ k ≤ cvN h e D d (c + 1) := by
  rw [cvN_s]
  by_cases q : d ≤ 999 ∧ hsE h e D (h 1000 13) d c
  · rw [ci_t q]
    constructor
    · rintro (z | z)
      · omega
      · have := z.1; omega
    · intro z; exact Or.inr ⟨by omega, q⟩
  · rw [ci_f q]
    constructor
    · rintro (z | z)
      · omega
      · exact absurd z.2 q
    · intro z; exact Or.inl (by omega)
theorem mny_1000 {h : Nat → Nat → Int} {e D : Int} (k : Int) (hk : 1 ≤ k) : cnt (fun d => cvN h e D d 8 = k) (64 * 16) = mnyS h e D k := by
  have h1 : cnt (fun d => cvN h e D d 8 = k) (1000 + 24) = cnt (fun d => cvN h e D d 8 = k) 1000 := cnt_0 24 (fun x a b z => by
    have : cvN h e D x 8 = 0 := by
      have z0 : cvN h e D x (0 + 8) = cvN h e D x 0 := cnt_0 (n := 0) 8 (fun y _ _ q => by have := q.1; omega)
      exact z0
    omega)
  show cnt (fun d => cvN h e D d 8 = k) (1000 + 24) = _
  rw [h1]
  refine cnt_cg 1000 (fun d hd => ?_)
  show cvN h e D d 8 = k ↔ cnt (hsE h e D (h 1000 13) d) 8 = k
  rw [show cvN h e D d 8 = cnt (hsE h e D (h 1000 13) d) 8 from cnt_cg 8 (fun c _ => ⟨fun z => z.2, fun z => ⟨by omega, z⟩⟩)]
set_option maxHeartbeats 4000000 in
set_option maxRecDepth 100000 in
theorem c0_manyOf (g : GH) (e D : Int) (hC : CMk g) (hn : 0 ≤ g.2.1 1000 13 ∧ g.2.1 1000 13 ≤ 40) : AMet mX0_manyOf g [vA 5, vI e, vI D] (pZ g (mnyV g.2.1 e D)) := by
  refine AMet.of [vA 5, vI e, vI D, none, none, none, none, none, none, none, none, none, none, none, none, none] (by decide) rfl (Nat.le_of_ble_eq_true rfl) ?_
  refine a_iconst (z := 0) 1 dX0_manyOf_0 rfl (zrl rfl) rfl ?_
  refine a_istore_n 2 dX0_manyOf_1 (by decide) rfl rfl ?_
  refine a_iconst (z := 0) 3 dX0_manyOf_2 rfl (zrl rfl) rfl ?_
  refine a_istore 5 dX0_manyOf_3 (by decide) rfl rfl ?_
  refine AW.loop (α := Nat) (fun p => 8 - p) (fun p => p ≤ 8) (fun p => g) (fun p => [vA 5, vI e, vI D, vI (cnt (hsD g.2.1 e D (g.2.1 1000 13)) p), vI (p : Int), none, none, none, none, none, none, none, none, none, none, none]) (fun p => []) ?_ 0 ?_
  · intro c hc ih5
    try dsimp only at hI ih ⊢
    have hb := cnt_le (hsD g.2.1 e D (g.2.1 1000 13)) c
    refine a_iload 7 dX0_manyOf_5 rfl rfl ?_
    refine a_bipush (z := 8) 9 dX0_manyOf_7 rfl (zrl rfl) rfl ?_
    refine a_icmp_ge 37 12 dX0_manyOf_9 (by decide) rfl (fun c9 => ?_) (fun c9 => ?_)
    · skip
      refine a_iconst (z := 0) 38 dX0_manyOf_37 rfl (zrl rfl) rfl ?_
      refine a_istore 40 dX0_manyOf_38 (by decide) rfl rfl ?_
      refine a_iconst (z := 0) 41 dX0_manyOf_40 rfl (zrl rfl) rfl ?_
      refine a_istore 43 dX0_manyOf_41 (by decide) rfl rfl ?_
      refine a_iconst (z := 0) 44 dX0_manyOf_43 rfl (zrl rfl) rfl ?_
      refine a_istore 46 dX0_manyOf_44 (by decide) rfl rfl ?_
      refine AW.loop (α := Nat) (fun p => 16 - p) (fun p => p ≤ 16) (fun p => g) (fun p => [vA 5, vI e, vI D, vI (cnt (hsD g.2.1 e D (g.2.1 1000 13)) c), vI (cnt (fun d => cvN g.2.1 e D d 8 = 1) (64 * p)), vI (cnt (fun d => cvN g.2.1 e D d 8 = 2) (64 * p)), vI (p : Int), none, none, none, none, none, none, none, none, none]) (fun p => []) ?_ 0 ?_
      · intro w hw ih46
        try dsimp only at hI ih ⊢
        have hb1 := cnt_le (fun d => cvN g.2.1 e D d 8 = 1) (64 * w)
        have hb2 := cnt_le (fun d => cvN g.2.1 e D d 8 = 2) (64 * w)
        refine a_iload 48 dX0_manyOf_46 rfl rfl ?_
        refine a_bipush (z := 16) 50 dX0_manyOf_48 rfl (zrl rfl) rfl ?_
        refine a_icmp_ge 157 53 dX0_manyOf_50 (by decide) rfl (fun c50 => ?_) (fun c50 => ?_)
        · skip
          have ew : w = 16 := by omega
          subst ew
          have ec : c = 8 := by omega
          subst ec
          have m1 := mny_1000 (h := g.2.1) (e := e) (D := D) 1 (by omega)
          have m2 := mny_1000 (h := g.2.1) (e := e) (D := D) 2 (by omega)
          rw [m1] at hb1
          rw [m2] at hb2
          rw [m1, m2]
          have hb3 := cnt_le (hsD g.2.1 e D (g.2.1 1000 13)) 8
          have l1 : mnyS g.2.1 e D 1 ≤ 1000 := (cnt_le _ 1000).2
          have l2 : mnyS g.2.1 e D 2 ≤ 1000 := (cnt_le _ 1000).2
          have hx1 := mul_le2 (x := mnyS g.2.1 e D 1) (y := mnyS g.2.1 e D 1) (X := 1000) (Y := 1000) (by omega) (by omega) (by omega) (by omega)
          have hx2 : 0 ≤ mnyS g.2.1 e D 1 * (mnyS g.2.1 e D 1 - 1) ∧ mnyS g.2.1 e D 1 * (mnyS g.2.1 e D 1 - 1) ≤ 1000 * 1000 := by
            by_cases q : mnyS g.2.1 e D 1 = 0
            · rw [q]; decide
            · exact mul_le2 (by omega) (by omega) (by omega) (by omega)
          refine a_iload_n 158 dX0_manyOf_157 rfl rfl ?_
          refine AW.cut (J := 185) (P := fun z => z = (if 0 < mnyS g.2.1 e D 2 then mnyS g.2.1 e D 1 * mnyS g.2.1 e D 1 / (2 * mnyS g.2.1 e D 2) else mnyS g.2.1 e D 1 * (mnyS g.2.1 e D 1 - 1) / 2) ∧ 0 ≤ z ∧ z ≤ 1000 * 1000) ?_ (fun J185 => ?_)
          · intro z185 h185
            refine a_iadd 186 dX0_manyOf_185 (by unfold zr; omega) rfl ?_
            refine a_ireturn dX0_manyOf_186 rfl ⟨Nat.zero_le _, Nat.zero_le _⟩ ?_
            exact ⟨congrArg vI (by rw [h185.1]; rfl), rfl⟩
          · skip
            refine a_iload 160 dX0_manyOf_158 rfl rfl ?_
            refine a_if_le 176 163 dX0_manyOf_160 (by decide) rfl (fun c160 => ?_) (fun c160 => ?_)
            · skip
              refine a_iload 178 dX0_manyOf_176 rfl rfl ?_
              refine a_iload 180 dX0_manyOf_178 rfl rfl ?_
              refine a_iconst (z := 1) 181 dX0_manyOf_180 rfl (zrl rfl) rfl ?_
              refine a_isub 182 dX0_manyOf_181 (by unfold zr; omega) rfl ?_
              refine a_imul 183 dX0_manyOf_182 (by unfold zr; omega) rfl ?_
              refine a_iconst (z := 2) 184 dX0_manyOf_183 rfl (zrl rfl) rfl ?_
              refine a_idiv 185 dX0_manyOf_184 (by omega) (by omega) rfl ?_
              exact J185 _ (by
                first
                | (rw [if_pos (by omega)]; exact ⟨rfl, Int.ediv_nonneg hx1.1 (by omega), Int.le_trans (Int.ediv_le_self _ hx1.1) hx1.2⟩)
                | (rw [if_neg (by omega)]; exact ⟨rfl, Int.ediv_nonneg hx2.1 (by omega), Int.le_trans (Int.ediv_le_self _ hx2.1) hx2.2⟩))
            · skip
              refine a_iload 165 dX0_manyOf_163 rfl rfl ?_
              refine a_iload 167 dX0_manyOf_165 rfl rfl ?_
              refine a_imul 168 dX0_manyOf_167 (by unfold zr; omega) rfl ?_
              refine a_iconst (z := 2) 169 dX0_manyOf_168 rfl (zrl rfl) rfl ?_
              refine a_iload 171 dX0_manyOf_169 rfl rfl ?_
              refine a_imul 172 dX0_manyOf_171 (by unfold zr; omega) rfl ?_
              refine a_idiv 173 dX0_manyOf_172 (by omega) (by omega) rfl ?_
              refine a_goto 185 dX0_manyOf_173 (by decide) ?_
              exact J185 _ (by
                first
                | (rw [if_pos (by omega)]; exact ⟨rfl, Int.ediv_nonneg hx1.1 (by omega), Int.le_trans (Int.ediv_le_self _ hx1.1) hx1.2⟩)
                | (rw [if_neg (by omega)]; exact ⟨rfl, Int.ediv_nonneg hx2.1 (by omega), Int.le_trans (Int.ediv_le_self _ hx2.1) hx2.2⟩))
        · skip
          refine a_lconst (w := 0) 54 dX0_manyOf_53 rfl rfl ?_
          refine a_lstore 56 dX0_manyOf_54 (by decide) rfl rfl ?_
          refine a_lconst (w := 0) 57 dX0_manyOf_56 rfl rfl ?_
          refine a_lstore 59 dX0_manyOf_57 (by decide) rfl rfl ?_
          refine a_lconst (w := 0) 60 dX0_manyOf_59 rfl rfl ?_
          refine a_lstore 62 dX0_manyOf_60 (by decide) rfl rfl ?_
          refine a_iconst (z := 0) 63 dX0_manyOf_62 rfl (zrl rfl) rfl ?_
          refine a_istore 65 dX0_manyOf_63 (by decide) rfl rfl ?_
          refine AW.loop (α := Nat × Int64 × Int64 × Int64) (fun p => 8 - p.1) (fun p => p.1 ≤ 8 ∧ wB w p.2.1 (fun d => 1 ≤ cvN g.2.1 e D d p.1) ∧ wB w p.2.2.1 (fun d => 2 ≤ cvN g.2.1 e D d p.1) ∧ wB w p.2.2.2 (fun d => 3 ≤ cvN g.2.1 e D d p.1)) (fun p => g) (fun p => [vA 5, vI e, vI D, vI (cnt (hsD g.2.1 e D (g.2.1 1000 13)) c), vI (cnt (fun d => cvN g.2.1 e D d 8 = 1) (64 * w)), vI (cnt (fun d => cvN g.2.1 e D d 8 = 2) (64 * w)), vI (w : Int), vL p.2.1, none, vL p.2.2.1, none, vL p.2.2.2, none, vI (p.1 : Int), none, none]) (fun p => []) ?_ (0, 0, 0, 0) ?_
          · rintro ⟨v, x1, x2, x3⟩ ⟨hv, k1, k2, k3⟩ ih65
            try dsimp only at hI ih ⊢
            try dsimp only at hv k1 k2 k3 ih65 ⊢
            refine a_iload 67 dX0_manyOf_65 rfl rfl ?_
            refine a_bipush (z := 8) 69 dX0_manyOf_67 rfl (zrl rfl) rfl ?_
            refine a_icmp_ge 117 72 dX0_manyOf_69 (by decide) rfl (fun c69 => ?_) (fun c69 => ?_)
            · skip
              have ev : v = 8 := by omega
              subst ev
              have kk1 : wB w (x1 &&& (x2 ^^^ (-1))) (fun d => cvN g.2.1 e D d 8 = 1) := (k1.and k2.not).cg (fun d => by omega)
              have kk2 : wB w (x2 &&& (x3 ^^^ (-1))) (fun d => cvN g.2.1 e D d 8 = 2) := (k2.and k3.not).cg (fun d => by omega)
              have e1 := kk1.cnt
              have e2 := kk2.cnt
              have f1 := bcN_le (tn (x1 &&& (x2 ^^^ (-1)))) 64
              have f2 := bcN_le (tn (x2 &&& (x3 ^^^ (-1)))) 64
              have f3 : bcU (x1 &&& (x2 ^^^ (-1))) = (bcN (tn (x1 &&& (x2 ^^^ (-1)))) 64 : Nat) := rfl
              have f4 : bcU (x2 &&& (x3 ^^^ (-1))) = (bcN (tn (x2 &&& (x3 ^^^ (-1)))) 64 : Nat) := rfl
              refine a_iload 119 dX0_manyOf_117 rfl rfl ?_
              refine a_lload 121 dX0_manyOf_119 rfl rfl ?_
              refine a_lload 123 dX0_manyOf_121 rfl rfl ?_
              refine a_ldc2 126 dX0_manyOf_123 kX0_61 rfl ?_
              refine a_lxor 127 dX0_manyOf_126 rfl ?_
              refine a_land 128 dX0_manyOf_127 rfl ?_
              refine a_callS 131 (j_bcL _ _) cdJ13_bitCount_95d88 lX0_63 dX0_manyOf_128 rfl rfl ⟨by decide, by decide, rfl, rfl⟩ ⟨Nat.zero_le _, Nat.zero_le _⟩ (Nat.le_of_ble_eq_true rfl) rfl ?_
              rintro _ _ - ⟨rfl, rfl⟩ -
              refine a_iadd 132 dX0_manyOf_131 (by unfold zr; omega) rfl ?_
              rw [e1]
              refine a_istore 134 dX0_manyOf_132 (by decide) rfl rfl ?_
              refine a_iload 136 dX0_manyOf_134 rfl rfl ?_
              refine a_lload 138 dX0_manyOf_136 rfl rfl ?_
              refine a_lload 140 dX0_manyOf_138 rfl rfl ?_
              refine a_ldc2 143 dX0_manyOf_140 kX0_61 rfl ?_
              refine a_lxor 144 dX0_manyOf_143 rfl ?_
              refine a_land 145 dX0_manyOf_144 rfl ?_
              refine a_callS 148 (j_bcL _ _) cdJ13_bitCount_95d88 lX0_63 dX0_manyOf_145 rfl rfl ⟨by decide, by decide, rfl, rfl⟩ ⟨Nat.zero_le _, Nat.zero_le _⟩ (Nat.le_of_ble_eq_true rfl) rfl ?_
              rintro _ _ - ⟨rfl, rfl⟩ -
              refine a_iadd 149 dX0_manyOf_148 (by unfold zr; omega) rfl ?_
              rw [e2]
              refine a_istore 151 dX0_manyOf_149 (by decide) rfl rfl ?_
              refine a_iinc 154 dX0_manyOf_151 rfl (by unfold zr; omega) (by decide) rfl rfl ?_
              refine a_goto 46 dX0_manyOf_154 (by decide) ?_
              refine AW.kill 7 (AW.kill 9 (AW.kill 11 (AW.kill 13 (AW.kill 14 ?_))))
              exact ih46 (w + 1) (by omega) (by omega)
            · skip
              refine a_aload_n 73 dX0_manyOf_72 rfl rfl ?_
              refine a_iload 75 dX0_manyOf_73 rfl rfl ?_
              refine a_iload_n 76 dX0_manyOf_75 rfl rfl ?_
              refine a_iload_n 77 dX0_manyOf_76 rfl rfl ?_
              refine a_iload 79 dX0_manyOf_77 rfl rfl ?_
              refine a_callV 82 (c0_wordOf _ _ _ _ _ hC hn rfl (by omega)) cdX0_wordOf lX0_57 dX0_manyOf_79 rfl hC.1 rfl ⟨by decide, by decide, rfl, rfl⟩ ⟨Nat.zero_le _, Nat.zero_le _⟩ (Nat.le_of_ble_eq_true rfl) rfl ?_
              rintro _ _ - ⟨x, rfl, rfl, hx⟩ -
              refine a_lstore 84 dX0_manyOf_82 (by decide) rfl rfl ?_
              refine a_lload 86 dX0_manyOf_84 rfl rfl ?_
              refine a_lload 88 dX0_manyOf_86 rfl rfl ?_
              refine a_lload 90 dX0_manyOf_88 rfl rfl ?_
              refine a_land 91 dX0_manyOf_90 rfl ?_
              refine a_lor 92 dX0_manyOf_91 rfl ?_
              refine a_lstore 94 dX0_manyOf_92 (by decide) rfl rfl ?_
              refine a_lload 96 dX0_manyOf_94 rfl rfl ?_
              refine a_lload 98 dX0_manyOf_96 rfl rfl ?_
              refine a_lload 100 dX0_manyOf_98 rfl rfl ?_
              refine a_land 101 dX0_manyOf_100 rfl ?_
              refine a_lor 102 dX0_manyOf_101 rfl ?_
              refine a_lstore 104 dX0_manyOf_102 (by decide) rfl rfl ?_
              refine a_lload 106 dX0_manyOf_104 rfl rfl ?_
              refine a_lload 108 dX0_manyOf_106 rfl rfl ?_
              refine a_lor 109 dX0_manyOf_108 rfl ?_
              refine a_lstore 111 dX0_manyOf_109 (by decide) rfl rfl ?_
              refine a_iinc 114 dX0_manyOf_111 rfl (by unfold zr; omega) (by decide) rfl rfl ?_
              refine a_goto 65 dX0_manyOf_114 (by decide) ?_
              refine AW.kill 14 ?_
              have kx : wB w x (fun d => d ≤ 999 ∧ hsE g.2.1 e D (g.2.1 1000 13) d v) := hx
              refine ih65 (v + 1, x1 ||| x, x2 ||| (x1 &&& x), x3 ||| (x2 &&& x)) ⟨by dsimp only; omega, ?_, ?_, ?_⟩ (by dsimp only; omega)
              · refine (k1.or kx).cg (fun d => ?_)
                rw [← cvN_k 1]
                have := cvN_b g.2.1 e D d v
                constructor
                · rintro (z | z)
                  · exact Or.inl z
                  · exact Or.inr ⟨by omega, z⟩
                · rintro (z | z)
                  · exact Or.inl z
                  · exact Or.inr z.2
              · exact (k2.or (k1.and kx)).cg (fun d => cvN_k 2)
              · exact (k3.or (k2.and kx)).cg (fun d => cvN_k 3)
          · refine ⟨Nat.zero_le _, wB.zero.cg (fun d => ?_), wB.zero.cg (fun d => ?_), wB.zero.cg (fun d => ?_)⟩
            all_goals (constructor; exact fun z => z.elim; intro z; have z2 : _ ≤ (0 : Int) := z; omega)
      · exact Nat.zero_le _
    · skip
      refine a_iload_n 13 dX0_manyOf_12 rfl rfl ?_
      refine AW.cut (J := 29) (P := fun z => z = ci ((hsD g.2.1 e D (g.2.1 1000 13)) c)) ?_ (fun J29 => ?_)
      · intro z29 h29
        have hz : z29 = 0 ∨ z29 = 1 := by rw [h29]; exact ci_01 _
        subst h29
        refine a_iadd 30 dX0_manyOf_29 (by unfold zr; omega) rfl ?_
        refine a_istore_n 31 dX0_manyOf_30 (by decide) rfl rfl ?_
        refine a_iinc 34 dX0_manyOf_31 rfl (by unfold zr; omega) (by decide) rfl rfl ?_
        refine a_goto 5 dX0_manyOf_34 (by decide) ?_
        exact ih5 (c + 1) (by omega) (by omega)
      · skip
        refine a_aload_n 14 dX0_manyOf_13 rfl rfl ?_
        refine a_iload 16 dX0_manyOf_14 rfl rfl ?_
        refine a_iload_n 17 dX0_manyOf_16 rfl rfl ?_
        refine a_iload_n 18 dX0_manyOf_17 rfl rfl ?_
        refine a_callV 21 (c0_hasDie _ _ _ _ hC hn) cdX0_hasDie lX0_54 dX0_manyOf_18 rfl hC.1 rfl ⟨by decide, by decide, rfl, rfl⟩ ⟨Nat.zero_le _, Nat.zero_le _⟩ (Nat.le_of_ble_eq_true rfl) rfl ?_
        rintro _ _ - ⟨b18, rfl, rfl, h18⟩ -
        refine a_if_eq 28 24 dX0_manyOf_21 (by decide) rfl (fun c21 => ?_) (fun c21 => ?_)
        · skip
          refine a_iconst (z := 0) 29 dX0_manyOf_28 rfl (zrl rfl) rfl ?_
          exact J29 _ (by first | exact ci1 h18 c21 | exact ci0 h18 c21)
        · skip
          refine a_iconst (z := 1) 25 dX0_manyOf_24 rfl (zrl rfl) rfl ?_
          refine a_goto 29 dX0_manyOf_25 (by decide) ?_
          exact J29 _ (by first | exact ci1 h18 c21 | exact ci0 h18 c21)
  · exact Nat.zero_le _
