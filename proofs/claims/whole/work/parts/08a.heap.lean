/-- bits of small sets -/
abbrev bt (s x : Nat) : Prop := s.testBit x = true
theorem bt_z {s : Nat} {x : Nat} : ((s : Int) / 2 ^ ((x : Int)).toNat) % 2 = 1 ↔ bt s x := by
  rw [Int.toNat_natCast, zpow]
  unfold bt
  rw [Nat.testBit_eq_decide_div_mod_eq, decide_eq_true_iff]
  omega
theorem bt_z0 {s : Nat} {x : Nat} : ((s : Int) / 2 ^ ((x : Int)).toNat) % 2 = 0 ↔ ¬ bt s x := by
  rw [← bt_z]; omega
theorem bt_or {s t x : Nat} : bt (s ||| t) x ↔ bt s x ∨ bt t x := by unfold bt; rw [Nat.testBit_or, Bool.or_eq_true]
theorem bt_1 {x y : Nat} : bt (2 ^ x) y ↔ x = y := by
  unfold bt; rw [Nat.testBit_two_pow]; exact decide_eq_true_iff
theorem bt_0 {y : Nat} : ¬ bt 0 y := by unfold bt; simp
theorem bt_le {a b : Nat} (h : ∀ x, bt a x → bt b x) : a ≤ b := by
  have : a &&& b = a := by
    apply Nat.eq_of_testBit_eq
    intro i
    rw [Nat.testBit_and]
    cases e : a.testBit i
    · rfl
    · rw [show b.testBit i = true from h i e]; rfl
  rw [← this]; exact Nat.and_le_right
theorem bt_hi {a n x : Nat} (h : a < 2 ^ n) (hx : n ≤ x) : ¬ bt a x := by
  unfold bt
  rw [Nat.testBit_lt_two_pow (Nat.lt_of_lt_of_le h (Nat.pow_le_pow_right (by decide) hx))]; decide
theorem bt_ext {n a b : Nat} (ha : a < 2 ^ n) (hb : b < 2 ^ n) (h : ∀ x, x < n → (bt a x ↔ bt b x)) : a = b := by
  apply Nat.eq_of_testBit_eq
  intro i
  by_cases e : i < n
  · have := h i e
    unfold bt at this
    cases h1 : a.testBit i <;> cases h2 : b.testBit i <;> simp_all
  · have h1 := bt_hi ha (by omega : n ≤ i)
    have h2 := bt_hi hb (by omega : n ≤ i)
    unfold bt at h1 h2
    rw [Bool.not_eq_true] at h1 h2
    rw [h1, h2]
theorem p2_le {x n : Nat} (h : x < n) : 2 ^ x < 2 ^ n := Nat.pow_lt_pow_right (by decide) h
/-- what hangs with c, closed -/
def RR (h : Nat → Nat → Int) (D c : Int) (x : Nat) : Prop := ∀ S : Nat → Prop, S c.toNat → (∀ a b : Nat, a < 8 → b < 8 → S a → mailB h a b D → S b) → S x
theorem RR.st {h : Nat → Nat → Int} {D c : Int} {a b : Nat} (q : RR h D c a) (ha : a < 8) (hb : b < 8) (he : mailB h a b D) : RR h D c b := fun S h1 h2 => h2 a b ha hb (q S h1 h2) he
/-- z is the heap of c -/
def isHp (h : Nat → Nat → Int) (D c : Int) (z : Nat) : Prop := z < 256 ∧ ∀ x, x < 8 → (bt z x ↔ RR h D c x)
theorem isHp.un {h : Nat → Nat → Int} {D c : Int} {y z : Nat} (a : isHp h D c y) (b : isHp h D c z) : y = z := bt_ext (n := 8) a.1 b.1 (fun x hx => (a.2 x hx).trans (b.2 x hx).symm)
/-- the search stands: s so far; all marks from A have been taken -/
def hpI (h : Nat → Nat → Int) (D c : Int) (e s : Nat) (A : Nat → Nat → Prop) : Prop := (e < 256 ∧ s < 256) ∧ bt s c.toNat ∧ (∀ x, bt e x → bt s x) ∧ (∀ x, x < 8 → bt s x → RR h D c x) ∧ ∀ a b, a < 8 → b < 8 → A a b → bt e a → mailB h a b D → bt s b
theorem hpI.mono {h : Nat → Nat → Int} {D c : Int} {e s : Nat} {A B : Nat → Nat → Prop} (q : hpI h D c e s A) (hb : ∀ a b, a < 8 → b < 8 → B a b → A a b) : hpI h D c e s B := ⟨q.1, q.2.1, q.2.2.1, q.2.2.2.1, fun a b h1 h2 h3 h4 h5 => q.2.2.2.2 a b h1 h2 (hb a b h1 h2 h3) h4 h5⟩
theorem hpI.no {h : Nat → Nat → Int} {D c : Int} {e s a b : Nat} {A : Nat → Nat → Prop} (q : hpI h D c e s A) (hn : ¬ (bt e a ∧ ¬ bt s b ∧ mailB h a b D)) : hpI h D c e s (fun a' b' => A a' b' ∨ (a' = a ∧ b' = b)) := by
  refine ⟨q.1, q.2.1, q.2.2.1, q.2.2.2.1, fun a' b' h1 h2 h3 h4 h5 => ?_⟩
  rcases h3 with h3 | ⟨rfl, rfl⟩
  · exact q.2.2.2.2 a' b' h1 h2 h3 h4 h5
  · exact Classical.byContradiction (fun z => hn ⟨h4, z, h5⟩)
theorem hpI.yes {h : Nat → Nat → Int} {D c : Int} {e s a b : Nat} {A : Nat → Nat → Prop} (q : hpI h D c e s A) (ha : a < 8) (hb : b < 8) (hn : bt e a ∧ ¬ bt s b ∧ mailB h a b D) : hpI h D c e (s ||| 2 ^ b) (fun a' b' => A a' b' ∨ (a' = a ∧ b' = b)) := by
  have hs : ∀ x, bt s x → bt (s ||| 2 ^ b) x := fun x hx => bt_or.mpr (Or.inl hx)
  refine ⟨⟨q.1.1, Nat.or_lt_two_pow (n := 8) q.1.2 (p2_le hb)⟩, hs _ q.2.1, fun x hx => hs x (q.2.2.1 x hx), fun x h8 hx => ?_, fun a' b' h1 h2 h3 h4 h5 => ?_⟩
  · rcases bt_or.mp hx with hx | hx
    · exact q.2.2.2.1 x h8 hx
    · have := bt_1.mp hx; subst this
      exact (q.2.2.2.1 a ha (q.2.2.1 a hn.1)).st ha hb hn.2.2
  · rcases h3 with h3 | ⟨rfl, rfl⟩
    · exact hs _ (q.2.2.2.2 a' b' h1 h2 h3 h4 h5)
    · exact bt_or.mpr (Or.inr (bt_1.mpr rfl))
theorem hpI.end {h : Nat → Nat → Int} {D c : Int} {e s : Nat} (q : hpI h D c e s (fun _ _ => True)) (he : s = e) : isHp h D c s := by
  subst he
  refine ⟨q.1.2, fun x hx => ⟨q.2.2.2.1 x hx, fun r => ?_⟩⟩
  exact r (fun x => bt s x) q.2.1 (fun a b h1 h2 h3 h4 => q.2.2.2.2 a b h1 h2 trivial h3 h4)
set_option maxHeartbeats 4000000 in
set_option maxRecDepth 100000 in
theorem r_heap (g : GH) (c D : Int) (hM : MR g) (hV : MV g.2.1) : AMet mX12_heap g [vA 1000, vI c, vI D] (fun r g' => (((0 ≤ c ∧ c ≤ 7) ∧ (0 ≤ D ∧ D ≤ 999)) ∧ (∃ z : Nat, r = vI (z : Int) ∧ isHp (gI g 1000 0 0).2.1 D c z) ∧ g' = gI g 1000 0 0) ∨ (¬ ((0 ≤ c ∧ c ≤ 7) ∧ (0 ≤ D ∧ D ≤ 999)) ∧ r = vI (-1) ∧ g' = gI g 1000 0 0)) := by
  refine AMet.of [vA 1000, vI c, vI D, none, none, none, none, none] (by decide) rfl (Nat.le_of_ble_eq_true rfl) ?_
  refine a_aload_n 1 dX12_heap_0 rfl rfl ?_
  refine a_iconst (z := 0) 2 dX12_heap_1 rfl (zrl rfl) rfl ?_
  refine a_putI 5 dX12_heap_2 fX12_80 (Or.inl rfl) hM.1 (Or.inl rfl) rfl ?_
  have hM : MR (gI g 1000 0 0) := hM
  have hV : MV (gI g 1000 0 0).2.1 := MV_th hV
  have hc := hV.1
  unfold MVc at hc
  generalize gI g 1000 0 0 = g1 at hM hV hc ⊢
  refine a_iload_n 6 dX12_heap_5 rfl rfl ?_
  refine a_callS 9 (r_isCover _ _) cdX12_isCover lX12_104 dX12_heap_6 rfl rfl ⟨by decide, by decide, rfl, rfl⟩ ⟨Nat.zero_le _, Nat.zero_le _⟩ (Nat.le_of_ble_eq_true rfl) rfl ?_
  rintro _ _ - ⟨b6, rfl, rfl, h6⟩ -
  refine a_if_eq 19 12 dX12_heap_9 (by decide) rfl (fun c9 => ?_) (fun c9 => ?_)
  · skip
    refine a_iconst (z := (-1)) 20 dX12_heap_19 rfl (zrl rfl) rfl ?_
    refine a_ireturn dX12_heap_20 rfl ⟨Nat.zero_le _, Nat.zero_le _⟩ ?_
    exact Or.inr ⟨by omega, rfl, rfl⟩
  · skip
    refine a_iload_n 13 dX12_heap_12 rfl rfl ?_
    refine a_callS 16 (r_isDay _ _) cdX12_isDay lX12_95 dX12_heap_13 rfl rfl ⟨by decide, by decide, rfl, rfl⟩ ⟨Nat.zero_le _, Nat.zero_le _⟩ (Nat.le_of_ble_eq_true rfl) rfl ?_
    rintro _ _ - ⟨b13, rfl, rfl, h13⟩ -
    refine a_if_ne 21 19 dX12_heap_16 (by decide) rfl (fun c16 => ?_) (fun c16 => ?_)
    · skip
      obtain ⟨c, rfl⟩ : ∃ k : Nat, c = k := ⟨c.toNat, by omega⟩
      have hp2 := p2_le (x := c) (n := 8) (by omega)
      have hp2i : ((2 : Int) ^ c) < 256 := by exact_mod_cast hp2
      refine a_iconst (z := 1) 22 dX12_heap_21 rfl (zrl rfl) rfl ?_
      refine a_iload_n 23 dX12_heap_22 rfl rfl ?_
      refine a_ishl _ 24 dX12_heap_23 (v_shl (by omega) (by omega) (by omega) (by rw [Int.toNat_natCast]; omega)) rfl ?_
      refine a_istore_n 25 dX12_heap_24 (by decide) rfl rfl ?_
      rw [show (1 : Int) * 2 ^ ((c : Int)).toNat = ((2 ^ c : Nat) : Int) by rw [Int.toNat_natCast]; norm_cast; omega]
      have hI0 : hpI g1.2.1 D (c : Int) 0 (2 ^ c) (fun _ _ => True) := by
        refine ⟨⟨by decide, hp2⟩, by rw [Int.toNat_natCast]; exact bt_1.mpr rfl, fun x hx => absurd hx bt_0, fun x h8 hx => ?_, fun a b h1 h2 h3 h4 => absurd h4 bt_0⟩
        have := bt_1.mp hx; subst this
        exact fun S h1 _ => by rw [Int.toNat_natCast] at h1; exact h1
      refine a_iconst (z := 0) 26 dX12_heap_25 rfl (zrl rfl) rfl ?_
      refine a_istore 28 dX12_heap_26 (by decide) rfl rfl ?_
      refine AW.loop (α := Nat × Nat) (fun p => 256 - p.1) (fun p => hpI g1.2.1 D (c : Int) p.1 p.2 (fun _ _ => True)) (fun p => g1) (fun p => [vA 1000, vI (c : Int), vI D, vI (p.2 : Int), vI (p.1 : Int), none, none, none]) (fun p => []) ?_ (0, 2 ^ c) ?_
      · rintro ⟨e, s⟩ hI ih28
        try dsimp only at hI ih ⊢
        try dsimp only at hI ih28 ⊢
        refine a_iload_n 29 dX12_heap_28 rfl rfl ?_
        refine a_iload 31 dX12_heap_29 rfl rfl ?_
        refine a_icmp_eq 127 34 dX12_heap_31 (by decide) rfl (fun c31 => ?_) (fun c31 => ?_)
        · skip
          refine a_iload_n 128 dX12_heap_127 rfl rfl ?_
          refine a_ireturn dX12_heap_128 rfl ⟨Nat.zero_le _, Nat.zero_le _⟩ ?_
          exact Or.inl ⟨by omega, ⟨s, rfl, hI.end (by omega)⟩, rfl⟩
        · skip
          refine a_iload_n 35 dX12_heap_34 rfl rfl ?_
          refine a_istore 37 dX12_heap_35 (by decide) rfl rfl ?_
          refine a_iconst (z := 0) 38 dX12_heap_37 rfl (zrl rfl) rfl ?_
          refine a_istore 40 dX12_heap_38 (by decide) rfl rfl ?_
          refine AW.loop (α := Nat × Nat) (fun p => 8 - p.2) (fun p => p.2 ≤ 8 ∧ hpI g1.2.1 D (c : Int) s p.1 (fun a _ => a < p.2)) (fun p => g1) (fun p => [vA 1000, vI (c : Int), vI D, vI (p.1 : Int), vI (s : Int), vI (p.2 : Int), none, none]) (fun p => []) ?_ (s, 0) ?_
          · rintro ⟨t, a⟩ ⟨ha8, hJ⟩ ih40
            try dsimp only at hI ih ⊢
            try dsimp only at ha8 hJ ih40 ⊢
            refine a_iload 42 dX12_heap_40 rfl rfl ?_
            refine a_bipush (z := 8) 44 dX12_heap_42 rfl (zrl rfl) rfl ?_
            refine a_icmp_ge 124 47 dX12_heap_44 (by decide) rfl (fun c44 => ?_) (fun c44 => ?_)
            · skip
              refine a_goto 28 dX12_heap_124 (by decide) ?_
              refine AW.kill 5 (AW.kill 6 (AW.kill 7 ?_))
              have hle := bt_le hI.2.2.1
              refine ih28 (s, t) (hJ.mono (fun a' b' h1 h2 _ => by omega)) ?_
              have := hI.1
              dsimp only; omega
            · skip
              refine a_iconst (z := 0) 48 dX12_heap_47 rfl (zrl rfl) rfl ?_
              refine a_istore 50 dX12_heap_48 (by decide) rfl rfl ?_
              refine AW.loop (α := Nat × Nat) (fun p => 8 - p.2) (fun p => p.2 ≤ 8 ∧ hpI g1.2.1 D (c : Int) s p.1 (fun a1 b1 => a1 < a ∨ (a1 = a ∧ b1 < p.2))) (fun p => g1) (fun p => [vA 1000, vI (c : Int), vI D, vI (p.1 : Int), vI (s : Int), vI (a : Int), vI (p.2 : Int), none]) (fun p => []) ?_ (t, 0) ?_
              · rintro ⟨u, b⟩ ⟨hb8, hK⟩ ih50
                try dsimp only at hI ih ⊢
                try dsimp only at hb8 hK ih50 ⊢
                refine a_iload 52 dX12_heap_50 rfl rfl ?_
                refine a_bipush (z := 8) 54 dX12_heap_52 rfl (zrl rfl) rfl ?_
                refine a_icmp_ge 118 57 dX12_heap_54 (by decide) rfl (fun c54 => ?_) (fun c54 => ?_)
                · skip
                  refine a_iinc 121 dX12_heap_118 rfl (by unfold zr; omega) (by decide) rfl rfl ?_
                  refine a_goto 40 dX12_heap_121 (by decide) ?_
                  refine AW.kill 6 (AW.kill 7 ?_)
                  exact ih40 (u, a + 1) ⟨by dsimp only; omega, hK.mono (fun a' b' h1 h2 h3 => by dsimp only at h3; omega)⟩ (by dsimp only; omega)
                · skip
                  refine AW.cut (J := 94) (P := fun z => isb z (bt s a ∧ ¬ bt u b ∧ mailB g1.2.1 a b D)) ?_ (fun J94 => ?_)
                  · intro z94 h94
                    refine a_istore 96 dX12_heap_94 (by decide) rfl rfl ?_
                    refine a_iload_n 97 dX12_heap_96 rfl rfl ?_
                    refine AW.cut (J := 110) (P := fun z => (z94 ≠ 0 → z = 2 ^ ((b : Int)).toNat) ∧ (z94 = 0 → z = 0)) ?_ (fun J110 => ?_)
                    · intro z110 h110
                      have hb2i : ((2 : Int) ^ ((b : Int)).toNat) < 256 := by rw [Int.toNat_natCast]; exact_mod_cast p2_le (x := b) (n := 8) (by omega)
                      have hb2p : 0 < ((2 : Int) ^ ((b : Int)).toNat) := Int.pow_pos (by decide)
                      have hz110 : 0 ≤ z110 := by rcases h94 with q | q
                                                  · rw [h110.1 (by omega)]; omega
                                                  · rw [h110.2 q.1]; exact Int.le_refl _
                      refine a_ior _ 111 dX12_heap_110 (v_or (by omega) (by omega)) rfl ?_
                      refine a_istore_n 112 dX12_heap_111 (by decide) rfl rfl ?_
                      refine a_iinc 115 dX12_heap_112 rfl (by unfold zr; omega) (by decide) rfl rfl ?_
                      refine a_goto 50 dX12_heap_115 (by decide) ?_
                      refine AW.kill 7 ?_
                      have hq : hpI g1.2.1 D (c : Int) s ((u : Int).toNat ||| z110.toNat) (fun a1 b1 => (a1 < a ∨ (a1 = a ∧ b1 < b)) ∨ (a1 = a ∧ b1 = b)) := by
                        rw [Int.toNat_natCast]
                        by_cases e9 : z94 = 0
                        · rw [h110.2 e9]
                          rw [show u ||| (0 : Int).toNat = u by simp]
                          exact hK.no (isN h94 e9)
                        · rw [h110.1 e9, show ((2 : Int) ^ ((b : Int)).toNat).toNat = 2 ^ b by rw [Int.toNat_natCast]; norm_cast]
                          exact hK.yes (by omega) (by omega) (isT h94 e9)
                      exact ih50 (_, b + 1) ⟨by dsimp only; omega, hq.mono (fun a1 b1 h1 h2 h3 => by dsimp only at h3; omega)⟩ (by dsimp only; omega)
                    · skip
                      refine a_iload 99 dX12_heap_97 rfl rfl ?_
                      refine a_if_eq 109 102 dX12_heap_99 (by decide) rfl (fun c99 => ?_) (fun c99 => ?_)
                      · skip
                        refine a_iconst (z := 0) 110 dX12_heap_109 rfl (zrl rfl) rfl ?_
                        exact J110 _ (by
                          first
                          | exact ⟨fun _ => by omega, fun q => absurd q c99⟩
                          | exact ⟨fun q => absurd c99 q, fun _ => rfl⟩)
                      · skip
                        refine a_iconst (z := 1) 103 dX12_heap_102 rfl (zrl rfl) rfl ?_
                        refine a_iload 105 dX12_heap_103 rfl rfl ?_
                        refine a_ishl _ 106 dX12_heap_105 (v_shl (by omega) (by omega) (by omega) (by have : ((2 : Int) ^ ((b : Int)).toNat) < 256 := (by rw [Int.toNat_natCast]; exact_mod_cast p2_le (x := b) (n := 8) (by omega)); omega)) rfl ?_
                        refine a_goto 110 dX12_heap_106 (by decide) ?_
                        exact J110 _ (by
                          first
                          | exact ⟨fun _ => by omega, fun q => absurd q c99⟩
                          | exact ⟨fun q => absurd c99 q, fun _ => rfl⟩)
                  · skip
                    refine a_iload 59 dX12_heap_57 rfl rfl ?_
                    refine a_iload 61 dX12_heap_59 rfl rfl ?_
                    refine a_ishr _ 62 dX12_heap_61 (v_shr (by omega) (by omega) (by omega)) rfl ?_
                    refine a_iconst (z := 1) 63 dX12_heap_62 rfl (zrl rfl) rfl ?_
                    refine a_iand _ 64 dX12_heap_63 v_and1 rfl ?_
                    refine a_iconst (z := 1) 65 dX12_heap_64 rfl (zrl rfl) rfl ?_
                    refine a_icmp_ne 93 68 dX12_heap_65 (by decide) rfl (fun c65 => ?_) (fun c65 => ?_)
                    · skip
                      refine a_iconst (z := 0) 94 dX12_heap_93 rfl (zrl rfl) rfl ?_
                      exact J94 _ (by
                        first
                        | exact Or.inl ⟨rfl, bt_z.mp c65, bt_z0.mp c74, isT h83 c86⟩
                        | exact Or.inr ⟨rfl, fun q => isN h83 c86 q.2.2⟩
                        | exact Or.inr ⟨rfl, fun q => c74 (bt_z0.mpr q.2.1)⟩
                        | exact Or.inr ⟨rfl, fun q => c65 (bt_z.mpr q.1)⟩)
                    · skip
                      refine a_iload_n 69 dX12_heap_68 rfl rfl ?_
                      refine a_iload 71 dX12_heap_69 rfl rfl ?_
                      refine a_ishr _ 72 dX12_heap_71 (v_shr (by omega) (by omega) (by omega)) rfl ?_
                      refine a_iconst (z := 1) 73 dX12_heap_72 rfl (zrl rfl) rfl ?_
                      refine a_iand _ 74 dX12_heap_73 v_and1 rfl ?_
                      refine a_if_ne 93 77 dX12_heap_74 (by decide) rfl (fun c74 => ?_) (fun c74 => ?_)
                      · skip
                        refine a_iconst (z := 0) 94 dX12_heap_93 rfl (zrl rfl) rfl ?_
                        exact J94 _ (by
                          first
                          | exact Or.inl ⟨rfl, bt_z.mp c65, bt_z0.mp c74, isT h83 c86⟩
                          | exact Or.inr ⟨rfl, fun q => isN h83 c86 q.2.2⟩
                          | exact Or.inr ⟨rfl, fun q => c74 (bt_z0.mpr q.2.1)⟩
                          | exact Or.inr ⟨rfl, fun q => c65 (bt_z.mpr q.1)⟩)
                      · skip
                        refine a_aload_n 78 dX12_heap_77 rfl rfl ?_
                        refine a_iload 80 dX12_heap_78 rfl rfl ?_
                        refine a_iload 82 dX12_heap_80 rfl rfl ?_
                        refine a_iload_n 83 dX12_heap_82 rfl rfl ?_
                        refine a_callV 86 (r_isMail _ _ _ _ hM hV) cdX12_isMail lX12_243 dX12_heap_83 rfl hM.1 rfl ⟨by decide, by decide, rfl, rfl⟩ ⟨Nat.zero_le _, Nat.zero_le _⟩ (Nat.le_of_ble_eq_true rfl) rfl ?_
                        rintro _ _ - ⟨b83, rfl, rfl, h83⟩ -
                        refine a_if_eq 93 89 dX12_heap_86 (by decide) rfl (fun c86 => ?_) (fun c86 => ?_)
                        · skip
                          refine a_iconst (z := 0) 94 dX12_heap_93 rfl (zrl rfl) rfl ?_
                          exact J94 _ (by
                            first
                            | exact Or.inl ⟨rfl, bt_z.mp c65, bt_z0.mp c74, isT h83 c86⟩
                            | exact Or.inr ⟨rfl, fun q => isN h83 c86 q.2.2⟩
                            | exact Or.inr ⟨rfl, fun q => c74 (bt_z0.mpr q.2.1)⟩
                            | exact Or.inr ⟨rfl, fun q => c65 (bt_z.mpr q.1)⟩)
                        · skip
                          refine a_iconst (z := 1) 90 dX12_heap_89 rfl (zrl rfl) rfl ?_
                          refine a_goto 94 dX12_heap_90 (by decide) ?_
                          exact J94 _ (by
                            first
                            | exact Or.inl ⟨rfl, bt_z.mp c65, bt_z0.mp c74, isT h83 c86⟩
                            | exact Or.inr ⟨rfl, fun q => isN h83 c86 q.2.2⟩
                            | exact Or.inr ⟨rfl, fun q => c74 (bt_z0.mpr q.2.1)⟩
                            | exact Or.inr ⟨rfl, fun q => c65 (bt_z.mpr q.1)⟩)
              · exact ⟨Nat.zero_le _, hJ.mono (fun a1 b1 h1 h2 h3 => by dsimp only at h3; omega)⟩
          · exact ⟨Nat.zero_le _, ⟨⟨hI.1.2, hI.1.2⟩, hI.2.1, fun x hx => hx, hI.2.2.2.1, fun a b h1 h2 h3 => absurd h3 (Nat.not_lt_zero _)⟩⟩
      · exact hI0
    · skip
      refine a_iconst (z := (-1)) 20 dX12_heap_19 rfl (zrl rfl) rfl ?_
      refine a_ireturn dX12_heap_20 rfl ⟨Nat.zero_le _, Nat.zero_le _⟩ ?_
      exact Or.inr ⟨by omega, rfl, rfl⟩
