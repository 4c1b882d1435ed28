theorem v_shr16 {x : Int} (h0 : 0 ≤ x) : zr x → zr 16 → (Int32.ofInt x >>> (Int32.ofInt 16 &&& 31)) = Int32.ofInt (x / 65536) ∧ zr (x / 65536) := v_shr h0 (by decide) (by decide)
theorem v_shr8 {x : Int} (h0 : 0 ≤ x) : zr x → zr 8 → (Int32.ofInt x >>> (Int32.ofInt 8 &&& 31)) = Int32.ofInt (x / 256) ∧ zr (x / 256) := v_shr h0 (by decide) (by decide)
def figI (b : Int) : Int := if b = 63 then -1 else b - 48
abbrev isF (b : Int) : Prop := b = 63 ∨ (48 ≤ b ∧ b ≤ 57)
/-- 1 if P, else 0 -/
noncomputable def ci (P : Prop) : Int := @ite Int P (Classical.propDecidable P) 1 0
theorem ci_t {P : Prop} (h : P) : ci P = 1 := if_pos h
theorem ci_f {P : Prop} (h : ¬ P) : ci P = 0 := if_neg h
theorem ci_isb {b : Int} {P : Prop} (h : isb b P) : b = ci P := by
  rcases h with ⟨h1, h2⟩ | ⟨h1, h2⟩
  · rw [ci_t h2, h1]
  · rw [ci_f h2, h1]
theorem ci1 {b : Int} {P : Prop} (h : isb b P) (hb : b ≠ 0) : (1 : Int) = ci P := by rcases h with ⟨h1, h2⟩ | ⟨h1, h2⟩; exact (ci_t h2).symm; exact absurd h1 hb
theorem ci0 {b : Int} {P : Prop} (h : isb b P) (hb : b = 0) : (0 : Int) = ci P := by rcases h with ⟨h1, h2⟩ | ⟨h1, h2⟩; exact absurd (h1.symm.trans hb) (by decide); exact (ci_f h2).symm
theorem ci_01 (P : Prop) : ci P = 0 ∨ ci P = 1 := by
  by_cases h : P
  · right; exact ci_t h
  · left; exact ci_f h
/-- how many of 0 .. n-1 -/
noncomputable def cnt (P : Int → Prop) : Nat → Int
  | 0 => 0
  | n + 1 => cnt P n + ci (P n)
theorem cnt_le (P : Int → Prop) : ∀ n : Nat, 0 ≤ cnt P n ∧ cnt P n ≤ n
  | 0 => ⟨Int.le_refl _, Int.le_refl _⟩
  | n + 1 => by have := cnt_le P n; have := ci_01 (P n); simp only [cnt]; omega
/-- the first, the last of 0 .. n-1; -9 -/
noncomputable def fstU (P : Int → Prop) : Nat → Int
  | 0 => -9
  | n + 1 => @ite Int (P n ∧ fstU P n = -9) (Classical.propDecidable _) n (fstU P n)
noncomputable def lstU (P : Int → Prop) : Nat → Int
  | 0 => -9
  | n + 1 => @ite Int (P n) (Classical.propDecidable _) n (lstU P n)
theorem fstU_s (P : Int → Prop) (n : Nat) : (P n ∧ fstU P n = -9 → fstU P (n + 1) = n) ∧ (¬ (P n ∧ fstU P n = -9) → fstU P (n + 1) = fstU P n) := ⟨fun h => if_pos h, fun h => if_neg h⟩
theorem lstU_s (P : Int → Prop) (n : Nat) : (P n → lstU P (n + 1) = n) ∧ (¬ P n → lstU P (n + 1) = lstU P n) := ⟨fun h => if_pos h, fun h => if_neg h⟩
theorem fstU_le (P : Int → Prop) : ∀ n : Nat, -9 ≤ fstU P n ∧ fstU P n < n
  | 0 => by simp [fstU]
  | n + 1 => by
    have h := fstU_le P n; have h2 := fstU_s P n
    by_cases q : P n ∧ fstU P n = -9
    · rw [h2.1 q]; omega
    · rw [h2.2 q]; omega
theorem lstU_le (P : Int → Prop) : ∀ n : Nat, -9 ≤ lstU P n ∧ lstU P n < n
  | 0 => by simp [lstU]
  | n + 1 => by
    have h := lstU_le P n; have h2 := lstU_s P n
    by_cases q : P n
    · rw [h2.1 q]; omega
    · rw [h2.2 q]; omega
abbrev isOfB (h : Nat → Nat → Int) (c d m : Int) : Prop := h 1014 (10 * m).toNat = c ∧ h 1014 (10 * m + 9).toNat ≤ d
/-- the bits of x, k of them, together -/
def onesU (x : Int) : Nat → Int
  | 0 => 0
  | n + 1 => onesU x n + x / 2 ^ n % 2
theorem onesU_le (x : Int) : ∀ n : Nat, 0 ≤ onesU x n ∧ onesU x n ≤ n
  | 0 => ⟨Int.le_refl _, Int.le_refl _⟩
  | n + 1 => by have := onesU_le x n; simp only [onesU]; omega
/-- lean -/
def rdI (b : Int) : Int := if b < 0 then 0 else 4
def lean0 (h : Nat → Nat → Int) (m : Int) : Int := 10 + (if h 1014 (10 * m + 2).toNat = -9 then 0 else 5)
def lean1 (h : Nat → Nat → Int) (m : Int) : Int := lean0 h m + rdI (h 1014 (10 * m + 5 + 0).toNat) + rdI (h 1014 (10 * m + 5 + (0 + 1)).toNat) + rdI (h 1014 (10 * m + 5 + (0 + 1 + 1)).toNat)
def leanV (h : Nat → Nat → Int) (k m : Int) : Int := if k = 1 then lean1 h m else if k = 2 then lean0 h m + (if h 1014 (10 * m + 8).toNat = -9 then 0 else 7) else if k = 3 then lean1 h m + lean1 h m / 3 else if k = 4 then lean0 h m + h 1014 (10 * m + 3).toNat else if k = 5 then lean0 h m / 2 else lean0 h m
def leanT (k : Int) (t : Int64) : Int64 := if k = 1 then t + 1 + 10 else if k = 2 then t + 1 + 100 else if k = 3 then t + 1 + 10 + 1000 else if k = 4 then t + 1 + 10000 else if k = 5 then t + 1 + 100000 else t + 1
theorem u2_u2 {α : Type} (f : Nat → Nat → α) (a k : Nat) (v w : α) : u2 (u2 f a k v) a k w = u2 f a k w := by
  funext a' k'; unfold u2; split <;> rfl
theorem gL_gL (g : GH) (a k : Nat) (v w : Int64) : gL (gL g a k v) a k w = gL g a k w := by
  unfold gL; simp only [u2_u2]
theorem gI_gI (g : GH) (a k : Nat) (v w : Int) : gI (gI g a k v) a k w = gI g a k w := by
  unfold gI; simp only [u2_u2]
set_option maxHeartbeats 4000000 in
set_option maxRecDepth 100000 in
theorem r_mark (g : GH) (c k e i n d s l : Int) (hM : MR g) (hV : MV g.2.1) : AMet mX12_mark g [vA 1000, vI c, vI k, vI e, vI i, vI n, vI d, vI s, vI l] (fun r g' => (((0 ≤ c ∧ c ≤ 7) ∧ (0 ≤ k ∧ k ≤ 5) ∧ (e = -9 ∨ (0 ≤ e ∧ e < (gI g 1000 0 0).2.1 1000 7)) ∧ (0 ≤ i ∧ i ≤ 3) ∧ (n = -9 ∨ (0 ≤ n ∧ n ≤ 1)) ∧ (0 ≤ d ∧ d ≤ 16777215) ∧ isF (d / 65536) ∧ isF (d / 256 % 256) ∧ isF (d % 256) ∧ (s = -9 ∨ (0 ≤ s ∧ s ≤ 999)) ∧ (0 ≤ l ∧ l ≤ 999)) ∧ (gI g 1000 0 0).2.1 1000 13 ≠ 40 ∧ r = vI ((gI g 1000 0 0).2.1 1000 13) ∧ g' = gI (gI (gI (gI (gI (gI (gI (gI (gI (gI (gI (gI g 1000 0 0) 1014 (10 * (gI g 1000 0 0).2.1 1000 13).toNat c) 1014 (10 * (gI g 1000 0 0).2.1 1000 13 + 1).toNat k) 1014 (10 * (gI g 1000 0 0).2.1 1000 13 + 2).toNat e) 1014 (10 * (gI g 1000 0 0).2.1 1000 13 + 3).toNat i) 1014 (10 * (gI g 1000 0 0).2.1 1000 13 + 4).toNat n) 1014 (10 * (gI g 1000 0 0).2.1 1000 13 + 5 + (0)).toNat (figI (d / 2 ^ (16 - 8 * (0) : Int).toNat % 256))) 1014 (10 * (gI g 1000 0 0).2.1 1000 13 + 5 + (0 + 1)).toNat (figI (d / 2 ^ (16 - 8 * (0 + 1) : Int).toNat % 256))) 1014 (10 * (gI g 1000 0 0).2.1 1000 13 + 5 + (0 + 1 + 1)).toNat (figI (d / 2 ^ (16 - 8 * (0 + 1 + 1) : Int).toNat % 256))) 1014 (10 * (gI g 1000 0 0).2.1 1000 13 + 8).toNat s) 1014 (10 * (gI g 1000 0 0).2.1 1000 13 + 9).toNat l) 1000 13 ((gI g 1000 0 0).2.1 1000 13 + 1)) ∨ (((0 ≤ c ∧ c ≤ 7) ∧ (0 ≤ k ∧ k ≤ 5) ∧ (e = -9 ∨ (0 ≤ e ∧ e < (gI g 1000 0 0).2.1 1000 7)) ∧ (0 ≤ i ∧ i ≤ 3) ∧ (n = -9 ∨ (0 ≤ n ∧ n ≤ 1)) ∧ (0 ≤ d ∧ d ≤ 16777215) ∧ isF (d / 65536) ∧ isF (d / 256 % 256) ∧ isF (d % 256) ∧ (s = -9 ∨ (0 ≤ s ∧ s ≤ 999)) ∧ (0 ≤ l ∧ l ≤ 999)) ∧ (gI g 1000 0 0).2.1 1000 13 = 40 ∧ r = vI (-3) ∧ g' = gI g 1000 0 0) ∨ (¬ ((0 ≤ c ∧ c ≤ 7) ∧ (0 ≤ k ∧ k ≤ 5) ∧ (e = -9 ∨ (0 ≤ e ∧ e < (gI g 1000 0 0).2.1 1000 7)) ∧ (0 ≤ i ∧ i ≤ 3) ∧ (n = -9 ∨ (0 ≤ n ∧ n ≤ 1)) ∧ (0 ≤ d ∧ d ≤ 16777215) ∧ isF (d / 65536) ∧ isF (d / 256 % 256) ∧ isF (d % 256) ∧ (s = -9 ∨ (0 ≤ s ∧ s ≤ 999)) ∧ (0 ≤ l ∧ l ≤ 999)) ∧ r = vI (-1) ∧ g' = gI g 1000 0 0)) := by
  refine AMet.of [vA 1000, vI c, vI k, vI e, vI i, vI n, vI d, vI s, vI l, none, none, none] (by decide) rfl (Nat.le_of_ble_eq_true rfl) ?_
  refine a_aload_n 1 dX12_mark_0 rfl rfl ?_
  refine a_iconst (z := 0) 2 dX12_mark_1 rfl (zrl rfl) rfl ?_
  refine a_putI 5 dX12_mark_2 fX12_80 (Or.inl rfl) hM.1 (Or.inl rfl) rfl ?_
  have hM : MR (gI g 1000 0 0) := hM
  have hV : MV (gI g 1000 0 0).2.1 := MV_th hV
  have hc := hV.1
  unfold MVc at hc
  generalize gI g 1000 0 0 = g1 at hM hV hc ⊢
  refine a_iload_n 6 dX12_mark_5 rfl rfl ?_
  refine a_callS 9 (r_isCover _ _) cdX12_isCover lX12_104 dX12_mark_6 rfl rfl ⟨by decide, by decide, rfl, rfl⟩ ⟨Nat.zero_le _, Nat.zero_le _⟩ (Nat.le_of_ble_eq_true rfl) rfl ?_
  rintro _ _ - ⟨b6, rfl, rfl, h6⟩ -
  refine a_if_eq 144 12 dX12_mark_9 (by decide) rfl (fun c9 => ?_) (fun c9 => ?_)
  · skip
    refine a_iconst (z := (-1)) 145 dX12_mark_144 rfl (zrl rfl) rfl ?_
    refine a_ireturn dX12_mark_145 rfl ⟨Nat.zero_le _, Nat.zero_le _⟩ ?_
    first | exact Or.inr (Or.inr ⟨by omega, rfl, rfl⟩) | exact Or.inr (Or.inl ⟨by omega, by omega, rfl, rfl⟩) | exact Or.inl ⟨by omega, by omega, congrArg vI (by omega), rfl⟩
  · skip
    refine a_iload_n 13 dX12_mark_12 rfl rfl ?_
    refine a_iconst (z := 0) 14 dX12_mark_13 rfl (zrl rfl) rfl ?_
    refine a_iconst (z := 5) 15 dX12_mark_14 rfl (zrl rfl) rfl ?_
    refine a_callS 18 (r_in _ _ _ _) cdX12_in lX12_84 dX12_mark_15 rfl rfl ⟨by decide, by decide, rfl, rfl⟩ ⟨Nat.zero_le _, Nat.zero_le _⟩ (Nat.le_of_ble_eq_true rfl) rfl ?_
    rintro _ _ - ⟨b15, rfl, rfl, h15⟩ -
    refine a_if_eq 144 21 dX12_mark_18 (by decide) rfl (fun c18 => ?_) (fun c18 => ?_)
    · skip
      refine a_iconst (z := (-1)) 145 dX12_mark_144 rfl (zrl rfl) rfl ?_
      refine a_ireturn dX12_mark_145 rfl ⟨Nat.zero_le _, Nat.zero_le _⟩ ?_
      first | exact Or.inr (Or.inr ⟨by omega, rfl, rfl⟩) | exact Or.inr (Or.inl ⟨by omega, by omega, rfl, rfl⟩) | exact Or.inl ⟨by omega, by omega, congrArg vI (by omega), rfl⟩
    · skip
      refine AW.cut0 (J := 41) (P := e = -9 ∨ (0 ≤ e ∧ e < g1.2.1 1000 7)) ?_ (fun J41 => ?_)
      · intro h41
        refine a_iload 43 dX12_mark_41 rfl rfl ?_
        refine a_iconst (z := 0) 44 dX12_mark_43 rfl (zrl rfl) rfl ?_
        refine a_iconst (z := 3) 45 dX12_mark_44 rfl (zrl rfl) rfl ?_
        refine a_callS 48 (r_in _ _ _ _) cdX12_in lX12_84 dX12_mark_45 rfl rfl ⟨by decide, by decide, rfl, rfl⟩ ⟨Nat.zero_le _, Nat.zero_le _⟩ (Nat.le_of_ble_eq_true rfl) rfl ?_
        rintro _ _ - ⟨b45, rfl, rfl, h45⟩ -
        refine a_if_eq 144 51 dX12_mark_48 (by decide) rfl (fun c48 => ?_) (fun c48 => ?_)
        · skip
          refine a_iconst (z := (-1)) 145 dX12_mark_144 rfl (zrl rfl) rfl ?_
          refine a_ireturn dX12_mark_145 rfl ⟨Nat.zero_le _, Nat.zero_le _⟩ ?_
          first | exact Or.inr (Or.inr ⟨by omega, rfl, rfl⟩) | exact Or.inr (Or.inl ⟨by omega, by omega, rfl, rfl⟩) | exact Or.inl ⟨by omega, by omega, congrArg vI (by omega), rfl⟩
        · skip
          refine AW.cut0 (J := 68) (P := n = -9 ∨ (0 ≤ n ∧ n ≤ 1)) ?_ (fun J68 => ?_)
          · intro h68
            refine a_iload 70 dX12_mark_68 rfl rfl ?_
            refine a_iconst (z := 0) 71 dX12_mark_70 rfl (zrl rfl) rfl ?_
            refine a_ldc 73 dX12_mark_71 kX12_107 (zrl rfl) rfl ?_
            refine a_callS 76 (r_in _ _ _ _) cdX12_in lX12_84 dX12_mark_73 rfl rfl ⟨by decide, by decide, rfl, rfl⟩ ⟨Nat.zero_le _, Nat.zero_le _⟩ (Nat.le_of_ble_eq_true rfl) rfl ?_
            rintro _ _ - ⟨b73, rfl, rfl, h73⟩ -
            refine a_if_eq 144 79 dX12_mark_76 (by decide) rfl (fun c76 => ?_) (fun c76 => ?_)
            · skip
              refine a_iconst (z := (-1)) 145 dX12_mark_144 rfl (zrl rfl) rfl ?_
              refine a_ireturn dX12_mark_145 rfl ⟨Nat.zero_le _, Nat.zero_le _⟩ ?_
              first | exact Or.inr (Or.inr ⟨by omega, rfl, rfl⟩) | exact Or.inr (Or.inl ⟨by omega, by omega, rfl, rfl⟩) | exact Or.inl ⟨by omega, by omega, congrArg vI (by omega), rfl⟩
            · skip
              refine a_iload 81 dX12_mark_79 rfl rfl ?_
              refine a_bipush (z := 16) 83 dX12_mark_81 rfl (zrl rfl) rfl ?_
              refine a_ishr _ 84 dX12_mark_83 (v_shr16 (by omega)) rfl ?_
              refine a_callS 87 (r_isFigure _ _) cdX12_isFigure lX12_108 dX12_mark_84 rfl rfl ⟨by decide, by decide, rfl, rfl⟩ ⟨Nat.zero_le _, Nat.zero_le _⟩ (Nat.le_of_ble_eq_true rfl) rfl ?_
              rintro _ _ - ⟨b84, rfl, rfl, h84⟩ -
              refine a_if_eq 144 90 dX12_mark_87 (by decide) rfl (fun c87 => ?_) (fun c87 => ?_)
              · skip
                refine a_iconst (z := (-1)) 145 dX12_mark_144 rfl (zrl rfl) rfl ?_
                refine a_ireturn dX12_mark_145 rfl ⟨Nat.zero_le _, Nat.zero_le _⟩ ?_
                first | exact Or.inr (Or.inr ⟨by omega, rfl, rfl⟩) | exact Or.inr (Or.inl ⟨by omega, by omega, rfl, rfl⟩) | exact Or.inl ⟨by omega, by omega, congrArg vI (by omega), rfl⟩
              · skip
                refine a_iload 92 dX12_mark_90 rfl rfl ?_
                refine a_bipush (z := 8) 94 dX12_mark_92 rfl (zrl rfl) rfl ?_
                refine a_ishr _ 95 dX12_mark_94 (v_shr8 (by omega)) rfl ?_
                refine a_sipush (z := 255) 98 dX12_mark_95 rfl (zrl rfl) rfl ?_
                refine a_iand _ 99 dX12_mark_98 v_and255 rfl ?_
                refine a_callS 102 (r_isFigure _ _) cdX12_isFigure lX12_108 dX12_mark_99 rfl rfl ⟨by decide, by decide, rfl, rfl⟩ ⟨Nat.zero_le _, Nat.zero_le _⟩ (Nat.le_of_ble_eq_true rfl) rfl ?_
                rintro _ _ - ⟨b99, rfl, rfl, h99⟩ -
                refine a_if_eq 144 105 dX12_mark_102 (by decide) rfl (fun c102 => ?_) (fun c102 => ?_)
                · skip
                  refine a_iconst (z := (-1)) 145 dX12_mark_144 rfl (zrl rfl) rfl ?_
                  refine a_ireturn dX12_mark_145 rfl ⟨Nat.zero_le _, Nat.zero_le _⟩ ?_
                  first | exact Or.inr (Or.inr ⟨by omega, rfl, rfl⟩) | exact Or.inr (Or.inl ⟨by omega, by omega, rfl, rfl⟩) | exact Or.inl ⟨by omega, by omega, congrArg vI (by omega), rfl⟩
                · skip
                  refine a_iload 107 dX12_mark_105 rfl rfl ?_
                  refine a_sipush (z := 255) 110 dX12_mark_107 rfl (zrl rfl) rfl ?_
                  refine a_iand _ 111 dX12_mark_110 v_and255 rfl ?_
                  refine a_callS 114 (r_isFigure _ _) cdX12_isFigure lX12_108 dX12_mark_111 rfl rfl ⟨by decide, by decide, rfl, rfl⟩ ⟨Nat.zero_le _, Nat.zero_le _⟩ (Nat.le_of_ble_eq_true rfl) rfl ?_
                  rintro _ _ - ⟨b111, rfl, rfl, h111⟩ -
                  refine a_if_eq 144 117 dX12_mark_114 (by decide) rfl (fun c114 => ?_) (fun c114 => ?_)
                  · skip
                    refine a_iconst (z := (-1)) 145 dX12_mark_144 rfl (zrl rfl) rfl ?_
                    refine a_ireturn dX12_mark_145 rfl ⟨Nat.zero_le _, Nat.zero_le _⟩ ?_
                    first | exact Or.inr (Or.inr ⟨by omega, rfl, rfl⟩) | exact Or.inr (Or.inl ⟨by omega, by omega, rfl, rfl⟩) | exact Or.inl ⟨by omega, by omega, congrArg vI (by omega), rfl⟩
                  · skip
                    refine AW.cut0 (J := 136) (P := s = -9 ∨ (0 ≤ s ∧ s ≤ 999)) ?_ (fun J136 => ?_)
                    · intro h136
                      refine a_iload 138 dX12_mark_136 rfl rfl ?_
                      refine a_callS 141 (r_isDay _ _) cdX12_isDay lX12_95 dX12_mark_138 rfl rfl ⟨by decide, by decide, rfl, rfl⟩ ⟨Nat.zero_le _, Nat.zero_le _⟩ (Nat.le_of_ble_eq_true rfl) rfl ?_
                      rintro _ _ - ⟨b138, rfl, rfl, h138⟩ -
                      refine a_if_ne 146 144 dX12_mark_141 (by decide) rfl (fun c141 => ?_) (fun c141 => ?_)
                      · skip
                        refine a_aload_n 147 dX12_mark_146 rfl rfl ?_
                        refine a_getIz (g1.2.1 1000 13) 150 dX12_mark_147 fX12_88 hM.1 rfl rfl rfl ?_
                        refine a_bipush (z := 40) 152 dX12_mark_150 rfl (zrl rfl) rfl ?_
                        refine a_icmp_ne 158 155 dX12_mark_152 (by decide) rfl (fun c152 => ?_) (fun c152 => ?_)
                        · skip
                          refine a_bipush (z := 10) 160 dX12_mark_158 rfl (zrl rfl) rfl ?_
                          refine a_aload_n 161 dX12_mark_160 rfl rfl ?_
                          refine a_getIz (g1.2.1 1000 13) 164 dX12_mark_161 fX12_88 hM.1 rfl rfl rfl ?_
                          refine a_imul 165 dX12_mark_164 (by unfold zr; omega) rfl ?_
                          refine a_istore 167 dX12_mark_165 (by decide) rfl rfl ?_
                          refine a_aload_n 168 dX12_mark_167 rfl rfl ?_
                          refine a_getR 171 dX12_mark_168 fX12_37 hM.1 rfl (mr_14 hM).1 rfl ?_
                          refine a_iload 173 dX12_mark_171 rfl rfl ?_
                          refine a_iload_n 174 dX12_mark_173 rfl rfl ?_
                          refine a_iast 175 dX12_mark_174 (mr_14 hM).2 (by omega) (by omega) rfl ?_
                          refine a_aload_n 176 dX12_mark_175 rfl rfl ?_
                          refine a_getR 179 dX12_mark_176 fX12_37 hM.1 rfl (mr_14 hM).1 rfl ?_
                          refine a_iload 181 dX12_mark_179 rfl rfl ?_
                          refine a_iconst (z := 1) 182 dX12_mark_181 rfl (zrl rfl) rfl ?_
                          refine a_iadd 183 dX12_mark_182 (by unfold zr; omega) rfl ?_
                          refine a_iload_n 184 dX12_mark_183 rfl rfl ?_
                          refine a_iast 185 dX12_mark_184 (mr_14 hM).2 (by omega) (by omega) rfl ?_
                          refine a_aload_n 186 dX12_mark_185 rfl rfl ?_
                          refine a_getR 189 dX12_mark_186 fX12_37 hM.1 rfl (mr_14 hM).1 rfl ?_
                          refine a_iload 191 dX12_mark_189 rfl rfl ?_
                          refine a_iconst (z := 2) 192 dX12_mark_191 rfl (zrl rfl) rfl ?_
                          refine a_iadd 193 dX12_mark_192 (by unfold zr; omega) rfl ?_
                          refine a_iload_n 194 dX12_mark_193 rfl rfl ?_
                          refine a_iast 195 dX12_mark_194 (mr_14 hM).2 (by omega) (by omega) rfl ?_
                          refine a_aload_n 196 dX12_mark_195 rfl rfl ?_
                          refine a_getR 199 dX12_mark_196 fX12_37 hM.1 rfl (mr_14 hM).1 rfl ?_
                          refine a_iload 201 dX12_mark_199 rfl rfl ?_
                          refine a_iconst (z := 3) 202 dX12_mark_201 rfl (zrl rfl) rfl ?_
                          refine a_iadd 203 dX12_mark_202 (by unfold zr; omega) rfl ?_
                          refine a_iload 205 dX12_mark_203 rfl rfl ?_
                          refine a_iast 206 dX12_mark_205 (mr_14 hM).2 (by omega) (by omega) rfl ?_
                          refine a_aload_n 207 dX12_mark_206 rfl rfl ?_
                          refine a_getR 210 dX12_mark_207 fX12_37 hM.1 rfl (mr_14 hM).1 rfl ?_
                          refine a_iload 212 dX12_mark_210 rfl rfl ?_
                          refine a_iconst (z := 4) 213 dX12_mark_212 rfl (zrl rfl) rfl ?_
                          refine a_iadd 214 dX12_mark_213 (by unfold zr; omega) rfl ?_
                          refine a_iload 216 dX12_mark_214 rfl rfl ?_
                          refine a_iast 217 dX12_mark_216 (mr_14 hM).2 (by omega) (by omega) rfl ?_
                          refine a_iconst (z := 0) 218 dX12_mark_217 rfl (zrl rfl) rfl ?_
                          refine a_istore 220 dX12_mark_218 (by decide) rfl rfl ?_
                          refine a_iload 222 dX12_mark_220 rfl rfl ?_
                          refine a_iconst (z := 3) 223 dX12_mark_222 rfl (zrl rfl) rfl ?_
                          refine a_icmp_ge 277 226 dX12_mark_223 (by decide) rfl (fun c223 => ?_) (fun c223 => ?_)
                          · exfalso; omega
                          · skip
                            refine a_iload 228 dX12_mark_226 rfl rfl ?_
                            refine a_bipush (z := 16) 230 dX12_mark_228 rfl (zrl rfl) rfl ?_
                            refine a_bipush (z := 8) 232 dX12_mark_230 rfl (zrl rfl) rfl ?_
                            refine a_iload 234 dX12_mark_232 rfl rfl ?_
                            refine a_imul 235 dX12_mark_234 (by unfold zr; omega) rfl ?_
                            refine a_isub 236 dX12_mark_235 (by unfold zr; omega) rfl ?_
                            refine a_ishr _ 237 dX12_mark_236 (v_shr (by omega) (by omega) (by omega)) rfl ?_
                            refine a_sipush (z := 255) 240 dX12_mark_237 rfl (zrl rfl) rfl ?_
                            refine a_iand _ 241 dX12_mark_240 v_and255 rfl ?_
                            refine a_istore 243 dX12_mark_241 (by decide) rfl rfl ?_
                            refine a_aload_n 244 dX12_mark_243 rfl rfl ?_
                            refine a_getR 247 dX12_mark_244 fX12_37 hM.1 rfl (mr_14 hM).1 rfl ?_
                            refine a_iload 249 dX12_mark_247 rfl rfl ?_
                            refine a_iconst (z := 5) 250 dX12_mark_249 rfl (zrl rfl) rfl ?_
                            refine a_iadd 251 dX12_mark_250 (by unfold zr; omega) rfl ?_
                            refine a_iload 253 dX12_mark_251 rfl rfl ?_
                            refine a_iadd 254 dX12_mark_253 (by unfold zr; omega) rfl ?_
                            refine AW.cut (J := 270) (P := fun z => z = figI (d / 2 ^ (16 - 8 * (0) : Int).toNat % 256)) ?_ (fun J270 => ?_)
                            · intro z270 h270
                              subst h270
                              refine a_iast 271 dX12_mark_270 (mr_14 hM).2 (by omega) (by omega) rfl ?_
                              refine a_iinc 274 dX12_mark_271 rfl (by unfold zr; omega) (by decide) rfl rfl ?_
                              refine a_goto 220 dX12_mark_274 (by decide) ?_
                              refine a_iload 222 dX12_mark_220 rfl rfl ?_
                              refine a_iconst (z := 3) 223 dX12_mark_222 rfl (zrl rfl) rfl ?_
                              refine a_icmp_ge 277 226 dX12_mark_223 (by decide) rfl (fun c223 => ?_) (fun c223 => ?_)
                              · exfalso; omega
                              · skip
                                refine a_iload 228 dX12_mark_226 rfl rfl ?_
                                refine a_bipush (z := 16) 230 dX12_mark_228 rfl (zrl rfl) rfl ?_
                                refine a_bipush (z := 8) 232 dX12_mark_230 rfl (zrl rfl) rfl ?_
                                refine a_iload 234 dX12_mark_232 rfl rfl ?_
                                refine a_imul 235 dX12_mark_234 (by unfold zr; omega) rfl ?_
                                refine a_isub 236 dX12_mark_235 (by unfold zr; omega) rfl ?_
                                refine a_ishr _ 237 dX12_mark_236 (v_shr (by omega) (by omega) (by omega)) rfl ?_
                                refine a_sipush (z := 255) 240 dX12_mark_237 rfl (zrl rfl) rfl ?_
                                refine a_iand _ 241 dX12_mark_240 v_and255 rfl ?_
                                refine a_istore 243 dX12_mark_241 (by decide) rfl rfl ?_
                                refine a_aload_n 244 dX12_mark_243 rfl rfl ?_
                                refine a_getR 247 dX12_mark_244 fX12_37 hM.1 rfl (mr_14 hM).1 rfl ?_
                                refine a_iload 249 dX12_mark_247 rfl rfl ?_
                                refine a_iconst (z := 5) 250 dX12_mark_249 rfl (zrl rfl) rfl ?_
                                refine a_iadd 251 dX12_mark_250 (by unfold zr; omega) rfl ?_
                                refine a_iload 253 dX12_mark_251 rfl rfl ?_
                                refine a_iadd 254 dX12_mark_253 (by unfold zr; omega) rfl ?_
                                refine AW.cut (J := 270) (P := fun z => z = figI (d / 2 ^ (16 - 8 * (0 + 1) : Int).toNat % 256)) ?_ (fun J270 => ?_)
                                · intro z270 h270
                                  subst h270
                                  refine a_iast 271 dX12_mark_270 (mr_14 hM).2 (by omega) (by omega) rfl ?_
                                  refine a_iinc 274 dX12_mark_271 rfl (by unfold zr; omega) (by decide) rfl rfl ?_
                                  refine a_goto 220 dX12_mark_274 (by decide) ?_
                                  refine a_iload 222 dX12_mark_220 rfl rfl ?_
                                  refine a_iconst (z := 3) 223 dX12_mark_222 rfl (zrl rfl) rfl ?_
                                  refine a_icmp_ge 277 226 dX12_mark_223 (by decide) rfl (fun c223 => ?_) (fun c223 => ?_)
                                  · exfalso; omega
                                  · skip
                                    refine a_iload 228 dX12_mark_226 rfl rfl ?_
                                    refine a_bipush (z := 16) 230 dX12_mark_228 rfl (zrl rfl) rfl ?_
                                    refine a_bipush (z := 8) 232 dX12_mark_230 rfl (zrl rfl) rfl ?_
                                    refine a_iload 234 dX12_mark_232 rfl rfl ?_
                                    refine a_imul 235 dX12_mark_234 (by unfold zr; omega) rfl ?_
                                    refine a_isub 236 dX12_mark_235 (by unfold zr; omega) rfl ?_
                                    refine a_ishr _ 237 dX12_mark_236 (v_shr (by omega) (by omega) (by omega)) rfl ?_
                                    refine a_sipush (z := 255) 240 dX12_mark_237 rfl (zrl rfl) rfl ?_
                                    refine a_iand _ 241 dX12_mark_240 v_and255 rfl ?_
                                    refine a_istore 243 dX12_mark_241 (by decide) rfl rfl ?_
                                    refine a_aload_n 244 dX12_mark_243 rfl rfl ?_
                                    refine a_getR 247 dX12_mark_244 fX12_37 hM.1 rfl (mr_14 hM).1 rfl ?_
                                    refine a_iload 249 dX12_mark_247 rfl rfl ?_
                                    refine a_iconst (z := 5) 250 dX12_mark_249 rfl (zrl rfl) rfl ?_
                                    refine a_iadd 251 dX12_mark_250 (by unfold zr; omega) rfl ?_
                                    refine a_iload 253 dX12_mark_251 rfl rfl ?_
                                    refine a_iadd 254 dX12_mark_253 (by unfold zr; omega) rfl ?_
                                    refine AW.cut (J := 270) (P := fun z => z = figI (d / 2 ^ (16 - 8 * (0 + 1 + 1) : Int).toNat % 256)) ?_ (fun J270 => ?_)
                                    · intro z270 h270
                                      subst h270
                                      refine a_iast 271 dX12_mark_270 (mr_14 hM).2 (by omega) (by omega) rfl ?_
                                      refine a_iinc 274 dX12_mark_271 rfl (by unfold zr; omega) (by decide) rfl rfl ?_
                                      refine a_goto 220 dX12_mark_274 (by decide) ?_
                                      refine a_iload 222 dX12_mark_220 rfl rfl ?_
                                      refine a_iconst (z := 3) 223 dX12_mark_222 rfl (zrl rfl) rfl ?_
                                      refine a_icmp_ge 277 226 dX12_mark_223 (by decide) rfl (fun c223 => ?_) (fun c223 => ?_)
                                      · skip
                                        refine a_aload_n 278 dX12_mark_277 rfl rfl ?_
                                        refine a_getR 281 dX12_mark_278 fX12_37 hM.1 rfl (mr_14 hM).1 rfl ?_
                                        refine a_iload 283 dX12_mark_281 rfl rfl ?_
                                        refine a_bipush (z := 8) 285 dX12_mark_283 rfl (zrl rfl) rfl ?_
                                        refine a_iadd 286 dX12_mark_285 (by unfold zr; omega) rfl ?_
                                        refine a_iload 288 dX12_mark_286 rfl rfl ?_
                                        refine a_iast 289 dX12_mark_288 (mr_14 hM).2 (by omega) (by omega) rfl ?_
                                        refine a_aload_n 290 dX12_mark_289 rfl rfl ?_
                                        refine a_getR 293 dX12_mark_290 fX12_37 hM.1 rfl (mr_14 hM).1 rfl ?_
                                        refine a_iload 295 dX12_mark_293 rfl rfl ?_
                                        refine a_bipush (z := 9) 297 dX12_mark_295 rfl (zrl rfl) rfl ?_
                                        refine a_iadd 298 dX12_mark_297 (by unfold zr; omega) rfl ?_
                                        refine a_iload 300 dX12_mark_298 rfl rfl ?_
                                        refine a_iast 301 dX12_mark_300 (mr_14 hM).2 (by omega) (by omega) rfl ?_
                                        refine a_aload_n 302 dX12_mark_301 rfl rfl ?_
                                        refine a_dup 303 dX12_mark_302 (by intro w h; cases h) rfl ?_
                                        refine a_getIz (g1.2.1 1000 13) 306 dX12_mark_303 fX12_88 hM.1 rfl rfl rfl ?_
                                        refine a_iconst (z := 1) 307 dX12_mark_306 rfl (zrl rfl) rfl ?_
                                        refine a_iadd 308 dX12_mark_307 (by unfold zr; omega) rfl ?_
                                        refine a_putI 311 dX12_mark_308 fX12_88 (Or.inl rfl) hM.1 (Or.inl rfl) rfl ?_
                                        refine a_aload_n 312 dX12_mark_311 rfl rfl ?_
                                        refine a_getIz (g1.2.1 1000 13 + 1) 315 dX12_mark_312 fX12_88 hM.1 rfl rfl rfl ?_
                                        refine a_iconst (z := 1) 316 dX12_mark_315 rfl (zrl rfl) rfl ?_
                                        refine a_isub 317 dX12_mark_316 (by unfold zr; omega) rfl ?_
                                        refine a_ireturn dX12_mark_317 rfl ⟨Nat.zero_le _, Nat.zero_le _⟩ ?_
                                        first | exact Or.inr (Or.inr ⟨by omega, rfl, rfl⟩) | exact Or.inr (Or.inl ⟨by omega, by omega, rfl, rfl⟩) | exact Or.inl ⟨by omega, by omega, congrArg vI (by omega), rfl⟩
                                      · exfalso; omega
                                    · skip
                                      refine a_iload 256 dX12_mark_254 rfl rfl ?_
                                      refine a_bipush (z := 63) 258 dX12_mark_256 rfl (zrl rfl) rfl ?_
                                      refine a_icmp_ne 265 261 dX12_mark_258 (by decide) rfl (fun c258 => ?_) (fun c258 => ?_)
                                      · skip
                                        refine a_iload 267 dX12_mark_265 rfl rfl ?_
                                        refine a_bipush (z := 48) 269 dX12_mark_267 rfl (zrl rfl) rfl ?_
                                        refine a_isub 270 dX12_mark_269 (by unfold zr; omega) rfl ?_
                                        exact J270 _ (by unfold figI; split <;> omega)
                                      · skip
                                        refine a_iconst (z := (-1)) 262 dX12_mark_261 rfl (zrl rfl) rfl ?_
                                        refine a_goto 270 dX12_mark_262 (by decide) ?_
                                        exact J270 _ (by unfold figI; split <;> omega)
                                · skip
                                  refine a_iload 256 dX12_mark_254 rfl rfl ?_
                                  refine a_bipush (z := 63) 258 dX12_mark_256 rfl (zrl rfl) rfl ?_
                                  refine a_icmp_ne 265 261 dX12_mark_258 (by decide) rfl (fun c258 => ?_) (fun c258 => ?_)
                                  · skip
                                    refine a_iload 267 dX12_mark_265 rfl rfl ?_
                                    refine a_bipush (z := 48) 269 dX12_mark_267 rfl (zrl rfl) rfl ?_
                                    refine a_isub 270 dX12_mark_269 (by unfold zr; omega) rfl ?_
                                    exact J270 _ (by unfold figI; split <;> omega)
                                  · skip
                                    refine a_iconst (z := (-1)) 262 dX12_mark_261 rfl (zrl rfl) rfl ?_
                                    refine a_goto 270 dX12_mark_262 (by decide) ?_
                                    exact J270 _ (by unfold figI; split <;> omega)
                            · skip
                              refine a_iload 256 dX12_mark_254 rfl rfl ?_
                              refine a_bipush (z := 63) 258 dX12_mark_256 rfl (zrl rfl) rfl ?_
                              refine a_icmp_ne 265 261 dX12_mark_258 (by decide) rfl (fun c258 => ?_) (fun c258 => ?_)
                              · skip
                                refine a_iload 267 dX12_mark_265 rfl rfl ?_
                                refine a_bipush (z := 48) 269 dX12_mark_267 rfl (zrl rfl) rfl ?_
                                refine a_isub 270 dX12_mark_269 (by unfold zr; omega) rfl ?_
                                exact J270 _ (by unfold figI; split <;> omega)
                              · skip
                                refine a_iconst (z := (-1)) 262 dX12_mark_261 rfl (zrl rfl) rfl ?_
                                refine a_goto 270 dX12_mark_262 (by decide) ?_
                                exact J270 _ (by unfold figI; split <;> omega)
                        · skip
                          refine a_bipush (z := (-3)) 157 dX12_mark_155 rfl (zrl rfl) rfl ?_
                          refine a_ireturn dX12_mark_157 rfl ⟨Nat.zero_le _, Nat.zero_le _⟩ ?_
                          first | exact Or.inr (Or.inr ⟨by omega, rfl, rfl⟩) | exact Or.inr (Or.inl ⟨by omega, by omega, rfl, rfl⟩) | exact Or.inl ⟨by omega, by omega, congrArg vI (by omega), rfl⟩
                      · skip
                        refine a_iconst (z := (-1)) 145 dX12_mark_144 rfl (zrl rfl) rfl ?_
                        refine a_ireturn dX12_mark_145 rfl ⟨Nat.zero_le _, Nat.zero_le _⟩ ?_
                        first | exact Or.inr (Or.inr ⟨by omega, rfl, rfl⟩) | exact Or.inr (Or.inl ⟨by omega, by omega, rfl, rfl⟩) | exact Or.inl ⟨by omega, by omega, congrArg vI (by omega), rfl⟩
                    · skip
                      refine a_iload 119 dX12_mark_117 rfl rfl ?_
                      refine a_bipush (z := (-9)) 121 dX12_mark_119 rfl (zrl rfl) rfl ?_
                      refine a_icmp_eq 136 124 dX12_mark_121 (by decide) rfl (fun c121 => ?_) (fun c121 => ?_)
                      · skip
                        exact J136 (by omega)
                      · skip
                        refine a_iload 126 dX12_mark_124 rfl rfl ?_
                        refine a_iconst (z := 0) 127 dX12_mark_126 rfl (zrl rfl) rfl ?_
                        refine a_sipush (z := 999) 130 dX12_mark_127 rfl (zrl rfl) rfl ?_
                        refine a_callS 133 (r_in _ _ _ _) cdX12_in lX12_84 dX12_mark_130 rfl rfl ⟨by decide, by decide, rfl, rfl⟩ ⟨Nat.zero_le _, Nat.zero_le _⟩ (Nat.le_of_ble_eq_true rfl) rfl ?_
                        rintro _ _ - ⟨b130, rfl, rfl, h130⟩ -
                        refine a_if_eq 144 136 dX12_mark_133 (by decide) rfl (fun c133 => ?_) (fun c133 => ?_)
                        · skip
                          refine a_iconst (z := (-1)) 145 dX12_mark_144 rfl (zrl rfl) rfl ?_
                          refine a_ireturn dX12_mark_145 rfl ⟨Nat.zero_le _, Nat.zero_le _⟩ ?_
                          first | exact Or.inr (Or.inr ⟨by omega, rfl, rfl⟩) | exact Or.inr (Or.inl ⟨by omega, by omega, rfl, rfl⟩) | exact Or.inl ⟨by omega, by omega, congrArg vI (by omega), rfl⟩
                        · skip
                          exact J136 (by omega)
          · skip
            refine a_iload 53 dX12_mark_51 rfl rfl ?_
            refine a_bipush (z := (-9)) 55 dX12_mark_53 rfl (zrl rfl) rfl ?_
            refine a_icmp_eq 68 58 dX12_mark_55 (by decide) rfl (fun c55 => ?_) (fun c55 => ?_)
            · skip
              exact J68 (by omega)
            · skip
              refine a_iload 60 dX12_mark_58 rfl rfl ?_
              refine a_iconst (z := 0) 61 dX12_mark_60 rfl (zrl rfl) rfl ?_
              refine a_iconst (z := 1) 62 dX12_mark_61 rfl (zrl rfl) rfl ?_
              refine a_callS 65 (r_in _ _ _ _) cdX12_in lX12_84 dX12_mark_62 rfl rfl ⟨by decide, by decide, rfl, rfl⟩ ⟨Nat.zero_le _, Nat.zero_le _⟩ (Nat.le_of_ble_eq_true rfl) rfl ?_
              rintro _ _ - ⟨b62, rfl, rfl, h62⟩ -
              refine a_if_eq 144 68 dX12_mark_65 (by decide) rfl (fun c65 => ?_) (fun c65 => ?_)
              · skip
                refine a_iconst (z := (-1)) 145 dX12_mark_144 rfl (zrl rfl) rfl ?_
                refine a_ireturn dX12_mark_145 rfl ⟨Nat.zero_le _, Nat.zero_le _⟩ ?_
                first | exact Or.inr (Or.inr ⟨by omega, rfl, rfl⟩) | exact Or.inr (Or.inl ⟨by omega, by omega, rfl, rfl⟩) | exact Or.inl ⟨by omega, by omega, congrArg vI (by omega), rfl⟩
              · skip
                exact J68 (by omega)
      · skip
        refine a_iload_n 22 dX12_mark_21 rfl rfl ?_
        refine a_bipush (z := (-9)) 24 dX12_mark_22 rfl (zrl rfl) rfl ?_
        refine a_icmp_eq 41 27 dX12_mark_24 (by decide) rfl (fun c24 => ?_) (fun c24 => ?_)
        · skip
          exact J41 (by omega)
        · skip
          refine a_iload_n 28 dX12_mark_27 rfl rfl ?_
          refine a_iconst (z := 0) 29 dX12_mark_28 rfl (zrl rfl) rfl ?_
          refine a_aload_n 30 dX12_mark_29 rfl rfl ?_
          refine a_getIz (g1.2.1 1000 7) 33 dX12_mark_30 fX12_101 hM.1 rfl rfl rfl ?_
          refine a_iconst (z := 1) 34 dX12_mark_33 rfl (zrl rfl) rfl ?_
          refine a_isub 35 dX12_mark_34 (by unfold zr; omega) rfl ?_
          refine a_callS 38 (r_in _ _ _ _) cdX12_in lX12_84 dX12_mark_35 rfl rfl ⟨by decide, by decide, rfl, rfl⟩ ⟨Nat.zero_le _, Nat.zero_le _⟩ (Nat.le_of_ble_eq_true rfl) rfl ?_
          rintro _ _ - ⟨b35, rfl, rfl, h35⟩ -
          refine a_if_eq 144 41 dX12_mark_38 (by decide) rfl (fun c38 => ?_) (fun c38 => ?_)
          · skip
            refine a_iconst (z := (-1)) 145 dX12_mark_144 rfl (zrl rfl) rfl ?_
            refine a_ireturn dX12_mark_145 rfl ⟨Nat.zero_le _, Nat.zero_le _⟩ ?_
            first | exact Or.inr (Or.inr ⟨by omega, rfl, rfl⟩) | exact Or.inr (Or.inl ⟨by omega, by omega, rfl, rfl⟩) | exact Or.inl ⟨by omega, by omega, congrArg vI (by omega), rfl⟩
          · skip
            exact J41 (by omega)
