/-- a cover has a mark of die e, among the first n marks -/
def hsD (h : Nat → Nat → Int) (e D : Int) (n : Int) (c : Int) : Prop := ∃ m : Int, 0 ≤ m ∧ m < n ∧ isOfB h c D m ∧ h 1014 (10 * m + 2).toNat = e
/-- and one that can be of day d -/
def hsE (h : Nat → Nat → Int) (e D : Int) (n : Int) (d c : Int) : Prop := ∃ m : Int, 0 ≤ m ∧ m < n ∧ isOfB h c D m ∧ h 1014 (10 * m + 2).toNat = e ∧ canB h m d
/-- z holds just the covers of P -/
def btP (z : Int) (P : Int → Prop) : Prop := ∃ s : Nat, z = s ∧ s < 256 ∧ ∀ c : Nat, c < 8 → (bt s c ↔ P c)
noncomputable def mnyN (h : Nat → Nat → Int) (e D : Int) : Int := cnt (hsD h e D (h 1000 13)) 8
noncomputable def mnyS (h : Nat → Nat → Int) (e D k : Int) : Int := cnt (fun d => cnt (hsE h e D (h 1000 13) d) 8 = k) 1000
noncomputable def mnyV (h : Nat → Nat → Int) (e D : Int) : Int := mnyN h e D + (if 0 < mnyS h e D 2 then mnyS h e D 1 * mnyS h e D 1 / (2 * mnyS h e D 2) else mnyS h e D 1 * (mnyS h e D 1 - 1) / 2)
theorem cnt_cg {P Q : Int → Prop} : ∀ n : Nat, (∀ k : Nat, k < n → (P k ↔ Q k)) → cnt P n = cnt Q n
  | 0, _ => rfl
  | n + 1, h => by
    show cnt P n + ci (P n) = cnt Q n + ci (Q n)
    rw [cnt_cg n (fun k hk => h k (by omega)), show P n = Q n from propext (h n (by omega))]
theorem onesU_cnt {s : Nat} {P : Int → Prop} : ∀ n : Nat, (∀ c : Nat, c < n → (bt s c ↔ P c)) → onesU (s : Int) n = cnt P n
  | 0, _ => rfl
  | n + 1, h => by
    show onesU (s : Int) n + (s : Int) / 2 ^ n % 2 = cnt P n + ci (P n)
    rw [onesU_cnt n (fun k hk => h k (by omega))]
    congr 1
    have e := bt_z (s := s) (x := n)
    rw [Int.toNat_natCast] at e
    by_cases q : P n
    · rw [ci_t q]; exact e.mpr ((h n (by omega)).mpr q)
    · rw [ci_f q]
      have : ¬ bt s n := fun z => q ((h n (by omega)).mp z)
      have e0 := bt_z0 (s := s) (x := n)
      rw [Int.toNat_natCast] at e0
      exact e0.mpr this
theorem btP.ones {z : Int} {P : Int → Prop} (q : btP z P) : onesU z 10 = cnt P 8 := by
  obtain ⟨s, rfl, h1, h2⟩ := q
  rw [← onesU_cnt 8 h2]
  have a8 := bt_z0.mpr (bt_hi (n := 8) (x := 8) h1 (by decide))
  have a9 := bt_z0.mpr (bt_hi (n := 8) (x := 9) h1 (by decide))
  show onesU (s : Int) 8 + (s : Int) / 2 ^ 8 % 2 + (s : Int) / 2 ^ 9 % 2 = _
  have b8 : (s : Int) / 2 ^ 8 % 2 = 0 := a8
  have b9 : (s : Int) / 2 ^ 9 % 2 = 0 := a9
  omega
theorem btP.cg {z : Int} {P Q : Int → Prop} (q : btP z P) (h : ∀ c : Nat, c < 8 → (P c ↔ Q c)) : btP z Q := by
  obtain ⟨s, h0, h1, h2⟩ := q
  exact ⟨s, h0, h1, fun c hc => (h2 c hc).trans (h c hc)⟩
theorem btP.pos {z : Int} {P : Int → Prop} (q : btP z P) : 0 ≤ z ∧ z < 256 := by obtain ⟨s, h0, h1, h2⟩ := q; omega
theorem btP.zero {P : Int → Prop} (h : ∀ c : Nat, c < 8 → ¬ P c) : btP 0 P := ⟨0, rfl, by decide, fun c hc => ⟨fun z => absurd z bt_0, fun z => absurd z (h c hc)⟩⟩
theorem btP.or {z c : Int} {P : Int → Prop} (q : btP z P) (h0 : 0 ≤ c) (h1 : c < 8) : btP (((z.toNat ||| (1 * 2 ^ c.toNat : Int).toNat : Nat)) : Int) (fun x => P x ∨ x = c) := by
  obtain ⟨s, rfl, h2, h3⟩ := q
  obtain ⟨k, rfl⟩ := Int.eq_ofNat_of_zero_le h0
  have e : (1 * 2 ^ ((k : Int)).toNat : Int).toNat = 2 ^ k := by rw [Int.toNat_natCast]; norm_cast; omega
  rw [e, Int.toNat_natCast]
  refine ⟨_, rfl, Nat.or_lt_two_pow (n := 8) h2 (p2_le (by omega)), fun x hx => ?_⟩
  rw [bt_or, h3 x hx, bt_1]
  constructor
  · rintro (z | z)
    · exact Or.inl z
    · right; omega
  · rintro (z | z)
    · exact Or.inl z
    · right; omega
theorem btP.or0 {z : Int} {P : Int → Prop} (q : btP z P) : btP (((z.toNat ||| (0 : Int).toNat : Nat)) : Int) P := by
  obtain ⟨s, rfl, h2, h3⟩ := q
  refine ⟨s, ?_, h2, h3⟩
  simp
theorem hsD_s {h : Nat → Nat → Int} {e D c x : Int} {n : Nat} (hc : isOfB h c D n) (he : h 1014 (10 * (n : Int) + 2).toNat = e) : (hsD h e D n x ∨ x = c) ↔ hsD h e D ((n + 1 : Nat) : Int) x := by
  constructor
  · rintro (⟨m, q1, q2, q3⟩ | rfl)
    · exact ⟨m, q1, by omega, q3⟩
    · exact ⟨n, by omega, by omega, hc, he⟩
  · rintro ⟨m, q1, q2, q3, q4⟩
    by_cases z : m = n
    · subst z; right; exact q3.1.symm.trans hc.1
    · exact Or.inl ⟨m, q1, by omega, q3, q4⟩
theorem hsE_s {h : Nat → Nat → Int} {e D c d x : Int} {n : Nat} (hc : isOfB h c D n) (he : h 1014 (10 * (n : Int) + 2).toNat = e) (hd : canB h n d) : (hsE h e D n d x ∨ x = c) ↔ hsE h e D ((n + 1 : Nat) : Int) d x := by
  constructor
  · rintro (⟨m, q1, q2, q3⟩ | rfl)
    · exact ⟨m, q1, by omega, q3⟩
    · exact ⟨n, by omega, by omega, hc, he, hd⟩
  · rintro ⟨m, q1, q2, q3, q4⟩
    by_cases z : m = n
    · subst z; right; exact q3.1.symm.trans hc.1
    · exact Or.inl ⟨m, q1, by omega, q3, q4⟩
theorem hsD_n {h : Nat → Nat → Int} {e D x : Int} {n : Nat} (hn : ∀ c, ¬ (isOfB h c D n ∧ h 1014 (10 * (n : Int) + 2).toNat = e)) : hsD h e D n x ↔ hsD h e D ((n + 1 : Nat) : Int) x := by
  constructor
  · rintro ⟨m, q1, q2, q3⟩; exact ⟨m, q1, by omega, q3⟩
  · rintro ⟨m, q1, q2, q3, q4⟩
    by_cases z : m = n
    · subst z; exact absurd ⟨q3, q4⟩ (hn x)
    · exact ⟨m, q1, by omega, q3, q4⟩
theorem hsE_n {h : Nat → Nat → Int} {e D x d : Int} {n : Nat} (hn : ∀ c, ¬ (isOfB h c D n ∧ h 1014 (10 * (n : Int) + 2).toNat = e ∧ canB h n d)) : hsE h e D n d x ↔ hsE h e D ((n + 1 : Nat) : Int) d x := by
  constructor
  · rintro ⟨m, q1, q2, q3⟩; exact ⟨m, q1, by omega, q3⟩
  · rintro ⟨m, q1, q2, q3, q4⟩
    by_cases z : m = n
    · subst z; exact absurd ⟨q3, q4⟩ (hn x)
    · exact ⟨m, q1, by omega, q3, q4⟩
def cX (a k : Nat) : Prop := a = 1038
theorem cX_scr : ∀ a k, cX a k → scr a k := by unfold cX scr; omega
set_option maxHeartbeats 4000000 in
set_option maxRecDepth 100000 in
theorem r_many (g : GH) (e D : Int) (hM : MR g) (hV : MV g.2.1) : AMet mX12_many g [vA 1000, vI e, vI D] (fun r g' => (((0 ≤ e ∧ e < (gI g 1000 0 0).2.1 1000 7) ∧ (0 ≤ D ∧ D ≤ 999)) ∧ r = vI (mnyV (gI g 1000 0 0).2.1 e D) ∧ Keep (gI g 1000 0 0) g') ∨ (¬ ((0 ≤ e ∧ e < (gI g 1000 0 0).2.1 1000 7) ∧ (0 ≤ D ∧ D ≤ 999)) ∧ r = vI (-1) ∧ g' = gI g 1000 0 0)) := by
  refine AMet.of [vA 1000, vI e, vI D, none, none, none, none] (by decide) rfl (Nat.le_of_ble_eq_true rfl) ?_
  refine a_aload_n 1 dX12_many_0 rfl rfl ?_
  refine a_iconst (z := 0) 2 dX12_many_1 rfl (zrl rfl) rfl ?_
  refine a_putI 5 dX12_many_2 fX12_80 (Or.inl rfl) hM.1 (Or.inl rfl) rfl ?_
  have hM : MR (gI g 1000 0 0) := hM
  have hV : MV (gI g 1000 0 0).2.1 := MV_th hV
  have hc := hV.1
  unfold MVc at hc
  generalize gI g 1000 0 0 = g1 at hM hV hc ⊢
  refine a_iload_n 6 dX12_many_5 rfl rfl ?_
  refine a_iconst (z := 0) 7 dX12_many_6 rfl (zrl rfl) rfl ?_
  refine a_aload_n 8 dX12_many_7 rfl rfl ?_
  refine a_getIz (g1.2.1 1000 7) 11 dX12_many_8 fX12_101 hM.1 rfl rfl rfl ?_
  refine a_iconst (z := 1) 12 dX12_many_11 rfl (zrl rfl) rfl ?_
  refine a_isub 13 dX12_many_12 (by unfold zr; omega) rfl ?_
  refine a_callS 16 (r_in _ _ _ _) cdX12_in lX12_84 dX12_many_13 rfl rfl ⟨by decide, by decide, rfl, rfl⟩ ⟨Nat.zero_le _, Nat.zero_le _⟩ (Nat.le_of_ble_eq_true rfl) rfl ?_
  rintro _ _ - ⟨b13, rfl, rfl, h13⟩ -
  refine a_if_eq 26 19 dX12_many_16 (by decide) rfl (fun c16 => ?_) (fun c16 => ?_)
  · skip
    refine a_iconst (z := (-1)) 27 dX12_many_26 rfl (zrl rfl) rfl ?_
    refine a_ireturn dX12_many_27 rfl ⟨Nat.zero_le _, Nat.zero_le _⟩ ?_
    exact Or.inr ⟨by omega, rfl, rfl⟩
  · skip
    refine a_iload_n 20 dX12_many_19 rfl rfl ?_
    refine a_callS 23 (r_isDay _ _) cdX12_isDay lX12_95 dX12_many_20 rfl rfl ⟨by decide, by decide, rfl, rfl⟩ ⟨Nat.zero_le _, Nat.zero_le _⟩ (Nat.le_of_ble_eq_true rfl) rfl ?_
    rintro _ _ - ⟨b20, rfl, rfl, h20⟩ -
    refine a_if_ne 28 26 dX12_many_23 (by decide) rfl (fun c23 => ?_) (fun c23 => ?_)
    · skip
      refine a_iconst (z := 0) 29 dX12_many_28 rfl (zrl rfl) rfl ?_
      refine a_istore_n 30 dX12_many_29 (by decide) rfl rfl ?_
      refine a_iconst (z := 0) 31 dX12_many_30 rfl (zrl rfl) rfl ?_
      refine a_istore 33 dX12_many_31 (by decide) rfl rfl ?_
      refine AW.loop (α := GH × Nat) (fun p => 1000 - p.2) (fun p => sameB cX g1 p.1 ∧ p.2 ≤ 1000 ∧ ∀ d : Nat, d < p.2 → p.1.2.1 1038 d = 0) (fun p => p.1) (fun p => [vA 1000, vI e, vI D, vI 0, vI (p.2 : Int), none, none]) (fun p => []) ?_ (g1, 0) ?_
      · rintro ⟨g2, d⟩ ⟨h2, hd8, hz⟩ ih33
        try dsimp only at hI ih ⊢
        try dsimp only at h2 hd8 hz ih33 ⊢
        refine a_iload 35 dX12_many_33 rfl rfl ?_
        refine a_sipush (z := 999) 38 dX12_many_35 rfl (zrl rfl) rfl ?_
        refine a_icmp_gt 55 41 dX12_many_38 (by decide) rfl (fun c38 => ?_) (fun c38 => ?_)
        · skip
          refine a_iconst (z := 0) 56 dX12_many_55 rfl (zrl rfl) rfl ?_
          refine a_istore 58 dX12_many_56 (by decide) rfl rfl ?_
          refine AW.loop (α := GH × Nat × Int) (fun p => ((g1.2.1 1000 13)).toNat - p.2.1) (fun p => sameB cX g1 p.1 ∧ (p.2.1 : Int) ≤ (g1.2.1 1000 13) ∧ btP p.2.2 (hsD g1.2.1 e D p.2.1) ∧ ∀ d : Nat, d < 1000 → btP (p.1.2.1 1038 d) (hsE g1.2.1 e D p.2.1 d)) (fun p => p.1) (fun p => [vA 1000, vI e, vI D, vI p.2.2, vI (p.2.1 : Int), none, none]) (fun p => []) ?_ (g2, 0, 0) ?_
          · rintro ⟨g2, m, z⟩ ⟨h2, hmn, hz, hE⟩ ih58
            try dsimp only at hI ih ⊢
            try dsimp only at h2 hmn hz hE ih58 ⊢
            have e13 : g2.2.1 1000 13 = g1.2.1 1000 13 := h2.2.2 1000 13 (by unfold cX; omega)
            have e14 : ∀ k, g2.2.1 1014 k = g1.2.1 1014 k := fun k => h2.2.2 1014 k (by unfold cX; omega)
            have hzp := hz.pos
            refine a_iload 60 dX12_many_58 rfl rfl ?_
            refine a_aload_n 61 dX12_many_60 rfl rfl ?_
            refine a_getIz (g1.2.1 1000 13) 64 dX12_many_61 fX12_88 (h2.MR hM).1 rfl e13 rfl ?_
            refine a_icmp_ge 166 67 dX12_many_64 (by decide) rfl (fun c64 => ?_) (fun c64 => ?_)
            · skip
              have hmN : (m : Int) = g1.2.1 1000 13 := by omega
              rw [hmN] at hz hE
              refine a_iconst (z := 0) 167 dX12_many_166 rfl (zrl rfl) rfl ?_
              refine a_istore 169 dX12_many_167 (by decide) rfl rfl ?_
              refine a_iconst (z := 0) 170 dX12_many_169 rfl (zrl rfl) rfl ?_
              refine a_istore 172 dX12_many_170 (by decide) rfl rfl ?_
              refine a_iconst (z := 0) 173 dX12_many_172 rfl (zrl rfl) rfl ?_
              refine a_istore 175 dX12_many_173 (by decide) rfl rfl ?_
              refine AW.loop (α := Nat) (fun p => 1000 - p) (fun p => p ≤ 1000) (fun p => g2) (fun p => [vA 1000, vI e, vI D, vI z, vI (cnt (fun d => cnt (hsE g1.2.1 e D (g1.2.1 1000 13) d) 8 = 1) p), vI (cnt (fun d => cnt (hsE g1.2.1 e D (g1.2.1 1000 13) d) 8 = 2) p), vI (p : Int)]) (fun p => []) ?_ 0 ?_
              · intro d hd8 ih175
                try dsimp only at hI ih ⊢
                try dsimp only at hd8 ih175 ⊢
                have hb1 := cnt_le (fun d => cnt (hsE g1.2.1 e D (g1.2.1 1000 13) d) 8 = 1) d
                have hb2 := cnt_le (fun d => cnt (hsE g1.2.1 e D (g1.2.1 1000 13) d) 8 = 2) d
                refine a_iload 177 dX12_many_175 rfl rfl ?_
                refine a_sipush (z := 999) 180 dX12_many_177 rfl (zrl rfl) rfl ?_
                refine a_icmp_gt 237 183 dX12_many_180 (by decide) rfl (fun c180 => ?_) (fun c180 => ?_)
                · skip
                  refine a_iload_n 238 dX12_many_237 rfl rfl ?_
                  have hx1 := mul_le2 (x := cnt (fun d => cnt (hsE g1.2.1 e D (g1.2.1 1000 13) d) 8 = 1) d) (y := cnt (fun d => cnt (hsE g1.2.1 e D (g1.2.1 1000 13) d) 8 = 1) d) (X := 1000) (Y := 1000) (by omega) (by omega) (by omega) (by omega)
                  have hx2 : 0 ≤ cnt (fun d => cnt (hsE g1.2.1 e D (g1.2.1 1000 13) d) 8 = 1) d * (cnt (fun d => cnt (hsE g1.2.1 e D (g1.2.1 1000 13) d) 8 = 1) d - 1) ∧ cnt (fun d => cnt (hsE g1.2.1 e D (g1.2.1 1000 13) d) 8 = 1) d * (cnt (fun d => cnt (hsE g1.2.1 e D (g1.2.1 1000 13) d) 8 = 1) d - 1) ≤ 1000 * 1000 := by
                    by_cases q : cnt (fun d => cnt (hsE g1.2.1 e D (g1.2.1 1000 13) d) 8 = 1) d = 0
                    · rw [q]; decide
                    · exact mul_le2 (by omega) (by omega) (by omega) (by omega)
                  have hx3 := onesU_le z 10
                  refine a_callS 241 (r_ones _ _ (by omega)) cdX12_ones lX12_165 dX12_many_238 rfl rfl ⟨by decide, by decide, rfl, rfl⟩ ⟨Nat.zero_le _, Nat.zero_le _⟩ (Nat.le_of_ble_eq_true rfl) rfl ?_
                  rintro _ _ - ⟨rfl, rfl⟩ -
                  refine AW.cut (J := 268) (P := fun z => z = (if 0 < cnt (fun d => cnt (hsE g1.2.1 e D (g1.2.1 1000 13) d) 8 = 2) d then cnt (fun d => cnt (hsE g1.2.1 e D (g1.2.1 1000 13) d) 8 = 1) d * cnt (fun d => cnt (hsE g1.2.1 e D (g1.2.1 1000 13) d) 8 = 1) d / (2 * cnt (fun d => cnt (hsE g1.2.1 e D (g1.2.1 1000 13) d) 8 = 2) d) else cnt (fun d => cnt (hsE g1.2.1 e D (g1.2.1 1000 13) d) 8 = 1) d * (cnt (fun d => cnt (hsE g1.2.1 e D (g1.2.1 1000 13) d) 8 = 1) d - 1) / 2) ∧ 0 ≤ z ∧ z ≤ 1000 * 1000) ?_ (fun J268 => ?_)
                  · intro z268 h268
                    refine a_iadd 269 dX12_many_268 (by unfold zr; omega) rfl ?_
                    refine a_ireturn dX12_many_269 rfl ⟨Nat.zero_le _, Nat.zero_le _⟩ ?_
                    refine Or.inl ⟨by omega, congrArg vI ?_, h2.mono cX_scr⟩
                    have e : d = 1000 := by omega
                    subst e
                    unfold mnyV mnyN
                    rw [← hz.ones]
                    rw [h268.1]; rfl
                  · skip
                    refine a_iload 243 dX12_many_241 rfl rfl ?_
                    refine a_if_le 259 246 dX12_many_243 (by decide) rfl (fun c243 => ?_) (fun c243 => ?_)
                    · skip
                      refine a_iload 261 dX12_many_259 rfl rfl ?_
                      refine a_iload 263 dX12_many_261 rfl rfl ?_
                      refine a_iconst (z := 1) 264 dX12_many_263 rfl (zrl rfl) rfl ?_
                      refine a_isub 265 dX12_many_264 (by unfold zr; omega) rfl ?_
                      refine a_imul 266 dX12_many_265 (by unfold zr; omega) rfl ?_
                      refine a_iconst (z := 2) 267 dX12_many_266 rfl (zrl rfl) rfl ?_
                      refine a_idiv 268 dX12_many_267 (by omega) (by omega) rfl ?_
                      exact J268 _ (by
                        first
                        | (rw [if_pos (by omega)]; exact ⟨rfl, Int.ediv_nonneg hx1.1 (by omega), Int.le_trans (Int.ediv_le_self _ hx1.1) hx1.2⟩)
                        | (rw [if_neg (by omega)]; exact ⟨rfl, Int.ediv_nonneg hx2.1 (by omega), Int.le_trans (Int.ediv_le_self _ hx2.1) hx2.2⟩))
                    · skip
                      refine a_iload 248 dX12_many_246 rfl rfl ?_
                      refine a_iload 250 dX12_many_248 rfl rfl ?_
                      refine a_imul 251 dX12_many_250 (by unfold zr; omega) rfl ?_
                      refine a_iconst (z := 2) 252 dX12_many_251 rfl (zrl rfl) rfl ?_
                      refine a_iload 254 dX12_many_252 rfl rfl ?_
                      refine a_imul 255 dX12_many_254 (by unfold zr; omega) rfl ?_
                      refine a_idiv 256 dX12_many_255 (by omega) (by omega) rfl ?_
                      refine a_goto 268 dX12_many_256 (by decide) ?_
                      exact J268 _ (by
                        first
                        | (rw [if_pos (by omega)]; exact ⟨rfl, Int.ediv_nonneg hx1.1 (by omega), Int.le_trans (Int.ediv_le_self _ hx1.1) hx1.2⟩)
                        | (rw [if_neg (by omega)]; exact ⟨rfl, Int.ediv_nonneg hx2.1 (by omega), Int.le_trans (Int.ediv_le_self _ hx2.1) hx2.2⟩))
                · skip
                  have hdd := (hE d (by omega)).ones
                  have hdp := (hE d (by omega)).pos
                  refine a_iload 185 dX12_many_183 rfl rfl ?_
                  refine AW.cut (J := 204) (P := fun z => z = ci ((fun d => cnt (hsE g1.2.1 e D (g1.2.1 1000 13) d) 8 = 1) (d : Int))) ?_ (fun J204 => ?_)
                  · intro z204 h204
                    have hci1 : z204 = 0 ∨ z204 = 1 := by rw [h204]; exact ci_01 _
                    subst h204
                    refine a_iadd 205 dX12_many_204 (by unfold zr; omega) rfl ?_
                    refine a_istore 207 dX12_many_205 (by decide) rfl rfl ?_
                    refine a_iload 209 dX12_many_207 rfl rfl ?_
                    refine AW.cut (J := 228) (P := fun z => z = ci ((fun d => cnt (hsE g1.2.1 e D (g1.2.1 1000 13) d) 8 = 2) (d : Int))) ?_ (fun J228 => ?_)
                    · intro z228 h228
                      have hci2 : z228 = 0 ∨ z228 = 1 := by rw [h228]; exact ci_01 _
                      subst h228
                      refine a_iadd 229 dX12_many_228 (by unfold zr; omega) rfl ?_
                      refine a_istore 231 dX12_many_229 (by decide) rfl rfl ?_
                      refine a_iinc 234 dX12_many_231 rfl (by unfold zr; omega) (by decide) rfl rfl ?_
                      refine a_goto 175 dX12_many_234 (by decide) ?_
                      exact ih175 (d + 1) (by omega) (by omega)
                    · skip
                      refine a_aload_n 210 dX12_many_209 rfl rfl ?_
                      refine a_getR 213 dX12_many_210 fX12_77 (h2.MR hM).1 rfl (mr_38 (h2.MR hM)).1 rfl ?_
                      refine a_iload 215 dX12_many_213 rfl rfl ?_
                      refine a_ialdz (g2.2.1 1038 d) 216 dX12_many_215 (mr_38 (h2.MR hM)).2 (by omega) (by omega) rfl rfl ?_
                      refine a_callS 219 (r_ones _ _ (by omega)) cdX12_ones lX12_165 dX12_many_216 rfl rfl ⟨by decide, by decide, rfl, rfl⟩ ⟨Nat.zero_le _, Nat.zero_le _⟩ (Nat.le_of_ble_eq_true rfl) rfl ?_
                      rintro _ _ - ⟨rfl, rfl⟩ -
                      refine a_iconst (z := 2) 220 dX12_many_219 rfl (zrl rfl) rfl ?_
                      refine a_icmp_ne 227 223 dX12_many_220 (by decide) rfl (fun c220 => ?_) (fun c220 => ?_)
                      · skip
                        refine a_iconst (z := 0) 228 dX12_many_227 rfl (zrl rfl) rfl ?_
                        exact J228 _ (by first | exact (ci_t (P := _ = _) (hdd ▸ c220)).symm | exact (ci_f (P := _ = _) (hdd ▸ c220)).symm)
                      · skip
                        refine a_iconst (z := 1) 224 dX12_many_223 rfl (zrl rfl) rfl ?_
                        refine a_goto 228 dX12_many_224 (by decide) ?_
                        exact J228 _ (by first | exact (ci_t (P := _ = _) (hdd ▸ c220)).symm | exact (ci_f (P := _ = _) (hdd ▸ c220)).symm)
                  · skip
                    refine a_aload_n 186 dX12_many_185 rfl rfl ?_
                    refine a_getR 189 dX12_many_186 fX12_77 (h2.MR hM).1 rfl (mr_38 (h2.MR hM)).1 rfl ?_
                    refine a_iload 191 dX12_many_189 rfl rfl ?_
                    refine a_ialdz (g2.2.1 1038 d) 192 dX12_many_191 (mr_38 (h2.MR hM)).2 (by omega) (by omega) rfl rfl ?_
                    refine a_callS 195 (r_ones _ _ (by omega)) cdX12_ones lX12_165 dX12_many_192 rfl rfl ⟨by decide, by decide, rfl, rfl⟩ ⟨Nat.zero_le _, Nat.zero_le _⟩ (Nat.le_of_ble_eq_true rfl) rfl ?_
                    rintro _ _ - ⟨rfl, rfl⟩ -
                    refine a_iconst (z := 1) 196 dX12_many_195 rfl (zrl rfl) rfl ?_
                    refine a_icmp_ne 203 199 dX12_many_196 (by decide) rfl (fun c196 => ?_) (fun c196 => ?_)
                    · skip
                      refine a_iconst (z := 0) 204 dX12_many_203 rfl (zrl rfl) rfl ?_
                      exact J204 _ (by first | exact (ci_t (P := _ = _) (hdd ▸ c196)).symm | exact (ci_f (P := _ = _) (hdd ▸ c196)).symm)
                    · skip
                      refine a_iconst (z := 1) 200 dX12_many_199 rfl (zrl rfl) rfl ?_
                      refine a_goto 204 dX12_many_200 (by decide) ?_
                      exact J204 _ (by first | exact (ci_t (P := _ = _) (hdd ▸ c196)).symm | exact (ci_f (P := _ = _) (hdd ▸ c196)).symm)
              · exact Nat.zero_le _
            · skip
              have hzc := hV.2.2.2.1 m (by omega) (by omega)
              have hpc : (1 : Int) * 2 ^ (g1.2.1 1014 (10 * (m : Int)).toNat).toNat < 256 ∧ 0 < (1 : Int) * 2 ^ (g1.2.1 1014 (10 * (m : Int)).toNat).toNat := by
                have := p2_le (x := (g1.2.1 1014 (10 * (m : Int)).toNat).toNat) (n := 8) (by omega)
                refine ⟨?_, ?_⟩
                · rw [Int.one_mul]; exact_mod_cast this
                · rw [Int.one_mul]; exact Int.pow_pos (by decide)
              refine a_aload_n 68 dX12_many_67 rfl rfl ?_
              refine a_getR 71 dX12_many_68 fX12_37 (h2.MR hM).1 rfl (mr_14 (h2.MR hM)).1 rfl ?_
              refine a_bipush (z := 10) 73 dX12_many_71 rfl (zrl rfl) rfl ?_
              refine a_iload 75 dX12_many_73 rfl rfl ?_
              refine a_imul 76 dX12_many_75 (by unfold zr; omega) rfl ?_
              refine a_ialdz (g1.2.1 1014 (10 * (m : Int)).toNat) 77 dX12_many_76 (mr_14 (h2.MR hM)).2 (by omega) (by omega) (e14 _) rfl ?_
              refine a_istore 79 dX12_many_77 (by decide) rfl rfl ?_
              refine a_aload_n 80 dX12_many_79 rfl rfl ?_
              refine a_iload 82 dX12_many_80 rfl rfl ?_
              refine a_iload 84 dX12_many_82 rfl rfl ?_
              refine a_iload_n 85 dX12_many_84 rfl rfl ?_
              refine a_callV 88 (r_isOf _ _ _ _ (h2.MR hM) (by omega)) cdX12_isOf lX12_136 dX12_many_85 rfl (h2.MR hM).1 rfl ⟨by decide, by decide, rfl, rfl⟩ ⟨Nat.zero_le _, Nat.zero_le _⟩ (Nat.le_of_ble_eq_true rfl) rfl ?_
              rintro _ _ - ⟨b85, rfl, rfl, h85⟩ -
              refine a_if_eq 160 91 dX12_many_88 (by decide) rfl (fun c88 => ?_) (fun c88 => ?_)
              · skip
                refine a_iinc 163 dX12_many_160 rfl (by unfold zr; omega) (by decide) rfl rfl ?_
                refine a_goto 58 dX12_many_163 (by decide) ?_
                refine AW.kill 5 (AW.kill 6 ?_)
                first
                | (have hof := isT h85 c88
                   rw [e14, e14] at hof
                   have hoc : isOfB g1.2.1 (g1.2.1 1014 (10 * (m : Int)).toNat) D m := ⟨rfl, hof.2⟩
                   refine ih58 (g3, m + 1, _) ⟨h3, by dsimp only; omega, (hz.or (by omega) (by omega)).cg (fun x _ => hsD_s hoc c104), fun d hd => ?_⟩ (by dsimp only; omega)
                   have := hF d hd
                   rw [if_pos (by omega)] at this; exact this)
                | (have hno : ∀ c, ¬ (isOfB g1.2.1 c D m ∧ g1.2.1 1014 (10 * (m : Int) + 2).toNat = e) := fun c q => by
                     first
                     | exact c104 q.2
                     | exact isN h85 c88 ⟨e14 _, by rw [e14]; exact q.1.2⟩
                   exact ih58 (g2, m + 1, z) ⟨h2, by dsimp only; omega, hz.cg (fun x _ => hsD_n hno), fun d hd => (hE d hd).cg (fun x _ => hsE_n (fun c q => hno c ⟨q.1, q.2.1⟩))⟩ (by dsimp only; omega))
              · skip
                refine a_aload_n 92 dX12_many_91 rfl rfl ?_
                refine a_getR 95 dX12_many_92 fX12_37 (h2.MR hM).1 rfl (mr_14 (h2.MR hM)).1 rfl ?_
                refine a_bipush (z := 10) 97 dX12_many_95 rfl (zrl rfl) rfl ?_
                refine a_iload 99 dX12_many_97 rfl rfl ?_
                refine a_imul 100 dX12_many_99 (by unfold zr; omega) rfl ?_
                refine a_iconst (z := 2) 101 dX12_many_100 rfl (zrl rfl) rfl ?_
                refine a_iadd 102 dX12_many_101 (by unfold zr; omega) rfl ?_
                refine a_ialdz (g1.2.1 1014 (10 * (m : Int) + 2).toNat) 103 dX12_many_102 (mr_14 (h2.MR hM)).2 (by omega) (by omega) (e14 _) rfl ?_
                refine a_iload_n 104 dX12_many_103 rfl rfl ?_
                refine a_icmp_ne 160 107 dX12_many_104 (by decide) rfl (fun c104 => ?_) (fun c104 => ?_)
                · skip
                  refine a_iinc 163 dX12_many_160 rfl (by unfold zr; omega) (by decide) rfl rfl ?_
                  refine a_goto 58 dX12_many_163 (by decide) ?_
                  refine AW.kill 5 (AW.kill 6 ?_)
                  first
                  | (have hof := isT h85 c88
                     rw [e14, e14] at hof
                     have hoc : isOfB g1.2.1 (g1.2.1 1014 (10 * (m : Int)).toNat) D m := ⟨rfl, hof.2⟩
                     refine ih58 (g3, m + 1, _) ⟨h3, by dsimp only; omega, (hz.or (by omega) (by omega)).cg (fun x _ => hsD_s hoc c104), fun d hd => ?_⟩ (by dsimp only; omega)
                     have := hF d hd
                     rw [if_pos (by omega)] at this; exact this)
                  | (have hno : ∀ c, ¬ (isOfB g1.2.1 c D m ∧ g1.2.1 1014 (10 * (m : Int) + 2).toNat = e) := fun c q => by
                       first
                       | exact c104 q.2
                       | exact isN h85 c88 ⟨e14 _, by rw [e14]; exact q.1.2⟩
                     exact ih58 (g2, m + 1, z) ⟨h2, by dsimp only; omega, hz.cg (fun x _ => hsD_n hno), fun d hd => (hE d hd).cg (fun x _ => hsE_n (fun c q => hno c ⟨q.1, q.2.1⟩))⟩ (by dsimp only; omega))
                · skip
                  refine a_iload_n 108 dX12_many_107 rfl rfl ?_
                  refine a_iconst (z := 1) 109 dX12_many_108 rfl (zrl rfl) rfl ?_
                  refine a_iload 111 dX12_many_109 rfl rfl ?_
                  refine a_ishl _ 112 dX12_many_111 (v_shl (by omega) (by omega) (by omega) (by omega)) rfl ?_
                  refine a_ior _ 113 dX12_many_112 (v_or (by omega) (by omega)) rfl ?_
                  refine a_istore_n 114 dX12_many_113 (by decide) rfl rfl ?_
                  refine a_iconst (z := 0) 115 dX12_many_114 rfl (zrl rfl) rfl ?_
                  refine a_istore 117 dX12_many_115 (by decide) rfl rfl ?_
                  refine AW.loop (α := GH × Nat) (fun p => 1000 - p.2) (fun p => sameB cX g1 p.1 ∧ p.2 ≤ 1000 ∧ ∀ d : Nat, d < 1000 → btP (p.1.2.1 1038 d) (hsE g1.2.1 e D ((if d < p.2 then m + 1 else m : Nat) : Int) d)) (fun p => p.1) (fun p => [vA 1000, vI e, vI D, vI (((z.toNat ||| (1 * 2 ^ (g1.2.1 1014 (10 * (m : Int)).toNat).toNat : Int).toNat : Nat)) : Int), vI (m : Int), vI (g1.2.1 1014 (10 * (m : Int)).toNat), vI (p.2 : Int)]) (fun p => []) ?_ (g2, 0) ?_
                  · rintro ⟨g3, d⟩ ⟨h3, hd8, hF⟩ ih117
                    try dsimp only at hI ih ⊢
                    try dsimp only at h3 hd8 hF ih117 ⊢
                    have hzc := hV.2.2.2.1 m (by omega) (by omega)
                    refine a_iload 119 dX12_many_117 rfl rfl ?_
                    refine a_sipush (z := 999) 122 dX12_many_119 rfl (zrl rfl) rfl ?_
                    refine a_icmp_gt 160 125 dX12_many_122 (by decide) rfl (fun c122 => ?_) (fun c122 => ?_)
                    · skip
                      refine a_iinc 163 dX12_many_160 rfl (by unfold zr; omega) (by decide) rfl rfl ?_
                      refine a_goto 58 dX12_many_163 (by decide) ?_
                      refine AW.kill 5 (AW.kill 6 ?_)
                      first
                      | (have hof := isT h85 c88
                         rw [e14, e14] at hof
                         have hoc : isOfB g1.2.1 (g1.2.1 1014 (10 * (m : Int)).toNat) D m := ⟨rfl, hof.2⟩
                         refine ih58 (g3, m + 1, _) ⟨h3, by dsimp only; omega, (hz.or (by omega) (by omega)).cg (fun x _ => hsD_s hoc c104), fun d hd => ?_⟩ (by dsimp only; omega)
                         have := hF d hd
                         rw [if_pos (by omega)] at this; exact this)
                      | (have hno : ∀ c, ¬ (isOfB g1.2.1 c D m ∧ g1.2.1 1014 (10 * (m : Int) + 2).toNat = e) := fun c q => by
                           first
                           | exact c104 q.2
                           | exact isN h85 c88 ⟨e14 _, by rw [e14]; exact q.1.2⟩
                         exact ih58 (g2, m + 1, z) ⟨h2, by dsimp only; omega, hz.cg (fun x _ => hsD_n hno), fun d hd => (hE d hd).cg (fun x _ => hsE_n (fun c q => hno c ⟨q.1, q.2.1⟩))⟩ (by dsimp only; omega))
                    · skip
                      refine a_aload_n 126 dX12_many_125 rfl rfl ?_
                      refine a_getR 129 dX12_many_126 fX12_77 (h3.MR hM).1 rfl (mr_38 (h3.MR hM)).1 rfl ?_
                      refine a_iload 131 dX12_many_129 rfl rfl ?_
                      refine a_dup2 132 dX12_many_131 (by intro w h; cases h) (by intro w h; cases h) rfl ?_
                      refine a_ialdz (g3.2.1 1038 d) 133 dX12_many_132 (mr_38 (h3.MR hM)).2 (by omega) (by omega) rfl rfl ?_
                      refine AW.cut (J := 152) (P := fun z => (z = 1 * 2 ^ (g1.2.1 1014 (10 * (m : Int)).toNat).toNat ∧ canB g1.2.1 m d) ∨ (z = 0 ∧ ¬ canB g1.2.1 m d)) ?_ (fun J152 => ?_)
                      · intro z152 h152
                        have hcp := btP.pos (hF d (by omega))
                        have hpw : (1 : Int) * 2 ^ (g1.2.1 1014 (10 * (m : Int)).toNat).toNat < 256 ∧ 0 < (1 : Int) * 2 ^ (g1.2.1 1014 (10 * (m : Int)).toNat).toNat := by
                          have := p2_le (x := (g1.2.1 1014 (10 * (m : Int)).toNat).toNat) (n := 8) (by omega)
                          refine ⟨?_, ?_⟩
                          · rw [Int.one_mul]; exact_mod_cast this
                          · rw [Int.one_mul]; exact Int.pow_pos (by decide)
                        have hz152 : 0 ≤ z152 := by rcases h152 with q | q <;> omega
                        refine a_ior _ 153 dX12_many_152 (v_or (by omega) (by omega)) rfl ?_
                        refine a_iast 154 dX12_many_153 (mr_38 (h3.MR hM)).2 (by omega) (by omega) rfl ?_
                        refine a_iinc 157 dX12_many_154 rfl (by unfold zr; omega) (by decide) rfl rfl ?_
                        refine a_goto 117 dX12_many_157 (by decide) ?_
                        have hof := isT h85 c88
                        rw [e14, e14] at hof
                        have hoc : isOfB g1.2.1 (g1.2.1 1014 (10 * (m : Int)).toNat) D m := ⟨rfl, hof.2⟩
                        refine ih117 (_, d + 1) ⟨h3.wr rfl, by dsimp only; omega, fun x hx => ?_⟩ (by dsimp only; omega)
                        show btP ((gI g3 1038 (d : Int).toNat _).2.1 1038 x) (hsE g1.2.1 e D ((if x < d + 1 then m + 1 else m : Nat) : Int) x)
                        by_cases q : x = d
                        · subst q
                          rw [Int.toNat_natCast, gI_s, if_pos (by omega)]
                          have hq := hF x (by omega)
                          rw [if_neg (by omega)] at hq
                          rcases h152 with ⟨q1, q2⟩ | ⟨q1, q2⟩
                          · rw [q1]; exact (hq.or (by omega) (by omega)).cg (fun y _ => hsE_s hoc c104 q2)
                          · rw [q1]; exact hq.or0.cg (fun y _ => hsE_n (fun c r => q2 r.2.2))
                        · rw [gI_n (Or.inr (by omega))]
                          have hq := hF x hx
                          by_cases q2 : x < d
                          · rw [if_pos q2] at hq; rw [if_pos (by omega)]; exact hq
                          · rw [if_neg q2] at hq; rw [if_neg (by omega)]; exact hq
                      · skip
                        refine a_aload_n 134 dX12_many_133 rfl rfl ?_
                        refine a_iload 136 dX12_many_134 rfl rfl ?_
                        refine a_iload 138 dX12_many_136 rfl rfl ?_
                        refine a_callV 141 (r_canBe _ _ _ (h3.MR hM) (MV_keep cX_scr h3 hV) (by rw [h3.2.2 1000 13 (by unfold cX; omega)]; omega) (by omega)) cdX12_canBe lX12_128 dX12_many_138 rfl (h3.MR hM).1 rfl ⟨by decide, by decide, rfl, rfl⟩ ⟨Nat.zero_le _, Nat.zero_le _⟩ (Nat.le_of_ble_eq_true rfl) rfl ?_
                        rintro _ _ - ⟨b138, rfl, rfl, h138⟩ -
                        rw [(h3.hk cX_scr).canB] at h138
                        refine a_if_eq 151 144 dX12_many_141 (by decide) rfl (fun c141 => ?_) (fun c141 => ?_)
                        · skip
                          refine a_iconst (z := 0) 152 dX12_many_151 rfl (zrl rfl) rfl ?_
                          exact J152 _ (by first | exact Or.inl ⟨rfl, isT h138 c141⟩ | exact Or.inr ⟨rfl, isN h138 c141⟩)
                        · skip
                          refine a_iconst (z := 1) 145 dX12_many_144 rfl (zrl rfl) rfl ?_
                          refine a_iload 147 dX12_many_145 rfl rfl ?_
                          refine a_ishl _ 148 dX12_many_147 (v_shl (by omega) (by omega) (by omega) (by omega)) rfl ?_
                          refine a_goto 152 dX12_many_148 (by decide) ?_
                          exact J152 _ (by first | exact Or.inl ⟨rfl, isT h138 c141⟩ | exact Or.inr ⟨rfl, isN h138 c141⟩)
                  · exact ⟨h2, Nat.zero_le _, fun d hd => by rw [if_neg (Nat.not_lt_zero _)]; exact hE d hd⟩
          · exact ⟨h2, by show ((0 : Nat) : Int) ≤ _; omega, btP.zero (fun c _ ⟨m, q1, q2, _⟩ => by dsimp only at q2; omega), fun d hd => by rw [hz d (by omega)]; exact btP.zero (fun c _ ⟨m, q1, q2, _⟩ => by dsimp only at q2; omega)⟩
        · skip
          refine a_aload_n 42 dX12_many_41 rfl rfl ?_
          refine a_getR 45 dX12_many_42 fX12_77 (h2.MR hM).1 rfl (mr_38 (h2.MR hM)).1 rfl ?_
          refine a_iload 47 dX12_many_45 rfl rfl ?_
          refine a_iconst (z := 0) 48 dX12_many_47 rfl (zrl rfl) rfl ?_
          refine a_iast 49 dX12_many_48 (mr_38 (h2.MR hM)).2 (by omega) (by omega) rfl ?_
          refine a_iinc 52 dX12_many_49 rfl (by unfold zr; omega) (by decide) rfl rfl ?_
          refine a_goto 33 dX12_many_52 (by decide) ?_
          refine ih33 (gI g2 1038 (d : Int).toNat 0, d + 1) ⟨h2.wr rfl, by dsimp only; omega, fun x hx => ?_⟩ (by dsimp only; omega)
          dsimp only at hx ⊢
          by_cases q : x = d
          · subst q; rw [Int.toNat_natCast, gI_s]
          · rw [gI_n (Or.inr (by omega))]; exact hz x (by omega)
      · exact ⟨sameB.rf, Nat.zero_le _, fun d h => absurd h (Nat.not_lt_zero _)⟩
    · skip
      refine a_iconst (z := (-1)) 27 dX12_many_26 rfl (zrl rfl) rfl ?_
      refine a_ireturn dX12_many_27 rfl ⟨Nat.zero_le _, Nat.zero_le _⟩ ?_
      exact Or.inr ⟨by omega, rfl, rfl⟩
