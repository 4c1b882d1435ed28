theorem AW.cut {M : MI} {T : TT} {kn : Nat × Nat} {g : GH} {pc : Nat} {ls st : List AV} {J : Nat} {P : Int → Prop} (k : ∀ z, P z → AW M T kn g J ls (vI z :: st)) (h : (∀ z, P z → AW M T kn g J ls (vI z :: st)) → AW M T kn g pc ls st) : AW M T kn g pc ls st := h k
theorem AW.cut0 {M : MI} {T : TT} {kn : Nat × Nat} {g : GH} {pc : Nat} {ls st : List AV} {J : Nat} {P : Prop} (k : P → AW M T kn g J ls st) (h : (P → AW M T kn g J ls st) → AW M T kn g pc ls st) : AW M T kn g pc ls st := h k
theorem AW.loop {M : MI} {T : TT} {kn : Nat × Nat} {pc : Nat} {α : Type} (μ : α → Nat) (I : α → Prop) (gs : α → GH) (lss sts : α → List AV)
    (h : ∀ a, I a → (∀ a', I a' → μ a' < μ a → AW M T kn (gs a') pc (lss a') (sts a')) → AW M T kn (gs a) pc (lss a) (sts a)) (a0 : α) (h0 : I a0) : AW M T kn (gs a0) pc (lss a0) (sts a0) := by
  have key : ∀ (n : Nat) (a : α), μ a < n → I a → AW M T kn (gs a) pc (lss a) (sts a) := by
    intro n
    induction n with
    | zero => intro a ha; omega
    | succ n ih => intro a ha hI; exact h a hI (fun a' hI' hlt => ih a' (by omega) hI')
  exact key (μ a0 + 1) a0 (by omega) h0
/-- what a mark's die asks of a day -/
def dieB (h : Nat → Nat → Int) (e : Nat) (ink nick d : Int) : Prop :=
  (h 1005 (h 1008 e).toNat ≤ d ∧ d ≤ h 1006 (h 1008 e).toNat) ∧ (h 1010 e ≤ d ∧ d ≤ h 1011 e) ∧ h 1009 e / 2 ^ ink.toNat % 2 = 1 ∧ (nick = -9 ∨ (nick = 1 ↔ (h 1012 e ≠ -9 ∧ h 1012 e ≤ d)))
def datB (h : Nat → Nat → Int) (m d : Int) : Prop :=
  (h 1014 (10 * m + 5).toNat < 0 ∨ h 1014 (10 * m + 5).toNat = d / 100) ∧ (h 1014 (10 * m + 6).toNat < 0 ∨ h 1014 (10 * m + 6).toNat = d / 10 % 10) ∧ (h 1014 (10 * m + 7).toNat < 0 ∨ h 1014 (10 * m + 7).toNat = d % 10)
/-- the mark m can be of the day d -/
def canB (h : Nat → Nat → Int) (m d : Int) : Prop :=
  datB h m d ∧ (h 1014 (10 * m + 2).toNat = -9 ∨ dieB h (h 1014 (10 * m + 2).toNat).toNat (h 1014 (10 * m + 3).toNat) (h 1014 (10 * m + 4).toNat) d)
/-! the reference's numbers are as they may be -/
def MVc (h : Nat → Nat → Int) : Prop := (0 ≤ h 1000 3 ∧ h 1000 3 ≤ 8) ∧ (0 ≤ h 1000 7 ∧ h 1000 7 ≤ 12) ∧ (0 ≤ h 1000 13 ∧ h 1000 13 ≤ 40) ∧ (0 ≤ h 1000 15 ∧ h 1000 15 ≤ 20) ∧ (0 ≤ h 1000 29 ∧ h 1000 29 ≤ 600) ∧ (0 ≤ h 1000 35 ∧ h 1000 35 ≤ 12)
def MVo (h : Nat → Nat → Int) : Prop := ∀ i : Nat, (i : Int) < h 1000 3 → (0 ≤ h 1004 i ∧ h 1004 i ≤ 5) ∧ (0 ≤ h 1005 i ∧ h 1005 i ≤ h 1006 i ∧ h 1006 i ≤ 999)
def MVd (h : Nat → Nat → Int) : Prop := ∀ i : Nat, (i : Int) < h 1000 7 → (0 ≤ h 1008 i ∧ h 1008 i < h 1000 3) ∧ (0 ≤ h 1009 i ∧ h 1009 i ≤ 15) ∧ (0 ≤ h 1010 i ∧ h 1010 i ≤ h 1011 i ∧ h 1011 i ≤ 999) ∧ (h 1012 i = -9 ∨ (0 ≤ h 1012 i ∧ h 1012 i ≤ 999))
def MVm (h : Nat → Nat → Int) : Prop := ∀ m : Int, 0 ≤ m → m < h 1000 13 → (0 ≤ h 1014 (10 * m).toNat ∧ h 1014 (10 * m).toNat ≤ 7) ∧ (0 ≤ h 1014 (10 * m + 1).toNat ∧ h 1014 (10 * m + 1).toNat ≤ 5) ∧ (h 1014 (10 * m + 2).toNat = -9 ∨ (0 ≤ h 1014 (10 * m + 2).toNat ∧ h 1014 (10 * m + 2).toNat < h 1000 7)) ∧ (0 ≤ h 1014 (10 * m + 3).toNat ∧ h 1014 (10 * m + 3).toNat ≤ 3) ∧ (h 1014 (10 * m + 4).toNat = -9 ∨ (0 ≤ h 1014 (10 * m + 4).toNat ∧ h 1014 (10 * m + 4).toNat ≤ 1)) ∧ (-1 ≤ h 1014 (10 * m + 5).toNat ∧ h 1014 (10 * m + 5).toNat ≤ 9) ∧ (-1 ≤ h 1014 (10 * m + 6).toNat ∧ h 1014 (10 * m + 6).toNat ≤ 9) ∧ (-1 ≤ h 1014 (10 * m + 7).toNat ∧ h 1014 (10 * m + 7).toNat ≤ 9) ∧ (h 1014 (10 * m + 8).toNat = -9 ∨ (0 ≤ h 1014 (10 * m + 8).toNat ∧ h 1014 (10 * m + 8).toNat ≤ 999)) ∧ (0 ≤ h 1014 (10 * m + 9).toNat ∧ h 1014 (10 * m + 9).toNat ≤ 999)
def MVs (h : Nat → Nat → Int) : Prop := ∀ i : Nat, (i : Int) < h 1000 15 → (0 ≤ h 1016 i ∧ h 1016 i ≤ 5) ∧ (0 ≤ h 1017 i ∧ h 1017 i ≤ 5) ∧ (0 ≤ h 1018 i ∧ h 1018 i ≤ 999) ∧ (h 1019 i = -9 ∨ (h 1018 i ≤ h 1019 i ∧ h 1019 i ≤ 999))
def MVr (h : Nat → Nat → Int) : Prop := ∀ k : Nat, k < 36 → h 1020 k = -9 ∨ (1 ≤ h 1020 k ∧ h 1020 k ≤ 30)
def MVl (h : Nat → Nat → Int) : Prop := ∀ k : Nat, k < 6 → 0 ≤ h 1002 k ∧ h 1002 k ≤ 2
def MVt (h : Nat → Nat → Int) : Prop := ∀ k : Nat, (k : Int) < h 1000 29 → 0 ≤ h 1028 k ∧ h 1028 k ≤ 255
/-- a rule's ten numbers, at b -/
def rulB (h : Nat → Nat → Int) (b : Nat) : Prop := (0 ≤ h 1037 b ∧ h 1037 b ≤ 2) ∧ (0 ≤ h 1037 (b + 1) ∧ h 1037 (b + 1) ≤ 2) ∧ (0 ≤ h 1037 (b + 2) ∧ h 1037 (b + 2) ≤ h 1037 (b + 3) ∧ h 1037 (b + 3) ≤ 999) ∧ (0 ≤ h 1037 (b + 4) ∧ h 1037 (b + 4) ≤ 999) ∧ (1 ≤ h 1037 (b + 5) ∧ h 1037 (b + 5) ≤ 500) ∧ (0 ≤ h 1037 (b + 6) ∧ h 1037 (b + 6) ≤ 999) ∧ (0 ≤ h 1037 (b + 7) ∧ h 1037 (b + 7) ≤ 99) ∧ (1 ≤ h 1037 (b + 8) ∧ h 1037 (b + 8) ≤ 99) ∧ (h 1037 (b + 9) = 0 ∨ h 1037 (b + 9) = 1)
def MVu (h : Nat → Nat → Int) : Prop := ∀ i : Nat, (i : Int) < h 1000 35 → rulB h (10 * i)
def MV (h : Nat → Nat → Int) : Prop := MVc h ∧ MVo h ∧ MVd h ∧ MVm h ∧ MVs h ∧ MVr h ∧ MVl h ∧ MVt h ∧ MVu h
/-- what a reading call of the reference may change -/
def scr (a k : Nat) : Prop := (a = 1000 ∧ (k = 0 ∨ k = 23 ∨ k = 27 ∨ k = 30 ∨ k = 31 ∨ k = 32 ∨ k = 33 ∨ k = 34 ∨ k = 36)) ∨ a = 1021 ∨ a = 1022 ∨ a = 1024 ∨ a = 1025 ∨ a = 1026 ∨ a = 1038 ∨ (a = 1037 ∧ 120 ≤ k)
/-- but for the slots of X nothing has changed -/
def sameB (X : Nat → Nat → Prop) (g g' : GH) : Prop := g'.1 = g.1 ∧ g'.2.2 = g.2.2 ∧ ∀ a k, ¬ X a k → g'.2.1 a k = g.2.1 a k
abbrev Keep (g g' : GH) : Prop := sameB scr g g'
theorem sameB.rf {X : Nat → Nat → Prop} {g : GH} : sameB X g g := ⟨rfl, rfl, fun _ _ _ => rfl⟩
theorem sameB.tr {X : Nat → Nat → Prop} {g g1 g2 : GH} (h : sameB X g g1) (h2 : sameB X g1 g2) : sameB X g g2 := ⟨h2.1.trans h.1, h2.2.1.trans h.2.1, fun a k q => (h2.2.2 a k q).trans (h.2.2 a k q)⟩
theorem sameB.mono {X Y : Nat → Nat → Prop} {g g' : GH} (h : sameB X g g') (hx : ∀ a k, X a k → Y a k) : sameB Y g g' := ⟨h.1, h.2.1, fun a k q => h.2.2 a k (fun z => q (hx a k z))⟩
theorem sameB.wr {X : Nat → Nat → Prop} {g g' : GH} {a k : Nat} {z : Int} (h : sameB X g g') (hx : X a k) : sameB X g (gI g' a k z) := by
  refine ⟨h.1, h.2.1, fun a' k' q => ?_⟩
  show u2 g'.2.1 a k z a' k' = _
  rw [u2_n (Classical.byContradiction (fun w => q (by simp only [not_or, Classical.not_not] at w; rw [w.1, w.2]; exact hx)))]
  exact h.2.2 a' k' q
theorem sameB.MR {X : Nat → Nat → Prop} {g g' : GH} (h : sameB X g g') (hM : MR g) : MR g' := by
  obtain ⟨h1, h2, -⟩ := h
  unfold Jvm.Pilot.@@N@@.MR at hM ⊢
  rw [h1, h2]; exact hM
theorem keep_th {g : GH} : Keep g (gI g 1000 0 0) := sameB.rf.wr (Or.inl ⟨rfl, Or.inl rfl⟩)
theorem MVo.at {h : Nat → Nat → Int} (q : MVo h) {i : Int} (h0 : 0 ≤ i) (h1 : i < h 1000 3) : (0 ≤ h 1004 i.toNat ∧ h 1004 i.toNat ≤ 5) ∧ (0 ≤ h 1005 i.toNat ∧ h 1005 i.toNat ≤ h 1006 i.toNat ∧ h 1006 i.toNat ≤ 999) := q i.toNat (by omega)
theorem MVd.at {h : Nat → Nat → Int} (q : MVd h) {i : Int} (h0 : 0 ≤ i) (h1 : i < h 1000 7) : (0 ≤ h 1008 i.toNat ∧ h 1008 i.toNat < h 1000 3) ∧ (0 ≤ h 1009 i.toNat ∧ h 1009 i.toNat ≤ 15) ∧ (0 ≤ h 1010 i.toNat ∧ h 1010 i.toNat ≤ h 1011 i.toNat ∧ h 1011 i.toNat ≤ 999) ∧ (h 1012 i.toNat = -9 ∨ (0 ≤ h 1012 i.toNat ∧ h 1012 i.toNat ≤ 999)) := q i.toNat (by omega)
theorem MVs.at {h : Nat → Nat → Int} (q : MVs h) {i : Int} (h0 : 0 ≤ i) (h1 : i < h 1000 15) : (0 ≤ h 1016 i.toNat ∧ h 1016 i.toNat ≤ 5) ∧ (0 ≤ h 1017 i.toNat ∧ h 1017 i.toNat ≤ 5) ∧ (0 ≤ h 1018 i.toNat ∧ h 1018 i.toNat ≤ 999) ∧ (h 1019 i.toNat = -9 ∨ (h 1018 i.toNat ≤ h 1019 i.toNat ∧ h 1019 i.toNat ≤ 999)) := q i.toNat (by omega)
set_option maxHeartbeats 4000000 in
set_option maxRecDepth 100000 in
theorem r_canBe (g : GH) (m d : Int) (hM : MR g) (hV : MV g.2.1) (hm : 0 ≤ m ∧ m < g.2.1 1000 13) (hd : 0 ≤ d ∧ d ≤ 999) : AMet mX12_canBe g [vA 1000, vI m, vI d] (pB g (canB g.2.1 m d)) := by
  refine AMet.of [vA 1000, vI m, vI d, none, none, none, none, none] (by decide) rfl (Nat.le_of_ble_eq_true rfl) ?_
  have hc := hV.1
  unfold MVc at hc
  have hm9 := hV.2.2.2.1 m hm.1 hm.2
  refine a_bipush (z := 10) 2 dX12_canBe_0 rfl (zrl rfl) rfl ?_
  refine a_iload_n 3 dX12_canBe_2 rfl rfl ?_
  refine a_imul 4 dX12_canBe_3 (by unfold zr; omega) rfl ?_
  refine a_istore_n 5 dX12_canBe_4 (by decide) rfl rfl ?_
  refine AW.cut (J := 95) (P := fun z => isb z (datB g.2.1 m d)) ?_ (fun J95 => ?_)
  · intro z95 h95
    refine a_istore 97 dX12_canBe_95 (by decide) rfl rfl ?_
    refine a_aload_n 98 dX12_canBe_97 rfl rfl ?_
    refine a_getR 101 dX12_canBe_98 fX12_37 hM.1 rfl (mr_14 hM).1 rfl ?_
    refine a_iload_n 102 dX12_canBe_101 rfl rfl ?_
    refine a_iconst (z := 2) 103 dX12_canBe_102 rfl (zrl rfl) rfl ?_
    refine a_iadd 104 dX12_canBe_103 (by unfold zr; omega) rfl ?_
    refine a_iald 105 dX12_canBe_104 (mr_14 hM).2 (by omega) (by omega) rfl ?_
    refine a_istore 107 dX12_canBe_105 (by decide) rfl rfl ?_
    refine a_iload 109 dX12_canBe_107 rfl rfl ?_
    refine a_if_eq 119 112 dX12_canBe_109 (by decide) rfl (fun c109 => ?_) (fun c109 => ?_)
    · skip
      refine a_iload 121 dX12_canBe_119 rfl rfl ?_
      refine a_breturn dX12_canBe_121 rfl (by omega) ⟨Nat.zero_le _, Nat.zero_le _⟩ ?_
      exact ⟨_, rfl, rfl, by unfold canB; grind⟩
    · skip
      refine a_iload 114 dX12_canBe_112 rfl rfl ?_
      refine a_bipush (z := (-9)) 116 dX12_canBe_114 rfl (zrl rfl) rfl ?_
      refine a_icmp_ne 122 119 dX12_canBe_116 (by decide) rfl (fun c116 => ?_) (fun c116 => ?_)
      · skip
        have hd9 := hV.2.2.1.at (i := g.2.1 1014 (10 * m + 2).toNat) (by omega) (by omega)
        have ho9 := hV.2.1.at (i := g.2.1 1008 (g.2.1 1014 (10 * m + 2).toNat).toNat) (by omega) (by omega)
        refine a_aload_n 123 dX12_canBe_122 rfl rfl ?_
        refine a_getR 126 dX12_canBe_123 fX12_22 hM.1 rfl (mr_8 hM).1 rfl ?_
        refine a_iload 128 dX12_canBe_126 rfl rfl ?_
        refine a_iald 129 dX12_canBe_128 (mr_8 hM).2 (by omega) (by omega) rfl ?_
        refine a_istore 131 dX12_canBe_129 (by decide) rfl rfl ?_
        refine AW.cut (J := 159) (P := fun z => isb z (g.2.1 1012 (g.2.1 1014 (10 * m + 2).toNat).toNat ≠ -9 ∧ g.2.1 1012 (g.2.1 1014 (10 * m + 2).toNat).toNat ≤ d)) ?_ (fun J159 => ?_)
        · intro z159 h159
          refine a_istore 161 dX12_canBe_159 (by decide) rfl rfl ?_
          refine a_iload_n 162 dX12_canBe_161 rfl rfl ?_
          refine a_aload_n 163 dX12_canBe_162 rfl rfl ?_
          refine a_getR 166 dX12_canBe_163 fX12_16 hM.1 rfl (mr_5 hM).1 rfl ?_
          refine a_iload 168 dX12_canBe_166 rfl rfl ?_
          refine a_iald 169 dX12_canBe_168 (mr_5 hM).2 (by omega) (by omega) rfl ?_
          refine a_aload_n 170 dX12_canBe_169 rfl rfl ?_
          refine a_getR 173 dX12_canBe_170 fX12_19 hM.1 rfl (mr_6 hM).1 rfl ?_
          refine a_iload 175 dX12_canBe_173 rfl rfl ?_
          refine a_iald 176 dX12_canBe_175 (mr_6 hM).2 (by omega) (by omega) rfl ?_
          refine a_callS 179 (r_in _ _ _ _) cdX12_in lX12_84 dX12_canBe_176 rfl rfl ⟨by decide, by decide, rfl, rfl⟩ ⟨Nat.zero_le _, Nat.zero_le _⟩ (Nat.le_of_ble_eq_true rfl) rfl ?_
          rintro _ _ - ⟨b176, rfl, rfl, h176⟩ -
          refine a_if_eq 264 182 dX12_canBe_179 (by decide) rfl (fun c179 => ?_) (fun c179 => ?_)
          · skip
            refine a_iconst (z := 0) 265 dX12_canBe_264 rfl (zrl rfl) rfl ?_
            refine a_breturn dX12_canBe_265 rfl (by omega) ⟨Nat.zero_le _, Nat.zero_le _⟩ ?_
            exact ⟨_, rfl, rfl, by unfold canB dieB; grind⟩
          · skip
            refine a_iload_n 183 dX12_canBe_182 rfl rfl ?_
            refine a_aload_n 184 dX12_canBe_183 rfl rfl ?_
            refine a_getR 187 dX12_canBe_184 fX12_28 hM.1 rfl (mr_10 hM).1 rfl ?_
            refine a_iload 189 dX12_canBe_187 rfl rfl ?_
            refine a_iald 190 dX12_canBe_189 (mr_10 hM).2 (by omega) (by omega) rfl ?_
            refine a_aload_n 191 dX12_canBe_190 rfl rfl ?_
            refine a_getR 194 dX12_canBe_191 fX12_31 hM.1 rfl (mr_11 hM).1 rfl ?_
            refine a_iload 196 dX12_canBe_194 rfl rfl ?_
            refine a_iald 197 dX12_canBe_196 (mr_11 hM).2 (by omega) (by omega) rfl ?_
            refine a_callS 200 (r_in _ _ _ _) cdX12_in lX12_84 dX12_canBe_197 rfl rfl ⟨by decide, by decide, rfl, rfl⟩ ⟨Nat.zero_le _, Nat.zero_le _⟩ (Nat.le_of_ble_eq_true rfl) rfl ?_
            rintro _ _ - ⟨b197, rfl, rfl, h197⟩ -
            refine a_if_eq 264 203 dX12_canBe_200 (by decide) rfl (fun c200 => ?_) (fun c200 => ?_)
            · skip
              refine a_iconst (z := 0) 265 dX12_canBe_264 rfl (zrl rfl) rfl ?_
              refine a_breturn dX12_canBe_265 rfl (by omega) ⟨Nat.zero_le _, Nat.zero_le _⟩ ?_
              exact ⟨_, rfl, rfl, by unfold canB dieB; grind⟩
            · skip
              refine a_aload_n 204 dX12_canBe_203 rfl rfl ?_
              refine a_getR 207 dX12_canBe_204 fX12_25 hM.1 rfl (mr_9 hM).1 rfl ?_
              refine a_iload 209 dX12_canBe_207 rfl rfl ?_
              refine a_iald 210 dX12_canBe_209 (mr_9 hM).2 (by omega) (by omega) rfl ?_
              refine a_aload_n 211 dX12_canBe_210 rfl rfl ?_
              refine a_getR 214 dX12_canBe_211 fX12_37 hM.1 rfl (mr_14 hM).1 rfl ?_
              refine a_iload_n 215 dX12_canBe_214 rfl rfl ?_
              refine a_iconst (z := 3) 216 dX12_canBe_215 rfl (zrl rfl) rfl ?_
              refine a_iadd 217 dX12_canBe_216 (by unfold zr; omega) rfl ?_
              refine a_iald 218 dX12_canBe_217 (mr_14 hM).2 (by omega) (by omega) rfl ?_
              refine a_ishr _ 219 dX12_canBe_218 (v_shr (by omega) (by omega) (by omega)) rfl ?_
              refine a_iconst (z := 1) 220 dX12_canBe_219 rfl (zrl rfl) rfl ?_
              refine a_iand _ 221 dX12_canBe_220 v_and1 rfl ?_
              refine a_iconst (z := 1) 222 dX12_canBe_221 rfl (zrl rfl) rfl ?_
              refine a_icmp_ne 264 225 dX12_canBe_222 (by decide) rfl (fun c222 => ?_) (fun c222 => ?_)
              · skip
                refine a_iconst (z := 0) 265 dX12_canBe_264 rfl (zrl rfl) rfl ?_
                refine a_breturn dX12_canBe_265 rfl (by omega) ⟨Nat.zero_le _, Nat.zero_le _⟩ ?_
                exact ⟨_, rfl, rfl, by unfold canB dieB; grind⟩
              · skip
                refine a_aload_n 226 dX12_canBe_225 rfl rfl ?_
                refine a_getR 229 dX12_canBe_226 fX12_37 hM.1 rfl (mr_14 hM).1 rfl ?_
                refine a_iload_n 230 dX12_canBe_229 rfl rfl ?_
                refine a_iconst (z := 4) 231 dX12_canBe_230 rfl (zrl rfl) rfl ?_
                refine a_iadd 232 dX12_canBe_231 (by unfold zr; omega) rfl ?_
                refine a_iald 233 dX12_canBe_232 (mr_14 hM).2 (by omega) (by omega) rfl ?_
                refine a_bipush (z := (-9)) 235 dX12_canBe_233 rfl (zrl rfl) rfl ?_
                refine a_icmp_eq 260 238 dX12_canBe_235 (by decide) rfl (fun c235 => ?_) (fun c235 => ?_)
                · skip
                  refine a_iconst (z := 1) 261 dX12_canBe_260 rfl (zrl rfl) rfl ?_
                  refine a_goto 265 dX12_canBe_261 (by decide) ?_
                  refine a_breturn dX12_canBe_265 rfl (by omega) ⟨Nat.zero_le _, Nat.zero_le _⟩ ?_
                  exact ⟨_, rfl, rfl, by unfold canB dieB; grind⟩
                · skip
                  refine AW.cut (J := 255) (P := fun z => isb z (g.2.1 1014 (10 * m + 4).toNat = 1)) ?_ (fun J255 => ?_)
                  · intro z255 h255
                    refine a_iload 257 dX12_canBe_255 rfl rfl ?_
                    refine a_icmp_ne 264 260 dX12_canBe_257 (by decide) rfl (fun c257 => ?_) (fun c257 => ?_)
                    · skip
                      refine a_iconst (z := 0) 265 dX12_canBe_264 rfl (zrl rfl) rfl ?_
                      refine a_breturn dX12_canBe_265 rfl (by omega) ⟨Nat.zero_le _, Nat.zero_le _⟩ ?_
                      exact ⟨_, rfl, rfl, by unfold canB dieB; grind⟩
                    · skip
                      refine a_iconst (z := 1) 261 dX12_canBe_260 rfl (zrl rfl) rfl ?_
                      refine a_goto 265 dX12_canBe_261 (by decide) ?_
                      refine a_breturn dX12_canBe_265 rfl (by omega) ⟨Nat.zero_le _, Nat.zero_le _⟩ ?_
                      exact ⟨_, rfl, rfl, by unfold canB dieB; grind⟩
                  · skip
                    refine a_aload_n 239 dX12_canBe_238 rfl rfl ?_
                    refine a_getR 242 dX12_canBe_239 fX12_37 hM.1 rfl (mr_14 hM).1 rfl ?_
                    refine a_iload_n 243 dX12_canBe_242 rfl rfl ?_
                    refine a_iconst (z := 4) 244 dX12_canBe_243 rfl (zrl rfl) rfl ?_
                    refine a_iadd 245 dX12_canBe_244 (by unfold zr; omega) rfl ?_
                    refine a_iald 246 dX12_canBe_245 (mr_14 hM).2 (by omega) (by omega) rfl ?_
                    refine a_iconst (z := 1) 247 dX12_canBe_246 rfl (zrl rfl) rfl ?_
                    refine a_icmp_ne 254 250 dX12_canBe_247 (by decide) rfl (fun c247 => ?_) (fun c247 => ?_)
                    · skip
                      refine a_iconst (z := 0) 255 dX12_canBe_254 rfl (zrl rfl) rfl ?_
                      exact J255 _ (by omega)
                    · skip
                      refine a_iconst (z := 1) 251 dX12_canBe_250 rfl (zrl rfl) rfl ?_
                      refine a_goto 255 dX12_canBe_251 (by decide) ?_
                      exact J255 _ (by omega)
        · skip
          refine a_aload_n 132 dX12_canBe_131 rfl rfl ?_
          refine a_getR 135 dX12_canBe_132 fX12_34 hM.1 rfl (mr_12 hM).1 rfl ?_
          refine a_iload 137 dX12_canBe_135 rfl rfl ?_
          refine a_iald 138 dX12_canBe_137 (mr_12 hM).2 (by omega) (by omega) rfl ?_
          refine a_bipush (z := (-9)) 140 dX12_canBe_138 rfl (zrl rfl) rfl ?_
          refine a_icmp_eq 158 143 dX12_canBe_140 (by decide) rfl (fun c140 => ?_) (fun c140 => ?_)
          · skip
            refine a_iconst (z := 0) 159 dX12_canBe_158 rfl (zrl rfl) rfl ?_
            exact J159 _ (by omega)
          · skip
            refine a_iload_n 144 dX12_canBe_143 rfl rfl ?_
            refine a_aload_n 145 dX12_canBe_144 rfl rfl ?_
            refine a_getR 148 dX12_canBe_145 fX12_34 hM.1 rfl (mr_12 hM).1 rfl ?_
            refine a_iload 150 dX12_canBe_148 rfl rfl ?_
            refine a_iald 151 dX12_canBe_150 (mr_12 hM).2 (by omega) (by omega) rfl ?_
            refine a_icmp_lt 158 154 dX12_canBe_151 (by decide) rfl (fun c151 => ?_) (fun c151 => ?_)
            · skip
              refine a_iconst (z := 0) 159 dX12_canBe_158 rfl (zrl rfl) rfl ?_
              exact J159 _ (by omega)
            · skip
              refine a_iconst (z := 1) 155 dX12_canBe_154 rfl (zrl rfl) rfl ?_
              refine a_goto 159 dX12_canBe_155 (by decide) ?_
              exact J159 _ (by omega)
      · skip
        refine a_iload 121 dX12_canBe_119 rfl rfl ?_
        refine a_breturn dX12_canBe_121 rfl (by omega) ⟨Nat.zero_le _, Nat.zero_le _⟩ ?_
        exact ⟨_, rfl, rfl, by unfold canB; grind⟩
  · skip
    refine a_aload_n 6 dX12_canBe_5 rfl rfl ?_
    refine a_getR 9 dX12_canBe_6 fX12_37 hM.1 rfl (mr_14 hM).1 rfl ?_
    refine a_iload_n 10 dX12_canBe_9 rfl rfl ?_
    refine a_iconst (z := 5) 11 dX12_canBe_10 rfl (zrl rfl) rfl ?_
    refine a_iadd 12 dX12_canBe_11 (by unfold zr; omega) rfl ?_
    refine a_iald 13 dX12_canBe_12 (mr_14 hM).2 (by omega) (by omega) rfl ?_
    refine a_if_lt 31 16 dX12_canBe_13 (by decide) rfl (fun c13 => ?_) (fun c13 => ?_)
    · skip
      refine a_aload_n 32 dX12_canBe_31 rfl rfl ?_
      refine a_getR 35 dX12_canBe_32 fX12_37 hM.1 rfl (mr_14 hM).1 rfl ?_
      refine a_iload_n 36 dX12_canBe_35 rfl rfl ?_
      refine a_bipush (z := 6) 38 dX12_canBe_36 rfl (zrl rfl) rfl ?_
      refine a_iadd 39 dX12_canBe_38 (by unfold zr; omega) rfl ?_
      refine a_iald 40 dX12_canBe_39 (mr_14 hM).2 (by omega) (by omega) rfl ?_
      refine a_if_lt 62 43 dX12_canBe_40 (by decide) rfl (fun c40 => ?_) (fun c40 => ?_)
      · skip
        refine a_aload_n 63 dX12_canBe_62 rfl rfl ?_
        refine a_getR 66 dX12_canBe_63 fX12_37 hM.1 rfl (mr_14 hM).1 rfl ?_
        refine a_iload_n 67 dX12_canBe_66 rfl rfl ?_
        refine a_bipush (z := 7) 69 dX12_canBe_67 rfl (zrl rfl) rfl ?_
        refine a_iadd 70 dX12_canBe_69 (by unfold zr; omega) rfl ?_
        refine a_iald 71 dX12_canBe_70 (mr_14 hM).2 (by omega) (by omega) rfl ?_
        refine a_if_lt 90 74 dX12_canBe_71 (by decide) rfl (fun c71 => ?_) (fun c71 => ?_)
        · skip
          refine a_iconst (z := 1) 91 dX12_canBe_90 rfl (zrl rfl) rfl ?_
          refine a_goto 95 dX12_canBe_91 (by decide) ?_
          exact J95 _ (by unfold datB; omega)
        · skip
          refine a_aload_n 75 dX12_canBe_74 rfl rfl ?_
          refine a_getR 78 dX12_canBe_75 fX12_37 hM.1 rfl (mr_14 hM).1 rfl ?_
          refine a_iload_n 79 dX12_canBe_78 rfl rfl ?_
          refine a_bipush (z := 7) 81 dX12_canBe_79 rfl (zrl rfl) rfl ?_
          refine a_iadd 82 dX12_canBe_81 (by unfold zr; omega) rfl ?_
          refine a_iald 83 dX12_canBe_82 (mr_14 hM).2 (by omega) (by omega) rfl ?_
          refine a_iload_n 84 dX12_canBe_83 rfl rfl ?_
          refine a_bipush (z := 10) 86 dX12_canBe_84 rfl (zrl rfl) rfl ?_
          refine a_irem 87 dX12_canBe_86 (by omega) (by omega) rfl ?_
          refine a_icmp_ne 94 90 dX12_canBe_87 (by decide) rfl (fun c87 => ?_) (fun c87 => ?_)
          · skip
            refine a_iconst (z := 0) 95 dX12_canBe_94 rfl (zrl rfl) rfl ?_
            exact J95 _ (by unfold datB; omega)
          · skip
            refine a_iconst (z := 1) 91 dX12_canBe_90 rfl (zrl rfl) rfl ?_
            refine a_goto 95 dX12_canBe_91 (by decide) ?_
            exact J95 _ (by unfold datB; omega)
      · skip
        refine a_aload_n 44 dX12_canBe_43 rfl rfl ?_
        refine a_getR 47 dX12_canBe_44 fX12_37 hM.1 rfl (mr_14 hM).1 rfl ?_
        refine a_iload_n 48 dX12_canBe_47 rfl rfl ?_
        refine a_bipush (z := 6) 50 dX12_canBe_48 rfl (zrl rfl) rfl ?_
        refine a_iadd 51 dX12_canBe_50 (by unfold zr; omega) rfl ?_
        refine a_iald 52 dX12_canBe_51 (mr_14 hM).2 (by omega) (by omega) rfl ?_
        refine a_iload_n 53 dX12_canBe_52 rfl rfl ?_
        refine a_bipush (z := 10) 55 dX12_canBe_53 rfl (zrl rfl) rfl ?_
        refine a_idiv 56 dX12_canBe_55 (by omega) (by omega) rfl ?_
        refine a_bipush (z := 10) 58 dX12_canBe_56 rfl (zrl rfl) rfl ?_
        refine a_irem 59 dX12_canBe_58 (by omega) (by omega) rfl ?_
        refine a_icmp_ne 94 62 dX12_canBe_59 (by decide) rfl (fun c59 => ?_) (fun c59 => ?_)
        · skip
          refine a_iconst (z := 0) 95 dX12_canBe_94 rfl (zrl rfl) rfl ?_
          exact J95 _ (by unfold datB; omega)
        · skip
          refine a_aload_n 63 dX12_canBe_62 rfl rfl ?_
          refine a_getR 66 dX12_canBe_63 fX12_37 hM.1 rfl (mr_14 hM).1 rfl ?_
          refine a_iload_n 67 dX12_canBe_66 rfl rfl ?_
          refine a_bipush (z := 7) 69 dX12_canBe_67 rfl (zrl rfl) rfl ?_
          refine a_iadd 70 dX12_canBe_69 (by unfold zr; omega) rfl ?_
          refine a_iald 71 dX12_canBe_70 (mr_14 hM).2 (by omega) (by omega) rfl ?_
          refine a_if_lt 90 74 dX12_canBe_71 (by decide) rfl (fun c71 => ?_) (fun c71 => ?_)
          · skip
            refine a_iconst (z := 1) 91 dX12_canBe_90 rfl (zrl rfl) rfl ?_
            refine a_goto 95 dX12_canBe_91 (by decide) ?_
            exact J95 _ (by unfold datB; omega)
          · skip
            refine a_aload_n 75 dX12_canBe_74 rfl rfl ?_
            refine a_getR 78 dX12_canBe_75 fX12_37 hM.1 rfl (mr_14 hM).1 rfl ?_
            refine a_iload_n 79 dX12_canBe_78 rfl rfl ?_
            refine a_bipush (z := 7) 81 dX12_canBe_79 rfl (zrl rfl) rfl ?_
            refine a_iadd 82 dX12_canBe_81 (by unfold zr; omega) rfl ?_
            refine a_iald 83 dX12_canBe_82 (mr_14 hM).2 (by omega) (by omega) rfl ?_
            refine a_iload_n 84 dX12_canBe_83 rfl rfl ?_
            refine a_bipush (z := 10) 86 dX12_canBe_84 rfl (zrl rfl) rfl ?_
            refine a_irem 87 dX12_canBe_86 (by omega) (by omega) rfl ?_
            refine a_icmp_ne 94 90 dX12_canBe_87 (by decide) rfl (fun c87 => ?_) (fun c87 => ?_)
            · skip
              refine a_iconst (z := 0) 95 dX12_canBe_94 rfl (zrl rfl) rfl ?_
              exact J95 _ (by unfold datB; omega)
            · skip
              refine a_iconst (z := 1) 91 dX12_canBe_90 rfl (zrl rfl) rfl ?_
              refine a_goto 95 dX12_canBe_91 (by decide) ?_
              exact J95 _ (by unfold datB; omega)
    · skip
      refine a_aload_n 17 dX12_canBe_16 rfl rfl ?_
      refine a_getR 20 dX12_canBe_17 fX12_37 hM.1 rfl (mr_14 hM).1 rfl ?_
      refine a_iload_n 21 dX12_canBe_20 rfl rfl ?_
      refine a_iconst (z := 5) 22 dX12_canBe_21 rfl (zrl rfl) rfl ?_
      refine a_iadd 23 dX12_canBe_22 (by unfold zr; omega) rfl ?_
      refine a_iald 24 dX12_canBe_23 (mr_14 hM).2 (by omega) (by omega) rfl ?_
      refine a_iload_n 25 dX12_canBe_24 rfl rfl ?_
      refine a_bipush (z := 100) 27 dX12_canBe_25 rfl (zrl rfl) rfl ?_
      refine a_idiv 28 dX12_canBe_27 (by omega) (by omega) rfl ?_
      refine a_icmp_ne 94 31 dX12_canBe_28 (by decide) rfl (fun c28 => ?_) (fun c28 => ?_)
      · skip
        refine a_iconst (z := 0) 95 dX12_canBe_94 rfl (zrl rfl) rfl ?_
        exact J95 _ (by unfold datB; omega)
      · skip
        refine a_aload_n 32 dX12_canBe_31 rfl rfl ?_
        refine a_getR 35 dX12_canBe_32 fX12_37 hM.1 rfl (mr_14 hM).1 rfl ?_
        refine a_iload_n 36 dX12_canBe_35 rfl rfl ?_
        refine a_bipush (z := 6) 38 dX12_canBe_36 rfl (zrl rfl) rfl ?_
        refine a_iadd 39 dX12_canBe_38 (by unfold zr; omega) rfl ?_
        refine a_iald 40 dX12_canBe_39 (mr_14 hM).2 (by omega) (by omega) rfl ?_
        refine a_if_lt 62 43 dX12_canBe_40 (by decide) rfl (fun c40 => ?_) (fun c40 => ?_)
        · skip
          refine a_aload_n 63 dX12_canBe_62 rfl rfl ?_
          refine a_getR 66 dX12_canBe_63 fX12_37 hM.1 rfl (mr_14 hM).1 rfl ?_
          refine a_iload_n 67 dX12_canBe_66 rfl rfl ?_
          refine a_bipush (z := 7) 69 dX12_canBe_67 rfl (zrl rfl) rfl ?_
          refine a_iadd 70 dX12_canBe_69 (by unfold zr; omega) rfl ?_
          refine a_iald 71 dX12_canBe_70 (mr_14 hM).2 (by omega) (by omega) rfl ?_
          refine a_if_lt 90 74 dX12_canBe_71 (by decide) rfl (fun c71 => ?_) (fun c71 => ?_)
          · skip
            refine a_iconst (z := 1) 91 dX12_canBe_90 rfl (zrl rfl) rfl ?_
            refine a_goto 95 dX12_canBe_91 (by decide) ?_
            exact J95 _ (by unfold datB; omega)
          · skip
            refine a_aload_n 75 dX12_canBe_74 rfl rfl ?_
            refine a_getR 78 dX12_canBe_75 fX12_37 hM.1 rfl (mr_14 hM).1 rfl ?_
            refine a_iload_n 79 dX12_canBe_78 rfl rfl ?_
            refine a_bipush (z := 7) 81 dX12_canBe_79 rfl (zrl rfl) rfl ?_
            refine a_iadd 82 dX12_canBe_81 (by unfold zr; omega) rfl ?_
            refine a_iald 83 dX12_canBe_82 (mr_14 hM).2 (by omega) (by omega) rfl ?_
            refine a_iload_n 84 dX12_canBe_83 rfl rfl ?_
            refine a_bipush (z := 10) 86 dX12_canBe_84 rfl (zrl rfl) rfl ?_
            refine a_irem 87 dX12_canBe_86 (by omega) (by omega) rfl ?_
            refine a_icmp_ne 94 90 dX12_canBe_87 (by decide) rfl (fun c87 => ?_) (fun c87 => ?_)
            · skip
              refine a_iconst (z := 0) 95 dX12_canBe_94 rfl (zrl rfl) rfl ?_
              exact J95 _ (by unfold datB; omega)
            · skip
              refine a_iconst (z := 1) 91 dX12_canBe_90 rfl (zrl rfl) rfl ?_
              refine a_goto 95 dX12_canBe_91 (by decide) ?_
              exact J95 _ (by unfold datB; omega)
        · skip
          refine a_aload_n 44 dX12_canBe_43 rfl rfl ?_
          refine a_getR 47 dX12_canBe_44 fX12_37 hM.1 rfl (mr_14 hM).1 rfl ?_
          refine a_iload_n 48 dX12_canBe_47 rfl rfl ?_
          refine a_bipush (z := 6) 50 dX12_canBe_48 rfl (zrl rfl) rfl ?_
          refine a_iadd 51 dX12_canBe_50 (by unfold zr; omega) rfl ?_
          refine a_iald 52 dX12_canBe_51 (mr_14 hM).2 (by omega) (by omega) rfl ?_
          refine a_iload_n 53 dX12_canBe_52 rfl rfl ?_
          refine a_bipush (z := 10) 55 dX12_canBe_53 rfl (zrl rfl) rfl ?_
          refine a_idiv 56 dX12_canBe_55 (by omega) (by omega) rfl ?_
          refine a_bipush (z := 10) 58 dX12_canBe_56 rfl (zrl rfl) rfl ?_
          refine a_irem 59 dX12_canBe_58 (by omega) (by omega) rfl ?_
          refine a_icmp_ne 94 62 dX12_canBe_59 (by decide) rfl (fun c59 => ?_) (fun c59 => ?_)
          · skip
            refine a_iconst (z := 0) 95 dX12_canBe_94 rfl (zrl rfl) rfl ?_
            exact J95 _ (by unfold datB; omega)
          · skip
            refine a_aload_n 63 dX12_canBe_62 rfl rfl ?_
            refine a_getR 66 dX12_canBe_63 fX12_37 hM.1 rfl (mr_14 hM).1 rfl ?_
            refine a_iload_n 67 dX12_canBe_66 rfl rfl ?_
            refine a_bipush (z := 7) 69 dX12_canBe_67 rfl (zrl rfl) rfl ?_
            refine a_iadd 70 dX12_canBe_69 (by unfold zr; omega) rfl ?_
            refine a_iald 71 dX12_canBe_70 (mr_14 hM).2 (by omega) (by omega) rfl ?_
            refine a_if_lt 90 74 dX12_canBe_71 (by decide) rfl (fun c71 => ?_) (fun c71 => ?_)
            · skip
              refine a_iconst (z := 1) 91 dX12_canBe_90 rfl (zrl rfl) rfl ?_
              refine a_goto 95 dX12_canBe_91 (by decide) ?_
              exact J95 _ (by unfold datB; omega)
            · skip
              refine a_aload_n 75 dX12_canBe_74 rfl rfl ?_
              refine a_getR 78 dX12_canBe_75 fX12_37 hM.1 rfl (mr_14 hM).1 rfl ?_
              refine a_iload_n 79 dX12_canBe_78 rfl rfl ?_
              refine a_bipush (z := 7) 81 dX12_canBe_79 rfl (zrl rfl) rfl ?_
              refine a_iadd 82 dX12_canBe_81 (by unfold zr; omega) rfl ?_
              refine a_iald 83 dX12_canBe_82 (mr_14 hM).2 (by omega) (by omega) rfl ?_
              refine a_iload_n 84 dX12_canBe_83 rfl rfl ?_
              refine a_bipush (z := 10) 86 dX12_canBe_84 rfl (zrl rfl) rfl ?_
              refine a_irem 87 dX12_canBe_86 (by omega) (by omega) rfl ?_
              refine a_icmp_ne 94 90 dX12_canBe_87 (by decide) rfl (fun c87 => ?_) (fun c87 => ?_)
              · skip
                refine a_iconst (z := 0) 95 dX12_canBe_94 rfl (zrl rfl) rfl ?_
                exact J95 _ (by unfold datB; omega)
              · skip
                refine a_iconst (z := 1) 91 dX12_canBe_90 rfl (zrl rfl) rfl ?_
                refine a_goto 95 dX12_canBe_91 (by decide) ?_
                exact J95 _ (by unfold datB; omega)
