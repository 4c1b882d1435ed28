theorem AW.cutH {M : MI} {T : TT} {kn : Nat × Nat} {g : GH} {pc : Nat} {ls st : List AV} {J : Nat} {P : GH → Prop} (k : ∀ g', P g' → AW M T kn g' J ls st) (h : (∀ g', P g' → AW M T kn g' J ls st) → AW M T kn g pc ls st) : AW M T kn g pc ls st := h k
/-- the reader: next, token, place, value, fault -/
abbrev PS : Type := Int × Int × Int × Int × Int
abbrev p5 (h : Nat → Nat → Int) : PS := (h 1000 30, h 1000 31, h 1000 32, h 1000 33, h 1000 34)
noncomputable def adv (T : Int → Int) (s : PS) : PS := ((lx T s.1 s.2.2.2.1).1, (lx T s.1 s.2.2.2.1).2.1, (lx T s.1 s.2.2.2.1).2.2.1, (lx T s.1 s.2.2.2.1).2.2.2, s.2.2.2.2)
def fl (s : PS) : PS := (s.1, s.2.1, s.2.2.1, s.2.2.2.1, if s.2.2.2.2 < 0 then s.2.2.1 else s.2.2.2.2)
abbrev sgP (c : Int) (s : PS) : Prop := s.2.2.2.2 < 0 ∧ s.2.1 = 3 ∧ s.2.2.2.1 = c
abbrev wdP (c : Int) (s : PS) : Prop := s.2.2.2.2 < 0 ∧ s.2.1 = 1 ∧ s.2.2.2.1 = c
abbrev nmP (a b : Int) (s : PS) : Prop := s.2.2.2.2 < 0 ∧ s.2.1 = 2 ∧ a ≤ s.2.2.2.1 ∧ s.2.2.2.1 ≤ b
noncomputable def tS (T : Int → Int) (c : Int) (s : PS) : PS := if sgP c s then adv T s else fl s
noncomputable def tW (T : Int → Int) (c : Int) (s : PS) : PS := if wdP c s then adv T s else fl s
noncomputable def tN (T : Int → Int) (a b : Int) (s : PS) : PS := if nmP a b s then adv T s else fl s
def tNv (a b : Int) (s : PS) : Int := if nmP a b s then s.2.2.2.1 else 0
def mx1 (x : Int) : Int := if x < 1 then 1 else x
theorem fl_w {s : PS} (h : 0 ≤ s.2.2.1) : ¬ (fl s).2.2.2.2 < 0 := by
  show ¬ (if s.2.2.2.2 < 0 then s.2.2.1 else s.2.2.2.2) < 0
  split <;> omega
theorem tS_w {T : Int → Int} {c : Int} {s : PS} (h : 0 ≤ s.2.2.1) (q : (tS T c s).2.2.2.2 < 0) : sgP c s := by
  unfold tS at q; split at q
  · assumption
  · exact absurd q (fl_w h)
theorem tW_w {T : Int → Int} {c : Int} {s : PS} (h : 0 ≤ s.2.2.1) (q : (tW T c s).2.2.2.2 < 0) : wdP c s := by
  unfold tW at q; split at q
  · assumption
  · exact absurd q (fl_w h)
theorem tN_w {T : Int → Int} {a b : Int} {s : PS} (h : 0 ≤ s.2.2.1) (q : (tN T a b s).2.2.2.2 < 0) : s.2.2.2.2 < 0 ∧ a ≤ tNv a b s ∧ tNv a b s ≤ b := by
  unfold tN at q; split at q
  · rename_i z; unfold tNv; rw [if_pos z]; exact ⟨z.1, z.2.2⟩
  · exact absurd q (fl_w h)
def bX (a k : Nat) : Prop := a = 1000 ∧ 30 ≤ k ∧ k ≤ 34
def rX (n : Int) (a k : Nat) : Prop := bX a k ∨ (a = 1037 ∧ n ≤ k ∧ (k : Int) ≤ n + 9)
theorem bX_scr : ∀ a k, bX a k → scr a k := by unfold bX scr; omega
theorem rX_scr {n : Int} (hn : 120 ≤ n) : ∀ a k, rX n a k → scr a k := by unfold rX bX scr; omega
theorem bX_rX {n : Int} : ∀ a k, bX a k → rX n a k := fun _ _ h => Or.inl h
theorem aX_bX : ∀ a k, aX a k → bX a k := by unfold aX bX; omega
def okP (h : Nat → Nat → Int) : Prop := (0 ≤ h 1000 30 ∧ h 1000 30 ≤ h 1000 29) ∧ (0 ≤ h 1000 32 ∧ h 1000 32 ≤ h 1000 29) ∧ (0 ≤ h 1000 31 ∧ h 1000 31 ≤ 4) ∧ h 1000 34 ≤ 600
theorem tx_eq {X : Nat → Nat → Prop} {g g' : GH} (h : sameB X g g') (h1 : ¬ X 1000 29) (h2 : ∀ k, ¬ X 1028 k) : tx g'.2.1 = tx g.2.1 := by
  funext k; unfold tx; rw [h.2.2 1000 29 h1, h.2.2 1028 _ (h2 _)]
theorem tx_r {n : Int} {g g' : GH} (h : sameB (rX n) g g') : tx g'.2.1 = tx g.2.1 := tx_eq h (by unfold rX bX; omega) (fun k => by unfold rX bX; omega)
theorem r_adv0 (g : GH) (hM : MR g) (hV : MV g.2.1) (hO : 0 ≤ g.2.1 1000 30 ∧ g.2.1 1000 30 ≤ g.2.1 1000 29) (h34 : g.2.1 1000 34 ≤ 600) : AMet mX12_advances g [vA 1000] (fun _ g' => sameB bX g g' ∧ p5 g'.2.1 = adv (tx g.2.1) (p5 g.2.1) ∧ okP g'.2.1) := by
  refine (r_advances g hM hV hO).post (fun r g' _ _ h => ?_)
  obtain ⟨h1, h2, h3, h4, h5⟩ := h
  have e29 : g'.2.1 1000 29 = g.2.1 1000 29 := h1.2.2 1000 29 (by unfold aX; omega)
  have e34 : g'.2.1 1000 34 = g.2.1 1000 34 := h1.2.2 1000 34 (by unfold aX; omega)
  refine ⟨h1.mono aX_bX, ?_, ?_⟩
  · show (g'.2.1 1000 30, g'.2.1 1000 31, g'.2.1 1000 32, g'.2.1 1000 33, g'.2.1 1000 34) = ((lx (tx g.2.1) (g.2.1 1000 30) (g.2.1 1000 33)).1, (lx (tx g.2.1) (g.2.1 1000 30) (g.2.1 1000 33)).2.1, (lx (tx g.2.1) (g.2.1 1000 30) (g.2.1 1000 33)).2.2.1, (lx (tx g.2.1) (g.2.1 1000 30) (g.2.1 1000 33)).2.2.2, g.2.1 1000 34)
    rw [← h2, e34]
  · unfold okP; rw [e29, e34]; exact ⟨h3, h4, h5, h34⟩
theorem r_adv (g : GH) (hM : MR g) (hV : MV g.2.1) (hO : okP g.2.1) : AMet mX12_advances g [vA 1000] (fun _ g' => sameB bX g g' ∧ p5 g'.2.1 = adv (tx g.2.1) (p5 g.2.1) ∧ okP g'.2.1) := r_adv0 g hM hV hO.1 hO.2.2.2
theorem p5_wr {g : GH} {k : Nat} {v : Int} : p5 (gI g 1037 k v).2.1 = p5 g.2.1 := by
  unfold p5; rw [gI_n (Or.inl (by decide)), gI_n (Or.inl (by decide)), gI_n (Or.inl (by decide)), gI_n (Or.inl (by decide)), gI_n (Or.inl (by decide))]
theorem okP_wr {g : GH} {k : Nat} {v : Int} (h : okP g.2.1) : okP (gI g 1037 k v).2.1 := by
  unfold okP at h ⊢; rw [gI_n (Or.inl (by decide)), gI_n (Or.inl (by decide)), gI_n (Or.inl (by decide)), gI_n (Or.inl (by decide)), gI_n (Or.inl (by decide))]; exact h
/-- the cells of a rule, n of them -/
def cB (V : Nat → Int) (a : Int) (n : Nat) (g : GH) : Prop := ∀ j : Nat, j < n → g.2.1 1037 (a + j).toNat = V j
theorem cB.keep {V : Nat → Int} {a : Int} {n : Nat} {g g' : GH} (h : cB V a n g) (hs : sameB bX g g') : cB V a n g' := fun j hj => (hs.2.2 1037 _ (by unfold bX; omega)).trans (h j hj)
theorem cB.wr {V : Nat → Int} {a v : Int} {n k : Nat} {g : GH} (h : cB V a n g) (ha : 0 ≤ a) (hk : k = (a + n).toNat) (hv : v = V n) : cB V a (n + 1) (gI g 1037 k v) := fun j hj => by
  by_cases e : j = n
  · subst e; rw [← hk, gI_s]; exact hv
  · rw [gI_n (Or.inr (by omega))]; exact h j (by omega)
theorem cB.hi {V : Nat → Int} {a v : Int} {n k : Nat} {g : GH} (h : cB V a n g) (ha : 0 ≤ a) (hk : (a + n).toNat ≤ k) : cB V a n (gI g 1037 k v) := fun j hj => by
  rw [gI_n (Or.inr (by omega))]; exact h j hj
noncomputable def q1 (T : Int → Int) (s : PS) : PS := tW T 0 s
noncomputable def q2 (T : Int → Int) (s : PS) : PS := tN T 0 2 (q1 T s)
noncomputable def q3 (T : Int → Int) (s : PS) : PS := tS T 62 (q2 T s)
noncomputable def q4 (T : Int → Int) (s : PS) : PS := tN T 0 2 (q3 T s)
noncomputable def q5 (T : Int → Int) (s : PS) : PS := tS T 44 (q4 T s)
noncomputable def q6 (T : Int → Int) (s : PS) : PS := tN T 0 999 (q5 T s)
noncomputable def q7 (T : Int → Int) (s : PS) : PS := tS T 45 (q6 T s)
noncomputable def q8 (T : Int → Int) (s : PS) : PS := tN T (tNv 0 999 (q5 T s)) 999 (q7 T s)
noncomputable def q9 (T : Int → Int) (s : PS) : PS := tS T 58 (q8 T s)
noncomputable def q10 (T : Int → Int) (s : PS) : PS := tN T 0 999 (q9 T s)
noncomputable def q11 (T : Int → Int) (s : PS) : PS := tW T 1 (q10 T s)
noncomputable def q12 (T : Int → Int) (s : PS) : PS := tN T 1 500 (q11 T s)
noncomputable def q13 (T : Int → Int) (s : PS) : PS := if sgP 43 (q12 T s) then tN T 0 999 (adv T (q12 T s)) else q12 T s
noncomputable def q14 (T : Int → Int) (s : PS) : PS := if wdP 2 (q13 T s) then tN T (mx1 (tNv 0 99 (adv T (q13 T s)))) 99 (tS T 47 (tN T 0 99 (adv T (q13 T s)))) else q13 T s
noncomputable def q15 (T : Int → Int) (s : PS) : PS := if wdP 3 (q14 T s) then adv T (q14 T s) else q14 T s
noncomputable def q16 (T : Int → Int) (s : PS) : PS := tS T 59 (q15 T s)
noncomputable def vr (T : Int → Int) (s : PS) : Nat → Int
  | 0 => tNv 0 2 (q1 T s)
  | 1 => tNv 0 2 (q3 T s)
  | 2 => tNv 0 999 (q5 T s)
  | 3 => tNv (tNv 0 999 (q5 T s)) 999 (q7 T s)
  | 4 => tNv 0 999 (q9 T s)
  | 5 => tNv 1 500 (q11 T s)
  | 6 => if sgP 43 (q12 T s) then tNv 0 999 (adv T (q12 T s)) else 0
  | 7 => if wdP 2 (q13 T s) then tNv 0 99 (adv T (q13 T s)) else 1
  | 8 => if wdP 2 (q13 T s) then tNv (mx1 (tNv 0 99 (adv T (q13 T s)))) 99 (tS T 47 (tN T 0 99 (adv T (q13 T s)))) else 1
  | _ => if wdP 3 (q14 T s) then 1 else 0
/-- a rule as the document lets it be -/
def rlK (V : Nat → Int) : Prop := (0 ≤ V 0 ∧ V 0 ≤ 2) ∧ (0 ≤ V 1 ∧ V 1 ≤ 2) ∧ (0 ≤ V 2 ∧ V 2 ≤ V 3 ∧ V 3 ≤ 999) ∧ (0 ≤ V 4 ∧ V 4 ≤ 999) ∧ (1 ≤ V 5 ∧ V 5 ≤ 500) ∧ (0 ≤ V 6 ∧ V 6 ≤ 999) ∧ (0 ≤ V 7 ∧ V 7 ≤ 99) ∧ (1 ≤ V 8 ∧ V 8 ≤ 99) ∧ (V 9 = 0 ∨ V 9 = 1)
set_option maxHeartbeats 4000000 in
set_option maxRecDepth 100000 in
theorem r_fails (g : GH) (hM : MR g) (hV : MV g.2.1) (hO : okP g.2.1) : AMet mX12_fails g [vA 1000] (fun _ g' => sameB bX g g' ∧ p5 g'.2.1 = fl (p5 g.2.1) ∧ okP g'.2.1) := by
  refine AMet.of [vA 1000] (by decide) rfl (Nat.le_of_ble_eq_true rfl) ?_
  refine a_aload_n 1 dX12_fails_0 rfl rfl ?_
  refine AW.cut (J := 19) (P := fun z => z = (if g.2.1 1000 34 < 0 then g.2.1 1000 32 else g.2.1 1000 34)) ?_ (fun J19 => ?_)
  · intro z19 h19
    subst h19
    refine a_putI 22 dX12_fails_19 fX12_195 (Or.inl rfl) hM.1 (Or.inl rfl) rfl ?_
    refine a_return dX12_fails_22 rfl ⟨Nat.zero_le _, Nat.zero_le _⟩ ?_
    refine ⟨sameB.rf.wr ⟨rfl, by decide, by decide⟩, ?_, ?_⟩
    · unfold p5; rw [gI_n (Or.inr (by decide)), gI_n (Or.inr (by decide)), gI_n (Or.inr (by decide)), gI_n (Or.inr (by decide)), gI_s]; rfl
    · have hc := hV.1; unfold MVc at hc; unfold okP at hO ⊢; rw [gI_n (Or.inr (by decide)), gI_n (Or.inr (by decide)), gI_n (Or.inr (by decide)), gI_n (Or.inr (by decide)), gI_s]; refine ⟨hO.1, hO.2.1, hO.2.2.1, ?_⟩; split <;> omega
  · skip
    refine a_aload_n 2 dX12_fails_1 rfl rfl ?_
    refine a_getI 5 dX12_fails_2 fX12_195 hM.1 rfl rfl ?_
    refine a_if_ge 15 8 dX12_fails_5 (by decide) rfl (fun c5 => ?_) (fun c5 => ?_)
    · skip
      refine a_aload_n 16 dX12_fails_15 rfl rfl ?_
      refine a_getI 19 dX12_fails_16 fX12_195 hM.1 rfl rfl ?_
      exact J19 _ (by first | rw [if_pos (by omega)] | rw [if_neg (by omega)])
    · skip
      refine a_aload_n 9 dX12_fails_8 rfl rfl ?_
      refine a_getI 12 dX12_fails_9 fX12_183 hM.1 rfl rfl ?_
      refine a_goto 19 dX12_fails_12 (by decide) ?_
      exact J19 _ (by first | rw [if_pos (by omega)] | rw [if_neg (by omega)])
set_option maxHeartbeats 4000000 in
set_option maxRecDepth 100000 in
theorem r_isSign (g : GH) (c : Int) (hM : MR g) : AMet mX12_isSign g [vA 1000, vI c] (pB g (sgP c (p5 g.2.1))) := by
  refine AMet.of [vA 1000, vI c] (by decide) rfl (Nat.le_of_ble_eq_true rfl) ?_
  refine AW.cut (J := 28) (P := fun z => isb z (sgP c (p5 g.2.1))) ?_ (fun J28 => ?_)
  · intro z28 h28
    refine a_breturn dX12_isSign_28 rfl (by omega) ⟨Nat.zero_le _, Nat.zero_le _⟩ ?_
    exact ⟨_, rfl, rfl, h28⟩
  · skip
    refine a_aload_n 1 dX12_isSign_0 rfl rfl ?_
    refine a_callV 4 (r_isWell _ hM) cdX12_isWell lX12_198 dX12_isSign_1 rfl hM.1 rfl ⟨by decide, by decide, rfl, rfl⟩ ⟨Nat.zero_le _, Nat.zero_le _⟩ (Nat.le_of_ble_eq_true rfl) rfl ?_
    rintro _ _ - ⟨b1, rfl, rfl, h1⟩ -
    refine a_if_eq 27 7 dX12_isSign_4 (by decide) rfl (fun c4 => ?_) (fun c4 => ?_)
    · skip
      refine a_iconst (z := 0) 28 dX12_isSign_27 rfl (zrl rfl) rfl ?_
      exact J28 _ (by unfold sgP p5; dsimp only; omega)
    · skip
      refine a_aload_n 8 dX12_isSign_7 rfl rfl ?_
      refine a_getI 11 dX12_isSign_8 fX12_186 hM.1 rfl rfl ?_
      refine a_iconst (z := 3) 12 dX12_isSign_11 rfl (zrl rfl) rfl ?_
      refine a_icmp_ne 27 15 dX12_isSign_12 (by decide) rfl (fun c12 => ?_) (fun c12 => ?_)
      · skip
        refine a_iconst (z := 0) 28 dX12_isSign_27 rfl (zrl rfl) rfl ?_
        exact J28 _ (by unfold sgP p5; dsimp only; omega)
      · skip
        refine a_aload_n 16 dX12_isSign_15 rfl rfl ?_
        refine a_getI 19 dX12_isSign_16 fX12_192 hM.1 rfl rfl ?_
        refine a_iload_n 20 dX12_isSign_19 rfl rfl ?_
        refine a_icmp_ne 27 23 dX12_isSign_20 (by decide) rfl (fun c20 => ?_) (fun c20 => ?_)
        · skip
          refine a_iconst (z := 0) 28 dX12_isSign_27 rfl (zrl rfl) rfl ?_
          exact J28 _ (by unfold sgP p5; dsimp only; omega)
        · skip
          refine a_iconst (z := 1) 24 dX12_isSign_23 rfl (zrl rfl) rfl ?_
          refine a_goto 28 dX12_isSign_24 (by decide) ?_
          exact J28 _ (by unfold sgP p5; dsimp only; omega)
set_option maxHeartbeats 4000000 in
set_option maxRecDepth 100000 in
theorem r_isWord (g : GH) (c : Int) (hM : MR g) : AMet mX12_isWord g [vA 1000, vI c] (pB g (wdP c (p5 g.2.1))) := by
  refine AMet.of [vA 1000, vI c] (by decide) rfl (Nat.le_of_ble_eq_true rfl) ?_
  refine AW.cut (J := 28) (P := fun z => isb z (wdP c (p5 g.2.1))) ?_ (fun J28 => ?_)
  · intro z28 h28
    refine a_breturn dX12_isWord_28 rfl (by omega) ⟨Nat.zero_le _, Nat.zero_le _⟩ ?_
    exact ⟨_, rfl, rfl, h28⟩
  · skip
    refine a_aload_n 1 dX12_isWord_0 rfl rfl ?_
    refine a_callV 4 (r_isWell _ hM) cdX12_isWell lX12_198 dX12_isWord_1 rfl hM.1 rfl ⟨by decide, by decide, rfl, rfl⟩ ⟨Nat.zero_le _, Nat.zero_le _⟩ (Nat.le_of_ble_eq_true rfl) rfl ?_
    rintro _ _ - ⟨b1, rfl, rfl, h1⟩ -
    refine a_if_eq 27 7 dX12_isWord_4 (by decide) rfl (fun c4 => ?_) (fun c4 => ?_)
    · skip
      refine a_iconst (z := 0) 28 dX12_isWord_27 rfl (zrl rfl) rfl ?_
      exact J28 _ (by unfold wdP p5; dsimp only; omega)
    · skip
      refine a_aload_n 8 dX12_isWord_7 rfl rfl ?_
      refine a_getI 11 dX12_isWord_8 fX12_186 hM.1 rfl rfl ?_
      refine a_iconst (z := 1) 12 dX12_isWord_11 rfl (zrl rfl) rfl ?_
      refine a_icmp_ne 27 15 dX12_isWord_12 (by decide) rfl (fun c12 => ?_) (fun c12 => ?_)
      · skip
        refine a_iconst (z := 0) 28 dX12_isWord_27 rfl (zrl rfl) rfl ?_
        exact J28 _ (by unfold wdP p5; dsimp only; omega)
      · skip
        refine a_aload_n 16 dX12_isWord_15 rfl rfl ?_
        refine a_getI 19 dX12_isWord_16 fX12_192 hM.1 rfl rfl ?_
        refine a_iload_n 20 dX12_isWord_19 rfl rfl ?_
        refine a_icmp_ne 27 23 dX12_isWord_20 (by decide) rfl (fun c20 => ?_) (fun c20 => ?_)
        · skip
          refine a_iconst (z := 0) 28 dX12_isWord_27 rfl (zrl rfl) rfl ?_
          exact J28 _ (by unfold wdP p5; dsimp only; omega)
        · skip
          refine a_iconst (z := 1) 24 dX12_isWord_23 rfl (zrl rfl) rfl ?_
          refine a_goto 28 dX12_isWord_24 (by decide) ?_
          exact J28 _ (by unfold wdP p5; dsimp only; omega)
set_option maxHeartbeats 4000000 in
set_option maxRecDepth 100000 in
theorem r_takesSign (g : GH) (c : Int) (hM : MR g) (hV : MV g.2.1) (hO : okP g.2.1) : AMet mX12_takesSign g [vA 1000, vI c] (fun _ g' => sameB bX g g' ∧ p5 g'.2.1 = tS (tx g.2.1) c (p5 g.2.1) ∧ okP g'.2.1) := by
  refine AMet.of [vA 1000, vI c] (by decide) rfl (Nat.le_of_ble_eq_true rfl) ?_
  refine a_aload_n 1 dX12_takesSign_0 rfl rfl ?_
  refine a_iload_n 2 dX12_takesSign_1 rfl rfl ?_
  refine a_callV 5 (r_isSign _ _ hM) cdX12_isSign lX12_202 dX12_takesSign_2 rfl hM.1 rfl ⟨by decide, by decide, rfl, rfl⟩ ⟨Nat.zero_le _, Nat.zero_le _⟩ (Nat.le_of_ble_eq_true rfl) rfl ?_
  rintro _ _ - ⟨b2, rfl, rfl, h2⟩ -
  refine a_if_eq 15 8 dX12_takesSign_5 (by decide) rfl (fun c5 => ?_) (fun c5 => ?_)
  · skip
    refine a_aload_n 16 dX12_takesSign_15 rfl rfl ?_
    refine a_callV 19 (r_fails _ hM hV hO) cdX12_fails lX12_208 dX12_takesSign_16 rfl hM.1 rfl ⟨by decide, by decide, rfl, rfl⟩ ⟨Nat.zero_le _, Nat.zero_le _⟩ (Nat.le_of_ble_eq_true rfl) rfl ?_
    rintro _ g9 - ⟨s9, e9, o9⟩ -
    refine a_return dX12_takesSign_19 rfl ⟨Nat.zero_le _, Nat.zero_le _⟩ ?_
    refine ⟨s9, ?_, o9⟩
    unfold tS
    first | (rw [if_pos (isT h2 c5)]; exact e9) | (rw [if_neg (isN h2 c5)]; exact e9)
  · skip
    refine a_aload_n 9 dX12_takesSign_8 rfl rfl ?_
    refine a_callV 12 (r_adv _ hM hV hO) cdX12_advances lX12_205 dX12_takesSign_9 rfl hM.1 rfl ⟨by decide, by decide, rfl, rfl⟩ ⟨Nat.zero_le _, Nat.zero_le _⟩ (Nat.le_of_ble_eq_true rfl) rfl ?_
    rintro _ g9 - ⟨s9, e9, o9⟩ -
    refine a_goto 19 dX12_takesSign_12 (by decide) ?_
    refine a_return dX12_takesSign_19 rfl ⟨Nat.zero_le _, Nat.zero_le _⟩ ?_
    refine ⟨s9, ?_, o9⟩
    unfold tS
    first | (rw [if_pos (isT h2 c5)]; exact e9) | (rw [if_neg (isN h2 c5)]; exact e9)
set_option maxHeartbeats 4000000 in
set_option maxRecDepth 100000 in
theorem r_takesWord (g : GH) (c : Int) (hM : MR g) (hV : MV g.2.1) (hO : okP g.2.1) : AMet mX12_takesWord g [vA 1000, vI c] (fun _ g' => sameB bX g g' ∧ p5 g'.2.1 = tW (tx g.2.1) c (p5 g.2.1) ∧ okP g'.2.1) := by
  refine AMet.of [vA 1000, vI c] (by decide) rfl (Nat.le_of_ble_eq_true rfl) ?_
  refine a_aload_n 1 dX12_takesWord_0 rfl rfl ?_
  refine a_iload_n 2 dX12_takesWord_1 rfl rfl ?_
  refine a_callV 5 (r_isWord _ _ hM) cdX12_isWord lX12_211 dX12_takesWord_2 rfl hM.1 rfl ⟨by decide, by decide, rfl, rfl⟩ ⟨Nat.zero_le _, Nat.zero_le _⟩ (Nat.le_of_ble_eq_true rfl) rfl ?_
  rintro _ _ - ⟨b2, rfl, rfl, h2⟩ -
  refine a_if_eq 15 8 dX12_takesWord_5 (by decide) rfl (fun c5 => ?_) (fun c5 => ?_)
  · skip
    refine a_aload_n 16 dX12_takesWord_15 rfl rfl ?_
    refine a_callV 19 (r_fails _ hM hV hO) cdX12_fails lX12_208 dX12_takesWord_16 rfl hM.1 rfl ⟨by decide, by decide, rfl, rfl⟩ ⟨Nat.zero_le _, Nat.zero_le _⟩ (Nat.le_of_ble_eq_true rfl) rfl ?_
    rintro _ g9 - ⟨s9, e9, o9⟩ -
    refine a_return dX12_takesWord_19 rfl ⟨Nat.zero_le _, Nat.zero_le _⟩ ?_
    refine ⟨s9, ?_, o9⟩
    unfold tW
    first | (rw [if_pos (isT h2 c5)]; exact e9) | (rw [if_neg (isN h2 c5)]; exact e9)
  · skip
    refine a_aload_n 9 dX12_takesWord_8 rfl rfl ?_
    refine a_callV 12 (r_adv _ hM hV hO) cdX12_advances lX12_205 dX12_takesWord_9 rfl hM.1 rfl ⟨by decide, by decide, rfl, rfl⟩ ⟨Nat.zero_le _, Nat.zero_le _⟩ (Nat.le_of_ble_eq_true rfl) rfl ?_
    rintro _ g9 - ⟨s9, e9, o9⟩ -
    refine a_goto 19 dX12_takesWord_12 (by decide) ?_
    refine a_return dX12_takesWord_19 rfl ⟨Nat.zero_le _, Nat.zero_le _⟩ ?_
    refine ⟨s9, ?_, o9⟩
    unfold tW
    first | (rw [if_pos (isT h2 c5)]; exact e9) | (rw [if_neg (isN h2 c5)]; exact e9)
set_option maxHeartbeats 4000000 in
set_option maxRecDepth 100000 in
theorem r_takesNumber (g : GH) (a b : Int) (hM : MR g) (hV : MV g.2.1) (hO : okP g.2.1) : AMet mX12_takesNumber g [vA 1000, vI a, vI b] (fun r g' => r = vI (tNv a b (p5 g.2.1)) ∧ sameB bX g g' ∧ p5 g'.2.1 = tN (tx g.2.1) a b (p5 g.2.1) ∧ okP g'.2.1) := by
  refine AMet.of [vA 1000, vI a, vI b, none] (by decide) rfl (Nat.le_of_ble_eq_true rfl) ?_
  refine a_aload_n 1 dX12_takesNumber_0 rfl rfl ?_
  refine a_callV 4 (r_isWell _ hM) cdX12_isWell lX12_198 dX12_takesNumber_1 rfl hM.1 rfl ⟨by decide, by decide, rfl, rfl⟩ ⟨Nat.zero_le _, Nat.zero_le _⟩ (Nat.le_of_ble_eq_true rfl) rfl ?_
  rintro _ _ - ⟨b1, rfl, rfl, h1⟩ -
  refine a_if_eq 27 7 dX12_takesNumber_4 (by decide) rfl (fun c4 => ?_) (fun c4 => ?_)
  · skip
    refine a_aload_n 28 dX12_takesNumber_27 rfl rfl ?_
    refine a_callV 31 (r_fails _ hM hV hO) cdX12_fails lX12_208 dX12_takesNumber_28 rfl hM.1 rfl ⟨by decide, by decide, rfl, rfl⟩ ⟨Nat.zero_le _, Nat.zero_le _⟩ (Nat.le_of_ble_eq_true rfl) rfl ?_
    rintro _ g9 - ⟨s9, e9, o9⟩ -
    refine a_iconst (z := 0) 32 dX12_takesNumber_31 rfl (zrl rfl) rfl ?_
    refine a_ireturn dX12_takesNumber_32 rfl ⟨Nat.zero_le _, Nat.zero_le _⟩ ?_
    have hn : ¬ nmP a b (p5 g.2.1) := by unfold nmP p5; dsimp only; omega
    refine ⟨by unfold tNv; rw [if_neg hn], s9, ?_, o9⟩
    unfold tN; rw [if_neg hn]; exact e9
  · skip
    refine a_aload_n 8 dX12_takesNumber_7 rfl rfl ?_
    refine a_getI 11 dX12_takesNumber_8 fX12_186 hM.1 rfl rfl ?_
    refine a_iconst (z := 2) 12 dX12_takesNumber_11 rfl (zrl rfl) rfl ?_
    refine a_icmp_ne 27 15 dX12_takesNumber_12 (by decide) rfl (fun c12 => ?_) (fun c12 => ?_)
    · skip
      refine a_aload_n 28 dX12_takesNumber_27 rfl rfl ?_
      refine a_callV 31 (r_fails _ hM hV hO) cdX12_fails lX12_208 dX12_takesNumber_28 rfl hM.1 rfl ⟨by decide, by decide, rfl, rfl⟩ ⟨Nat.zero_le _, Nat.zero_le _⟩ (Nat.le_of_ble_eq_true rfl) rfl ?_
      rintro _ g9 - ⟨s9, e9, o9⟩ -
      refine a_iconst (z := 0) 32 dX12_takesNumber_31 rfl (zrl rfl) rfl ?_
      refine a_ireturn dX12_takesNumber_32 rfl ⟨Nat.zero_le _, Nat.zero_le _⟩ ?_
      have hn : ¬ nmP a b (p5 g.2.1) := by unfold nmP p5; dsimp only; omega
      refine ⟨by unfold tNv; rw [if_neg hn], s9, ?_, o9⟩
      unfold tN; rw [if_neg hn]; exact e9
    · skip
      refine a_aload_n 16 dX12_takesNumber_15 rfl rfl ?_
      refine a_getI 19 dX12_takesNumber_16 fX12_192 hM.1 rfl rfl ?_
      refine a_iload_n 20 dX12_takesNumber_19 rfl rfl ?_
      refine a_iload_n 21 dX12_takesNumber_20 rfl rfl ?_
      refine a_callS 24 (r_in _ _ _ _) cdX12_in lX12_84 dX12_takesNumber_21 rfl rfl ⟨by decide, by decide, rfl, rfl⟩ ⟨Nat.zero_le _, Nat.zero_le _⟩ (Nat.le_of_ble_eq_true rfl) rfl ?_
      rintro _ _ - ⟨b21, rfl, rfl, h21⟩ -
      refine a_if_ne 33 27 dX12_takesNumber_24 (by decide) rfl (fun c24 => ?_) (fun c24 => ?_)
      · skip
        refine a_aload_n 34 dX12_takesNumber_33 rfl rfl ?_
        refine a_getI 37 dX12_takesNumber_34 fX12_192 hM.1 rfl rfl ?_
        refine a_istore_n 38 dX12_takesNumber_37 (by decide) rfl rfl ?_
        refine a_aload_n 39 dX12_takesNumber_38 rfl rfl ?_
        refine a_callV 42 (r_adv _ hM hV hO) cdX12_advances lX12_205 dX12_takesNumber_39 rfl hM.1 rfl ⟨by decide, by decide, rfl, rfl⟩ ⟨Nat.zero_le _, Nat.zero_le _⟩ (Nat.le_of_ble_eq_true rfl) rfl ?_
        rintro _ g9 - ⟨s9, e9, o9⟩ -
        refine a_iload_n 43 dX12_takesNumber_42 rfl rfl ?_
        refine a_ireturn dX12_takesNumber_43 rfl ⟨Nat.zero_le _, Nat.zero_le _⟩ ?_
        have hn : nmP a b (p5 g.2.1) := by unfold nmP p5; dsimp only; omega
        refine ⟨by unfold tNv; rw [if_pos hn], s9, ?_, o9⟩
        unfold tN; rw [if_pos hn]; exact e9
      · skip
        refine a_aload_n 28 dX12_takesNumber_27 rfl rfl ?_
        refine a_callV 31 (r_fails _ hM hV hO) cdX12_fails lX12_208 dX12_takesNumber_28 rfl hM.1 rfl ⟨by decide, by decide, rfl, rfl⟩ ⟨Nat.zero_le _, Nat.zero_le _⟩ (Nat.le_of_ble_eq_true rfl) rfl ?_
        rintro _ g9 - ⟨s9, e9, o9⟩ -
        refine a_iconst (z := 0) 32 dX12_takesNumber_31 rfl (zrl rfl) rfl ?_
        refine a_ireturn dX12_takesNumber_32 rfl ⟨Nat.zero_le _, Nat.zero_le _⟩ ?_
        have hn : ¬ nmP a b (p5 g.2.1) := by unfold nmP p5; dsimp only; omega
        refine ⟨by unfold tNv; rw [if_neg hn], s9, ?_, o9⟩
        unfold tN; rw [if_neg hn]; exact e9
