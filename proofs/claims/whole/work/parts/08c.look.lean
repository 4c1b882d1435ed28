def figD (i d : Int) : Int := if i = 0 then d / 100 else if i = 1 then d / 10 % 10 else d % 10
noncomputable def fgC (h : Nat → Nat → Int) (m i f : Int) : Int := cnt (fun d => canB h m d ∧ figD i d = f) 1000
noncomputable def mostV (h : Nat → Nat → Int) (m i : Int) : Nat → Int
  | 0 => 0
  | f + 1 => if mostV h m i f < fgC h m i f then fgC h m i f else mostV h m i f
theorem mostV_le (h : Nat → Nat → Int) (m i : Int) : ∀ f : Nat, 0 ≤ mostV h m i f ∧ mostV h m i f ≤ 1000
  | 0 => ⟨Int.le_refl _, by show (0 : Int) ≤ 1000; decide⟩
  | f + 1 => by
    have h1 := mostV_le h m i f
    have h2 : 0 ≤ fgC h m i f ∧ fgC h m i f ≤ 1000 := cnt_le _ 1000
    show 0 ≤ (if mostV h m i f < fgC h m i f then fgC h m i f else mostV h m i f) ∧ (if mostV h m i f < fgC h m i f then fgC h m i f else mostV h m i f) ≤ 1000
    split <;> omega
/-- a look at byte i of mark m would help -/
abbrev lkP (h : Nat → Nat → Int) (c D m i : Int) : Prop := isOfB h c D m ∧ h 1014 (10 * m + 5 + i).toNat < 0 ∧ mostV h m i 10 < cnt (canB h m) 1000
noncomputable def lkS (h : Nat → Nat → Int) (c D : Int) : Nat → Int × Int
  | 0 => (-9, 0)
  | j + 1 => @ite _ (lkP h c D (j / 3 : Nat) (j % 3 : Nat) ∧ ((lkS h c D j).1 = -9 ∨ mostV h (j / 3 : Nat) (j % 3 : Nat) 10 < (lkS h c D j).2)) (Classical.propDecidable _) ((j : Int), mostV h (j / 3 : Nat) (j % 3 : Nat) 10) (lkS h c D j)
theorem lkS_y {h : Nat → Nat → Int} {c D : Int} {m i : Nat} (hi : i < 3) (q : lkP h c D m i) (q2 : (lkS h c D (3 * m + i)).1 = -9 ∨ mostV h m i 10 < (lkS h c D (3 * m + i)).2) : lkS h c D (3 * m + i + 1) = (((3 * m + i : Nat) : Int), mostV h m i 10) := by
  have e1 : (3 * m + i) / 3 = m := by omega
  have e2 : (3 * m + i) % 3 = i := by omega
  exact (if_pos (by rw [e1, e2]; exact ⟨q, q2⟩)).trans (by rw [e1, e2])
theorem lkS_n {h : Nat → Nat → Int} {c D : Int} {m i : Nat} (hi : i < 3) (q : ¬ (lkP h c D m i ∧ ((lkS h c D (3 * m + i)).1 = -9 ∨ mostV h m i 10 < (lkS h c D (3 * m + i)).2))) : lkS h c D (3 * m + i + 1) = lkS h c D (3 * m + i) := by
  have e1 : (3 * m + i) / 3 = m := by omega
  have e2 : (3 * m + i) % 3 = i := by omega
  exact if_neg (by rw [e1, e2]; exact q)
theorem lkS_or (h : Nat → Nat → Int) (c D : Int) : ∀ j : Nat, (lkS h c D j).1 = -9 ∨ (0 ≤ (lkS h c D j).1 ∧ (lkS h c D j).1 < j ∧ 0 ≤ (lkS h c D j).2 ∧ (lkS h c D j).2 ≤ 1000)
  | 0 => Or.inl rfl
  | j + 1 => by
    have h1 := lkS_or h c D j
    have h2 := mostV_le h (j / 3 : Nat) (j % 3 : Nat) 10
    have e : lkS h c D (j + 1) = @ite _ (lkP h c D (j / 3 : Nat) (j % 3 : Nat) ∧ ((lkS h c D j).1 = -9 ∨ mostV h (j / 3 : Nat) (j % 3 : Nat) 10 < (lkS h c D j).2)) (Classical.propDecidable _) ((j : Int), mostV h (j / 3 : Nat) (j % 3 : Nat) 10) (lkS h c D j) := rfl
    rw [e]
    split
    · right; dsimp only; omega
    · omega
theorem gI_self {g : GH} {a k : Nat} {z : Int} (h : g.2.1 a k = z) : gI g a k z = g := by
  have e : u2 g.2.1 a k z = g.2.1 := by
    funext x y; unfold u2
    split
    · rename_i q; rw [q.1, q.2, h]
    · rfl
  show (g.1, u2 g.2.1 a k z, g.2.2) = g
  rw [e]
theorem canB_fig {h : Nat → Nat → Int} {m i f d : Int} (hm : 0 ≤ m) (hi : 0 ≤ i ∧ i ≤ 2) (hf : 0 ≤ f) (ht : h 1014 (10 * m + 5 + i).toNat < 0) : canB (u2 h 1014 (10 * m + 5 + i).toNat f) m d ↔ canB h m d ∧ figD i d = f := by
  have e0 : ∀ a k, a ≠ 1014 → u2 h 1014 (10 * m + 5 + i).toNat f a k = h a k := fun a k q => u2_n (Or.inl q)
  have e1 : ∀ k, k ≠ (10 * m + 5 + i).toNat → u2 h 1014 (10 * m + 5 + i).toNat f 1014 k = h 1014 k := fun k q => u2_n (Or.inr q)
  have e2 : u2 h 1014 (10 * m + 5 + i).toNat f 1014 (10 * m + 5 + i).toNat = f := u2_s
  have ed : (u2 h 1014 (10 * m + 5 + i).toNat f 1014 (10 * m + 2).toNat = -9 ∨ dieB (u2 h 1014 (10 * m + 5 + i).toNat f) (u2 h 1014 (10 * m + 5 + i).toNat f 1014 (10 * m + 2).toNat).toNat (u2 h 1014 (10 * m + 5 + i).toNat f 1014 (10 * m + 3).toNat) (u2 h 1014 (10 * m + 5 + i).toNat f 1014 (10 * m + 4).toNat) d) ↔ (h 1014 (10 * m + 2).toNat = -9 ∨ dieB h (h 1014 (10 * m + 2).toNat).toNat (h 1014 (10 * m + 3).toNat) (h 1014 (10 * m + 4).toNat) d) := by
    rw [e1 (10 * m + 2).toNat (by omega), e1 (10 * m + 3).toNat (by omega), e1 (10 * m + 4).toNat (by omega)]
    unfold dieB
    rw [e0 1008 _ (by decide), e0 1005 _ (by decide), e0 1006 _ (by decide), e0 1010 _ (by decide), e0 1011 _ (by decide), e0 1009 _ (by decide), e0 1012 _ (by decide)]
  have ea : datB (u2 h 1014 (10 * m + 5 + i).toNat f) m d ↔ datB h m d ∧ figD i d = f := by
    unfold datB figD
    rcases (by omega : i = 0 ∨ i = 1 ∨ i = 2) with rfl | rfl | rfl
    · rw [show (10 * m + 5 + 0).toNat = (10 * m + 5).toNat by omega] at *
      rw [e2, e1 (10 * m + 6).toNat (by omega), e1 (10 * m + 7).toNat (by omega), if_pos rfl]; omega
    · rw [show (10 * m + 5 + 1).toNat = (10 * m + 6).toNat by omega] at *
      rw [e2, e1 (10 * m + 5).toNat (by omega), e1 (10 * m + 7).toNat (by omega), if_neg (by decide), if_pos rfl]; omega
    · rw [show (10 * m + 5 + 2).toNat = (10 * m + 7).toNat by omega] at *
      rw [e2, e1 (10 * m + 5).toNat (by omega), e1 (10 * m + 6).toNat (by omega), if_neg (by decide), if_neg (by decide)]; omega
  unfold canB
  rw [ed, ea]
  constructor
  · rintro ⟨⟨a, b⟩, c⟩; exact ⟨⟨a, c⟩, b⟩
  · rintro ⟨⟨a, c⟩, b⟩; exact ⟨⟨a, b⟩, c⟩
theorem MV_fig {h : Nat → Nat → Int} {m i f : Int} (hm : 0 ≤ m) (hi : 0 ≤ i ∧ i ≤ 2) (hf : -1 ≤ f ∧ f ≤ 9) (hV : MV h) : MV (u2 h 1014 (10 * m + 5 + i).toNat f) := by
  have e0 : ∀ a k, a ≠ 1014 → u2 h 1014 (10 * m + 5 + i).toNat f a k = h a k := fun a k q => u2_n (Or.inl q)
  have e1 : ∀ k, k ≠ (10 * m + 5 + i).toNat → u2 h 1014 (10 * m + 5 + i).toNat f 1014 k = h 1014 k := fun k q => u2_n (Or.inr q)
  have e2 : u2 h 1014 (10 * m + 5 + i).toNat f 1014 (10 * m + 5 + i).toNat = f := u2_s
  obtain ⟨h1, h2, h3, h4, h5, h6, h7, h8, h9⟩ := hV
  have c3 := e0 1000 3 (by decide); have c7 := e0 1000 7 (by decide); have c13 := e0 1000 13 (by decide); have c15 := e0 1000 15 (by decide); have c29 := e0 1000 29 (by decide); have c35 := e0 1000 35 (by decide)
  generalize u2 h 1014 (10 * m + 5 + i).toNat f = w at *
  refine ⟨?_, ?_, ?_, ?_, ?_, ?_, ?_, ?_, ?_⟩
  · unfold MVc at h1 ⊢; rw [c3, c7, c13, c15, c29, c35]; exact h1
  · intro k hk; rw [c3] at hk; rw [e0 1004 _ (by decide), e0 1005 _ (by decide), e0 1006 _ (by decide)]; exact h2 k hk
  · intro k hk; rw [c7] at hk; rw [e0 1008 _ (by decide), e0 1009 _ (by decide), e0 1010 _ (by decide), e0 1011 _ (by decide), e0 1012 _ (by decide), c3]; exact h3 k hk
  · intro k k0 hk; rw [c13] at hk
    have q := h4 k k0 hk
    have b : ∀ j : Int, (j = 5 ∨ j = 6 ∨ j = 7) → (-1 ≤ h 1014 (10 * k + j).toNat ∧ h 1014 (10 * k + j).toNat ≤ 9) → (-1 ≤ w 1014 (10 * k + j).toNat ∧ w 1014 (10 * k + j).toNat ≤ 9) := fun j _ hj => by
      by_cases z : (10 * k + j).toNat = (10 * m + 5 + i).toNat
      · rw [z, e2]; exact hf
      · rw [e1 _ z]; exact hj
    rw [e1 (10 * k).toNat (by omega), e1 (10 * k + 1).toNat (by omega), e1 (10 * k + 2).toNat (by omega), e1 (10 * k + 3).toNat (by omega), e1 (10 * k + 4).toNat (by omega), e1 (10 * k + 8).toNat (by omega), e1 (10 * k + 9).toNat (by omega), c7]
    exact ⟨q.1, q.2.1, q.2.2.1, q.2.2.2.1, q.2.2.2.2.1, b 5 (by decide) q.2.2.2.2.2.1, b 6 (by decide) q.2.2.2.2.2.2.1, b 7 (by decide) q.2.2.2.2.2.2.2.1, q.2.2.2.2.2.2.2.2⟩
  · intro k hk; rw [c15] at hk; rw [e0 1016 _ (by decide), e0 1017 _ (by decide), e0 1018 _ (by decide), e0 1019 _ (by decide)]; exact h5 k hk
  · intro k hk; rw [e0 1020 _ (by decide)]; exact h6 k hk
  · intro k hk; rw [e0 1002 _ (by decide)]; exact h7 k hk
  · intro k hk; rw [c29] at hk; rw [e0 1028 _ (by decide)]; exact h8 k hk
  · intro k hk; rw [c35] at hk
    have q := h9 k hk
    have ew : w 1037 = h 1037 := funext (fun x => e0 1037 x (by decide))
    unfold rulB at q ⊢; rw [ew]; exact q
set_option maxHeartbeats 4000000 in
set_option maxRecDepth 100000 in
theorem r_look (g : GH) (c D : Int) (hM : MR g) (hV : MV g.2.1) : AMet mX12_look g [vA 1000, vI c, vI D] (fun r g' => (((0 ≤ c ∧ c ≤ 7) ∧ (0 ≤ D ∧ D ≤ 999)) ∧ r = vI (lkS (gI g 1000 0 0).2.1 c D (3 * ((gI g 1000 0 0).2.1 1000 13).toNat)).1 ∧ g' = gI g 1000 0 0) ∨ (¬ ((0 ≤ c ∧ c ≤ 7) ∧ (0 ≤ D ∧ D ≤ 999)) ∧ r = vI (-1) ∧ g' = gI g 1000 0 0)) := by
  refine AMet.of [vA 1000, vI c, vI D, none, none, none, none, none, none, none, none, none] (by decide) rfl (Nat.le_of_ble_eq_true rfl) ?_
  refine a_aload_n 1 dX12_look_0 rfl rfl ?_
  refine a_iconst (z := 0) 2 dX12_look_1 rfl (zrl rfl) rfl ?_
  refine a_putI 5 dX12_look_2 fX12_80 (Or.inl rfl) hM.1 (Or.inl rfl) rfl ?_
  have hM : MR (gI g 1000 0 0) := hM
  have hV : MV (gI g 1000 0 0).2.1 := MV_th hV
  have hc := hV.1
  unfold MVc at hc
  generalize gI g 1000 0 0 = g1 at hM hV hc ⊢
  refine a_iload_n 6 dX12_look_5 rfl rfl ?_
  refine a_callS 9 (r_isCover _ _) cdX12_isCover lX12_104 dX12_look_6 rfl rfl ⟨by decide, by decide, rfl, rfl⟩ ⟨Nat.zero_le _, Nat.zero_le _⟩ (Nat.le_of_ble_eq_true rfl) rfl ?_
  rintro _ _ - ⟨b6, rfl, rfl, h6⟩ -
  refine a_if_eq 19 12 dX12_look_9 (by decide) rfl (fun c9 => ?_) (fun c9 => ?_)
  · skip
    refine a_iconst (z := (-1)) 20 dX12_look_19 rfl (zrl rfl) rfl ?_
    refine a_ireturn dX12_look_20 rfl ⟨Nat.zero_le _, Nat.zero_le _⟩ ?_
    exact Or.inr ⟨by omega, rfl, rfl⟩
  · skip
    refine a_iload_n 13 dX12_look_12 rfl rfl ?_
    refine a_callS 16 (r_isDay _ _) cdX12_isDay lX12_95 dX12_look_13 rfl rfl ⟨by decide, by decide, rfl, rfl⟩ ⟨Nat.zero_le _, Nat.zero_le _⟩ (Nat.le_of_ble_eq_true rfl) rfl ?_
    rintro _ _ - ⟨b13, rfl, rfl, h13⟩ -
    refine a_if_ne 21 19 dX12_look_16 (by decide) rfl (fun c16 => ?_) (fun c16 => ?_)
    · skip
      refine a_bipush (z := (-9)) 23 dX12_look_21 rfl (zrl rfl) rfl ?_
      refine a_istore_n 24 dX12_look_23 (by decide) rfl rfl ?_
      refine a_iconst (z := 0) 25 dX12_look_24 rfl (zrl rfl) rfl ?_
      refine a_istore 27 dX12_look_25 (by decide) rfl rfl ?_
      refine a_iconst (z := 0) 28 dX12_look_27 rfl (zrl rfl) rfl ?_
      refine a_istore 30 dX12_look_28 (by decide) rfl rfl ?_
      refine AW.loop (α := Nat) (fun p => (g1.2.1 1000 13).toNat - p) (fun p => (p : Int) ≤ g1.2.1 1000 13) (fun p => g1) (fun p => [vA 1000, vI c, vI D, vI (lkS g1.2.1 c D (3 * p)).1, vI (lkS g1.2.1 c D (3 * p)).2, vI (p : Int), none, none, none, none, none, none]) (fun p => []) ?_ 0 ?_
      · intro m hI ih30
        try dsimp only at hI ih ⊢
        refine a_iload 32 dX12_look_30 rfl rfl ?_
        refine a_aload_n 33 dX12_look_32 rfl rfl ?_
        refine a_getIz (g1.2.1 1000 13) 36 dX12_look_33 fX12_88 hM.1 rfl rfl rfl ?_
        refine a_icmp_ge 193 39 dX12_look_36 (by decide) rfl (fun c36 => ?_) (fun c36 => ?_)
        · skip
          refine a_iload_n 194 dX12_look_193 rfl rfl ?_
          refine a_ireturn dX12_look_194 rfl ⟨Nat.zero_le _, Nat.zero_le _⟩ ?_
          have e : m = (g1.2.1 1000 13).toNat := by omega
          subst e
          exact Or.inl ⟨by omega, rfl, rfl⟩
        · skip
          refine a_iconst (z := 0) 40 dX12_look_39 rfl (zrl rfl) rfl ?_
          refine a_istore 42 dX12_look_40 (by decide) rfl rfl ?_
          refine AW.loop (α := Nat) (fun p => 3 - p) (fun p => p ≤ 3) (fun p => g1) (fun p => [vA 1000, vI c, vI D, vI (lkS g1.2.1 c D (3 * m + p)).1, vI (lkS g1.2.1 c D (3 * m + p)).2, vI (m : Int), vI (p : Int), none, none, none, none, none]) (fun p => []) ?_ 0 ?_
          · intro i hI2 ih42
            try dsimp only at hI ih ⊢
            have hso := lkS_or g1.2.1 c D (3 * m + i)
            refine a_iload 44 dX12_look_42 rfl rfl ?_
            refine a_iconst (z := 3) 45 dX12_look_44 rfl (zrl rfl) rfl ?_
            refine a_icmp_ge 187 48 dX12_look_45 (by decide) rfl (fun c45 => ?_) (fun c45 => ?_)
            · skip
              refine a_iinc 190 dX12_look_187 rfl (by unfold zr; omega) (by decide) rfl rfl ?_
              refine a_goto 30 dX12_look_190 (by decide) ?_
              refine AW.kill 6 (AW.kill 7 (AW.kill 8 (AW.kill 9 (AW.kill 10 (AW.kill 11 ?_)))))
              have h9 := ih30 (m + 1) (by omega) (by omega)
              rw [show 3 * (m + 1) = 3 * m + 3 from rfl] at h9
              have e3 : i = 3 := by omega
              subst e3
              exact h9
            · skip
              refine a_bipush (z := 10) 50 dX12_look_48 rfl (zrl rfl) rfl ?_
              refine a_iload 52 dX12_look_50 rfl rfl ?_
              refine a_imul 53 dX12_look_52 (by unfold zr; omega) rfl ?_
              refine a_iconst (z := 5) 54 dX12_look_53 rfl (zrl rfl) rfl ?_
              refine a_iadd 55 dX12_look_54 (by unfold zr; omega) rfl ?_
              refine a_iload 57 dX12_look_55 rfl rfl ?_
              refine a_iadd 58 dX12_look_57 (by unfold zr; omega) rfl ?_
              refine a_istore 60 dX12_look_58 (by decide) rfl rfl ?_
              refine a_aload_n 61 dX12_look_60 rfl rfl ?_
              refine a_iload 63 dX12_look_61 rfl rfl ?_
              refine a_iload_n 64 dX12_look_63 rfl rfl ?_
              refine a_iload_n 65 dX12_look_64 rfl rfl ?_
              refine a_callV 68 (r_isOf _ _ _ _ hM (by omega)) cdX12_isOf lX12_136 dX12_look_65 rfl hM.1 rfl ⟨by decide, by decide, rfl, rfl⟩ ⟨Nat.zero_le _, Nat.zero_le _⟩ (Nat.le_of_ble_eq_true rfl) rfl ?_
              rintro _ _ - ⟨b65, rfl, rfl, h65⟩ -
              refine a_if_eq 181 71 dX12_look_68 (by decide) rfl (fun c68 => ?_) (fun c68 => ?_)
              · skip
                refine a_iinc 184 dX12_look_181 rfl (by unfold zr; omega) (by decide) rfl rfl ?_
                refine a_goto 42 dX12_look_184 (by decide) ?_
                refine AW.kill 7 (AW.kill 8 (AW.kill 9 (AW.kill 10 (AW.kill 11 ?_))))
                have h9 := ih42 (i + 1) (by omega) (by omega)
                rw [show 3 * m + (i + 1) = 3 * m + i + 1 from rfl] at h9
                first
                | (have e9 := lkS_n (h := g1.2.1) (c := c) (D := D) (m := m) (i := i) (by omega) (fun q => by
                     first
                     | exact isN h65 c68 q.1.1
                     | (have q9 := q.1.2.1; omega)
                     | (have e10 : f = 10 := by omega
                        subst e10
                        first
                        | (have q9 := q.1.2.2; omega)
                        | (rcases q.2 with q2 | q2
                           · exact c159 q2
                           · omega)))
                   rw [e9] at h9
                   exact h9)
                | (have e10 : f = 10 := by omega
                   subst e10
                   have e9 := lkS_y (h := g1.2.1) (c := c) (D := D) (m := m) (i := i) (by omega) ⟨isT h65 c68, c78, by omega⟩ (by first | exact Or.inl c159 | exact Or.inr (by omega))
                   rw [e9] at h9
                   rw [show ((3 * m + i : Nat) : Int) = 3 * (m : Int) + (i : Int) by omega] at h9
                   exact h9)
              · skip
                refine a_aload_n 72 dX12_look_71 rfl rfl ?_
                refine a_getR 75 dX12_look_72 fX12_37 hM.1 rfl (mr_14 hM).1 rfl ?_
                refine a_iload 77 dX12_look_75 rfl rfl ?_
                refine a_ialdz (g1.2.1 1014 (10 * (m : Int) + 5 + (i : Int)).toNat) 78 dX12_look_77 (mr_14 hM).2 (by omega) (by omega) rfl rfl ?_
                refine a_if_ge 181 81 dX12_look_78 (by decide) rfl (fun c78 => ?_) (fun c78 => ?_)
                · skip
                  refine a_iinc 184 dX12_look_181 rfl (by unfold zr; omega) (by decide) rfl rfl ?_
                  refine a_goto 42 dX12_look_184 (by decide) ?_
                  refine AW.kill 7 (AW.kill 8 (AW.kill 9 (AW.kill 10 (AW.kill 11 ?_))))
                  have h9 := ih42 (i + 1) (by omega) (by omega)
                  rw [show 3 * m + (i + 1) = 3 * m + i + 1 from rfl] at h9
                  first
                  | (have e9 := lkS_n (h := g1.2.1) (c := c) (D := D) (m := m) (i := i) (by omega) (fun q => by
                       first
                       | exact isN h65 c68 q.1.1
                       | (have q9 := q.1.2.1; omega)
                       | (have e10 : f = 10 := by omega
                          subst e10
                          first
                          | (have q9 := q.1.2.2; omega)
                          | (rcases q.2 with q2 | q2
                             · exact c159 q2
                             · omega)))
                     rw [e9] at h9
                     exact h9)
                  | (have e10 : f = 10 := by omega
                     subst e10
                     have e9 := lkS_y (h := g1.2.1) (c := c) (D := D) (m := m) (i := i) (by omega) ⟨isT h65 c68, c78, by omega⟩ (by first | exact Or.inl c159 | exact Or.inr (by omega))
                     rw [e9] at h9
                     rw [show ((3 * m + i : Nat) : Int) = 3 * (m : Int) + (i : Int) by omega] at h9
                     exact h9)
                · skip
                  have hm1 : g1.2.1 1014 (10 * (m : Int) + 5 + (i : Int)).toNat = -1 := by
                    have := hV.2.2.2.1 m (by omega) (by omega)
                    have e5 : (10 * (m : Int) + 5 + (i : Int)).toNat = (10 * (m : Int) + 5).toNat ∨ (10 * (m : Int) + 5 + (i : Int)).toNat = (10 * (m : Int) + 6).toNat ∨ (10 * (m : Int) + 5 + (i : Int)).toNat = (10 * (m : Int) + 7).toNat := by omega
                    rcases e5 with e5 | e5 | e5 <;> (rw [e5] at c78 ⊢; omega)
                  refine a_aload_n 82 dX12_look_81 rfl rfl ?_
                  refine a_iload 84 dX12_look_82 rfl rfl ?_
                  refine a_callV 87 (r_spanOf _ _ hM hV (by omega)) cdX12_spanOf lX12_132 dX12_look_84 rfl hM.1 rfl ⟨by decide, by decide, rfl, rfl⟩ ⟨Nat.zero_le _, Nat.zero_le _⟩ (Nat.le_of_ble_eq_true rfl) rfl ?_
                  rintro _ _ - ⟨rfl, rfl⟩ -
                  refine a_istore 89 dX12_look_87 (by decide) rfl rfl ?_
                  refine a_iconst (z := 0) 90 dX12_look_89 rfl (zrl rfl) rfl ?_
                  refine a_istore 92 dX12_look_90 (by decide) rfl rfl ?_
                  refine a_iconst (z := 0) 93 dX12_look_92 rfl (zrl rfl) rfl ?_
                  refine a_istore 95 dX12_look_93 (by decide) rfl rfl ?_
                  refine AW.loop (α := GH × Nat) (fun p => 10 - p.2) (fun p => p.1 = gI g1 1014 (10 * (m : Int) + 5 + (i : Int)).toNat ((p.2 : Int) - 1) ∧ p.2 ≤ 10) (fun p => p.1) (fun p => [vA 1000, vI c, vI D, vI (lkS g1.2.1 c D (3 * m + i)).1, vI (lkS g1.2.1 c D (3 * m + i)).2, vI (m : Int), vI (i : Int), vI (10 * (m : Int) + 5 + (i : Int)), vI (cnt (canB g1.2.1 m) 1000), vI (mostV g1.2.1 m i p.2), vI (p.2 : Int), none]) (fun p => []) ?_ (g1, 0) ?_
                  · rintro ⟨g2, f⟩ ⟨hg2, hf10⟩ ih95
                    try dsimp only at hI ih ⊢
                    try dsimp only at hg2 hf10 ih95 ⊢
                    subst hg2
                    have hmo := mostV_le g1.2.1 m i f
                    have hM2 : MR (gI g1 1014 (10 * (m : Int) + 5 + (i : Int)).toNat (f : Int)) := hM
                    have hM3 : MR (gI g1 1014 (10 * (m : Int) + 5 + (i : Int)).toNat ((f : Int) - 1)) := hM
                    refine a_iload 97 dX12_look_95 rfl rfl ?_
                    refine a_bipush (z := 10) 99 dX12_look_97 rfl (zrl rfl) rfl ?_
                    refine a_icmp_ge 141 102 dX12_look_99 (by decide) rfl (fun c99 => ?_) (fun c99 => ?_)
                    · skip
                      refine a_aload_n 142 dX12_look_141 rfl rfl ?_
                      refine a_getR 145 dX12_look_142 fX12_37 hM3.1 rfl (mr_14 hM3).1 rfl ?_
                      refine a_iload 147 dX12_look_145 rfl rfl ?_
                      refine a_iconst (z := (-1)) 148 dX12_look_147 rfl (zrl rfl) rfl ?_
                      refine a_iast 149 dX12_look_148 (mr_14 hM3).2 (by omega) (by omega) rfl ?_
                      rw [gI_gI, gI_self hm1]
                      have hcn := cnt_le (canB g1.2.1 m) 1000
                      refine a_iload 151 dX12_look_149 rfl rfl ?_
                      refine a_iload 153 dX12_look_151 rfl rfl ?_
                      refine a_icmp_ge 181 156 dX12_look_153 (by decide) rfl (fun c153 => ?_) (fun c153 => ?_)
                      · skip
                        refine a_iinc 184 dX12_look_181 rfl (by unfold zr; omega) (by decide) rfl rfl ?_
                        refine a_goto 42 dX12_look_184 (by decide) ?_
                        refine AW.kill 7 (AW.kill 8 (AW.kill 9 (AW.kill 10 (AW.kill 11 ?_))))
                        have h9 := ih42 (i + 1) (by omega) (by omega)
                        rw [show 3 * m + (i + 1) = 3 * m + i + 1 from rfl] at h9
                        first
                        | (have e9 := lkS_n (h := g1.2.1) (c := c) (D := D) (m := m) (i := i) (by omega) (fun q => by
                             first
                             | exact isN h65 c68 q.1.1
                             | (have q9 := q.1.2.1; omega)
                             | (have e10 : f = 10 := by omega
                                subst e10
                                first
                                | (have q9 := q.1.2.2; omega)
                                | (rcases q.2 with q2 | q2
                                   · exact c159 q2
                                   · omega)))
                           rw [e9] at h9
                           exact h9)
                        | (have e10 : f = 10 := by omega
                           subst e10
                           have e9 := lkS_y (h := g1.2.1) (c := c) (D := D) (m := m) (i := i) (by omega) ⟨isT h65 c68, c78, by omega⟩ (by first | exact Or.inl c159 | exact Or.inr (by omega))
                           rw [e9] at h9
                           rw [show ((3 * m + i : Nat) : Int) = 3 * (m : Int) + (i : Int) by omega] at h9
                           exact h9)
                      · skip
                        refine a_iload_n 157 dX12_look_156 rfl rfl ?_
                        refine a_bipush (z := (-9)) 159 dX12_look_157 rfl (zrl rfl) rfl ?_
                        refine a_icmp_eq 169 162 dX12_look_159 (by decide) rfl (fun c159 => ?_) (fun c159 => ?_)
                        · skip
                          refine a_iconst (z := 3) 170 dX12_look_169 rfl (zrl rfl) rfl ?_
                          refine a_iload 172 dX12_look_170 rfl rfl ?_
                          refine a_imul 173 dX12_look_172 (by unfold zr; omega) rfl ?_
                          refine a_iload 175 dX12_look_173 rfl rfl ?_
                          refine a_iadd 176 dX12_look_175 (by unfold zr; omega) rfl ?_
                          refine a_istore_n 177 dX12_look_176 (by decide) rfl rfl ?_
                          refine a_iload 179 dX12_look_177 rfl rfl ?_
                          refine a_istore 181 dX12_look_179 (by decide) rfl rfl ?_
                          refine a_iinc 184 dX12_look_181 rfl (by unfold zr; omega) (by decide) rfl rfl ?_
                          refine a_goto 42 dX12_look_184 (by decide) ?_
                          refine AW.kill 7 (AW.kill 8 (AW.kill 9 (AW.kill 10 (AW.kill 11 ?_))))
                          have h9 := ih42 (i + 1) (by omega) (by omega)
                          rw [show 3 * m + (i + 1) = 3 * m + i + 1 from rfl] at h9
                          first
                          | (have e9 := lkS_n (h := g1.2.1) (c := c) (D := D) (m := m) (i := i) (by omega) (fun q => by
                               first
                               | exact isN h65 c68 q.1.1
                               | (have q9 := q.1.2.1; omega)
                               | (have e10 : f = 10 := by omega
                                  subst e10
                                  first
                                  | (have q9 := q.1.2.2; omega)
                                  | (rcases q.2 with q2 | q2
                                     · exact c159 q2
                                     · omega)))
                             rw [e9] at h9
                             exact h9)
                          | (have e10 : f = 10 := by omega
                             subst e10
                             have e9 := lkS_y (h := g1.2.1) (c := c) (D := D) (m := m) (i := i) (by omega) ⟨isT h65 c68, c78, by omega⟩ (by first | exact Or.inl c159 | exact Or.inr (by omega))
                             rw [e9] at h9
                             rw [show ((3 * m + i : Nat) : Int) = 3 * (m : Int) + (i : Int) by omega] at h9
                             exact h9)
                        · skip
                          refine a_iload 164 dX12_look_162 rfl rfl ?_
                          refine a_iload 166 dX12_look_164 rfl rfl ?_
                          refine a_icmp_ge 181 169 dX12_look_166 (by decide) rfl (fun c166 => ?_) (fun c166 => ?_)
                          · skip
                            refine a_iinc 184 dX12_look_181 rfl (by unfold zr; omega) (by decide) rfl rfl ?_
                            refine a_goto 42 dX12_look_184 (by decide) ?_
                            refine AW.kill 7 (AW.kill 8 (AW.kill 9 (AW.kill 10 (AW.kill 11 ?_))))
                            have h9 := ih42 (i + 1) (by omega) (by omega)
                            rw [show 3 * m + (i + 1) = 3 * m + i + 1 from rfl] at h9
                            first
                            | (have e9 := lkS_n (h := g1.2.1) (c := c) (D := D) (m := m) (i := i) (by omega) (fun q => by
                                 first
                                 | exact isN h65 c68 q.1.1
                                 | (have q9 := q.1.2.1; omega)
                                 | (have e10 : f = 10 := by omega
                                    subst e10
                                    first
                                    | (have q9 := q.1.2.2; omega)
                                    | (rcases q.2 with q2 | q2
                                       · exact c159 q2
                                       · omega)))
                               rw [e9] at h9
                               exact h9)
                            | (have e10 : f = 10 := by omega
                               subst e10
                               have e9 := lkS_y (h := g1.2.1) (c := c) (D := D) (m := m) (i := i) (by omega) ⟨isT h65 c68, c78, by omega⟩ (by first | exact Or.inl c159 | exact Or.inr (by omega))
                               rw [e9] at h9
                               rw [show ((3 * m + i : Nat) : Int) = 3 * (m : Int) + (i : Int) by omega] at h9
                               exact h9)
                          · skip
                            refine a_iconst (z := 3) 170 dX12_look_169 rfl (zrl rfl) rfl ?_
                            refine a_iload 172 dX12_look_170 rfl rfl ?_
                            refine a_imul 173 dX12_look_172 (by unfold zr; omega) rfl ?_
                            refine a_iload 175 dX12_look_173 rfl rfl ?_
                            refine a_iadd 176 dX12_look_175 (by unfold zr; omega) rfl ?_
                            refine a_istore_n 177 dX12_look_176 (by decide) rfl rfl ?_
                            refine a_iload 179 dX12_look_177 rfl rfl ?_
                            refine a_istore 181 dX12_look_179 (by decide) rfl rfl ?_
                            refine a_iinc 184 dX12_look_181 rfl (by unfold zr; omega) (by decide) rfl rfl ?_
                            refine a_goto 42 dX12_look_184 (by decide) ?_
                            refine AW.kill 7 (AW.kill 8 (AW.kill 9 (AW.kill 10 (AW.kill 11 ?_))))
                            have h9 := ih42 (i + 1) (by omega) (by omega)
                            rw [show 3 * m + (i + 1) = 3 * m + i + 1 from rfl] at h9
                            first
                            | (have e9 := lkS_n (h := g1.2.1) (c := c) (D := D) (m := m) (i := i) (by omega) (fun q => by
                                 first
                                 | exact isN h65 c68 q.1.1
                                 | (have q9 := q.1.2.1; omega)
                                 | (have e10 : f = 10 := by omega
                                    subst e10
                                    first
                                    | (have q9 := q.1.2.2; omega)
                                    | (rcases q.2 with q2 | q2
                                       · exact c159 q2
                                       · omega)))
                               rw [e9] at h9
                               exact h9)
                            | (have e10 : f = 10 := by omega
                               subst e10
                               have e9 := lkS_y (h := g1.2.1) (c := c) (D := D) (m := m) (i := i) (by omega) ⟨isT h65 c68, c78, by omega⟩ (by first | exact Or.inl c159 | exact Or.inr (by omega))
                               rw [e9] at h9
                               rw [show ((3 * m + i : Nat) : Int) = 3 * (m : Int) + (i : Int) by omega] at h9
                               exact h9)
                    · skip
                      refine a_aload_n 103 dX12_look_102 rfl rfl ?_
                      refine a_getR 106 dX12_look_103 fX12_37 hM3.1 rfl (mr_14 hM3).1 rfl ?_
                      refine a_iload 108 dX12_look_106 rfl rfl ?_
                      refine a_iload 110 dX12_look_108 rfl rfl ?_
                      refine a_iast 111 dX12_look_110 (mr_14 hM3).2 (by omega) (by omega) rfl ?_
                      rw [gI_gI]
                      refine a_aload_n 112 dX12_look_111 rfl rfl ?_
                      refine a_iload 114 dX12_look_112 rfl rfl ?_
                      refine a_callV 117 (r_spanOf _ _ hM2 (MV_fig (by omega) (by omega) (by omega) hV) (by rw [gI_n (Or.inl (by decide))]; omega)) cdX12_spanOf lX12_132 dX12_look_114 rfl hM3.1 rfl ⟨by decide, by decide, rfl, rfl⟩ ⟨Nat.zero_le _, Nat.zero_le _⟩ (Nat.le_of_ble_eq_true rfl) rfl ?_
                      rintro _ _ - ⟨rfl, rfl⟩ -
                      rw [show cnt (canB (gI g1 1014 (10 * (m : Int) + 5 + (i : Int)).toNat (f : Int)).2.1 (m : Int)) 1000 = fgC g1.2.1 m i f from cnt_cg 1000 (fun d _ => canB_fig (by omega) (by omega) (by omega) c78)]
                      have hfb : 0 ≤ fgC g1.2.1 m i f ∧ fgC g1.2.1 m i f ≤ 1000 := cnt_le _ 1000
                      refine a_istore 119 dX12_look_117 (by decide) rfl rfl ?_
                      refine AW.cut (J := 133) (P := fun z => z = mostV g1.2.1 m i (f + 1)) ?_ (fun J133 => ?_)
                      · intro z133 h133
                        subst h133
                        refine a_istore 135 dX12_look_133 (by decide) rfl rfl ?_
                        refine a_iinc 138 dX12_look_135 rfl (by unfold zr; omega) (by decide) rfl rfl ?_
                        refine a_goto 95 dX12_look_138 (by decide) ?_
                        refine AW.kill 11 ?_
                        exact ih95 (_, f + 1) ⟨by show gI g1 1014 (10 * (m : Int) + 5 + (i : Int)).toNat (f : Int) = gI g1 1014 (10 * (m : Int) + 5 + (i : Int)).toNat (((f + 1 : Nat) : Int) - 1); rw [show (((f + 1 : Nat) : Int) - 1) = (f : Int) by omega], by dsimp only; omega⟩ (by dsimp only; omega)
                      · skip
                        refine a_iload 121 dX12_look_119 rfl rfl ?_
                        refine a_iload 123 dX12_look_121 rfl rfl ?_
                        refine a_icmp_le 131 126 dX12_look_123 (by decide) rfl (fun c123 => ?_) (fun c123 => ?_)
                        · skip
                          refine a_iload 133 dX12_look_131 rfl rfl ?_
                          exact J133 _ (by show _ = (if mostV g1.2.1 m i f < fgC g1.2.1 m i f then fgC g1.2.1 m i f else mostV g1.2.1 m i f); first | rw [if_pos (by omega)] | rw [if_neg (by omega)])
                        · skip
                          refine a_iload 128 dX12_look_126 rfl rfl ?_
                          refine a_goto 133 dX12_look_128 (by decide) ?_
                          exact J133 _ (by show _ = (if mostV g1.2.1 m i f < fgC g1.2.1 m i f then fgC g1.2.1 m i f else mostV g1.2.1 m i f); first | rw [if_pos (by omega)] | rw [if_neg (by omega)])
                  · refine ⟨?_, Nat.zero_le _⟩
                    show g1 = gI g1 1014 (10 * (m : Int) + 5 + (i : Int)).toNat (((0 : Nat) : Int) - 1)
                    rw [show (((0 : Nat) : Int) - 1) = -1 from rfl]
                    exact (gI_self hm1).symm
          · exact Nat.zero_le _
      · show ((0 : Nat) : Int) ≤ _
        omega
    · skip
      refine a_iconst (z := (-1)) 20 dX12_look_19 rfl (zrl rfl) rfl ?_
      refine a_ireturn dX12_look_20 rfl ⟨Nat.zero_le _, Nat.zero_le _⟩ ?_
      exact Or.inr ⟨by omega, rfl, rfl⟩
