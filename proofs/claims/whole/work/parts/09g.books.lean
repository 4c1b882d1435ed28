set_option maxHeartbeats 4000000 in
set_option maxRecDepth 100000 in
theorem c9_holds (g : GH) (f t d : Int) {r : Nat} (hr : g.1 r = some (Sum.inl 9)) : AMet mX9_holds g [vA r, vI f, vI t, vI d] (pB g (g.2.1 r 0 = f ∧ g.2.1 r 1 = t ∧ (g.2.1 r 2 ≤ d ∧ d ≤ g.2.1 r 3))) := by
  refine AMet.of [vA r, vI f, vI t, vI d] (by decide) rfl (Nat.le_of_ble_eq_true rfl) ?_
  refine a_aload_n 1 dX9_holds_0 rfl rfl ?_
  refine a_getI 4 dX9_holds_1 fX9_22 hr rfl rfl ?_
  refine a_iload_n 5 dX9_holds_4 rfl rfl ?_
  refine a_icmp_ne 35 8 dX9_holds_5 (by decide) rfl (fun c5 => ?_) (fun c5 => ?_)
  · skip
    refine a_iconst (z := 0) 36 dX9_holds_35 rfl (zrl rfl) rfl ?_
    refine a_breturn dX9_holds_36 rfl (by omega) ⟨Nat.zero_le _, Nat.zero_le _⟩ ?_
    exact ⟨_, rfl, rfl, by omega⟩
  · skip
    refine a_aload_n 9 dX9_holds_8 rfl rfl ?_
    refine a_getI 12 dX9_holds_9 fX9_25 hr rfl rfl ?_
    refine a_iload_n 13 dX9_holds_12 rfl rfl ?_
    refine a_icmp_ne 35 16 dX9_holds_13 (by decide) rfl (fun c13 => ?_) (fun c13 => ?_)
    · skip
      refine a_iconst (z := 0) 36 dX9_holds_35 rfl (zrl rfl) rfl ?_
      refine a_breturn dX9_holds_36 rfl (by omega) ⟨Nat.zero_le _, Nat.zero_le _⟩ ?_
      exact ⟨_, rfl, rfl, by omega⟩
    · skip
      refine a_iload_n 17 dX9_holds_16 rfl rfl ?_
      refine a_aload_n 18 dX9_holds_17 rfl rfl ?_
      refine a_getI 21 dX9_holds_18 fX9_28 hr rfl rfl ?_
      refine a_aload_n 22 dX9_holds_21 rfl rfl ?_
      refine a_getI 25 dX9_holds_22 fX9_31 hr rfl rfl ?_
      refine a_callS 28 (c11_within _ _ _ _) cdX11_within lX9_34 dX9_holds_25 rfl rfl ⟨by decide, by decide, rfl, rfl⟩ ⟨Nat.zero_le _, Nat.zero_le _⟩ (Nat.le_of_ble_eq_true rfl) rfl ?_
      rintro _ _ - ⟨b25, rfl, rfl, h25⟩ -
      refine a_if_eq 35 31 dX9_holds_28 (by decide) rfl (fun c28 => ?_) (fun c28 => ?_)
      · skip
        refine a_iconst (z := 0) 36 dX9_holds_35 rfl (zrl rfl) rfl ?_
        refine a_breturn dX9_holds_36 rfl (by omega) ⟨Nat.zero_le _, Nat.zero_le _⟩ ?_
        exact ⟨_, rfl, rfl, by omega⟩
      · skip
        refine a_iconst (z := 1) 32 dX9_holds_31 rfl (zrl rfl) rfl ?_
        refine a_goto 36 dX9_holds_32 (by decide) ?_
        refine a_breturn dX9_holds_36 rfl (by omega) ⟨Nat.zero_le _, Nat.zero_le _⟩ ?_
        exact ⟨_, rfl, rfl, by omega⟩
theorem stp_eq {w g : Int} (hg : 1 ≤ g) : (w + g - 1) / g - 1 = (w - 1) / g := by
  rw [show w + g - 1 = (w - 1) + 1 * g by omega, Int.add_mul_ediv_right _ _ (by omega)]; omega
theorem div_le_b {w g : Int} (hw : 1 ≤ w) (hg : 1 ≤ g) : 0 ≤ (w - 1) / g ∧ (w - 1) / g ≤ w - 1 := ⟨Int.ediv_nonneg (by omega) (by omega), Int.ediv_le_self _ (by omega)⟩
theorem lstU_eq {P : Int → Prop} {z : Int} : ∀ n : Nat, (0 ≤ z ∧ z < n) → P z → (∀ i : Int, z < i → i < n → ¬ P i) → lstU P n = z
  | 0, h, _, _ => by omega
  | n + 1, h, hz, hi => by
    by_cases e : z = n
    · rw [(lstU_s P n).1 (by rw [← e]; exact hz), e]
    · rw [(lstU_s P n).2 (hi n (by omega) (by omega))]
      exact lstU_eq n (by omega) hz (fun i a b => hi i a (by omega))
theorem lstU_no {P : Int → Prop} : ∀ n : Nat, (∀ i : Int, 0 ≤ i → i < n → ¬ P i) → lstU P n = -9
  | 0, _ => rfl
  | n + 1, hi => by
    rw [(lstU_s P n).2 (hi n (by omega) (by omega))]
    exact lstU_no n (fun i a b => hi i a (by omega))
set_option maxHeartbeats 4000000 in
set_option maxRecDepth 100000 in
theorem c9_sumFor (g : GH) (w : Int) {r : Nat} (hr : g.1 r = some (Sum.inl 9)) (h4 : 0 ≤ g.2.1 r 4 ∧ g.2.1 r 4 ≤ 999) (h5 : 1 ≤ g.2.1 r 5 ∧ g.2.1 r 5 ≤ 500) (h6 : 0 ≤ g.2.1 r 6 ∧ g.2.1 r 6 ≤ 999) (hw : 1 ≤ w ∧ w ≤ 2000) : AMet mX9_sumFor g [vA r, vI w] (pZ g (g.2.1 r 4 + g.2.1 r 6 * ((w - 1) / g.2.1 r 5))) := by
  refine AMet.of [vA r, vI w, none] (by decide) rfl (Nat.le_of_ble_eq_true rfl) ?_
  have hb := div_le_b hw.1 h5.1
  have hm := mul_le2 (x := g.2.1 r 6) (y := (w - 1) / g.2.1 r 5) (X := 999) (Y := 1999) (by omega) (by omega) (by omega) (by omega)
  refine a_aload_n 1 dX9_sumFor_0 rfl rfl ?_
  refine a_getI 4 dX9_sumFor_1 fX9_7 hr rfl rfl ?_
  refine a_if_le 18 7 dX9_sumFor_4 (by decide) rfl (fun c4 => ?_) (fun c4 => ?_)
  · exfalso; omega
  · skip
    refine a_iload_n 8 dX9_sumFor_7 rfl rfl ?_
    refine a_iconst (z := 1) 9 dX9_sumFor_8 rfl (zrl rfl) rfl ?_
    refine a_isub 10 dX9_sumFor_9 (by unfold zr; omega) rfl ?_
    refine a_aload_n 11 dX9_sumFor_10 rfl rfl ?_
    refine a_getI 14 dX9_sumFor_11 fX9_7 hr rfl rfl ?_
    refine a_idiv 15 dX9_sumFor_14 (by omega) (by omega) rfl ?_
    refine a_goto 19 dX9_sumFor_15 (by decide) ?_
    refine a_istore_n 20 dX9_sumFor_19 (by decide) rfl rfl ?_
    refine a_aload_n 21 dX9_sumFor_20 rfl rfl ?_
    refine a_getI 24 dX9_sumFor_21 fX9_40 hr rfl rfl ?_
    refine a_aload_n 25 dX9_sumFor_24 rfl rfl ?_
    refine a_getI 28 dX9_sumFor_25 fX9_19 hr rfl rfl ?_
    refine a_iload_n 29 dX9_sumFor_28 rfl rfl ?_
    refine a_imul 30 dX9_sumFor_29 (by unfold zr; omega) rfl ?_
    refine a_iadd 31 dX9_sumFor_30 (by unfold zr; omega) rfl ?_
    refine a_ireturn dX9_sumFor_31 rfl ⟨Nat.zero_le _, Nat.zero_le _⟩ ?_
    exact ⟨rfl, rfl⟩
set_option maxHeartbeats 4000000 in
set_option maxRecDepth 100000 in
theorem c9_partOf (g : GH) (v : Int) {r : Nat} (hr : g.1 r = some (Sum.inl 9)) (h7 : 0 ≤ g.2.1 r 7 ∧ g.2.1 r 7 ≤ 99) (h8 : 1 ≤ g.2.1 r 8 ∧ g.2.1 r 8 ≤ 99) (hv : 0 ≤ v ∧ v ≤ 2000000) : AMet mX9_partOf g [vA r, vI v] (pZ g (v * g.2.1 r 7 / g.2.1 r 8)) := by
  refine AMet.of [vA r, vI v] (by decide) rfl (Nat.le_of_ble_eq_true rfl) ?_
  have hm := mul_le2 (x := v) (y := g.2.1 r 7) (X := 2000000) (Y := 99) (by omega) (by omega) (by omega) (by omega)
  refine a_aload_n 1 dX9_partOf_0 rfl rfl ?_
  refine a_getI 4 dX9_partOf_1 fX9_16 hr rfl rfl ?_
  refine a_if_le 21 7 dX9_partOf_4 (by decide) rfl (fun c4 => ?_) (fun c4 => ?_)
  · exfalso; omega
  · skip
    refine a_iload_n 8 dX9_partOf_7 rfl rfl ?_
    refine a_aload_n 9 dX9_partOf_8 rfl rfl ?_
    refine a_getI 12 dX9_partOf_9 fX9_13 hr rfl rfl ?_
    refine a_imul 13 dX9_partOf_12 (by unfold zr; omega) rfl ?_
    refine a_aload_n 14 dX9_partOf_13 rfl rfl ?_
    refine a_getI 17 dX9_partOf_14 fX9_16 hr rfl rfl ?_
    refine a_idiv 18 dX9_partOf_17 (by omega) (by omega) rfl ?_
    refine a_goto 22 dX9_partOf_18 (by decide) ?_
    refine a_ireturn dX9_partOf_22 rfl ⟨Nat.zero_le _, Nat.zero_le _⟩ ?_
    exact ⟨rfl, rfl⟩
/-- a book at b, its row at v, its rules at ru -/
def BK (g : GH) (b v : Nat) (ru : Nat → Nat) : Prop := g.1 b = some (Sum.inl 7) ∧ g.2.2.2 b 0 = some v ∧ g.1 v = some (Sum.inr (.object RX9, 12)) ∧ ∀ i, i < 12 → g.2.2.2 v i = some (ru i) ∧ g.1 (ru i) = some (Sum.inl 9)
abbrev hdP (h : Nat → Nat → Int) (ru : Nat → Nat) (f t d i : Int) : Prop := h (ru i.toNat) 0 = f ∧ h (ru i.toNat) 1 = t ∧ (h (ru i.toNat) 2 ≤ d ∧ d ≤ h (ru i.toNat) 3)
set_option maxHeartbeats 4000000 in
set_option maxRecDepth 100000 in
theorem c7_lastThatHolds (g : GH) (f t d : Int) {b v : Nat} {ru : Nat → Nat} (hb : BK g b v ru) (hc : 0 ≤ g.2.1 b 1 ∧ g.2.1 b 1 ≤ 12) : AMet mX7_lastThatHolds g [vA b, vI f, vI t, vI d] (pZ g (lstU (hdP g.2.1 ru f t d) (g.2.1 b 1).toNat)) := by
  refine AMet.of [vA b, vI f, vI t, vI d, none] (by decide) rfl (Nat.le_of_ble_eq_true rfl) ?_
  refine a_aload_n 1 dX7_lastThatHolds_0 rfl rfl ?_
  refine a_getI 4 dX7_lastThatHolds_1 fX7_17 hb.1 rfl rfl ?_
  refine a_iconst (z := 1) 5 dX7_lastThatHolds_4 rfl (zrl rfl) rfl ?_
  refine a_isub 6 dX7_lastThatHolds_5 (by unfold zr; omega) rfl ?_
  refine a_istore 8 dX7_lastThatHolds_6 (by decide) rfl rfl ?_
  refine AW.loop (α := Int) (fun p => (p + 1).toNat) (fun p => (-1 ≤ p ∧ p ≤ g.2.1 b 1 - 1) ∧ ∀ i : Int, p < i → i < g.2.1 b 1 → ¬ hdP g.2.1 ru f t d i) (fun p => g) (fun p => [vA b, vI f, vI t, vI d, vI p]) (fun p => []) ?_ (g.2.1 b 1 - 1) ?_
  · intro k hk ih8
    try dsimp only at hI ih ⊢
    refine a_iload 10 dX7_lastThatHolds_8 rfl rfl ?_
    refine a_if_lt 38 13 dX7_lastThatHolds_10 (by decide) rfl (fun c10 => ?_) (fun c10 => ?_)
    · skip
      refine a_bipush (z := (-9)) 40 dX7_lastThatHolds_38 rfl (zrl rfl) rfl ?_
      refine a_ireturn dX7_lastThatHolds_40 rfl ⟨Nat.zero_le _, Nat.zero_le _⟩ ?_
      exact ⟨congrArg vI (lstU_no _ (fun i a b => hk.2 i (by omega) (by omega))).symm, rfl⟩
    · skip
      refine a_aload_n 14 dX7_lastThatHolds_13 rfl rfl ?_
      refine a_getR 17 dX7_lastThatHolds_14 fX7_11 hb.1 rfl hb.2.1 rfl ?_
      refine a_iload 19 dX7_lastThatHolds_17 rfl rfl ?_
      refine a_aald 20 dX7_lastThatHolds_19 hb.2.2.1 rfl (by omega) (by omega) (hb.2.2.2 _ (by omega)).1 rfl ?_
      refine a_iload_n 21 dX7_lastThatHolds_20 rfl rfl ?_
      refine a_iload_n 22 dX7_lastThatHolds_21 rfl rfl ?_
      refine a_iload_n 23 dX7_lastThatHolds_22 rfl rfl ?_
      refine a_callV 26 (c9_holds _ _ _ _ (hb.2.2.2 _ (by omega)).2) cdX9_holds lX7_22 dX7_lastThatHolds_23 rfl (hb.2.2.2 _ (by omega)).2 rfl ⟨by decide, by decide, rfl, rfl⟩ ⟨Nat.zero_le _, Nat.zero_le _⟩ (Nat.le_of_ble_eq_true rfl) rfl ?_
      rintro _ _ - ⟨b23, rfl, rfl, h23⟩ -
      refine a_if_eq 32 29 dX7_lastThatHolds_26 (by decide) rfl (fun c26 => ?_) (fun c26 => ?_)
      · skip
        refine a_iinc 35 dX7_lastThatHolds_32 rfl (by unfold zr; omega) (by decide) rfl rfl ?_
        refine a_goto 8 dX7_lastThatHolds_35 (by decide) ?_
        refine ih8 (k + -1) ⟨by omega, fun i a b => ?_⟩ (by omega)
        by_cases e : i = k
        · rw [e]; exact isN h23 c26
        · exact hk.2 i (by omega) b
      · skip
        refine a_iload 31 dX7_lastThatHolds_29 rfl rfl ?_
        refine a_ireturn dX7_lastThatHolds_31 rfl ⟨Nat.zero_le _, Nat.zero_le _⟩ ?_
        exact ⟨congrArg vI (lstU_eq _ (by omega) (isT h23 c26) (fun i a b => hk.2 i a (by omega))).symm, rfl⟩
  · exact ⟨by omega, fun i a b => by omega⟩
set_option maxHeartbeats 4000000 in
set_option maxRecDepth 100000 in
theorem c9_forgetChoices (g : GH) {r : Nat} (hr : g.1 r = some (Sum.inl 9)) : AMet mX9_forgetChoices g [vA r] (fun _ g' => g' = gI (gI (gI g r 6 0) r 7 1) r 8 1) := by
  refine AMet.of [vA r] (by decide) rfl (Nat.le_of_ble_eq_true rfl) ?_
  refine a_aload_n 1 dX9_forgetChoices_0 rfl rfl ?_
  refine a_iconst (z := 0) 2 dX9_forgetChoices_1 rfl (zrl rfl) rfl ?_
  refine a_putI 5 dX9_forgetChoices_2 fX9_19 (Or.inl rfl) hr (Or.inl rfl) rfl ?_
  refine a_aload_n 6 dX9_forgetChoices_5 rfl rfl ?_
  refine a_iconst (z := 1) 7 dX9_forgetChoices_6 rfl (zrl rfl) rfl ?_
  refine a_putI 10 dX9_forgetChoices_7 fX9_13 (Or.inl rfl) hr (Or.inl rfl) rfl ?_
  refine a_aload_n 11 dX9_forgetChoices_10 rfl rfl ?_
  refine a_iconst (z := 1) 12 dX9_forgetChoices_11 rfl (zrl rfl) rfl ?_
  refine a_putI 15 dX9_forgetChoices_12 fX9_16 (Or.inl rfl) hr (Or.inl rfl) rfl ?_
  refine a_return dX9_forgetChoices_15 rfl ⟨Nat.zero_le _, Nat.zero_le _⟩ ?_
  rfl
