/-- b says whether P -/
abbrev isb (b : Int) (P : Prop) : Prop := (b = 1 ∧ P) ∨ (b = 0 ∧ ¬ P)
/-- a method's answer is b for P, and nothing changes -/
abbrev pB (g : GH) (P : Prop) : AV → GH → Prop := fun r g' => ∃ b : Int, r = vI b ∧ g = g' ∧ isb b P
/-- a method's answer is z, and nothing changes -/
abbrev pZ (g : GH) (z : Int) : AV → GH → Prop := fun r g' => r = vI z ∧ g = g'
/-! the reference's cells: the object at 1000, the array of its slot k at 1000 + k -/
def mLen (k : Nat) : Option Nat := match k with
  | 2 => some 6 | 4 => some 8 | 5 => some 8 | 6 => some 8 | 8 => some 12 | 9 => some 12 | 10 => some 12 | 11 => some 12 | 12 => some 12 | 14 => some 400 | 16 => some 20 | 17 => some 20 | 18 => some 20 | 19 => some 20 | 20 => some 36 | 21 => some 6 | 22 => some 6 | 24 => some 40 | 25 => some 40 | 26 => some 40 | 28 => some 600 | 37 => some 240 | 38 => some 1000 | _ => none
def mTy (k : Nat) : FieldType := if k = 22 then .boolean else .int
def MR (g : GH) : Prop := g.1 1000 = some (Sum.inl 12) ∧ ∀ k n, mLen k = some n → g.2.2.2 1000 k = some (1000 + k) ∧ g.1 (1000 + k) = some (Sum.inr (mTy k, n))
theorem mr_2 {g : GH} (h : MR g) : g.2.2.2 1000 2 = some 1002 ∧ g.1 1002 = some (Sum.inr (.int, 6)) := h.2 2 6 rfl
theorem mr_4 {g : GH} (h : MR g) : g.2.2.2 1000 4 = some 1004 ∧ g.1 1004 = some (Sum.inr (.int, 8)) := h.2 4 8 rfl
theorem mr_5 {g : GH} (h : MR g) : g.2.2.2 1000 5 = some 1005 ∧ g.1 1005 = some (Sum.inr (.int, 8)) := h.2 5 8 rfl
theorem mr_6 {g : GH} (h : MR g) : g.2.2.2 1000 6 = some 1006 ∧ g.1 1006 = some (Sum.inr (.int, 8)) := h.2 6 8 rfl
theorem mr_8 {g : GH} (h : MR g) : g.2.2.2 1000 8 = some 1008 ∧ g.1 1008 = some (Sum.inr (.int, 12)) := h.2 8 12 rfl
theorem mr_9 {g : GH} (h : MR g) : g.2.2.2 1000 9 = some 1009 ∧ g.1 1009 = some (Sum.inr (.int, 12)) := h.2 9 12 rfl
theorem mr_10 {g : GH} (h : MR g) : g.2.2.2 1000 10 = some 1010 ∧ g.1 1010 = some (Sum.inr (.int, 12)) := h.2 10 12 rfl
theorem mr_11 {g : GH} (h : MR g) : g.2.2.2 1000 11 = some 1011 ∧ g.1 1011 = some (Sum.inr (.int, 12)) := h.2 11 12 rfl
theorem mr_12 {g : GH} (h : MR g) : g.2.2.2 1000 12 = some 1012 ∧ g.1 1012 = some (Sum.inr (.int, 12)) := h.2 12 12 rfl
theorem mr_14 {g : GH} (h : MR g) : g.2.2.2 1000 14 = some 1014 ∧ g.1 1014 = some (Sum.inr (.int, 400)) := h.2 14 400 rfl
theorem mr_16 {g : GH} (h : MR g) : g.2.2.2 1000 16 = some 1016 ∧ g.1 1016 = some (Sum.inr (.int, 20)) := h.2 16 20 rfl
theorem mr_17 {g : GH} (h : MR g) : g.2.2.2 1000 17 = some 1017 ∧ g.1 1017 = some (Sum.inr (.int, 20)) := h.2 17 20 rfl
theorem mr_18 {g : GH} (h : MR g) : g.2.2.2 1000 18 = some 1018 ∧ g.1 1018 = some (Sum.inr (.int, 20)) := h.2 18 20 rfl
theorem mr_19 {g : GH} (h : MR g) : g.2.2.2 1000 19 = some 1019 ∧ g.1 1019 = some (Sum.inr (.int, 20)) := h.2 19 20 rfl
theorem mr_20 {g : GH} (h : MR g) : g.2.2.2 1000 20 = some 1020 ∧ g.1 1020 = some (Sum.inr (.int, 36)) := h.2 20 36 rfl
theorem mr_21 {g : GH} (h : MR g) : g.2.2.2 1000 21 = some 1021 ∧ g.1 1021 = some (Sum.inr (.int, 6)) := h.2 21 6 rfl
theorem mr_22 {g : GH} (h : MR g) : g.2.2.2 1000 22 = some 1022 ∧ g.1 1022 = some (Sum.inr (.boolean, 6)) := h.2 22 6 rfl
theorem mr_24 {g : GH} (h : MR g) : g.2.2.2 1000 24 = some 1024 ∧ g.1 1024 = some (Sum.inr (.int, 40)) := h.2 24 40 rfl
theorem mr_25 {g : GH} (h : MR g) : g.2.2.2 1000 25 = some 1025 ∧ g.1 1025 = some (Sum.inr (.int, 40)) := h.2 25 40 rfl
theorem mr_26 {g : GH} (h : MR g) : g.2.2.2 1000 26 = some 1026 ∧ g.1 1026 = some (Sum.inr (.int, 40)) := h.2 26 40 rfl
theorem mr_28 {g : GH} (h : MR g) : g.2.2.2 1000 28 = some 1028 ∧ g.1 1028 = some (Sum.inr (.int, 600)) := h.2 28 600 rfl
theorem mr_37 {g : GH} (h : MR g) : g.2.2.2 1000 37 = some 1037 ∧ g.1 1037 = some (Sum.inr (.int, 240)) := h.2 37 240 rfl
theorem mr_38 {g : GH} (h : MR g) : g.2.2.2 1000 38 = some 1038 ∧ g.1 1038 = some (Sum.inr (.int, 1000)) := h.2 38 1000 rfl
set_option maxHeartbeats 4000000 in
set_option maxRecDepth 100000 in
theorem r_in (g : GH) (v a b : Int) : AMet mX12_in g [vI v, vI a, vI b] (pB g (a ≤ v ∧ v ≤ b)) := by
  refine AMet.of [vI v, vI a, vI b] (by decide) rfl (Nat.le_of_ble_eq_true rfl) ?_
  refine a_iload_n 1 dX12_in_0 rfl rfl ?_
  refine a_iload_n 2 dX12_in_1 rfl rfl ?_
  refine a_icmp_lt 14 5 dX12_in_2 (by decide) rfl (fun c2 => ?_) (fun c2 => ?_)
  · skip
    refine a_iconst (z := 0) 15 dX12_in_14 rfl (zrl rfl) rfl ?_
    refine a_breturn dX12_in_15 rfl (by decide) ⟨Nat.zero_le _, Nat.zero_le _⟩ ?_
    exact ⟨_, rfl, rfl, by omega⟩
  · skip
    refine a_iload_n 6 dX12_in_5 rfl rfl ?_
    refine a_iload_n 7 dX12_in_6 rfl rfl ?_
    refine a_icmp_gt 14 10 dX12_in_7 (by decide) rfl (fun c7 => ?_) (fun c7 => ?_)
    · skip
      refine a_iconst (z := 0) 15 dX12_in_14 rfl (zrl rfl) rfl ?_
      refine a_breturn dX12_in_15 rfl (by decide) ⟨Nat.zero_le _, Nat.zero_le _⟩ ?_
      exact ⟨_, rfl, rfl, by omega⟩
    · skip
      refine a_iconst (z := 1) 11 dX12_in_10 rfl (zrl rfl) rfl ?_
      refine a_goto 15 dX12_in_11 (by decide) ?_
      refine a_breturn dX12_in_15 rfl (by decide) ⟨Nat.zero_le _, Nat.zero_le _⟩ ?_
      exact ⟨_, rfl, rfl, by omega⟩
set_option maxHeartbeats 4000000 in
set_option maxRecDepth 100000 in
theorem r_isDay (g : GH) (d : Int) : AMet mX12_isDay g [vI d] (pB g (0 ≤ d ∧ d ≤ 999)) := by
  refine AMet.of [vI d] (by decide) rfl (Nat.le_of_ble_eq_true rfl) ?_
  refine a_iload_n 1 dX12_isDay_0 rfl rfl ?_
  refine a_iconst (z := 0) 2 dX12_isDay_1 rfl (zrl rfl) rfl ?_
  refine a_sipush (z := 999) 5 dX12_isDay_2 rfl (zrl rfl) rfl ?_
  refine a_callS 8 (r_in _ _ _ _) cdX12_in lX12_84 dX12_isDay_5 rfl rfl ⟨by decide, by decide, rfl, rfl⟩ ⟨Nat.zero_le _, Nat.zero_le _⟩ (Nat.le_of_ble_eq_true rfl) rfl ?_
  rintro _ _ - ⟨b5, rfl, rfl, h5⟩ -
  refine a_breturn dX12_isDay_8 rfl (by omega) ⟨Nat.zero_le _, Nat.zero_le _⟩ ?_
  exact ⟨_, rfl, rfl, by omega⟩
set_option maxHeartbeats 4000000 in
set_option maxRecDepth 100000 in
theorem r_isTown (g : GH) (t : Int) : AMet mX12_isTown g [vI t] (pB g (0 ≤ t ∧ t ≤ 5)) := by
  refine AMet.of [vI t] (by decide) rfl (Nat.le_of_ble_eq_true rfl) ?_
  refine a_iload_n 1 dX12_isTown_0 rfl rfl ?_
  refine a_iconst (z := 0) 2 dX12_isTown_1 rfl (zrl rfl) rfl ?_
  refine a_iconst (z := 5) 3 dX12_isTown_2 rfl (zrl rfl) rfl ?_
  refine a_callS 6 (r_in _ _ _ _) cdX12_in lX12_84 dX12_isTown_3 rfl rfl ⟨by decide, by decide, rfl, rfl⟩ ⟨Nat.zero_le _, Nat.zero_le _⟩ (Nat.le_of_ble_eq_true rfl) rfl ?_
  rintro _ _ - ⟨b3, rfl, rfl, h3⟩ -
  refine a_breturn dX12_isTown_6 rfl (by omega) ⟨Nat.zero_le _, Nat.zero_le _⟩ ?_
  exact ⟨_, rfl, rfl, by omega⟩
set_option maxHeartbeats 4000000 in
set_option maxRecDepth 100000 in
theorem r_isCover (g : GH) (c : Int) : AMet mX12_isCover g [vI c] (pB g (0 ≤ c ∧ c ≤ 7)) := by
  refine AMet.of [vI c] (by decide) rfl (Nat.le_of_ble_eq_true rfl) ?_
  refine a_iload_n 1 dX12_isCover_0 rfl rfl ?_
  refine a_iconst (z := 0) 2 dX12_isCover_1 rfl (zrl rfl) rfl ?_
  refine a_bipush (z := 7) 4 dX12_isCover_2 rfl (zrl rfl) rfl ?_
  refine a_callS 7 (r_in _ _ _ _) cdX12_in lX12_84 dX12_isCover_4 rfl rfl ⟨by decide, by decide, rfl, rfl⟩ ⟨Nat.zero_le _, Nat.zero_le _⟩ (Nat.le_of_ble_eq_true rfl) rfl ?_
  rintro _ _ - ⟨b4, rfl, rfl, h4⟩ -
  refine a_breturn dX12_isCover_7 rfl (by omega) ⟨Nat.zero_le _, Nat.zero_le _⟩ ?_
  exact ⟨_, rfl, rfl, by omega⟩
set_option maxHeartbeats 4000000 in
set_option maxRecDepth 100000 in
theorem r_isLand (g : GH) (l : Int) : AMet mX12_isLand g [vI l] (pB g (0 ≤ l ∧ l ≤ 2)) := by
  refine AMet.of [vI l] (by decide) rfl (Nat.le_of_ble_eq_true rfl) ?_
  refine a_iload_n 1 dX12_isLand_0 rfl rfl ?_
  refine a_iconst (z := 0) 2 dX12_isLand_1 rfl (zrl rfl) rfl ?_
  refine a_iconst (z := 2) 3 dX12_isLand_2 rfl (zrl rfl) rfl ?_
  refine a_callS 6 (r_in _ _ _ _) cdX12_in lX12_84 dX12_isLand_3 rfl rfl ⟨by decide, by decide, rfl, rfl⟩ ⟨Nat.zero_le _, Nat.zero_le _⟩ (Nat.le_of_ble_eq_true rfl) rfl ?_
  rintro _ _ - ⟨b3, rfl, rfl, h3⟩ -
  refine a_breturn dX12_isLand_6 rfl (by omega) ⟨Nat.zero_le _, Nat.zero_le _⟩ ?_
  exact ⟨_, rfl, rfl, by omega⟩
set_option maxHeartbeats 4000000 in
set_option maxRecDepth 100000 in
theorem r_isFigure (g : GH) (b : Int) : AMet mX12_isFigure g [vI b] (pB g (b = 63 ∨ (48 ≤ b ∧ b ≤ 57))) := by
  refine AMet.of [vI b] (by decide) rfl (Nat.le_of_ble_eq_true rfl) ?_
  refine a_iload_n 1 dX12_isFigure_0 rfl rfl ?_
  refine a_bipush (z := 63) 3 dX12_isFigure_1 rfl (zrl rfl) rfl ?_
  refine a_icmp_eq 17 6 dX12_isFigure_3 (by decide) rfl (fun c3 => ?_) (fun c3 => ?_)
  · skip
    refine a_iconst (z := 1) 18 dX12_isFigure_17 rfl (zrl rfl) rfl ?_
    refine a_goto 22 dX12_isFigure_18 (by decide) ?_
    refine a_breturn dX12_isFigure_22 rfl (by omega) ⟨Nat.zero_le _, Nat.zero_le _⟩ ?_
    exact ⟨_, rfl, rfl, by omega⟩
  · skip
    refine a_iload_n 7 dX12_isFigure_6 rfl rfl ?_
    refine a_bipush (z := 48) 9 dX12_isFigure_7 rfl (zrl rfl) rfl ?_
    refine a_bipush (z := 57) 11 dX12_isFigure_9 rfl (zrl rfl) rfl ?_
    refine a_callS 14 (r_in _ _ _ _) cdX12_in lX12_84 dX12_isFigure_11 rfl rfl ⟨by decide, by decide, rfl, rfl⟩ ⟨Nat.zero_le _, Nat.zero_le _⟩ (Nat.le_of_ble_eq_true rfl) rfl ?_
    rintro _ _ - ⟨b11, rfl, rfl, h11⟩ -
    refine a_if_eq 21 17 dX12_isFigure_14 (by decide) rfl (fun c14 => ?_) (fun c14 => ?_)
    · skip
      refine a_iconst (z := 0) 22 dX12_isFigure_21 rfl (zrl rfl) rfl ?_
      refine a_breturn dX12_isFigure_22 rfl (by omega) ⟨Nat.zero_le _, Nat.zero_le _⟩ ?_
      exact ⟨_, rfl, rfl, by omega⟩
    · skip
      refine a_iconst (z := 1) 18 dX12_isFigure_17 rfl (zrl rfl) rfl ?_
      refine a_goto 22 dX12_isFigure_18 (by decide) ?_
      refine a_breturn dX12_isFigure_22 rfl (by omega) ⟨Nat.zero_le _, Nat.zero_le _⟩ ?_
      exact ⟨_, rfl, rfl, by omega⟩
set_option maxHeartbeats 4000000 in
set_option maxRecDepth 100000 in
theorem r_isMark (g : GH) (m : Int) (hM : MR g) (hc : 0 ≤ g.2.1 1000 13 ∧ g.2.1 1000 13 ≤ 40) : AMet mX12_isMark g [vA 1000, vI m] (pB g (0 ≤ m ∧ m < g.2.1 1000 13)) := by
  refine AMet.of [vA 1000, vI m] (by decide) rfl (Nat.le_of_ble_eq_true rfl) ?_
  refine a_iload_n 1 dX12_isMark_0 rfl rfl ?_
  refine a_iconst (z := 0) 2 dX12_isMark_1 rfl (zrl rfl) rfl ?_
  refine a_aload_n 3 dX12_isMark_2 rfl rfl ?_
  refine a_getI 6 dX12_isMark_3 fX12_88 hM.1 rfl rfl ?_
  refine a_iconst (z := 1) 7 dX12_isMark_6 rfl (zrl rfl) rfl ?_
  refine a_isub 8 dX12_isMark_7 (by unfold zr; omega) rfl ?_
  refine a_callS 11 (r_in _ _ _ _) cdX12_in lX12_84 dX12_isMark_8 rfl rfl ⟨by decide, by decide, rfl, rfl⟩ ⟨Nat.zero_le _, Nat.zero_le _⟩ (Nat.le_of_ble_eq_true rfl) rfl ?_
  rintro _ _ - ⟨b8, rfl, rfl, h8⟩ -
  refine a_breturn dX12_isMark_11 rfl (by omega) ⟨Nat.zero_le _, Nat.zero_le _⟩ ?_
  exact ⟨_, rfl, rfl, by omega⟩
set_option maxHeartbeats 4000000 in
set_option maxRecDepth 100000 in
theorem r_isOf (g : GH) (m c d : Int) (hM : MR g) (hm : 0 ≤ m ∧ m < 40) : AMet mX12_isOf g [vA 1000, vI m, vI c, vI d] (pB g (g.2.1 1014 (10 * m).toNat = c ∧ g.2.1 1014 (10 * m + 9).toNat ≤ d)) := by
  refine AMet.of [vA 1000, vI m, vI c, vI d] (by decide) rfl (Nat.le_of_ble_eq_true rfl) ?_
  refine a_aload_n 1 dX12_isOf_0 rfl rfl ?_
  refine a_getR 4 dX12_isOf_1 fX12_37 hM.1 rfl (mr_14 hM).1 rfl ?_
  refine a_bipush (z := 10) 6 dX12_isOf_4 rfl (zrl rfl) rfl ?_
  refine a_iload_n 7 dX12_isOf_6 rfl rfl ?_
  refine a_imul 8 dX12_isOf_7 (by unfold zr; omega) rfl ?_
  refine a_iald 9 dX12_isOf_8 (mr_14 hM).2 (by omega) (by omega) rfl ?_
  refine a_iload_n 10 dX12_isOf_9 rfl rfl ?_
  refine a_icmp_ne 33 13 dX12_isOf_10 (by decide) rfl (fun c10 => ?_) (fun c10 => ?_)
  · skip
    refine a_iconst (z := 0) 34 dX12_isOf_33 rfl (zrl rfl) rfl ?_
    refine a_breturn dX12_isOf_34 rfl (by decide) ⟨Nat.zero_le _, Nat.zero_le _⟩ ?_
    exact ⟨_, rfl, rfl, by omega⟩
  · skip
    refine a_aload_n 14 dX12_isOf_13 rfl rfl ?_
    refine a_getR 17 dX12_isOf_14 fX12_37 hM.1 rfl (mr_14 hM).1 rfl ?_
    refine a_bipush (z := 10) 19 dX12_isOf_17 rfl (zrl rfl) rfl ?_
    refine a_iload_n 20 dX12_isOf_19 rfl rfl ?_
    refine a_imul 21 dX12_isOf_20 (by unfold zr; omega) rfl ?_
    refine a_bipush (z := 9) 23 dX12_isOf_21 rfl (zrl rfl) rfl ?_
    refine a_iadd 24 dX12_isOf_23 (by unfold zr; omega) rfl ?_
    refine a_iald 25 dX12_isOf_24 (mr_14 hM).2 (by omega) (by omega) rfl ?_
    refine a_iload_n 26 dX12_isOf_25 rfl rfl ?_
    refine a_icmp_gt 33 29 dX12_isOf_26 (by decide) rfl (fun c26 => ?_) (fun c26 => ?_)
    · skip
      refine a_iconst (z := 0) 34 dX12_isOf_33 rfl (zrl rfl) rfl ?_
      refine a_breturn dX12_isOf_34 rfl (by decide) ⟨Nat.zero_le _, Nat.zero_le _⟩ ?_
      exact ⟨_, rfl, rfl, by omega⟩
    · skip
      refine a_iconst (z := 1) 30 dX12_isOf_29 rfl (zrl rfl) rfl ?_
      refine a_goto 34 dX12_isOf_30 (by decide) ?_
      refine a_breturn dX12_isOf_34 rfl (by decide) ⟨Nat.zero_le _, Nat.zero_le _⟩ ?_
      exact ⟨_, rfl, rfl, by omega⟩
set_option maxHeartbeats 4000000 in
set_option maxRecDepth 100000 in
theorem r_byteAt (g : GH) (k : Int) (hM : MR g) (hk : 0 ≤ k) (ht : g.2.1 1000 29 ≤ 600) : AMet mX12_byteAt g [vA 1000, vI k] (pZ g (if k < g.2.1 1000 29 then g.2.1 1028 k.toNat else -1)) := by
  refine AMet.of [vA 1000, vI k] (by decide) rfl (Nat.le_of_ble_eq_true rfl) ?_
  refine a_iload_n 1 dX12_byteAt_0 rfl rfl ?_
  refine a_aload_n 2 dX12_byteAt_1 rfl rfl ?_
  refine a_getI 5 dX12_byteAt_2 fX12_168 hM.1 rfl rfl ?_
  refine a_icmp_ge 17 8 dX12_byteAt_5 (by decide) rfl (fun c5 => ?_) (fun c5 => ?_)
  · skip
    refine a_iconst (z := (-1)) 18 dX12_byteAt_17 rfl (zrl rfl) rfl ?_
    refine a_ireturn dX12_byteAt_18 rfl ⟨Nat.zero_le _, Nat.zero_le _⟩ ?_
    first | exact ⟨by rw [if_pos (by omega)], rfl⟩ | exact ⟨by rw [if_neg (by omega)], rfl⟩
  · skip
    refine a_aload_n 9 dX12_byteAt_8 rfl rfl ?_
    refine a_getR 12 dX12_byteAt_9 fX12_71 hM.1 rfl (mr_28 hM).1 rfl ?_
    refine a_iload_n 13 dX12_byteAt_12 rfl rfl ?_
    refine a_iald 14 dX12_byteAt_13 (mr_28 hM).2 (by omega) (by omega) rfl ?_
    refine a_goto 18 dX12_byteAt_14 (by decide) ?_
    refine a_ireturn dX12_byteAt_18 rfl ⟨Nat.zero_le _, Nat.zero_le _⟩ ?_
    first | exact ⟨by rw [if_pos (by omega)], rfl⟩ | exact ⟨by rw [if_neg (by omega)], rfl⟩
set_option maxHeartbeats 4000000 in
set_option maxRecDepth 100000 in
theorem r_isWell (g : GH) (hM : MR g) : AMet mX12_isWell g [vA 1000] (pB g (g.2.1 1000 34 < 0)) := by
  refine AMet.of [vA 1000] (by decide) rfl (Nat.le_of_ble_eq_true rfl) ?_
  refine a_aload_n 1 dX12_isWell_0 rfl rfl ?_
  refine a_getI 4 dX12_isWell_1 fX12_195 hM.1 rfl rfl ?_
  refine a_if_ge 11 7 dX12_isWell_4 (by decide) rfl (fun c4 => ?_) (fun c4 => ?_)
  · skip
    refine a_iconst (z := 0) 12 dX12_isWell_11 rfl (zrl rfl) rfl ?_
    refine a_breturn dX12_isWell_12 rfl (by decide) ⟨Nat.zero_le _, Nat.zero_le _⟩ ?_
    exact ⟨_, rfl, rfl, by omega⟩
  · skip
    refine a_iconst (z := 1) 8 dX12_isWell_7 rfl (zrl rfl) rfl ?_
    refine a_goto 12 dX12_isWell_8 (by decide) ?_
    refine a_breturn dX12_isWell_12 rfl (by decide) ⟨Nat.zero_le _, Nat.zero_le _⟩ ?_
    exact ⟨_, rfl, rfl, by omega⟩
