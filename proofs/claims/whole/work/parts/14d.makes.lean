theorem AW.loopK {M : MI} {T : TT} {pc : Nat} {α : Type} (kns : α → Nat × Nat) (μ : α → Nat) (I : α → Prop) (gs : α → GH) (lss sts : α → List AV)
    (h : ∀ a, I a → (∀ a', I a' → μ a' < μ a → AW M T (kns a') (gs a') pc (lss a') (sts a')) → AW M T (kns a) (gs a) pc (lss a) (sts a)) (a0 : α) (h0 : I a0) : AW M T (kns a0) (gs a0) pc (lss a0) (sts a0) := by
  have key : ∀ (n : Nat) (a : α), μ a < n → I a → AW M T (kns a) (gs a) pc (lss a) (sts a) := by
    intro n
    induction n with
    | zero => intro a ha; omega
    | succ n ih => intro a ha hI; exact h a hI (fun a' hI' hlt => ih a' (by omega) hI')
  exact key (μ a0 + 1) a0 (by omega) h0
set_option maxHeartbeats 4000000 in
set_option maxRecDepth 100000 in
theorem c0_init (g : GH) (h5 : g.1 5 = some (Sum.inl 0)) (h6 : g.1 6 = none) : AMet mX0_init g [vA 5] (fun _ g' => g' = gI (gR (gN g 6 (Sum.inr (.object RX5, 40))) 5 0 (some 6)) 5 1 0) := by
  refine AMet.of [vA 5] (by decide) rfl (Nat.le_of_ble_eq_true rfl) ?_
  refine a_aload_n 1 dX0_init_0 rfl rfl ?_
  refine a_objInit 4 dX0_init_1 oiX0_3 ⟨by decide, by decide⟩ (Nat.le_of_ble_eq_true rfl) rfl ?_
  refine a_aload_n 5 dX0_init_4 rfl rfl ?_
  refine a_bipush (z := 40) 7 dX0_init_5 rfl (zrl rfl) rfl ?_
  refine a_anew (ci := 5) (6) 10 dX0_init_7 nX0_9 (by decide) (by decide) (by decide) h6 (by decide) (by decide) (by decide) rfl ?_
  skip
  refine a_putR 13 dX0_init_10 fX0_11 (Or.inr ⟨rfl, rfl, rfl⟩) h5 rfl rfl ?_
  refine a_aload_n 14 dX0_init_13 rfl rfl ?_
  refine a_iconst (z := 0) 15 dX0_init_14 rfl (zrl rfl) rfl ?_
  refine a_putI 18 dX0_init_15 fX0_17 (Or.inl rfl) h5 (Or.inl rfl) rfl ?_
  refine a_return dX0_init_18 rfl ⟨by decide, by decide⟩ ?_
  rfl
set_option maxHeartbeats 4000000 in
set_option maxRecDepth 100000 in
theorem c3_init (g : GH) (h22 : g.1 22 = some (Sum.inl 3)) (h23 : g.1 23 = none) (h24 : g.1 24 = none) (h25 : g.1 25 = none) : AMet mX3_init g [vA 22, vA 8] (fun _ g' => g' = gR (gI (gI (gI (gI (gR (gN (gR (gN (gR (gN g 23 (Sum.inr (.object RX5, 10))) 22 1 (some 23)) 24 (Sum.inr (.int, 10))) 22 2 (some 24)) 25 (Sum.inr (.int, 1024))) 22 3 (some 25)) 22 4 0) 22 5 0) 22 6 0) 22 7 0) 22 0 (some 8)) := by
  refine AMet.of [vA 22, vA 8] (by decide) rfl (Nat.le_of_ble_eq_true rfl) ?_
  refine a_aload_n 1 dX3_init_0 rfl rfl ?_
  refine a_objInit 4 dX3_init_1 oiX3_3 ⟨by decide, by decide⟩ (Nat.le_of_ble_eq_true rfl) rfl ?_
  refine a_aload_n 5 dX3_init_4 rfl rfl ?_
  refine a_bipush (z := 10) 7 dX3_init_5 rfl (zrl rfl) rfl ?_
  refine a_anew (ci := 5) (23) 10 dX3_init_7 nX3_9 (by decide) (by decide) (by decide) h23 (by decide) (by decide) (by decide) rfl ?_
  skip
  refine a_putR 13 dX3_init_10 fX3_11 (Or.inr ⟨rfl, rfl, rfl⟩) h22 rfl rfl ?_
  refine a_aload_n 14 dX3_init_13 rfl rfl ?_
  refine a_bipush (z := 10) 16 dX3_init_14 rfl (zrl rfl) rfl ?_
  refine a_newa .int (24) 18 dX3_init_16 rfl ac_int (by decide) ⟨rfl, rfl⟩ (by decide) (by decide) h24 (by decide) (by decide) (by decide) rfl ?_
  skip
  refine a_putR 21 dX3_init_18 fX3_17 (Or.inr ⟨rfl, rfl, rfl⟩) h22 rfl rfl ?_
  refine a_aload_n 22 dX3_init_21 rfl rfl ?_
  refine a_sipush (z := 1024) 25 dX3_init_22 rfl (zrl rfl) rfl ?_
  refine a_newa .int (25) 27 dX3_init_25 rfl ac_int (by decide) ⟨rfl, rfl⟩ (by decide) (by decide) h25 (by decide) (by decide) (by decide) rfl ?_
  skip
  refine a_putR 30 dX3_init_27 fX3_21 (Or.inr ⟨rfl, rfl, rfl⟩) h22 rfl rfl ?_
  refine a_aload_n 31 dX3_init_30 rfl rfl ?_
  refine a_iconst (z := 0) 32 dX3_init_31 rfl (zrl rfl) rfl ?_
  refine a_putI 35 dX3_init_32 fX3_24 (Or.inl rfl) h22 (Or.inl rfl) rfl ?_
  refine a_aload_n 36 dX3_init_35 rfl rfl ?_
  refine a_iconst (z := 0) 37 dX3_init_36 rfl (zrl rfl) rfl ?_
  refine a_putI 40 dX3_init_37 fX3_28 (Or.inl rfl) h22 (Or.inl rfl) rfl ?_
  refine a_aload_n 41 dX3_init_40 rfl rfl ?_
  refine a_iconst (z := 0) 42 dX3_init_41 rfl (zrl rfl) rfl ?_
  refine a_putI 45 dX3_init_42 fX3_31 (Or.inl rfl) h22 (Or.inl rfl) rfl ?_
  refine a_aload_n 46 dX3_init_45 rfl rfl ?_
  refine a_iconst (z := 0) 47 dX3_init_46 rfl (zrl rfl) rfl ?_
  refine a_putI 50 dX3_init_47 fX3_34 (Or.inl rfl) h22 (Or.inl rfl) rfl ?_
  refine a_aload_n 51 dX3_init_50 rfl rfl ?_
  refine a_aload_n 52 dX3_init_51 rfl rfl ?_
  refine a_putR 55 dX3_init_52 fX3_37 (Or.inr ⟨rfl, rfl, rfl⟩) h22 rfl rfl ?_
  refine a_return dX3_init_55 rfl ⟨by decide, by decide⟩ ?_
  rfl
set_option maxHeartbeats 4000000 in
set_option maxRecDepth 100000 in
theorem c4_init (g : GH) (h7 : g.1 7 = some (Sum.inl 4)) : AMet mX4_init g [vA 7] (fun _ g' => g' = gL g 7 0 0) := by
  refine AMet.of [vA 7] (by decide) rfl (Nat.le_of_ble_eq_true rfl) ?_
  refine a_aload_n 1 dX4_init_0 rfl rfl ?_
  refine a_objInit 4 dX4_init_1 oiX4_3 ⟨by decide, by decide⟩ (Nat.le_of_ble_eq_true rfl) rfl ?_
  refine a_aload_n 5 dX4_init_4 rfl rfl ?_
  refine a_lconst (w := 0) 6 dX4_init_5 rfl rfl ?_
  refine a_putL 9 dX4_init_6 fX4_9 (Or.inl rfl) h7 rfl rfl ?_
  refine a_return dX4_init_9 rfl ⟨Nat.zero_le _, Nat.zero_le _⟩ ?_
  rfl
set_option maxHeartbeats 4000000 in
set_option maxRecDepth 100000 in
theorem c8_init (g : GH) (h26 : g.1 26 = some (Sum.inl 8)) (h27 : g.1 27 = none) : AMet mX8_init g [vA 26] (fun _ g' => g' = gI (gI (gI (gI (gI (gI (gR (gN g 27 (Sum.inr (.byte, 600))) 26 0 (some 27)) 26 1 0) 26 2 0) 26 3 0) 26 4 1) 26 5 0) 26 6 0) := by
  refine AMet.of [vA 26] (by decide) rfl (Nat.le_of_ble_eq_true rfl) ?_
  refine a_aload_n 1 dX8_init_0 rfl rfl ?_
  refine a_objInit 4 dX8_init_1 oiX8_3 ⟨by decide, by decide⟩ (Nat.le_of_ble_eq_true rfl) rfl ?_
  refine a_aload_n 5 dX8_init_4 rfl rfl ?_
  refine a_sipush (z := 600) 8 dX8_init_5 rfl (zrl rfl) rfl ?_
  refine a_newa .byte (27) 10 dX8_init_8 rfl ac_byte (by decide) ⟨rfl, rfl⟩ (by decide) (by decide) h27 (by decide) (by decide) (by decide) rfl ?_
  skip
  refine a_putR 13 dX8_init_10 fX8_9 (Or.inr ⟨rfl, rfl, rfl⟩) h26 rfl rfl ?_
  refine a_aload_n 14 dX8_init_13 rfl rfl ?_
  refine a_iconst (z := 0) 15 dX8_init_14 rfl (zrl rfl) rfl ?_
  refine a_putI 18 dX8_init_15 fX8_15 (Or.inl rfl) h26 (Or.inl rfl) rfl ?_
  refine a_aload_n 19 dX8_init_18 rfl rfl ?_
  refine a_iconst (z := 0) 20 dX8_init_19 rfl (zrl rfl) rfl ?_
  refine a_putI 23 dX8_init_20 fX8_19 (Or.inl rfl) h26 (Or.inl rfl) rfl ?_
  refine a_aload_n 24 dX8_init_23 rfl rfl ?_
  refine a_iconst (z := 0) 25 dX8_init_24 rfl (zrl rfl) rfl ?_
  refine a_putI 28 dX8_init_25 fX8_22 (Or.inl rfl) h26 (Or.inl rfl) rfl ?_
  refine a_aload_n 29 dX8_init_28 rfl rfl ?_
  refine a_iconst (z := 1) 30 dX8_init_29 rfl (zrl rfl) rfl ?_
  refine a_putI 33 dX8_init_30 fX8_25 (Or.inl rfl) h26 (Or.inl rfl) rfl ?_
  refine a_aload_n 34 dX8_init_33 rfl rfl ?_
  refine a_iconst (z := 0) 35 dX8_init_34 rfl (zrl rfl) rfl ?_
  refine a_putI 38 dX8_init_35 fX8_28 (Or.inl rfl) h26 (Or.inl rfl) rfl ?_
  refine a_aload_n 39 dX8_init_38 rfl rfl ?_
  refine a_iconst (z := 0) 40 dX8_init_39 rfl (zrl rfl) rfl ?_
  refine a_putI 43 dX8_init_40 fX8_31 (Or.inl rfl) h26 (Or.inl rfl) rfl ?_
  refine a_return dX8_init_43 rfl ⟨by decide, by decide⟩ ?_
  rfl
set_option maxHeartbeats 4000000 in
set_option maxRecDepth 100000 in
theorem c9_init (g : GH) {r : Nat} (hr : g.1 r = some (Sum.inl 9)) : AMet mX9_init g [vA r] (fun _ g' => g' = gI (gI (gI g r 5 1) r 7 1) r 8 1) := by
  refine AMet.of [vA r] (by decide) rfl (Nat.le_of_ble_eq_true rfl) ?_
  refine a_aload_n 1 dX9_init_0 rfl rfl ?_
  refine a_objInit 4 dX9_init_1 oiX9_1 ⟨by decide, by decide⟩ (Nat.le_of_ble_eq_true rfl) rfl ?_
  refine a_aload_n 5 dX9_init_4 rfl rfl ?_
  refine a_iconst (z := 1) 6 dX9_init_5 rfl (zrl rfl) rfl ?_
  refine a_putI 9 dX9_init_6 fX9_7 (Or.inl rfl) hr (Or.inl rfl) rfl ?_
  refine a_aload_n 10 dX9_init_9 rfl rfl ?_
  refine a_iconst (z := 1) 11 dX9_init_10 rfl (zrl rfl) rfl ?_
  refine a_putI 14 dX9_init_11 fX9_13 (Or.inl rfl) hr (Or.inl rfl) rfl ?_
  refine a_aload_n 15 dX9_init_14 rfl rfl ?_
  refine a_iconst (z := 1) 16 dX9_init_15 rfl (zrl rfl) rfl ?_
  refine a_putI 19 dX9_init_16 fX9_16 (Or.inl rfl) hr (Or.inl rfl) rfl ?_
  refine a_return dX9_init_19 rfl ⟨Nat.zero_le _, Nat.zero_le _⟩ ?_
  rfl
/-- a book at b, n of its rules made -/
def bkN (g : GH) (b : Nat) : Nat → GH
  | 0 => gI (gR (gN g (b + 1) (Sum.inr (.object RX9, 12))) b 0 (some (b + 1))) b 1 0
  | n + 1 => gR (gI (gI (gI (gN (bkN g b n) (b + 2 + n) (Sum.inl 9)) (b + 2 + n) 5 1) (b + 2 + n) 7 1) (b + 2 + n) 8 1) (b + 1) n (some (b + 2 + n))
theorem bkN_sh {g : GH} {b : Nat} (hb : g.1 b = some (Sum.inl 7)) : ∀ n, (bkN g b n).1 b = some (Sum.inl 7) ∧ (bkN g b n).1 (b + 1) = some (Sum.inr (.object RX9, 12)) ∧ (bkN g b n).2.2.2 b 0 = some (b + 1) ∧ ∀ a, b + 2 + n ≤ a → (bkN g b n).1 a = g.1 a
  | 0 => ⟨show u1 g.1 (b + 1) _ b = _ from (u1_n (by omega)).trans hb, show u1 g.1 (b + 1) _ (b + 1) = _ from u1_s, show u2 _ b 0 _ b 0 = _ from u2_s, fun a h => show u1 g.1 (b + 1) _ a = _ from u1_n (by omega)⟩
  | n + 1 => by
    obtain ⟨h1, h2, h3, h4⟩ := bkN_sh hb n
    refine ⟨show u1 (bkN g b n).1 (b + 2 + n) _ b = _ from (u1_n (by omega)).trans h1, show u1 (bkN g b n).1 (b + 2 + n) _ (b + 1) = _ from (u1_n (by omega)).trans h2, ?_, fun a h => show u1 (bkN g b n).1 (b + 2 + n) _ a = _ from (u1_n (by omega)).trans (h4 a (by omega))⟩
    show (gR (gI (gI (gI (gN (bkN g b n) (b + 2 + n) (Sum.inl 9)) (b + 2 + n) 5 1) (b + 2 + n) 7 1) (b + 2 + n) 8 1) (b + 1) n (some (b + 2 + n))).2.2.2 b 0 = _
    exact (gR_n (Or.inl (by omega))).trans ((gN_r (g := bkN g b n) (sh := Sum.inl 9) (by omega)).trans h3)
set_option maxHeartbeats 4000000 in
set_option maxRecDepth 100000 in
theorem c7_init (g : GH) {b : Nat} (hb : g.1 b = some (Sum.inl 7)) (hf : ∀ i, i < 13 → g.1 (b + 1 + i) = none) (hlt : b < 900000) : AMet mX7_init g [vA b] (fun _ g' => g' = bkN g b 12) := by
  refine AMet.of [vA b, none] (by decide) rfl (Nat.le_of_ble_eq_true rfl) ?_
  refine a_aload_n 1 dX7_init_0 rfl rfl ?_
  refine a_objInit 4 dX7_init_1 oiX7_3 ⟨by decide, by decide⟩ (Nat.le_of_ble_eq_true rfl) rfl ?_
  refine a_aload_n 5 dX7_init_4 rfl rfl ?_
  refine a_bipush (z := 12) 7 dX7_init_5 rfl (zrl rfl) rfl ?_
  refine a_anew (ci := 9) ((b + 1)) 10 dX7_init_7 ⟨nX7_9.1, by decide⟩ (by decide) (by decide) (by decide) (hf 0 (by decide)) (by omega) (by decide) (by decide) rfl ?_
  skip
  refine a_putR 13 dX7_init_10 fX7_11 (Or.inr ⟨rfl, rfl, rfl⟩) ((u1_n (by omega)).trans hb) rfl rfl ?_
  refine a_aload_n 14 dX7_init_13 rfl rfl ?_
  refine a_iconst (z := 0) 15 dX7_init_14 rfl (zrl rfl) rfl ?_
  refine a_putI 18 dX7_init_15 fX7_17 (Or.inl rfl) ((u1_n (by omega)).trans hb) (Or.inl rfl) rfl ?_
  refine a_iconst (z := 0) 19 dX7_init_18 rfl (zrl rfl) rfl ?_
  refine a_istore_n 20 dX7_init_19 (by decide) rfl rfl ?_
  refine AW.loopK (α := Nat) (fun p => (1 + p, 12 + 10 * p)) (fun p => 12 - p) (fun p => p ≤ 12) (fun p => bkN g b p) (fun p => [vA b, vI (p : Int)]) (fun p => []) ?_ 0 ?_
  · rintro r hr ih20
    try dsimp only at hI ih ⊢
    try dsimp only at hr ih20 ⊢
    have hq := bkN_sh hb r
    refine a_iload_n 21 dX7_init_20 rfl rfl ?_
    refine a_bipush (z := 12) 23 dX7_init_21 rfl (zrl rfl) rfl ?_
    refine a_icmp_ge 45 26 dX7_init_23 (by decide) rfl (fun c23 => ?_) (fun c23 => ?_)
    · skip
      refine a_return dX7_init_45 rfl ⟨by show 1 + r ≤ 13; omega, by show 12 + 10 * r ≤ 132; omega⟩ ?_
      have e : r = 12 := by omega
      subst e
      rfl
    · skip
      refine a_aload_n 27 dX7_init_26 rfl rfl ?_
      refine a_getR 30 dX7_init_27 fX7_11 hq.1 rfl hq.2.2.1 rfl ?_
      refine a_iload_n 31 dX7_init_30 rfl rfl ?_
      refine a_new ((b + 2 + r)) 34 dX7_init_31 nX7_9 (by decide) ((hq.2.2.2 _ (Nat.le_refl _)).trans (by have := hf (r + 1) (by omega); rw [show b + 1 + (r + 1) = b + 2 + r by omega] at this; exact this)) (by omega) (by show 1 + r + 1 ≤ 13; omega) (by show 12 + 10 * r + 10 ≤ 132; omega) rfl ?_
      skip
      refine a_dup 35 dX7_init_34 (by intro w h; cases h) rfl ?_
      refine a_callIA 38 (c9_init _ (r := b + 2 + r) u1_s) cdX9_init lX7_21 dX7_init_35 rfl rfl ⟨by decide, by decide, (by show 1 + r + 1 + 0 ≤ 13; omega), (by show 12 + 10 * r + 10 + 0 ≤ 132; omega)⟩ (Nat.le_of_ble_eq_true rfl) rfl ?_
      rintro _ _ - rfl -
      refine a_aast (ci := 9) 39 dX7_init_38 ((u1_n (by omega)).trans hq.2.1) u1_s (by omega) (by omega) rfl ?_
      refine a_iinc 42 dX7_init_39 rfl (by unfold zr; omega) (by decide) rfl rfl ?_
      refine a_goto 20 dX7_init_42 (by decide) ?_
      have k := ih20 (r + 1) (by omega) (by omega)
      rw [show ((r + 1 : Nat) : Int) = (r : Int) + 1 by omega, show (1 + (r + 1), 12 + 10 * (r + 1)) = (1 + r + 1 + 0, 12 + 10 * r + 10 + 0) by simp only [Prod.mk.injEq]; omega] at k
      exact k
  · omega
def wyB (g : GH) : GH := (gI (gR (gN (gR (gN (gR (gma (gR (gN (gR (gN (gR (gN (gR (gN g 9 (Sum.inr (.int, 20))) 8 0 (some 9)) 10 (Sum.inr (.int, 20))) 8 1 (some 10)) 11 (Sum.inr (.int, 20))) 8 2 (some 11)) 12 (Sum.inr (.int, 20))) 8 3 (some 12)) 6) 8 4 (some 13)) 20 (Sum.inr (.int, 6))) 8 5 (some 20)) 21 (Sum.inr (.int, 6))) 8 6 (some 21)) 8 7 0)
def wyN (g : GH) : Nat → GH
  | 0 => wyB g
  | n + 1 => gF (wyN g n) (14 + n) 6 (-9)
theorem gma_f {g : GH} : ∀ i, i ≤ 6 → (∀ j, j < i → (gma g i).1 (14 + j) = some (Sum.inr (.int, 6)) ∧ (gma g i).2.2.2 13 j = some (14 + j)) ∧ ∀ a k, a ≠ 13 → (a < 14 ∨ 14 + i ≤ a) → (gma g i).2.2.2 a k = g.2.2.2 a k
  | 0, _ => ⟨fun j hj => absurd hj (Nat.not_lt_zero _), fun a k h _ => gN_r (g := g) (sh := Sum.inr (.array .int, 6)) h⟩
  | i + 1, hi => by
    obtain ⟨h1, h2⟩ := gma_f (g := g) i (by omega)
    refine ⟨fun j hj => ?_, fun a k x y => ?_⟩
    · by_cases e : j = i
      · subst e; exact ⟨show u1 (gma g j).1 (14 + j) _ (14 + j) = _ from u1_s, show u2 _ 13 j _ 13 j = _ from u2_s⟩
      · have q := h1 j (by omega)
        refine ⟨show u1 (gma g i).1 (14 + i) _ (14 + j) = _ from (u1_n (by omega)).trans q.1, ?_⟩
        show (gR (gN (gma g i) (14 + i) (Sum.inr (.int, 6))) 13 i (some (14 + i))).2.2.2 13 j = _
        exact (gR_n (Or.inr e)).trans ((gN_r (g := gma g i) (sh := Sum.inr (.int, 6)) (by omega)).trans q.2)
    · show (gR (gN (gma g i) (14 + i) (Sum.inr (.int, 6))) 13 i (some (14 + i))).2.2.2 a k = _
      exact (gR_n (Or.inl x)).trans ((gN_r (g := gma g i) (sh := Sum.inr (.int, 6)) (by omega)).trans (h2 a k x (by omega)))
theorem wyN_k {g : GH} : ∀ n, (wyN g n).1 = (wyB g).1 ∧ (wyN g n).2.2 = (wyB g).2.2
  | 0 => ⟨rfl, rfl⟩
  | n + 1 => wyN_k (g := g) n
