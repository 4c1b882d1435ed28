set_option maxHeartbeats 4000000 in
set_option maxRecDepth 100000 in
theorem c6_init (g : GH) (t f e : Int) {a : Nat} (ha : g.1 a = some (Sum.inl 6)) : AMet mX6_init g [vA a, vI t, vI f, vI e] (fun _ g' => g' = gI (gI (gI g a 0 t) a 1 f) a 2 e) := by
  refine AMet.of [vA a, vI t, vI f, vI e] (by decide) rfl (Nat.le_of_ble_eq_true rfl) ?_
  refine a_aload_n 1 dX6_init_0 rfl rfl ?_
  refine a_objInit 4 dX6_init_1 oiX6_1 ⟨by decide, by decide⟩ (Nat.le_of_ble_eq_true rfl) rfl ?_
  refine a_aload_n 5 dX6_init_4 rfl rfl ?_
  refine a_iload_n 6 dX6_init_5 rfl rfl ?_
  refine a_putI 9 dX6_init_6 fX6_7 (Or.inr ⟨rfl, rfl, rfl⟩) ha (Or.inl rfl) rfl ?_
  refine a_aload_n 10 dX6_init_9 rfl rfl ?_
  refine a_iload_n 11 dX6_init_10 rfl rfl ?_
  refine a_putI 14 dX6_init_11 fX6_13 (Or.inr ⟨rfl, rfl, rfl⟩) ha (Or.inl rfl) rfl ?_
  refine a_aload_n 15 dX6_init_14 rfl rfl ?_
  refine a_iload_n 16 dX6_init_15 rfl rfl ?_
  refine a_putI 19 dX6_init_16 fX6_16 (Or.inr ⟨rfl, rfl, rfl⟩) ha (Or.inl rfl) rfl ?_
  refine a_return dX6_init_19 rfl ⟨Nat.zero_le _, Nat.zero_le _⟩ ?_
  rfl
set_option maxHeartbeats 4000000 in
set_option maxRecDepth 100000 in
theorem c2_init (g : GH) (i a b n : Int) {e f : Nat} (he : g.1 e = some (Sum.inl 2)) : AMet mX2_init g [vA e, vA f, vI i, vI a, vI b, vI n] (fun _ g' => g' = gI (gI (gI (gI (gR g e 0 (some f)) e 1 i) e 2 a) e 3 b) e 4 n) := by
  refine AMet.of [vA e, vA f, vI i, vI a, vI b, vI n] (by decide) rfl (Nat.le_of_ble_eq_true rfl) ?_
  refine a_aload_n 1 dX2_init_0 rfl rfl ?_
  refine a_objInit 4 dX2_init_1 oiX2_3 ⟨by decide, by decide⟩ (Nat.le_of_ble_eq_true rfl) rfl ?_
  refine a_aload_n 5 dX2_init_4 rfl rfl ?_
  refine a_aload_n 6 dX2_init_5 rfl rfl ?_
  refine a_putR 9 dX2_init_6 fX2_9 (Or.inr ⟨rfl, rfl, rfl⟩) he rfl rfl ?_
  refine a_aload_n 10 dX2_init_9 rfl rfl ?_
  refine a_iload_n 11 dX2_init_10 rfl rfl ?_
  refine a_putI 14 dX2_init_11 fX2_15 (Or.inr ⟨rfl, rfl, rfl⟩) he (Or.inl rfl) rfl ?_
  refine a_aload_n 15 dX2_init_14 rfl rfl ?_
  refine a_iload_n 16 dX2_init_15 rfl rfl ?_
  refine a_putI 19 dX2_init_16 fX2_19 (Or.inr ⟨rfl, rfl, rfl⟩) he (Or.inl rfl) rfl ?_
  refine a_aload_n 20 dX2_init_19 rfl rfl ?_
  refine a_iload 22 dX2_init_20 rfl rfl ?_
  refine a_putI 25 dX2_init_22 fX2_22 (Or.inr ⟨rfl, rfl, rfl⟩) he (Or.inl rfl) rfl ?_
  refine a_aload_n 26 dX2_init_25 rfl rfl ?_
  refine a_iload 28 dX2_init_26 rfl rfl ?_
  refine a_putI 31 dX2_init_28 fX2_25 (Or.inr ⟨rfl, rfl, rfl⟩) he (Or.inl rfl) rfl ?_
  refine a_return dX2_init_31 rfl ⟨Nat.zero_le _, Nat.zero_le _⟩ ?_
  rfl
set_option maxHeartbeats 4000000 in
set_option maxRecDepth 100000 in
theorem c1_init (g : GH) {s w : Nat} (hs : g.1 s = some (Sum.inl 1)) (hn : g.1 w = none) (hlt : w < 1000000) : AMet mX1_init g [vA s] (fun _ g' => g' = gR (gN g w (Sum.inr (.long, 16))) s 0 (some w)) := by
  refine AMet.of [vA s] (by decide) rfl (Nat.le_of_ble_eq_true rfl) ?_
  refine a_aload_n 1 dX1_init_0 rfl rfl ?_
  refine a_objInit 4 dX1_init_1 oiX1_3 ⟨by decide, by decide⟩ (Nat.le_of_ble_eq_true rfl) rfl ?_
  refine a_aload_n 5 dX1_init_4 rfl rfl ?_
  refine a_bipush (z := 16) 7 dX1_init_5 rfl (zrl rfl) rfl ?_
  refine a_newa .long (w) 9 dX1_init_7 rfl ac_long (by decide) ⟨rfl, rfl⟩ (by decide) (by decide) hn hlt (by decide) (by decide) rfl ?_
  have hs2 : (gN g w (Sum.inr (.long, (16 : Int).toNat))).1 s = some (Sum.inl 1) := (u1_n (ne_of_sh hn hs)).trans hs
  refine a_putR 12 dX1_init_9 fX1_11 (Or.inr ⟨rfl, rfl, rfl⟩) hs2 rfl rfl ?_
  refine a_return dX1_init_12 rfl ⟨by decide, by decide⟩ ?_
  rfl
/-- a mark just made: the mark at k, its days at s, their words at w, a row at q -/
abbrev gM (g : GH) (k s w q : Nat) (c d l : Int) : GH := gI (gI (gI (gI (gI (gR (gI (gI (gR (gN (gR (gR (gN (gN g s (Sum.inl 1)) w (Sum.inr (.long, 16))) s 0 (some w)) k 3 (some s)) q (Sum.inr (.int, 3))) k 4 (some q)) k 6 (-9)) k 7 (-9)) k 8 none) k 10 (-9)) k 11 (-9)) k 0 c) k 1 d) k 2 l
set_option maxHeartbeats 4000000 in
set_option maxRecDepth 100000 in
theorem c5_init (g : GH) (c d l : Int) {k s w q : Nat} (hk : g.1 k = some (Sum.inl 5)) (hs : g.1 s = none) (hw : g.1 w = none) (hq : g.1 q = none) (hsl : s < 1000000) (hwl : w < 1000000) (hql : q < 1000000) (hsw : w ≠ s) (hsq : q ≠ s) (hwq : q ≠ w) : AMet mX5_init g [vA k, vI c, vI d, vI l] (fun _ g' => g' = gM g k s w q c d l) := by
  refine AMet.of [vA k, vI c, vI d, vI l] (by decide) rfl (Nat.le_of_ble_eq_true rfl) ?_
  refine a_aload_n 1 dX5_init_0 rfl rfl ?_
  refine a_objInit 4 dX5_init_1 oiX5_3 ⟨by decide, by decide⟩ (Nat.le_of_ble_eq_true rfl) rfl ?_
  refine a_aload_n 5 dX5_init_4 rfl rfl ?_
  refine a_new (s) 8 dX5_init_5 nX5_9 (by decide) hs hsl (by decide) (by decide) rfl ?_
  have hk1 : (gN g s (Sum.inl 1)).1 k = some (Sum.inl 5) := (u1_n (ne_of_sh hs hk)).trans hk
  have hs1 : (gN g s (Sum.inl 1)).1 s = some (Sum.inl 1) := u1_s
  have hw1 : (gN g s (Sum.inl 1)).1 w = none := (u1_n hsw).trans hw
  refine a_dup 9 dX5_init_8 (by intro w h; cases h) rfl ?_
  refine a_callIA 12 (c1_init _ hs1 hw1 hwl) cdX1_init lX5_11 dX5_init_9 rfl rfl ⟨by decide, by decide, by decide, by decide⟩ (Nat.le_of_ble_eq_true rfl) rfl ?_
  rintro _ g9 - rfl -
  have hk2 : (gR (gN (gN g s (Sum.inl 1)) w (Sum.inr (.long, 16))) s 0 (some w)).1 k = some (Sum.inl 5) := (u1_n (ne_of_sh hw hk)).trans hk1
  have hq2 : (gR (gN (gN g s (Sum.inl 1)) w (Sum.inr (.long, 16))) s 0 (some w)).1 q = none := (u1_n hwq).trans ((u1_n hsq).trans hq)
  refine a_putR 15 dX5_init_12 fX5_12 (Or.inr ⟨rfl, rfl, rfl⟩) hk2 rfl rfl ?_
  refine a_aload_n 16 dX5_init_15 rfl rfl ?_
  refine a_iconst (z := 3) 17 dX5_init_16 rfl (zrl rfl) rfl ?_
  refine a_newa .int (q) 19 dX5_init_17 rfl ac_int (by decide) ⟨rfl, rfl⟩ (by decide) (by decide) hq2 hql (by decide) (by decide) rfl ?_
  have hk3 : (gN (gR (gR (gN (gN g s (Sum.inl 1)) w (Sum.inr (.long, 16))) s 0 (some w)) k 3 (some s)) q (Sum.inr (.int, (3 : Int).toNat))).1 k = some (Sum.inl 5) := (u1_n (ne_of_sh hq hk)).trans hk2
  refine a_putR 22 dX5_init_19 fX5_18 (Or.inr ⟨rfl, rfl, rfl⟩) hk3 rfl rfl ?_
  refine a_aload_n 23 dX5_init_22 rfl rfl ?_
  refine a_bipush (z := (-9)) 25 dX5_init_23 rfl (zrl rfl) rfl ?_
  refine a_putI 28 dX5_init_25 fX5_22 (Or.inl rfl) hk3 (Or.inl rfl) rfl ?_
  refine a_aload_n 29 dX5_init_28 rfl rfl ?_
  refine a_bipush (z := (-9)) 31 dX5_init_29 rfl (zrl rfl) rfl ?_
  refine a_putI 34 dX5_init_31 fX5_26 (Or.inl rfl) hk3 (Or.inl rfl) rfl ?_
  refine a_aload_n 35 dX5_init_34 rfl rfl ?_
  refine a_null 36 dX5_init_35 rfl ?_
  refine a_putR 39 dX5_init_36 fX5_29 (Or.inl rfl) hk3 rfl rfl ?_
  refine a_aload_n 40 dX5_init_39 rfl rfl ?_
  refine a_bipush (z := (-9)) 42 dX5_init_40 rfl (zrl rfl) rfl ?_
  refine a_putI 45 dX5_init_42 fX5_33 (Or.inl rfl) hk3 (Or.inl rfl) rfl ?_
  refine a_aload_n 46 dX5_init_45 rfl rfl ?_
  refine a_bipush (z := (-9)) 48 dX5_init_46 rfl (zrl rfl) rfl ?_
  refine a_putI 51 dX5_init_48 fX5_36 (Or.inl rfl) hk3 (Or.inl rfl) rfl ?_
  refine a_aload_n 52 dX5_init_51 rfl rfl ?_
  refine a_iload_n 53 dX5_init_52 rfl rfl ?_
  refine a_putI 56 dX5_init_53 fX5_39 (Or.inr ⟨rfl, rfl, rfl⟩) hk3 (Or.inl rfl) rfl ?_
  refine a_aload_n 57 dX5_init_56 rfl rfl ?_
  refine a_iload_n 58 dX5_init_57 rfl rfl ?_
  refine a_putI 61 dX5_init_58 fX5_42 (Or.inr ⟨rfl, rfl, rfl⟩) hk3 (Or.inl rfl) rfl ?_
  refine a_aload_n 62 dX5_init_61 rfl rfl ?_
  refine a_iload_n 63 dX5_init_62 rfl rfl ?_
  refine a_putI 66 dX5_init_63 fX5_45 (Or.inr ⟨rfl, rfl, rfl⟩) hk3 (Or.inl rfl) rfl ?_
  refine a_return dX5_init_66 rfl ⟨by decide, by decide⟩ ?_
  rfl
set_option maxHeartbeats 4000000 in
set_option maxRecDepth 100000 in
theorem c5_write (g : GH) (d s : Int) {k : Nat} (hk : g.1 k = some (Sum.inl 5)) : AMet mX5_write g [vA k, vI d, vI s] (fun _ g' => g' = gI (gI g k 5 d) k 6 s) := by
  refine AMet.of [vA k, vI d, vI s] (by decide) rfl (Nat.le_of_ble_eq_true rfl) ?_
  refine a_aload_n 1 dX5_write_0 rfl rfl ?_
  refine a_iload_n 2 dX5_write_1 rfl rfl ?_
  refine a_putI 5 dX5_write_2 fX5_48 (Or.inl rfl) hk (Or.inl rfl) rfl ?_
  refine a_aload_n 6 dX5_write_5 rfl rfl ?_
  refine a_iload_n 7 dX5_write_6 rfl rfl ?_
  refine a_putI 10 dX5_write_7 fX5_22 (Or.inl rfl) hk (Or.inl rfl) rfl ?_
  refine a_return dX5_write_10 rfl ⟨Nat.zero_le _, Nat.zero_le _⟩ ?_
  rfl
abbrev gS (g : GH) (k : Nat) (d : Int) (r : Option Nat) (i n t : Int) : GH := gI (gI (gI (gR (gI g k 7 d) k 8 r) k 9 i) k 10 n) k 11 t
set_option maxHeartbeats 4000000 in
set_option maxRecDepth 100000 in
theorem c5_strike0 (g : GH) (d i n : Int) {k : Nat} (hk : g.1 k = some (Sum.inl 5)) : AMet mX5_strike g [vA k, vI d, vR none, vI i, vI n] (fun _ g' => g' = gS g k d none i n (-9)) := by
  refine AMet.of [vA k, vI d, vR none, vI i, vI n] (by decide) rfl (Nat.le_of_ble_eq_true rfl) ?_
  refine a_aload_n 1 dX5_strike_0 rfl rfl ?_
  refine a_iload_n 2 dX5_strike_1 rfl rfl ?_
  refine a_putI 5 dX5_strike_2 fX5_26 (Or.inl rfl) hk (Or.inl rfl) rfl ?_
  refine a_aload_n 6 dX5_strike_5 rfl rfl ?_
  refine a_aload_n 7 dX5_strike_6 rfl rfl ?_
  refine a_putR 10 dX5_strike_7 fX5_29 (Or.inl rfl) hk rfl rfl ?_
  refine a_aload_n 11 dX5_strike_10 rfl rfl ?_
  refine a_iload_n 12 dX5_strike_11 rfl rfl ?_
  refine a_putI 15 dX5_strike_12 fX5_51 (Or.inl rfl) hk (Or.inl rfl) rfl ?_
  refine a_aload_n 16 dX5_strike_15 rfl rfl ?_
  refine a_iload 18 dX5_strike_16 rfl rfl ?_
  refine a_putI 21 dX5_strike_18 fX5_33 (Or.inl rfl) hk (Or.inl rfl) rfl ?_
  refine a_aload_n 22 dX5_strike_21 rfl rfl ?_
  refine a_aload_n 23 dX5_strike_22 rfl rfl ?_
  refine a_ifnonnull 31 26 dX5_strike_23 (by decide) rfl (fun c23 => ?_) (fun a23 c23 => ?_)
  · skip
    refine a_bipush (z := (-9)) 28 dX5_strike_26 rfl (zrl rfl) rfl ?_
    refine a_goto 38 dX5_strike_28 (by decide) ?_
    refine a_putI 41 dX5_strike_38 fX5_36 (Or.inl rfl) hk (Or.inl rfl) rfl ?_
    refine a_return dX5_strike_41 rfl ⟨Nat.zero_le _, Nat.zero_le _⟩ ?_
    rfl
  · simp at c23
set_option maxHeartbeats 4000000 in
set_option maxRecDepth 100000 in
theorem c5_strike1 (g : GH) (d i n : Int) {k e f : Nat} (hk : g.1 k = some (Sum.inl 5)) (he : g.1 e = some (Sum.inl 2)) (hf : g.2.2.2 e 0 = some f) (hfo : g.1 f = some (Sum.inl 6)) : AMet mX5_strike g [vA k, vI d, vA e, vI i, vI n] (fun _ g' => g' = gS g k d (some e) i n (g.2.1 f 0)) := by
  refine AMet.of [vA k, vI d, vA e, vI i, vI n] (by decide) rfl (Nat.le_of_ble_eq_true rfl) ?_
  refine a_aload_n 1 dX5_strike_0 rfl rfl ?_
  refine a_iload_n 2 dX5_strike_1 rfl rfl ?_
  refine a_putI 5 dX5_strike_2 fX5_26 (Or.inl rfl) hk (Or.inl rfl) rfl ?_
  refine a_aload_n 6 dX5_strike_5 rfl rfl ?_
  refine a_aload_n 7 dX5_strike_6 rfl rfl ?_
  refine a_putR 10 dX5_strike_7 fX5_29 (Or.inl rfl) hk rfl rfl ?_
  refine a_aload_n 11 dX5_strike_10 rfl rfl ?_
  refine a_iload_n 12 dX5_strike_11 rfl rfl ?_
  refine a_putI 15 dX5_strike_12 fX5_51 (Or.inl rfl) hk (Or.inl rfl) rfl ?_
  refine a_aload_n 16 dX5_strike_15 rfl rfl ?_
  refine a_iload 18 dX5_strike_16 rfl rfl ?_
  refine a_putI 21 dX5_strike_18 fX5_33 (Or.inl rfl) hk (Or.inl rfl) rfl ?_
  refine a_aload_n 22 dX5_strike_21 rfl rfl ?_
  refine a_aload_n 23 dX5_strike_22 rfl rfl ?_
  refine a_ifnonnull 31 26 dX5_strike_23 (by decide) rfl (fun c23 => ?_) (fun a23 c23 => ?_)
  · exact absurd c23 (by simp)
  · skip
    have nfk : f ≠ k := fun z => by rw [z, hk] at hfo; cases hfo
    have nek : e ≠ k := fun z => by rw [z, hk] at he; cases he
    have hf2 : (gI (gI (gR (gI g k 7 d) k 8 (some e)) k 9 i) k 10 n).2.2.2 e 0 = some f := (u2_n (Or.inl nek)).trans hf
    have hf3 : (gI (gI (gR (gI g k 7 d) k 8 (some e)) k 9 i) k 10 n).2.1 f 0 = g.2.1 f 0 := (gI_n (Or.inl nfk)).trans ((gI_n (Or.inl nfk)).trans (gI_n (Or.inl nfk)))
    refine a_aload_n 32 dX5_strike_31 rfl rfl ?_
    refine a_getR 35 dX5_strike_32 fX5_54 he rfl hf2 rfl ?_
    refine a_getIz (g.2.1 f 0) 38 dX5_strike_35 fX5_60 hfo rfl hf3 rfl ?_
    refine a_putI 41 dX5_strike_38 fX5_36 (Or.inl rfl) hk (Or.inl rfl) rfl ?_
    refine a_return dX5_strike_41 rfl ⟨Nat.zero_le _, Nat.zero_le _⟩ ?_
    rfl
def lc0 (g : GH) (k : Nat) : Int := if g.2.2.2 k 8 = none then 10 else 15
theorem lc0_b (g : GH) (k : Nat) : 10 ≤ lc0 g k ∧ lc0 g k ≤ 15 := by unfold lc0; split <;> omega
def lc1 (g : GH) (k : Nat) : Int := lc0 g k + 4 * rdN (g.2.1 k 5) 3
def lcV (g : GH) (k : Nat) (q : Int) : Int := if q = 1 then lc1 g k else if q = 2 then lc0 g k + (if g.2.1 k 6 = -9 then 0 else 7) else if q = 3 then lc1 g k + lc1 g k / 3 else if q = 4 then lc0 g k + g.2.1 k 9 else if q = 5 then lc0 g k / 2 else lc0 g k
theorem rd3_b (d : Int) : 0 ≤ rdN d 3 ∧ rdN d 3 ≤ 3 := rdN_le d 3
set_option maxHeartbeats 4000000 in
set_option maxRecDepth 100000 in
theorem c4_ofMark (g : GH) {l k : Nat} (hl : g.1 l = some (Sum.inl 4)) (hk : g.1 k = some (Sum.inl 5)) : AMet mX4_ofMark g [vA l, vA k] (fun r g' => r = vI (lc0 g k) ∧ g' = gL g l 0 ((g.2.2.1 l 0) + 1)) := by
  refine AMet.of [vA l, vA k] (by decide) rfl (Nat.le_of_ble_eq_true rfl) ?_
  refine a_aload_n 1 dX4_ofMark_0 rfl rfl ?_
  refine a_dup 2 dX4_ofMark_1 (by intro w h; cases h) rfl ?_
  refine a_getL 5 dX4_ofMark_2 fX4_9 hl rfl rfl ?_
  refine a_lconst (w := 1) 6 dX4_ofMark_5 rfl rfl ?_
  refine a_ladd 7 dX4_ofMark_6 rfl ?_
  refine a_putL 10 dX4_ofMark_7 fX4_9 (Or.inl rfl) hl rfl rfl ?_
  refine a_aload_n 11 dX4_ofMark_10 rfl rfl ?_
  refine a_getR 14 dX4_ofMark_11 fX4_34 hk rfl rfl rfl ?_
  refine a_ifnonnull 22 17 dX4_ofMark_14 (by decide) rfl (fun c14 => ?_) (fun a14 c14 => ?_)
  · skip
    refine a_bipush (z := 10) 19 dX4_ofMark_17 rfl (zrl rfl) rfl ?_
    refine a_goto 24 dX4_ofMark_19 (by decide) ?_
    refine a_ireturn dX4_ofMark_24 rfl ⟨Nat.zero_le _, Nat.zero_le _⟩ ?_
    refine ⟨congrArg vI ?_, rfl⟩
    unfold lc0
    first | exact (if_pos c14).symm | exact (if_neg (fun z => by cases c14.symm.trans z)).symm
  · skip
    refine a_bipush (z := 15) 24 dX4_ofMark_22 rfl (zrl rfl) rfl ?_
    refine a_ireturn dX4_ofMark_24 rfl ⟨Nat.zero_le _, Nat.zero_le _⟩ ?_
    refine ⟨congrArg vI ?_, rfl⟩
    unfold lc0
    first | exact (if_pos c14).symm | exact (if_neg (fun z => by cases c14.symm.trans z)).symm
set_option maxHeartbeats 4000000 in
set_option maxRecDepth 100000 in
theorem c4_ofDated (g : GH) {l k : Nat} (hl : g.1 l = some (Sum.inl 4)) (hk : g.1 k = some (Sum.inl 5)) (h0 : 0 ≤ g.2.1 k 5) : AMet mX4_ofDated g [vA l, vA k] (fun r g' => r = vI (lc1 g k) ∧ g' = gL g l 0 ((g.2.2.1 l 0) + 10 + 1)) := by
  refine AMet.of [vA l, vA k] (by decide) rfl (Nat.le_of_ble_eq_true rfl) ?_
  refine a_aload_n 1 dX4_ofDated_0 rfl rfl ?_
  refine a_dup 2 dX4_ofDated_1 (by intro w h; cases h) rfl ?_
  refine a_getL 5 dX4_ofDated_2 fX4_9 hl rfl rfl ?_
  refine a_ldc2 8 dX4_ofDated_5 kX4_40 rfl ?_
  refine a_ladd 9 dX4_ofDated_8 rfl ?_
  refine a_putL 12 dX4_ofDated_9 fX4_9 (Or.inl rfl) hl rfl rfl ?_
  refine a_aload_n 13 dX4_ofDated_12 rfl rfl ?_
  refine a_aload_n 14 dX4_ofDated_13 rfl rfl ?_
  refine a_callV 17 (c4_ofMark _ hl hk) cdX4_ofMark lX4_31 dX4_ofDated_14 rfl hl rfl ⟨by decide, by decide, rfl, rfl⟩ ⟨Nat.zero_le _, Nat.zero_le _⟩ (Nat.le_of_ble_eq_true rfl) rfl ?_
  rintro _ g9 - ⟨rfl, rfl⟩ -
  rw [show lc0 (gL g l 0 ((g.2.2.1 l 0) + 10)) k = lc0 g k from rfl, gL_gL, show (gL g l 0 ((g.2.2.1 l 0) + 10)).2.2.1 l 0 = (g.2.2.1 l 0) + 10 from u2_s]
  have hb0 := lc0_b g k
  refine a_iconst (z := 4) 18 dX4_ofDated_17 rfl (zrl rfl) rfl ?_
  refine a_aload_n 19 dX4_ofDated_18 rfl rfl ?_
  refine a_callV 22 (c5_readBytes _ hk h0) cdX5_readBytes lX4_42 dX4_ofDated_19 rfl hk rfl ⟨by decide, by decide, rfl, rfl⟩ ⟨Nat.zero_le _, Nat.zero_le _⟩ (Nat.le_of_ble_eq_true rfl) rfl ?_
  rintro _ _ - ⟨rfl, rfl⟩ -
  rw [show (gL g l 0 (g.2.2.1 l 0 + 10 + 1)).2.1 k 5 = g.2.1 k 5 from rfl]
  have hb1 := rd3_b (g.2.1 k 5)
  refine a_imul 23 dX4_ofDated_22 (by unfold zr; omega) rfl ?_
  refine a_iadd 24 dX4_ofDated_23 (by unfold zr; omega) rfl ?_
  refine a_ireturn dX4_ofDated_24 rfl ⟨Nat.zero_le _, Nat.zero_le _⟩ ?_
  exact ⟨rfl, rfl⟩
set_option maxHeartbeats 4000000 in
set_option maxRecDepth 100000 in
theorem c4_ofRate (g : GH) {l k : Nat} (hl : g.1 l = some (Sum.inl 4)) (hk : g.1 k = some (Sum.inl 5)) : AMet mX4_ofRate g [vA l, vA k] (fun r g' => r = vI (lc0 g k + (if g.2.1 k 6 = -9 then 0 else 7)) ∧ g' = gL g l 0 ((g.2.2.1 l 0) + 100 + 1)) := by
  refine AMet.of [vA l, vA k] (by decide) rfl (Nat.le_of_ble_eq_true rfl) ?_
  refine a_aload_n 1 dX4_ofRate_0 rfl rfl ?_
  refine a_dup 2 dX4_ofRate_1 (by intro w h; cases h) rfl ?_
  refine a_getL 5 dX4_ofRate_2 fX4_9 hl rfl rfl ?_
  refine a_ldc2 8 dX4_ofRate_5 kX4_46 rfl ?_
  refine a_ladd 9 dX4_ofRate_8 rfl ?_
  refine a_putL 12 dX4_ofRate_9 fX4_9 (Or.inl rfl) hl rfl rfl ?_
  refine a_aload_n 13 dX4_ofRate_12 rfl rfl ?_
  refine a_aload_n 14 dX4_ofRate_13 rfl rfl ?_
  refine a_callV 17 (c4_ofMark _ hl hk) cdX4_ofMark lX4_31 dX4_ofRate_14 rfl hl rfl ⟨by decide, by decide, rfl, rfl⟩ ⟨Nat.zero_le _, Nat.zero_le _⟩ (Nat.le_of_ble_eq_true rfl) rfl ?_
  rintro _ g9 - ⟨rfl, rfl⟩ -
  rw [show lc0 (gL g l 0 ((g.2.2.1 l 0) + 100)) k = lc0 g k from rfl, gL_gL, show (gL g l 0 ((g.2.2.1 l 0) + 100)).2.2.1 l 0 = (g.2.2.1 l 0) + 100 from u2_s]
  have hb0 := lc0_b g k
  refine a_aload_n 18 dX4_ofRate_17 rfl rfl ?_
  refine a_getI 21 dX4_ofRate_18 fX4_48 hk rfl rfl ?_
  refine a_bipush (z := (-9)) 23 dX4_ofRate_21 rfl (zrl rfl) rfl ?_
  refine a_icmp_ne 30 26 dX4_ofRate_23 (by decide) rfl (fun c23 => ?_) (fun c23 => ?_)
  · skip
    refine a_bipush (z := 7) 32 dX4_ofRate_30 rfl (zrl rfl) rfl ?_
    refine a_iadd 33 dX4_ofRate_32 (by unfold zr; omega) rfl ?_
    refine a_ireturn dX4_ofRate_33 rfl ⟨Nat.zero_le _, Nat.zero_le _⟩ ?_
    refine ⟨congrArg vI ?_, rfl⟩
    first | rw [if_pos (by assumption)] | rw [if_neg (by assumption)]
  · skip
    refine a_iconst (z := 0) 27 dX4_ofRate_26 rfl (zrl rfl) rfl ?_
    refine a_goto 32 dX4_ofRate_27 (by decide) ?_
    refine a_iadd 33 dX4_ofRate_32 (by unfold zr; omega) rfl ?_
    refine a_ireturn dX4_ofRate_33 rfl ⟨Nat.zero_le _, Nat.zero_le _⟩ ?_
    refine ⟨congrArg vI ?_, rfl⟩
    first | rw [if_pos (by assumption)] | rw [if_neg (by assumption)]
set_option maxHeartbeats 4000000 in
set_option maxRecDepth 100000 in
theorem c4_ofThrough (g : GH) {l k : Nat} (hl : g.1 l = some (Sum.inl 4)) (hk : g.1 k = some (Sum.inl 5)) (h0 : 0 ≤ g.2.1 k 5) : AMet mX4_ofThrough g [vA l, vA k] (fun r g' => r = vI (lc1 g k + lc1 g k / 3) ∧ g' = gL g l 0 ((g.2.2.1 l 0) + 1000 + 10 + 1)) := by
  refine AMet.of [vA l, vA k, none] (by decide) rfl (Nat.le_of_ble_eq_true rfl) ?_
  refine a_aload_n 1 dX4_ofThrough_0 rfl rfl ?_
  refine a_dup 2 dX4_ofThrough_1 (by intro w h; cases h) rfl ?_
  refine a_getL 5 dX4_ofThrough_2 fX4_9 hl rfl rfl ?_
  refine a_ldc2 8 dX4_ofThrough_5 kX4_52 rfl ?_
  refine a_ladd 9 dX4_ofThrough_8 rfl ?_
  refine a_putL 12 dX4_ofThrough_9 fX4_9 (Or.inl rfl) hl rfl rfl ?_
  refine a_aload_n 13 dX4_ofThrough_12 rfl rfl ?_
  refine a_aload_n 14 dX4_ofThrough_13 rfl rfl ?_
  refine a_callV 17 (c4_ofDated _ hl hk h0) cdX4_ofDated lX4_15 dX4_ofThrough_14 rfl hl rfl ⟨by decide, by decide, rfl, rfl⟩ ⟨Nat.zero_le _, Nat.zero_le _⟩ (Nat.le_of_ble_eq_true rfl) rfl ?_
  rintro _ g9 - ⟨rfl, rfl⟩ -
  rw [show lc1 (gL g l 0 ((g.2.2.1 l 0) + 1000)) k = lc1 g k from rfl, gL_gL, show (gL g l 0 ((g.2.2.1 l 0) + 1000)).2.2.1 l 0 = (g.2.2.1 l 0) + 1000 from u2_s]
  have hb0 := lc0_b g k
  have hb1 := rd3_b (g.2.1 k 5)
  have hb2 : lc1 g k = lc0 g k + 4 * rdN (g.2.1 k 5) 3 := rfl
  refine a_istore_n 18 dX4_ofThrough_17 (by decide) rfl rfl ?_
  refine a_iload_n 19 dX4_ofThrough_18 rfl rfl ?_
  refine a_iload_n 20 dX4_ofThrough_19 rfl rfl ?_
  refine a_iconst (z := 3) 21 dX4_ofThrough_20 rfl (zrl rfl) rfl ?_
  refine a_idiv 22 dX4_ofThrough_21 (by omega) (by omega) rfl ?_
  refine a_iadd 23 dX4_ofThrough_22 (by unfold zr; omega) rfl ?_
  refine a_ireturn dX4_ofThrough_23 rfl ⟨Nat.zero_le _, Nat.zero_le _⟩ ?_
  exact ⟨rfl, rfl⟩
set_option maxHeartbeats 4000000 in
set_option maxRecDepth 100000 in
theorem c4_ofStamp (g : GH) {l k : Nat} (hl : g.1 l = some (Sum.inl 4)) (hk : g.1 k = some (Sum.inl 5)) (hi : 0 ≤ g.2.1 k 9 ∧ g.2.1 k 9 ≤ 3) : AMet mX4_ofStamp g [vA l, vA k] (fun r g' => r = vI (lc0 g k + g.2.1 k 9) ∧ g' = gL g l 0 ((g.2.2.1 l 0) + 10000 + 1)) := by
  refine AMet.of [vA l, vA k] (by decide) rfl (Nat.le_of_ble_eq_true rfl) ?_
  refine a_aload_n 1 dX4_ofStamp_0 rfl rfl ?_
  refine a_dup 2 dX4_ofStamp_1 (by intro w h; cases h) rfl ?_
  refine a_getL 5 dX4_ofStamp_2 fX4_9 hl rfl rfl ?_
  refine a_ldc2 8 dX4_ofStamp_5 kX4_54 rfl ?_
  refine a_ladd 9 dX4_ofStamp_8 rfl ?_
  refine a_putL 12 dX4_ofStamp_9 fX4_9 (Or.inl rfl) hl rfl rfl ?_
  refine a_aload_n 13 dX4_ofStamp_12 rfl rfl ?_
  refine a_aload_n 14 dX4_ofStamp_13 rfl rfl ?_
  refine a_callV 17 (c4_ofMark _ hl hk) cdX4_ofMark lX4_31 dX4_ofStamp_14 rfl hl rfl ⟨by decide, by decide, rfl, rfl⟩ ⟨Nat.zero_le _, Nat.zero_le _⟩ (Nat.le_of_ble_eq_true rfl) rfl ?_
  rintro _ g9 - ⟨rfl, rfl⟩ -
  rw [show lc0 (gL g l 0 ((g.2.2.1 l 0) + 10000)) k = lc0 g k from rfl, gL_gL, show (gL g l 0 ((g.2.2.1 l 0) + 10000)).2.2.1 l 0 = (g.2.2.1 l 0) + 10000 from u2_s]
  have hb0 := lc0_b g k
  refine a_aload_n 18 dX4_ofStamp_17 rfl rfl ?_
  refine a_getIz (g.2.1 k 9) 21 dX4_ofStamp_18 fX4_56 hk rfl rfl rfl ?_
  refine a_iadd 22 dX4_ofStamp_21 (by unfold zr; omega) rfl ?_
  refine a_ireturn dX4_ofStamp_22 rfl ⟨Nat.zero_le _, Nat.zero_le _⟩ ?_
  exact ⟨rfl, rfl⟩
set_option maxHeartbeats 4000000 in
set_option maxRecDepth 100000 in
theorem c4_ofDoubted (g : GH) {l k : Nat} (hl : g.1 l = some (Sum.inl 4)) (hk : g.1 k = some (Sum.inl 5)) : AMet mX4_ofDoubted g [vA l, vA k] (fun r g' => r = vI (lc0 g k / 2) ∧ g' = gL g l 0 ((g.2.2.1 l 0) + 100000 + 1)) := by
  refine AMet.of [vA l, vA k] (by decide) rfl (Nat.le_of_ble_eq_true rfl) ?_
  refine a_aload_n 1 dX4_ofDoubted_0 rfl rfl ?_
  refine a_dup 2 dX4_ofDoubted_1 (by intro w h; cases h) rfl ?_
  refine a_getL 5 dX4_ofDoubted_2 fX4_9 hl rfl rfl ?_
  refine a_ldc2 8 dX4_ofDoubted_5 kX4_59 rfl ?_
  refine a_ladd 9 dX4_ofDoubted_8 rfl ?_
  refine a_putL 12 dX4_ofDoubted_9 fX4_9 (Or.inl rfl) hl rfl rfl ?_
  refine a_aload_n 13 dX4_ofDoubted_12 rfl rfl ?_
  refine a_aload_n 14 dX4_ofDoubted_13 rfl rfl ?_
  refine a_callV 17 (c4_ofMark _ hl hk) cdX4_ofMark lX4_31 dX4_ofDoubted_14 rfl hl rfl ⟨by decide, by decide, rfl, rfl⟩ ⟨Nat.zero_le _, Nat.zero_le _⟩ (Nat.le_of_ble_eq_true rfl) rfl ?_
  rintro _ g9 - ⟨rfl, rfl⟩ -
  rw [show lc0 (gL g l 0 ((g.2.2.1 l 0) + 100000)) k = lc0 g k from rfl, gL_gL, show (gL g l 0 ((g.2.2.1 l 0) + 100000)).2.2.1 l 0 = (g.2.2.1 l 0) + 100000 from u2_s]
  have hb0 := lc0_b g k
  refine a_iconst (z := 2) 18 dX4_ofDoubted_17 rfl (zrl rfl) rfl ?_
  refine a_idiv 19 dX4_ofDoubted_18 (by omega) (by omega) rfl ?_
  refine a_ireturn dX4_ofDoubted_19 rfl ⟨Nat.zero_le _, Nat.zero_le _⟩ ?_
  exact ⟨rfl, rfl⟩
theorem i64_sw (t a b : Int64) : t + a + b = t + b + a := by rw [Int64.add_assoc, Int64.add_comm a b, ← Int64.add_assoc]
theorem i64_3 (t a b c : Int64) : t + a + b + c = t + c + b + a := by rw [i64_sw t a b, i64_sw (t + b) a c, i64_sw t b c]
set_option maxHeartbeats 4000000 in
set_option maxRecDepth 100000 in
theorem c4_ofKind (g : GH) (q : Int) {l k : Nat} (hl : g.1 l = some (Sum.inl 4)) (hk : g.1 k = some (Sum.inl 5)) (h0 : 0 ≤ g.2.1 k 5) (hi : 0 ≤ g.2.1 k 9 ∧ g.2.1 k 9 ≤ 3) : AMet mX4_ofKind g [vA l, vI q, vA k] (fun r g' => r = vI (lcV g k q) ∧ g' = gL g l 0 (leanT q (g.2.2.1 l 0))) := by
  refine AMet.of [vA l, vI q, vA k] (by decide) rfl (Nat.le_of_ble_eq_true rfl) ?_
  refine a_iload_n 1 dX4_ofKind_0 rfl rfl ?_
  refine a_case (1) (fun c1_0 => ?_) (fun c1_0 => ?_)
  · refine a_tblIn (35) 36 dX4_ofKind_1 (by omega) (by omega) (by rw [c1_0]; rfl) (by decide) ?_
    refine a_aload_n 37 dX4_ofKind_36 rfl rfl ?_
    refine a_aload_n 38 dX4_ofKind_37 rfl rfl ?_
    refine a_callV 41 (c4_ofDated _ hl hk h0) cdX4_ofDated lX4_15 dX4_ofKind_38 rfl hl rfl ⟨by decide, by decide, rfl, rfl⟩ ⟨Nat.zero_le _, Nat.zero_le _⟩ (Nat.le_of_ble_eq_true rfl) rfl ?_
    rintro _ g9 - ⟨rfl, rfl⟩ -
    refine a_ireturn dX4_ofKind_41 rfl ⟨Nat.zero_le _, Nat.zero_le _⟩ ?_
    refine ⟨congrArg vI ?_, congrArg (gL g l 0) ?_⟩
    · unfold lcV; rw [if_pos (show q = 1 by omega)]
    · unfold leanT; rw [if_pos (show q = 1 by omega)]
      exact i64_sw _ _ _
  refine a_case (2) (fun c1_1 => ?_) (fun c1_1 => ?_)
  · refine a_tblIn (41) 42 dX4_ofKind_1 (by omega) (by omega) (by rw [c1_1]; rfl) (by decide) ?_
    refine a_aload_n 43 dX4_ofKind_42 rfl rfl ?_
    refine a_aload_n 44 dX4_ofKind_43 rfl rfl ?_
    refine a_callV 47 (c4_ofRate _ hl hk) cdX4_ofRate lX4_19 dX4_ofKind_44 rfl hl rfl ⟨by decide, by decide, rfl, rfl⟩ ⟨Nat.zero_le _, Nat.zero_le _⟩ (Nat.le_of_ble_eq_true rfl) rfl ?_
    rintro _ g9 - ⟨rfl, rfl⟩ -
    refine a_ireturn dX4_ofKind_47 rfl ⟨Nat.zero_le _, Nat.zero_le _⟩ ?_
    refine ⟨congrArg vI ?_, congrArg (gL g l 0) ?_⟩
    · unfold lcV; rw [if_neg (show ¬ q = 1 by omega), if_pos (show q = 2 by omega)]
    · unfold leanT; rw [if_neg (show ¬ q = 1 by omega), if_pos (show q = 2 by omega)]
      exact i64_sw _ _ _
  refine a_case (3) (fun c1_2 => ?_) (fun c1_2 => ?_)
  · refine a_tblIn (47) 48 dX4_ofKind_1 (by omega) (by omega) (by rw [c1_2]; rfl) (by decide) ?_
    refine a_aload_n 49 dX4_ofKind_48 rfl rfl ?_
    refine a_aload_n 50 dX4_ofKind_49 rfl rfl ?_
    refine a_callV 53 (c4_ofThrough _ hl hk h0) cdX4_ofThrough lX4_22 dX4_ofKind_50 rfl hl rfl ⟨by decide, by decide, rfl, rfl⟩ ⟨Nat.zero_le _, Nat.zero_le _⟩ (Nat.le_of_ble_eq_true rfl) rfl ?_
    rintro _ g9 - ⟨rfl, rfl⟩ -
    refine a_ireturn dX4_ofKind_53 rfl ⟨Nat.zero_le _, Nat.zero_le _⟩ ?_
    refine ⟨congrArg vI ?_, congrArg (gL g l 0) ?_⟩
    · unfold lcV; rw [if_neg (show ¬ q = 1 by omega), if_neg (show ¬ q = 2 by omega), if_pos (show q = 3 by omega)]
    · unfold leanT; rw [if_neg (show ¬ q = 1 by omega), if_neg (show ¬ q = 2 by omega), if_pos (show q = 3 by omega)]
      exact i64_3 _ _ _ _
  refine a_case (4) (fun c1_3 => ?_) (fun c1_3 => ?_)
  · refine a_tblIn (53) 54 dX4_ofKind_1 (by omega) (by omega) (by rw [c1_3]; rfl) (by decide) ?_
    refine a_aload_n 55 dX4_ofKind_54 rfl rfl ?_
    refine a_aload_n 56 dX4_ofKind_55 rfl rfl ?_
    refine a_callV 59 (c4_ofStamp _ hl hk hi) cdX4_ofStamp lX4_25 dX4_ofKind_56 rfl hl rfl ⟨by decide, by decide, rfl, rfl⟩ ⟨Nat.zero_le _, Nat.zero_le _⟩ (Nat.le_of_ble_eq_true rfl) rfl ?_
    rintro _ g9 - ⟨rfl, rfl⟩ -
    refine a_ireturn dX4_ofKind_59 rfl ⟨Nat.zero_le _, Nat.zero_le _⟩ ?_
    refine ⟨congrArg vI ?_, congrArg (gL g l 0) ?_⟩
    · unfold lcV; rw [if_neg (show ¬ q = 1 by omega), if_neg (show ¬ q = 2 by omega), if_neg (show ¬ q = 3 by omega), if_pos (show q = 4 by omega)]
    · unfold leanT; rw [if_neg (show ¬ q = 1 by omega), if_neg (show ¬ q = 2 by omega), if_neg (show ¬ q = 3 by omega), if_pos (show q = 4 by omega)]
      exact i64_sw _ _ _
  refine a_case (5) (fun c1_4 => ?_) (fun c1_4 => ?_)
  · refine a_tblIn (59) 60 dX4_ofKind_1 (by omega) (by omega) (by rw [c1_4]; rfl) (by decide) ?_
    refine a_aload_n 61 dX4_ofKind_60 rfl rfl ?_
    refine a_aload_n 62 dX4_ofKind_61 rfl rfl ?_
    refine a_callV 65 (c4_ofDoubted _ hl hk) cdX4_ofDoubted lX4_28 dX4_ofKind_62 rfl hl rfl ⟨by decide, by decide, rfl, rfl⟩ ⟨Nat.zero_le _, Nat.zero_le _⟩ (Nat.le_of_ble_eq_true rfl) rfl ?_
    rintro _ g9 - ⟨rfl, rfl⟩ -
    refine a_ireturn dX4_ofKind_65 rfl ⟨Nat.zero_le _, Nat.zero_le _⟩ ?_
    refine ⟨congrArg vI ?_, congrArg (gL g l 0) ?_⟩
    · unfold lcV; rw [if_neg (show ¬ q = 1 by omega), if_neg (show ¬ q = 2 by omega), if_neg (show ¬ q = 3 by omega), if_neg (show ¬ q = 4 by omega), if_pos (show q = 5 by omega)]
    · unfold leanT; rw [if_neg (show ¬ q = 1 by omega), if_neg (show ¬ q = 2 by omega), if_neg (show ¬ q = 3 by omega), if_neg (show ¬ q = 4 by omega), if_pos (show q = 5 by omega)]
      exact i64_sw _ _ _
  refine a_tblOut 66 dX4_ofKind_1 (by omega) (by decide) ?_
  refine a_aload_n 67 dX4_ofKind_66 rfl rfl ?_
  refine a_aload_n 68 dX4_ofKind_67 rfl rfl ?_
  refine a_callV 71 (c4_ofMark _ hl hk) cdX4_ofMark lX4_31 dX4_ofKind_68 rfl hl rfl ⟨by decide, by decide, rfl, rfl⟩ ⟨Nat.zero_le _, Nat.zero_le _⟩ (Nat.le_of_ble_eq_true rfl) rfl ?_
  rintro _ g9 - ⟨rfl, rfl⟩ -
  refine a_ireturn dX4_ofKind_71 rfl ⟨Nat.zero_le _, Nat.zero_le _⟩ ?_
  refine ⟨congrArg vI ?_, congrArg (gL g l 0) ?_⟩
  · unfold lcV; rw [if_neg (show ¬ q = 1 by omega), if_neg (show ¬ q = 2 by omega), if_neg (show ¬ q = 3 by omega), if_neg (show ¬ q = 4 by omega), if_neg (show ¬ q = 5 by omega)]
  · unfold leanT; rw [if_neg (show ¬ q = 1 by omega), if_neg (show ¬ q = 2 by omega), if_neg (show ¬ q = 3 by omega), if_neg (show ¬ q = 4 by omega), if_neg (show ¬ q = 5 by omega)]
