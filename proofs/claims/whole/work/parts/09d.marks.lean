set_option maxHeartbeats 4000000 in
set_option maxRecDepth 100000 in
theorem c2_strikesOn (g : GH) (d : Int) {e f : Nat} (he : g.1 e = some (Sum.inl 2)) (hf : g.2.2.2 e 0 = some f) (hfo : g.1 f = some (Sum.inl 6)) : AMet mX2_strikesOn g [vA e, vI d] (pB g ((g.2.1 e 2 ≤ d ∧ d ≤ g.2.1 e 3) ∧ (g.2.1 f 1 ≤ d ∧ d ≤ g.2.1 f 2))) := by
  refine AMet.of [vA e, vI d] (by decide) rfl (Nat.le_of_ble_eq_true rfl) ?_
  refine a_iload_n 1 dX2_strikesOn_0 rfl rfl ?_
  refine a_aload_n 2 dX2_strikesOn_1 rfl rfl ?_
  refine a_getI 5 dX2_strikesOn_2 fX2_19 he rfl rfl ?_
  refine a_aload_n 6 dX2_strikesOn_5 rfl rfl ?_
  refine a_getI 9 dX2_strikesOn_6 fX2_22 he rfl rfl ?_
  refine a_callS 12 (c11_within _ _ _ _) cdX11_within lX2_28 dX2_strikesOn_9 rfl rfl ⟨by decide, by decide, rfl, rfl⟩ ⟨Nat.zero_le _, Nat.zero_le _⟩ (Nat.le_of_ble_eq_true rfl) rfl ?_
  rintro _ _ - ⟨b9, rfl, rfl, h9⟩ -
  refine a_if_eq 40 15 dX2_strikesOn_12 (by decide) rfl (fun c12 => ?_) (fun c12 => ?_)
  · skip
    refine a_iconst (z := 0) 41 dX2_strikesOn_40 rfl (zrl rfl) rfl ?_
    refine a_breturn dX2_strikesOn_41 rfl (by omega) ⟨Nat.zero_le _, Nat.zero_le _⟩ ?_
    exact ⟨_, rfl, rfl, by omega⟩
  · skip
    refine a_iload_n 16 dX2_strikesOn_15 rfl rfl ?_
    refine a_aload_n 17 dX2_strikesOn_16 rfl rfl ?_
    refine a_getR 20 dX2_strikesOn_17 fX2_9 he rfl hf rfl ?_
    refine a_getI 23 dX2_strikesOn_20 fX2_32 hfo rfl rfl ?_
    refine a_aload_n 24 dX2_strikesOn_23 rfl rfl ?_
    refine a_getR 27 dX2_strikesOn_24 fX2_9 he rfl hf rfl ?_
    refine a_getI 30 dX2_strikesOn_27 fX2_35 hfo rfl rfl ?_
    refine a_callS 33 (c11_within _ _ _ _) cdX11_within lX2_28 dX2_strikesOn_30 rfl rfl ⟨by decide, by decide, rfl, rfl⟩ ⟨Nat.zero_le _, Nat.zero_le _⟩ (Nat.le_of_ble_eq_true rfl) rfl ?_
    rintro _ _ - ⟨b30, rfl, rfl, h30⟩ -
    refine a_if_eq 40 36 dX2_strikesOn_33 (by decide) rfl (fun c33 => ?_) (fun c33 => ?_)
    · skip
      refine a_iconst (z := 0) 41 dX2_strikesOn_40 rfl (zrl rfl) rfl ?_
      refine a_breturn dX2_strikesOn_41 rfl (by omega) ⟨Nat.zero_le _, Nat.zero_le _⟩ ?_
      exact ⟨_, rfl, rfl, by omega⟩
    · skip
      refine a_iconst (z := 1) 37 dX2_strikesOn_36 rfl (zrl rfl) rfl ?_
      refine a_goto 41 dX2_strikesOn_37 (by decide) ?_
      refine a_breturn dX2_strikesOn_41 rfl (by omega) ⟨Nat.zero_le _, Nat.zero_le _⟩ ?_
      exact ⟨_, rfl, rfl, by omega⟩
set_option maxHeartbeats 4000000 in
set_option maxRecDepth 100000 in
theorem c2_hasInk (g : GH) (i : Int) {e : Nat} (he : g.1 e = some (Sum.inl 2)) (h1 : 0 ≤ g.2.1 e 1) (hi : 0 ≤ i ∧ i ≤ 3) : AMet mX2_hasInk g [vA e, vI i] (pB g (g.2.1 e 1 / 2 ^ i.toNat % 2 = 1)) := by
  refine AMet.of [vA e, vI i] (by decide) rfl (Nat.le_of_ble_eq_true rfl) ?_
  refine a_aload_n 1 dX2_hasInk_0 rfl rfl ?_
  refine a_getI 4 dX2_hasInk_1 fX2_15 he rfl rfl ?_
  refine a_iload_n 5 dX2_hasInk_4 rfl rfl ?_
  refine a_ishr _ 6 dX2_hasInk_5 (v_shr (by omega) (by omega) (by omega)) rfl ?_
  refine a_iconst (z := 1) 7 dX2_hasInk_6 rfl (zrl rfl) rfl ?_
  refine a_iand _ 8 dX2_hasInk_7 v_and1 rfl ?_
  refine a_iconst (z := 1) 9 dX2_hasInk_8 rfl (zrl rfl) rfl ?_
  refine a_icmp_ne 16 12 dX2_hasInk_9 (by decide) rfl (fun c9 => ?_) (fun c9 => ?_)
  · skip
    refine a_iconst (z := 0) 17 dX2_hasInk_16 rfl (zrl rfl) rfl ?_
    refine a_breturn dX2_hasInk_17 rfl (by omega) ⟨Nat.zero_le _, Nat.zero_le _⟩ ?_
    exact ⟨_, rfl, rfl, by first | exact Or.inl ⟨rfl, c9⟩ | exact Or.inr ⟨rfl, c9⟩⟩
  · skip
    refine a_iconst (z := 1) 13 dX2_hasInk_12 rfl (zrl rfl) rfl ?_
    refine a_goto 17 dX2_hasInk_13 (by decide) ?_
    refine a_breturn dX2_hasInk_17 rfl (by omega) ⟨Nat.zero_le _, Nat.zero_le _⟩ ?_
    exact ⟨_, rfl, rfl, by first | exact Or.inl ⟨rfl, c9⟩ | exact Or.inr ⟨rfl, c9⟩⟩
set_option maxHeartbeats 4000000 in
set_option maxRecDepth 100000 in
theorem c2_fitsNick (g : GH) (n d : Int) {e : Nat} (he : g.1 e = some (Sum.inl 2)) : AMet mX2_fitsNick g [vA e, vI n, vI d] (pB g (n = -9 ∨ (n = 1 ↔ (g.2.1 e 4 ≠ -9 ∧ g.2.1 e 4 ≤ d)))) := by
  refine AMet.of [vA e, vI n, vI d, none] (by decide) rfl (Nat.le_of_ble_eq_true rfl) ?_
  refine AW.cut (J := 22) (P := fun z => isb z (g.2.1 e 4 ≠ -9 ∧ g.2.1 e 4 ≤ d)) ?_ (fun J22 => ?_)
  · intro z22 h22
    refine a_istore_n 23 dX2_fitsNick_22 (by decide) rfl rfl ?_
    refine a_iload_n 24 dX2_fitsNick_23 rfl rfl ?_
    refine a_bipush (z := (-9)) 26 dX2_fitsNick_24 rfl (zrl rfl) rfl ?_
    refine a_icmp_eq 43 29 dX2_fitsNick_26 (by decide) rfl (fun c26 => ?_) (fun c26 => ?_)
    · skip
      refine a_iconst (z := 1) 44 dX2_fitsNick_43 rfl (zrl rfl) rfl ?_
      refine a_goto 48 dX2_fitsNick_44 (by decide) ?_
      refine a_breturn dX2_fitsNick_48 rfl (by omega) ⟨Nat.zero_le _, Nat.zero_le _⟩ ?_
      refine ⟨_, rfl, rfl, ?_⟩
      generalize (g.2.1 e 4 ≠ -9 ∧ g.2.1 e 4 ≤ d) = P at h22 ⊢
      first
      | exact Or.inl ⟨rfl, Or.inl c26⟩
      | (rcases h22 with ⟨a1, a2⟩ | ⟨a1, a2⟩ <;> rcases h40 with ⟨b1, b2⟩ | ⟨b1, b2⟩
         all_goals first
         | (exfalso; omega)
         | exact Or.inl ⟨rfl, Or.inr ⟨fun _ => a2, fun _ => b2⟩⟩
         | exact Or.inl ⟨rfl, Or.inr ⟨fun z => absurd z b2, fun z => absurd z a2⟩⟩
         | exact Or.inr ⟨rfl, fun z => z.elim (fun y => c26 y) (fun y => a2 (y.mp b2))⟩
         | exact Or.inr ⟨rfl, fun z => z.elim (fun y => c26 y) (fun y => b2 (y.mpr a2))⟩)
    · skip
      refine a_iload_n 30 dX2_fitsNick_29 rfl rfl ?_
      refine AW.cut (J := 40) (P := fun z => isb z (n = 1)) ?_ (fun J40 => ?_)
      · intro z40 h40
        refine a_icmp_ne 47 43 dX2_fitsNick_40 (by decide) rfl (fun c40 => ?_) (fun c40 => ?_)
        · skip
          refine a_iconst (z := 0) 48 dX2_fitsNick_47 rfl (zrl rfl) rfl ?_
          refine a_breturn dX2_fitsNick_48 rfl (by omega) ⟨Nat.zero_le _, Nat.zero_le _⟩ ?_
          refine ⟨_, rfl, rfl, ?_⟩
          generalize (g.2.1 e 4 ≠ -9 ∧ g.2.1 e 4 ≤ d) = P at h22 ⊢
          first
          | exact Or.inl ⟨rfl, Or.inl c26⟩
          | (rcases h22 with ⟨a1, a2⟩ | ⟨a1, a2⟩ <;> rcases h40 with ⟨b1, b2⟩ | ⟨b1, b2⟩
             all_goals first
             | (exfalso; omega)
             | exact Or.inl ⟨rfl, Or.inr ⟨fun _ => a2, fun _ => b2⟩⟩
             | exact Or.inl ⟨rfl, Or.inr ⟨fun z => absurd z b2, fun z => absurd z a2⟩⟩
             | exact Or.inr ⟨rfl, fun z => z.elim (fun y => c26 y) (fun y => a2 (y.mp b2))⟩
             | exact Or.inr ⟨rfl, fun z => z.elim (fun y => c26 y) (fun y => b2 (y.mpr a2))⟩)
        · skip
          refine a_iconst (z := 1) 44 dX2_fitsNick_43 rfl (zrl rfl) rfl ?_
          refine a_goto 48 dX2_fitsNick_44 (by decide) ?_
          refine a_breturn dX2_fitsNick_48 rfl (by omega) ⟨Nat.zero_le _, Nat.zero_le _⟩ ?_
          refine ⟨_, rfl, rfl, ?_⟩
          generalize (g.2.1 e 4 ≠ -9 ∧ g.2.1 e 4 ≤ d) = P at h22 ⊢
          first
          | exact Or.inl ⟨rfl, Or.inl c26⟩
          | (rcases h22 with ⟨a1, a2⟩ | ⟨a1, a2⟩ <;> rcases h40 with ⟨b1, b2⟩ | ⟨b1, b2⟩
             all_goals first
             | (exfalso; omega)
             | exact Or.inl ⟨rfl, Or.inr ⟨fun _ => a2, fun _ => b2⟩⟩
             | exact Or.inl ⟨rfl, Or.inr ⟨fun z => absurd z b2, fun z => absurd z a2⟩⟩
             | exact Or.inr ⟨rfl, fun z => z.elim (fun y => c26 y) (fun y => a2 (y.mp b2))⟩
             | exact Or.inr ⟨rfl, fun z => z.elim (fun y => c26 y) (fun y => b2 (y.mpr a2))⟩)
      · skip
        refine a_iload_n 31 dX2_fitsNick_30 rfl rfl ?_
        refine a_iconst (z := 1) 32 dX2_fitsNick_31 rfl (zrl rfl) rfl ?_
        refine a_icmp_ne 39 35 dX2_fitsNick_32 (by decide) rfl (fun c32 => ?_) (fun c32 => ?_)
        · skip
          refine a_iconst (z := 0) 40 dX2_fitsNick_39 rfl (zrl rfl) rfl ?_
          exact J40 _ (by omega)
        · skip
          refine a_iconst (z := 1) 36 dX2_fitsNick_35 rfl (zrl rfl) rfl ?_
          refine a_goto 40 dX2_fitsNick_36 (by decide) ?_
          exact J40 _ (by omega)
  · skip
    refine a_aload_n 1 dX2_fitsNick_0 rfl rfl ?_
    refine a_getI 4 dX2_fitsNick_1 fX2_25 he rfl rfl ?_
    refine a_bipush (z := (-9)) 6 dX2_fitsNick_4 rfl (zrl rfl) rfl ?_
    refine a_icmp_eq 21 9 dX2_fitsNick_6 (by decide) rfl (fun c6 => ?_) (fun c6 => ?_)
    · skip
      refine a_iconst (z := 0) 22 dX2_fitsNick_21 rfl (zrl rfl) rfl ?_
      exact J22 _ (by omega)
    · skip
      refine a_iload_n 10 dX2_fitsNick_9 rfl rfl ?_
      refine a_aload_n 11 dX2_fitsNick_10 rfl rfl ?_
      refine a_getI 14 dX2_fitsNick_11 fX2_25 he rfl rfl ?_
      refine a_icmp_lt 21 17 dX2_fitsNick_14 (by decide) rfl (fun c14 => ?_) (fun c14 => ?_)
      · skip
        refine a_iconst (z := 0) 22 dX2_fitsNick_21 rfl (zrl rfl) rfl ?_
        exact J22 _ (by omega)
      · skip
        refine a_iconst (z := 1) 18 dX2_fitsNick_17 rfl (zrl rfl) rfl ?_
        refine a_goto 22 dX2_fitsNick_18 (by decide) ?_
        exact J22 _ (by omega)
set_option maxHeartbeats 4000000 in
set_option maxRecDepth 100000 in
theorem c5_isOn (g : GH) (c D : Int) {k : Nat} (hk : g.1 k = some (Sum.inl 5)) : AMet mX5_isOn g [vA k, vI c, vI D] (pB g (g.2.1 k 0 = c ∧ g.2.1 k 2 ≤ D)) := by
  refine AMet.of [vA k, vI c, vI D] (by decide) rfl (Nat.le_of_ble_eq_true rfl) ?_
  refine a_aload_n 1 dX5_isOn_0 rfl rfl ?_
  refine a_getI 4 dX5_isOn_1 fX5_39 hk rfl rfl ?_
  refine a_iload_n 5 dX5_isOn_4 rfl rfl ?_
  refine a_icmp_ne 20 8 dX5_isOn_5 (by decide) rfl (fun c5 => ?_) (fun c5 => ?_)
  · skip
    refine a_iconst (z := 0) 21 dX5_isOn_20 rfl (zrl rfl) rfl ?_
    refine a_breturn dX5_isOn_21 rfl (by omega) ⟨Nat.zero_le _, Nat.zero_le _⟩ ?_
    exact ⟨_, rfl, rfl, by omega⟩
  · skip
    refine a_aload_n 9 dX5_isOn_8 rfl rfl ?_
    refine a_getI 12 dX5_isOn_9 fX5_45 hk rfl rfl ?_
    refine a_iload_n 13 dX5_isOn_12 rfl rfl ?_
    refine a_icmp_gt 20 16 dX5_isOn_13 (by decide) rfl (fun c13 => ?_) (fun c13 => ?_)
    · skip
      refine a_iconst (z := 0) 21 dX5_isOn_20 rfl (zrl rfl) rfl ?_
      refine a_breturn dX5_isOn_21 rfl (by omega) ⟨Nat.zero_le _, Nat.zero_le _⟩ ?_
      exact ⟨_, rfl, rfl, by omega⟩
    · skip
      refine a_iconst (z := 1) 17 dX5_isOn_16 rfl (zrl rfl) rfl ?_
      refine a_goto 21 dX5_isOn_17 (by decide) ?_
      refine a_breturn dX5_isOn_21 rfl (by omega) ⟨Nat.zero_le _, Nat.zero_le _⟩ ?_
      exact ⟨_, rfl, rfl, by omega⟩
set_option maxHeartbeats 4000000 in
set_option maxRecDepth 100000 in
theorem c5_isTorn (g : GH) (i : Int) {k : Nat} (hk : g.1 k = some (Sum.inl 5)) (h0 : 0 ≤ g.2.1 k 5) (hi : 0 ≤ i ∧ i ≤ 2) : AMet mX5_isTorn g [vA k, vI i] (pB g (bOf (g.2.1 k 5) i = 63)) := by
  refine AMet.of [vA k, vI i] (by decide) rfl (Nat.le_of_ble_eq_true rfl) ?_
  refine a_aload_n 1 dX5_isTorn_0 rfl rfl ?_
  refine a_getI 4 dX5_isTorn_1 fX5_48 hk rfl rfl ?_
  refine a_iload_n 5 dX5_isTorn_4 rfl rfl ?_
  refine a_callS 8 (c11_byteOf _ _ _ (by omega) (by omega)) cdX11_byteOf lX5_85 dX5_isTorn_5 rfl rfl ⟨by decide, by decide, rfl, rfl⟩ ⟨Nat.zero_le _, Nat.zero_le _⟩ (Nat.le_of_ble_eq_true rfl) rfl ?_
  rintro _ _ - ⟨rfl, rfl⟩ -
  refine a_bipush (z := 63) 10 dX5_isTorn_8 rfl (zrl rfl) rfl ?_
  refine a_icmp_ne 17 13 dX5_isTorn_10 (by decide) rfl (fun c10 => ?_) (fun c10 => ?_)
  · skip
    refine a_iconst (z := 0) 18 dX5_isTorn_17 rfl (zrl rfl) rfl ?_
    refine a_breturn dX5_isTorn_18 rfl (by omega) ⟨Nat.zero_le _, Nat.zero_le _⟩ ?_
    exact ⟨_, rfl, rfl, by omega⟩
  · skip
    refine a_iconst (z := 1) 14 dX5_isTorn_13 rfl (zrl rfl) rfl ?_
    refine a_goto 18 dX5_isTorn_14 (by decide) ?_
    refine a_breturn dX5_isTorn_18 rfl (by omega) ⟨Nat.zero_le _, Nat.zero_le _⟩ ?_
    exact ⟨_, rfl, rfl, by omega⟩
/-- the bytes of a date that can be read, n of them asked -/
def rdN (d : Int) : Nat → Int
  | 0 => 0
  | n + 1 => rdN d n + (if bOf d n = 63 then 0 else 1)
theorem rdN_le (d : Int) : ∀ n : Nat, 0 ≤ rdN d n ∧ rdN d n ≤ n
  | 0 => ⟨Int.le_refl _, Int.le_refl _⟩
  | n + 1 => by
    have := rdN_le d n
    show 0 ≤ rdN d n + (if bOf d n = 63 then 0 else 1) ∧ rdN d n + (if bOf d n = 63 then 0 else 1) ≤ _
    split <;> omega
set_option maxHeartbeats 4000000 in
set_option maxRecDepth 100000 in
theorem c5_readBytes (g : GH) {k : Nat} (hk : g.1 k = some (Sum.inl 5)) (h0 : 0 ≤ g.2.1 k 5) : AMet mX5_readBytes g [vA k] (pZ g (rdN (g.2.1 k 5) 3)) := by
  refine AMet.of [vA k, none, none] (by decide) rfl (Nat.le_of_ble_eq_true rfl) ?_
  refine a_iconst (z := 0) 1 dX5_readBytes_0 rfl (zrl rfl) rfl ?_
  refine a_istore_n 2 dX5_readBytes_1 (by decide) rfl rfl ?_
  refine a_iconst (z := 0) 3 dX5_readBytes_2 rfl (zrl rfl) rfl ?_
  refine a_istore_n 4 dX5_readBytes_3 (by decide) rfl rfl ?_
  refine AW.loop (α := Nat) (fun p => 3 - p) (fun p => p ≤ 3) (fun p => g) (fun p => [vA k, vI (rdN (g.2.1 k 5) p), vI (p : Int)]) (fun p => []) ?_ 0 ?_
  · intro n hn ih4
    try dsimp only at hI ih ⊢
    have hb := rdN_le (g.2.1 k 5) n
    refine a_iload_n 5 dX5_readBytes_4 rfl rfl ?_
    refine a_iconst (z := 3) 6 dX5_readBytes_5 rfl (zrl rfl) rfl ?_
    refine a_icmp_ge 31 9 dX5_readBytes_6 (by decide) rfl (fun c6 => ?_) (fun c6 => ?_)
    · skip
      refine a_iload_n 32 dX5_readBytes_31 rfl rfl ?_
      refine a_ireturn dX5_readBytes_32 rfl ⟨Nat.zero_le _, Nat.zero_le _⟩ ?_
      have e : n = 3 := by omega
      subst e
      exact ⟨rfl, rfl⟩
    · skip
      refine a_iload_n 10 dX5_readBytes_9 rfl rfl ?_
      refine AW.cut (J := 23) (P := fun z => z = (if bOf (g.2.1 k 5) n = 63 then 0 else 1)) ?_ (fun J23 => ?_)
      · intro z23 h23
        have hz : 0 ≤ z23 ∧ z23 ≤ 1 := by rw [h23]; split <;> omega
        subst h23
        refine a_iadd 24 dX5_readBytes_23 (by unfold zr; omega) rfl ?_
        refine a_istore_n 25 dX5_readBytes_24 (by decide) rfl rfl ?_
        refine a_iinc 28 dX5_readBytes_25 rfl (by unfold zr; omega) (by decide) rfl rfl ?_
        refine a_goto 4 dX5_readBytes_28 (by decide) ?_
        exact ih4 (n + 1) (by omega) (by omega)
      · skip
        refine a_aload_n 11 dX5_readBytes_10 rfl rfl ?_
        refine a_iload_n 12 dX5_readBytes_11 rfl rfl ?_
        refine a_callV 15 (c5_isTorn _ _ hk h0 (by omega)) cdX5_isTorn lX5_120 dX5_readBytes_12 rfl hk rfl ⟨by decide, by decide, rfl, rfl⟩ ⟨Nat.zero_le _, Nat.zero_le _⟩ (Nat.le_of_ble_eq_true rfl) rfl ?_
        rintro _ _ - ⟨b12, rfl, rfl, h12⟩ -
        refine a_if_eq 22 18 dX5_readBytes_15 (by decide) rfl (fun c15 => ?_) (fun c15 => ?_)
        · skip
          refine a_iconst (z := 1) 23 dX5_readBytes_22 rfl (zrl rfl) rfl ?_
          exact J23 _ (by first | rw [if_pos (isT h12 c15)] | rw [if_neg (isN h12 c15)])
        · skip
          refine a_iconst (z := 0) 19 dX5_readBytes_18 rfl (zrl rfl) rfl ?_
          refine a_goto 23 dX5_readBytes_19 (by decide) ?_
          exact J23 _ (by first | rw [if_pos (isT h12 c15)] | rw [if_neg (isN h12 c15)])
  · exact Nat.zero_le _
/-- a day fits the bytes of a date -/
def fitD (t d : Int) : Prop := ∀ i : Int, 0 ≤ i → i ≤ 2 → bOf t i = 63 ∨ bOf t i - 48 = figD i d
set_option maxHeartbeats 4000000 in
set_option maxRecDepth 100000 in
theorem c5_fitsDate (g : GH) (d : Int) {k : Nat} (hk : g.1 k = some (Sum.inl 5)) (h0 : 0 ≤ g.2.1 k 5) (hd : 0 ≤ d) : AMet mX5_fitsDate g [vA k, vI d] (pB g (fitD (g.2.1 k 5) d)) := by
  refine AMet.of [vA k, vI d, none, none] (by decide) rfl (Nat.le_of_ble_eq_true rfl) ?_
  refine a_iconst (z := 0) 1 dX5_fitsDate_0 rfl (zrl rfl) rfl ?_
  refine a_istore_n 2 dX5_fitsDate_1 (by decide) rfl rfl ?_
  refine AW.loop (α := Int) (fun p => (3 - p).toNat) (fun p => (0 ≤ p ∧ p ≤ 3) ∧ ∀ i : Int, 0 ≤ i → i < p → bOf (g.2.1 k 5) i = 63 ∨ bOf (g.2.1 k 5) i - 48 = figD i d) (fun p => g) (fun p => [vA k, vI d, vI p, none]) (fun p => []) ?_ 0 ?_
  · intro n hn ih2
    try dsimp only at hI ih ⊢
    have hbb : 0 ≤ bOf (g.2.1 k 5) n ∧ bOf (g.2.1 k 5) n ≤ 255 := by unfold bOf; omega
    refine a_iload_n 3 dX5_fitsDate_2 rfl rfl ?_
    refine a_iconst (z := 3) 4 dX5_fitsDate_3 rfl (zrl rfl) rfl ?_
    refine a_icmp_ge 42 7 dX5_fitsDate_4 (by decide) rfl (fun c4 => ?_) (fun c4 => ?_)
    · skip
      refine a_iconst (z := 1) 43 dX5_fitsDate_42 rfl (zrl rfl) rfl ?_
      refine a_breturn dX5_fitsDate_43 rfl (by omega) ⟨Nat.zero_le _, Nat.zero_le _⟩ ?_
      exact ⟨_, rfl, rfl, Or.inl ⟨rfl, fun i a b => hn.2 i a (by omega)⟩⟩
    · skip
      refine a_aload_n 8 dX5_fitsDate_7 rfl rfl ?_
      refine a_getI 11 dX5_fitsDate_8 fX5_48 hk rfl rfl ?_
      refine a_iload_n 12 dX5_fitsDate_11 rfl rfl ?_
      refine a_callS 15 (c11_byteOf _ _ _ (by omega) (by omega)) cdX11_byteOf lX5_85 dX5_fitsDate_12 rfl rfl ⟨by decide, by decide, rfl, rfl⟩ ⟨Nat.zero_le _, Nat.zero_le _⟩ (Nat.le_of_ble_eq_true rfl) rfl ?_
      rintro _ _ - ⟨rfl, rfl⟩ -
      refine a_istore_n 16 dX5_fitsDate_15 (by decide) rfl rfl ?_
      refine a_iload_n 17 dX5_fitsDate_16 rfl rfl ?_
      refine a_bipush (z := 63) 19 dX5_fitsDate_17 rfl (zrl rfl) rfl ?_
      refine a_icmp_eq 36 22 dX5_fitsDate_19 (by decide) rfl (fun c19 => ?_) (fun c19 => ?_)
      · skip
        refine a_iinc 39 dX5_fitsDate_36 rfl (by unfold zr; omega) (by decide) rfl rfl ?_
        refine a_goto 2 dX5_fitsDate_39 (by decide) ?_
        refine AW.kill 3 ?_
        refine ih2 (n + 1) ⟨by omega, fun i a b => ?_⟩ (by omega)
        by_cases e : i = n
        · rw [e]; first | exact Or.inl c19 | exact Or.inr c31
        · exact hn.2 i a (by omega)
      · skip
        refine a_iload_n 23 dX5_fitsDate_22 rfl rfl ?_
        refine a_bipush (z := 48) 25 dX5_fitsDate_23 rfl (zrl rfl) rfl ?_
        refine a_isub 26 dX5_fitsDate_25 (by unfold zr; omega) rfl ?_
        refine a_iload_n 27 dX5_fitsDate_26 rfl rfl ?_
        refine a_iload_n 28 dX5_fitsDate_27 rfl rfl ?_
        refine a_callS 31 (c11_figureOf _ _ _ (by omega)) cdX11_figureOf lX5_89 dX5_fitsDate_28 rfl rfl ⟨by decide, by decide, rfl, rfl⟩ ⟨Nat.zero_le _, Nat.zero_le _⟩ (Nat.le_of_ble_eq_true rfl) rfl ?_
        rintro _ _ - ⟨rfl, rfl⟩ -
        refine a_icmp_eq 36 34 dX5_fitsDate_31 (by decide) rfl (fun c31 => ?_) (fun c31 => ?_)
        · skip
          refine a_iinc 39 dX5_fitsDate_36 rfl (by unfold zr; omega) (by decide) rfl rfl ?_
          refine a_goto 2 dX5_fitsDate_39 (by decide) ?_
          refine AW.kill 3 ?_
          refine ih2 (n + 1) ⟨by omega, fun i a b => ?_⟩ (by omega)
          by_cases e : i = n
          · rw [e]; first | exact Or.inl c19 | exact Or.inr c31
          · exact hn.2 i a (by omega)
        · skip
          refine a_iconst (z := 0) 35 dX5_fitsDate_34 rfl (zrl rfl) rfl ?_
          refine a_breturn dX5_fitsDate_35 rfl (by omega) ⟨Nat.zero_le _, Nat.zero_le _⟩ ?_
          exact ⟨_, rfl, rfl, Or.inr ⟨rfl, fun z => by rcases z n (by omega) (by omega) with y | y; exact c19 y; exact c31 y⟩⟩
  · exact ⟨by omega, fun i a b => by omega⟩
set_option maxHeartbeats 4000000 in
set_option maxRecDepth 100000 in
theorem c5_fitsDie0 (g : GH) (d : Int) {k : Nat} (hk : g.1 k = some (Sum.inl 5)) (hr : g.2.2.2 k 8 = none) : AMet mX5_fitsDie g [vA k, vI d] (pB g True) := by
  refine AMet.of [vA k, vI d] (by decide) rfl (Nat.le_of_ble_eq_true rfl) ?_
  refine a_aload_n 1 dX5_fitsDie_0 rfl rfl ?_
  refine a_getR 4 dX5_fitsDie_1 fX5_29 hk rfl hr rfl ?_
  refine a_ifnull 47 7 dX5_fitsDie_4 (by decide) rfl (fun c4 => ?_) (fun a4 c4 => ?_)
  · skip
    refine a_iconst (z := 1) 48 dX5_fitsDie_47 rfl (zrl rfl) rfl ?_
    refine a_goto 52 dX5_fitsDie_48 (by decide) ?_
    refine a_breturn dX5_fitsDie_52 rfl (by omega) ⟨Nat.zero_le _, Nat.zero_le _⟩ ?_
    exact ⟨_, rfl, rfl, Or.inl ⟨rfl, trivial⟩⟩
  · simp at c4
/-- what a die at e with an office at f asks of ink, nick and day -/
def dieC (h : Nat → Nat → Int) (e f : Nat) (ink nick d : Int) : Prop := ((h e 2 ≤ d ∧ d ≤ h e 3) ∧ (h f 1 ≤ d ∧ d ≤ h f 2)) ∧ h e 1 / 2 ^ ink.toNat % 2 = 1 ∧ (nick = -9 ∨ (nick = 1 ↔ (h e 4 ≠ -9 ∧ h e 4 ≤ d)))
set_option maxHeartbeats 4000000 in
set_option maxRecDepth 100000 in
theorem c5_fitsDie1 (g : GH) (d : Int) {k : Nat} (hk : g.1 k = some (Sum.inl 5)) {e f : Nat} (he : g.1 e = some (Sum.inl 2)) (hf : g.2.2.2 e 0 = some f) (hfo : g.1 f = some (Sum.inl 6)) (hr : g.2.2.2 k 8 = some e) (h1 : 0 ≤ g.2.1 e 1) (hi : 0 ≤ g.2.1 k 9 ∧ g.2.1 k 9 ≤ 3) : AMet mX5_fitsDie g [vA k, vI d] (pB g (dieC g.2.1 e f (g.2.1 k 9) (g.2.1 k 10) d)) := by
  refine AMet.of [vA k, vI d] (by decide) rfl (Nat.le_of_ble_eq_true rfl) ?_
  refine a_aload_n 1 dX5_fitsDie_0 rfl rfl ?_
  refine a_getR 4 dX5_fitsDie_1 fX5_29 hk rfl hr rfl ?_
  refine a_ifnull 47 7 dX5_fitsDie_4 (by decide) rfl (fun c4 => ?_) (fun a4 c4 => ?_)
  · exact absurd c4 (by simp)
  · skip
    refine AW.cut (J := 52) (P := fun z => isb z (dieC g.2.1 e f (g.2.1 k 9) (g.2.1 k 10) d)) ?_ (fun J52 => ?_)
    · intro z52 h52
      refine a_breturn dX5_fitsDie_52 rfl (by omega) ⟨Nat.zero_le _, Nat.zero_le _⟩ ?_
      exact ⟨_, rfl, rfl, h52⟩
    · skip
      refine a_aload_n 8 dX5_fitsDie_7 rfl rfl ?_
      refine a_getR 11 dX5_fitsDie_8 fX5_29 hk rfl hr rfl ?_
      refine a_iload_n 12 dX5_fitsDie_11 rfl rfl ?_
      refine a_callV 15 (c2_strikesOn _ _ he hf hfo) cdX2_strikesOn lX5_92 dX5_fitsDie_12 rfl he rfl ⟨by decide, by decide, rfl, rfl⟩ ⟨Nat.zero_le _, Nat.zero_le _⟩ (Nat.le_of_ble_eq_true rfl) rfl ?_
      rintro _ _ - ⟨b12, rfl, rfl, h12⟩ -
      refine a_if_eq 51 18 dX5_fitsDie_15 (by decide) rfl (fun c15 => ?_) (fun c15 => ?_)
      · skip
        refine a_iconst (z := 0) 52 dX5_fitsDie_51 rfl (zrl rfl) rfl ?_
        exact J52 _ (by
          unfold dieC
          first
          | exact Or.inl ⟨rfl, isT h12 c15, isT h26 c29, isT h41 c44⟩
          | exact Or.inr ⟨rfl, fun z => isN h41 c44 z.2.2⟩
          | exact Or.inr ⟨rfl, fun z => isN h26 c29 z.2.1⟩
          | exact Or.inr ⟨rfl, fun z => isN h12 c15 z.1⟩)
      · skip
        refine a_aload_n 19 dX5_fitsDie_18 rfl rfl ?_
        refine a_getR 22 dX5_fitsDie_19 fX5_29 hk rfl hr rfl ?_
        refine a_aload_n 23 dX5_fitsDie_22 rfl rfl ?_
        refine a_getI 26 dX5_fitsDie_23 fX5_51 hk rfl rfl ?_
        refine a_callV 29 (c2_hasInk _ _ he h1 hi) cdX2_hasInk lX5_95 dX5_fitsDie_26 rfl he rfl ⟨by decide, by decide, rfl, rfl⟩ ⟨Nat.zero_le _, Nat.zero_le _⟩ (Nat.le_of_ble_eq_true rfl) rfl ?_
        rintro _ _ - ⟨b26, rfl, rfl, h26⟩ -
        refine a_if_eq 51 32 dX5_fitsDie_29 (by decide) rfl (fun c29 => ?_) (fun c29 => ?_)
        · skip
          refine a_iconst (z := 0) 52 dX5_fitsDie_51 rfl (zrl rfl) rfl ?_
          exact J52 _ (by
            unfold dieC
            first
            | exact Or.inl ⟨rfl, isT h12 c15, isT h26 c29, isT h41 c44⟩
            | exact Or.inr ⟨rfl, fun z => isN h41 c44 z.2.2⟩
            | exact Or.inr ⟨rfl, fun z => isN h26 c29 z.2.1⟩
            | exact Or.inr ⟨rfl, fun z => isN h12 c15 z.1⟩)
        · skip
          refine a_aload_n 33 dX5_fitsDie_32 rfl rfl ?_
          refine a_getR 36 dX5_fitsDie_33 fX5_29 hk rfl hr rfl ?_
          refine a_aload_n 37 dX5_fitsDie_36 rfl rfl ?_
          refine a_getI 40 dX5_fitsDie_37 fX5_33 hk rfl rfl ?_
          refine a_iload_n 41 dX5_fitsDie_40 rfl rfl ?_
          refine a_callV 44 (c2_fitsNick _ _ _ he) cdX2_fitsNick lX5_98 dX5_fitsDie_41 rfl he rfl ⟨by decide, by decide, rfl, rfl⟩ ⟨Nat.zero_le _, Nat.zero_le _⟩ (Nat.le_of_ble_eq_true rfl) rfl ?_
          rintro _ _ - ⟨b41, rfl, rfl, h41⟩ -
          refine a_if_eq 51 47 dX5_fitsDie_44 (by decide) rfl (fun c44 => ?_) (fun c44 => ?_)
          · skip
            refine a_iconst (z := 0) 52 dX5_fitsDie_51 rfl (zrl rfl) rfl ?_
            exact J52 _ (by
              unfold dieC
              first
              | exact Or.inl ⟨rfl, isT h12 c15, isT h26 c29, isT h41 c44⟩
              | exact Or.inr ⟨rfl, fun z => isN h41 c44 z.2.2⟩
              | exact Or.inr ⟨rfl, fun z => isN h26 c29 z.2.1⟩
              | exact Or.inr ⟨rfl, fun z => isN h12 c15 z.1⟩)
          · skip
            refine a_iconst (z := 1) 48 dX5_fitsDie_47 rfl (zrl rfl) rfl ?_
            refine a_goto 52 dX5_fitsDie_48 (by decide) ?_
            exact J52 _ (by
              unfold dieC
              first
              | exact Or.inl ⟨rfl, isT h12 c15, isT h26 c29, isT h41 c44⟩
              | exact Or.inr ⟨rfl, fun z => isN h41 c44 z.2.2⟩
              | exact Or.inr ⟨rfl, fun z => isN h26 c29 z.2.1⟩
              | exact Or.inr ⟨rfl, fun z => isN h12 c15 z.1⟩)
