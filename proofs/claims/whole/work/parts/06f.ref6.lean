theorem gI_n {g : GH} {a k a' k' : Nat} {z : Int} (h : a' ≠ a ∨ k' ≠ k) : (gI g a k z).2.1 a' k' = g.2.1 a' k' := u2_n h
theorem isT {b : Int} {P : Prop} (h : isb b P) (hb : b ≠ 0) : P := by rcases h with ⟨h1, h2⟩ | ⟨h1, h2⟩; exact h2; exact absurd h1 hb
theorem isN {b : Int} {P : Prop} (h : isb b P) (hb : b = 0) : ¬ P := by rcases h with ⟨h1, h2⟩ | ⟨h1, h2⟩; exact absurd (h1.symm.trans hb) (by decide); exact h2
noncomputable def sv (w : Int) (P : Int → Prop) (d : Nat) : Int := if w = 2 then lstU P d else fstU P d
theorem sv_n {w : Int} {P : Int → Prop} {d : Nat} (h : ¬ P d) : sv w P d = sv w P (d + 1) := by
  unfold sv; rw [(lstU_s P d).2 h, (fstU_s P d).2 (fun q => h q.1)]
theorem sv_2 {w : Int} {P : Int → Prop} {d : Nat} (h : P d) (hw : w = 2) : (d : Int) = sv w P (d + 1) := by
  unfold sv; rw [if_pos hw, (lstU_s P d).1 h]
theorem sv_1 {w : Int} {P : Int → Prop} {d : Nat} (h : P d) (hw : w ≠ 2) (hv : sv w P d = -9) : (d : Int) = sv w P (d + 1) := by
  unfold sv at hv ⊢; rw [if_neg hw] at hv ⊢; rw [(fstU_s P d).1 ⟨h, hv⟩]
theorem sv_o {w : Int} {P : Int → Prop} {d : Nat} (hw : w ≠ 2) (hv : sv w P d ≠ -9) : sv w P d = sv w P (d + 1) := by
  unfold sv at hv ⊢; rw [if_neg hw] at hv ⊢; rw [if_neg hw, (fstU_s P d).2 (fun q => hv q.2)]
theorem sv_le (w : Int) (P : Int → Prop) (d : Nat) : -9 ≤ sv w P d ∧ sv w P d < d := by
  unfold sv; split; exact lstU_le P d; exact fstU_le P d
def byt (v : Int64) (k : Int) : Int := (v >>> ((Int32.ofInt (8 * k)).toInt64 &&& 63) &&& 255).toInt32.toInt
/-- n bytes of v come to the text -/
def typed (v : Int64) (n t j : Int) (h : Nat → Nat → Int) : Nat → Nat → Int := fun a i => if a = 1028 ∧ t ≤ i ∧ (i : Int) < t + j then byt v (n - 1 - (i - t)) else if a = 1000 ∧ i = 29 then t + j else h a i
theorem typed_0 {v : Int64} {n : Int} {h : Nat → Nat → Int} : typed v n (h 1000 29) 0 h = h := by
  funext a i; unfold typed; rw [if_neg (by omega)]; split
  · rename_i q; rw [q.1, q.2]; omega
  · rfl
theorem typed_s {v : Int64} {n t j k : Int} {h : Nat → Nat → Int} (ht : 0 ≤ t) (hj : 0 ≤ j) (hk : k = n - 1 - j) : u2 (u2 (typed v n t j h) 1028 (t + j).toNat (byt v k)) 1000 29 (t + j + 1) = typed v n t (j + 1) h := by
  funext a i; unfold u2 typed
  by_cases h1 : a = 1000 ∧ i = 29
  · rw [if_pos h1, if_neg (by omega), if_pos h1]; omega
  · rw [if_neg h1, if_neg h1, if_neg h1]
    by_cases h2 : a = 1028 ∧ i = (t + j).toNat
    · rw [if_pos h2, if_pos (by omega), hk]; congr 1; omega
    · rw [if_neg h2]
      by_cases h3 : a = 1028 ∧ t ≤ i ∧ (i : Int) < t + j
      · rw [if_pos h3, if_pos (by omega)]
      · rw [if_neg h3, if_neg (by omega)]
set_option maxHeartbeats 4000000 in
set_option maxRecDepth 100000 in
theorem r_span (g : GH) (m w : Int) (hM : MR g) (hV : MV g.2.1) : AMet mX12_span g [vA 1000, vI m, vI w] (fun r g' => (((0 ≤ m ∧ m < (gI g 1000 0 0).2.1 1000 13) ∧ (0 ≤ w ∧ w ≤ 2)) ∧ r = vI (if w = 0 then cnt (canB (gI g 1000 0 0).2.1 m) 1000 else sv w (canB (gI g 1000 0 0).2.1 m) 1000) ∧ g' = gI g 1000 0 0) ∨ (¬ ((0 ≤ m ∧ m < (gI g 1000 0 0).2.1 1000 13) ∧ (0 ≤ w ∧ w ≤ 2)) ∧ r = vI (-1) ∧ g' = gI g 1000 0 0)) := by
  refine AMet.of [vA 1000, vI m, vI w, none, none] (by decide) rfl (Nat.le_of_ble_eq_true rfl) ?_
  refine a_aload_n 1 dX12_span_0 rfl rfl ?_
  refine a_iconst (z := 0) 2 dX12_span_1 rfl (zrl rfl) rfl ?_
  refine a_putI 5 dX12_span_2 fX12_80 (Or.inl rfl) hM.1 (Or.inl rfl) rfl ?_
  have hM : MR (gI g 1000 0 0) := hM
  have hV : MV (gI g 1000 0 0).2.1 := MV_th hV
  have hc := hV.1
  unfold MVc at hc
  generalize gI g 1000 0 0 = g1 at hM hV hc ⊢
  refine a_aload_n 6 dX12_span_5 rfl rfl ?_
  refine a_iload_n 7 dX12_span_6 rfl rfl ?_
  refine a_callV 10 (r_isMark _ _ hM (by omega)) cdX12_isMark lX12_111 dX12_span_7 rfl hM.1 rfl ⟨by decide, by decide, rfl, rfl⟩ ⟨Nat.zero_le _, Nat.zero_le _⟩ (Nat.le_of_ble_eq_true rfl) rfl ?_
  rintro _ _ - ⟨b7, rfl, rfl, h7⟩ -
  refine a_if_eq 22 13 dX12_span_10 (by decide) rfl (fun c10 => ?_) (fun c10 => ?_)
  · skip
    refine a_iconst (z := (-1)) 23 dX12_span_22 rfl (zrl rfl) rfl ?_
    refine a_ireturn dX12_span_23 rfl ⟨Nat.zero_le _, Nat.zero_le _⟩ ?_
    exact Or.inr ⟨by omega, rfl, rfl⟩
  · skip
    refine a_iload_n 14 dX12_span_13 rfl rfl ?_
    refine a_iconst (z := 0) 15 dX12_span_14 rfl (zrl rfl) rfl ?_
    refine a_iconst (z := 2) 16 dX12_span_15 rfl (zrl rfl) rfl ?_
    refine a_callS 19 (r_in _ _ _ _) cdX12_in lX12_84 dX12_span_16 rfl rfl ⟨by decide, by decide, rfl, rfl⟩ ⟨Nat.zero_le _, Nat.zero_le _⟩ (Nat.le_of_ble_eq_true rfl) rfl ?_
    rintro _ _ - ⟨b16, rfl, rfl, h16⟩ -
    refine a_if_ne 24 22 dX12_span_19 (by decide) rfl (fun c19 => ?_) (fun c19 => ?_)
    · skip
      refine a_iload_n 25 dX12_span_24 rfl rfl ?_
      refine a_if_ne 34 28 dX12_span_25 (by decide) rfl (fun c25 => ?_) (fun c25 => ?_)
      · skip
        refine a_bipush (z := (-9)) 36 dX12_span_34 rfl (zrl rfl) rfl ?_
        refine a_istore_n 37 dX12_span_36 (by decide) rfl rfl ?_
        have e0 : (-9 : Int) = sv w (canB g1.2.1 m) 0 := by unfold sv; split <;> rfl
        rw [e0]
        refine a_iconst (z := 0) 38 dX12_span_37 rfl (zrl rfl) rfl ?_
        refine a_istore 40 dX12_span_38 (by decide) rfl rfl ?_
        refine AW.loop (α := Nat) (fun p => 1000 - p) (fun p => p ≤ 1000) (fun p => g1) (fun p => [vA 1000, vI m, vI w, vI (sv w (canB g1.2.1 m) p), vI (p : Int)]) (fun p => []) ?_ 0 ?_
        · intro d hI ih
          try dsimp only at hI ih ⊢
          have hb := sv_le w (canB g1.2.1 m) d
          refine a_iload 42 dX12_span_40 rfl rfl ?_
          refine a_sipush (z := 999) 45 dX12_span_42 rfl (zrl rfl) rfl ?_
          refine a_icmp_gt 82 48 dX12_span_45 (by decide) rfl (fun c45 => ?_) (fun c45 => ?_)
          · skip
            refine a_iload_n 83 dX12_span_82 rfl rfl ?_
            refine a_ireturn dX12_span_83 rfl ⟨Nat.zero_le _, Nat.zero_le _⟩ ?_
            have e : d = 1000 := by omega
            subst e
            exact Or.inl ⟨by omega, by rw [if_neg c25], rfl⟩
          · skip
            refine AW.cut (J := 75) (P := fun z => z = sv w (canB g1.2.1 m) (d + 1)) ?_ (fun J75 => ?_)
            · intro z75 h75
              subst h75
              refine a_istore_n 76 dX12_span_75 (by decide) rfl rfl ?_
              refine a_iinc 79 dX12_span_76 rfl (by unfold zr; omega) (by decide) rfl rfl ?_
              refine a_goto 40 dX12_span_79 (by decide) ?_
              exact ih (d + 1) (by omega) (by omega)
            · skip
              refine a_aload_n 49 dX12_span_48 rfl rfl ?_
              refine a_iload_n 50 dX12_span_49 rfl rfl ?_
              refine a_iload 52 dX12_span_50 rfl rfl ?_
              refine a_callV 55 (r_canBe _ _ _ hM hV (by omega) (by omega)) cdX12_canBe lX12_128 dX12_span_52 rfl hM.1 rfl ⟨by decide, by decide, rfl, rfl⟩ ⟨Nat.zero_le _, Nat.zero_le _⟩ (Nat.le_of_ble_eq_true rfl) rfl ?_
              rintro _ _ - ⟨b52, rfl, rfl, h52⟩ -
              refine a_if_eq 74 58 dX12_span_55 (by decide) rfl (fun c55 => ?_) (fun c55 => ?_)
              · skip
                refine a_iload_n 75 dX12_span_74 rfl rfl ?_
                exact J75 _ (by first | exact sv_2 (isT h52 c55) c60 | exact sv_1 (isT h52 c55) c60 c66 | exact sv_o c60 c66 | exact sv_n (isN h52 c55))
              · skip
                refine a_iload_n 59 dX12_span_58 rfl rfl ?_
                refine a_iconst (z := 2) 60 dX12_span_59 rfl (zrl rfl) rfl ?_
                refine a_icmp_eq 69 63 dX12_span_60 (by decide) rfl (fun c60 => ?_) (fun c60 => ?_)
                · skip
                  refine a_iload 71 dX12_span_69 rfl rfl ?_
                  refine a_goto 75 dX12_span_71 (by decide) ?_
                  exact J75 _ (by first | exact sv_2 (isT h52 c55) c60 | exact sv_1 (isT h52 c55) c60 c66 | exact sv_o c60 c66 | exact sv_n (isN h52 c55))
                · skip
                  refine a_iload_n 64 dX12_span_63 rfl rfl ?_
                  refine a_bipush (z := (-9)) 66 dX12_span_64 rfl (zrl rfl) rfl ?_
                  refine a_icmp_ne 74 69 dX12_span_66 (by decide) rfl (fun c66 => ?_) (fun c66 => ?_)
                  · skip
                    refine a_iload_n 75 dX12_span_74 rfl rfl ?_
                    exact J75 _ (by first | exact sv_2 (isT h52 c55) c60 | exact sv_1 (isT h52 c55) c60 c66 | exact sv_o c60 c66 | exact sv_n (isN h52 c55))
                  · skip
                    refine a_iload 71 dX12_span_69 rfl rfl ?_
                    refine a_goto 75 dX12_span_71 (by decide) ?_
                    exact J75 _ (by first | exact sv_2 (isT h52 c55) c60 | exact sv_1 (isT h52 c55) c60 c66 | exact sv_o c60 c66 | exact sv_n (isN h52 c55))
        · exact Nat.zero_le _
      · skip
        refine a_aload_n 29 dX12_span_28 rfl rfl ?_
        refine a_iload_n 30 dX12_span_29 rfl rfl ?_
        refine a_callV 33 (r_spanOf _ _ hM hV (by omega)) cdX12_spanOf lX12_132 dX12_span_30 rfl hM.1 rfl ⟨by decide, by decide, rfl, rfl⟩ ⟨Nat.zero_le _, Nat.zero_le _⟩ (Nat.le_of_ble_eq_true rfl) rfl ?_
        rintro _ _ - ⟨rfl, rfl⟩ -
        refine a_ireturn dX12_span_33 rfl ⟨Nat.zero_le _, Nat.zero_le _⟩ ?_
        exact Or.inl ⟨by omega, by rw [if_pos c25], rfl⟩
    · skip
      refine a_iconst (z := (-1)) 23 dX12_span_22 rfl (zrl rfl) rfl ?_
      refine a_ireturn dX12_span_23 rfl ⟨Nat.zero_le _, Nat.zero_le _⟩ ?_
      exact Or.inr ⟨by omega, rfl, rfl⟩
set_option maxHeartbeats 4000000 in
set_option maxRecDepth 100000 in
theorem r_lean (g : GH) (k m : Int) (hM : MR g) (hV : MV g.2.1) : AMet mX12_lean g [vA 1000, vI k, vI m] (fun r g' => (((0 ≤ k ∧ k ≤ 5) ∧ (0 ≤ m ∧ m < (gI g 1000 0 0).2.1 1000 13)) ∧ r = vI (leanV (gI g 1000 0 0).2.1 k m) ∧ g' = gL (gI g 1000 0 0) 1000 1 (leanT k ((gI g 1000 0 0).2.2.1 1000 1))) ∨ (¬ ((0 ≤ k ∧ k ≤ 5) ∧ (0 ≤ m ∧ m < (gI g 1000 0 0).2.1 1000 13)) ∧ r = vI (-1) ∧ g' = gI g 1000 0 0)) := by
  refine AMet.of [vA 1000, vI k, vI m, none, none, none] (by decide) rfl (Nat.le_of_ble_eq_true rfl) ?_
  refine a_aload_n 1 dX12_lean_0 rfl rfl ?_
  refine a_iconst (z := 0) 2 dX12_lean_1 rfl (zrl rfl) rfl ?_
  refine a_putI 5 dX12_lean_2 fX12_80 (Or.inl rfl) hM.1 (Or.inl rfl) rfl ?_
  have hM : MR (gI g 1000 0 0) := hM
  have hV : MV (gI g 1000 0 0).2.1 := MV_th hV
  have hc := hV.1
  unfold MVc at hc
  generalize gI g 1000 0 0 = g1 at hM hV hc ⊢
  refine a_iload_n 6 dX12_lean_5 rfl rfl ?_
  refine a_iconst (z := 0) 7 dX12_lean_6 rfl (zrl rfl) rfl ?_
  refine a_iconst (z := 5) 8 dX12_lean_7 rfl (zrl rfl) rfl ?_
  refine a_callS 11 (r_in _ _ _ _) cdX12_in lX12_84 dX12_lean_8 rfl rfl ⟨by decide, by decide, rfl, rfl⟩ ⟨Nat.zero_le _, Nat.zero_le _⟩ (Nat.le_of_ble_eq_true rfl) rfl ?_
  rintro _ _ - ⟨b8, rfl, rfl, h8⟩ -
  refine a_if_eq 22 14 dX12_lean_11 (by decide) rfl (fun c11 => ?_) (fun c11 => ?_)
  · skip
    refine a_iconst (z := (-1)) 23 dX12_lean_22 rfl (zrl rfl) rfl ?_
    refine a_ireturn dX12_lean_23 rfl ⟨Nat.zero_le _, Nat.zero_le _⟩ ?_
    exact Or.inr ⟨by omega, rfl, rfl⟩
  · skip
    refine a_aload_n 15 dX12_lean_14 rfl rfl ?_
    refine a_iload_n 16 dX12_lean_15 rfl rfl ?_
    refine a_callV 19 (r_isMark _ _ hM (by omega)) cdX12_isMark lX12_111 dX12_lean_16 rfl hM.1 rfl ⟨by decide, by decide, rfl, rfl⟩ ⟨Nat.zero_le _, Nat.zero_le _⟩ (Nat.le_of_ble_eq_true rfl) rfl ?_
    rintro _ _ - ⟨b16, rfl, rfl, h16⟩ -
    refine a_if_ne 24 22 dX12_lean_19 (by decide) rfl (fun c19 => ?_) (fun c19 => ?_)
    · skip
      refine a_bipush (z := 10) 26 dX12_lean_24 rfl (zrl rfl) rfl ?_
      refine a_iload_n 27 dX12_lean_26 rfl rfl ?_
      refine a_imul 28 dX12_lean_27 (by unfold zr; omega) rfl ?_
      refine a_istore_n 29 dX12_lean_28 (by decide) rfl rfl ?_
      refine a_bipush (z := 10) 31 dX12_lean_29 rfl (zrl rfl) rfl ?_
      refine AW.cut (J := 49) (P := fun z => z = (if g1.2.1 1014 (10 * m + 2).toNat = -9 then 0 else 5)) ?_ (fun J49 => ?_)
      · intro z49 h49
        have hm9 := hV.2.2.2.1 m (by omega) (by omega)
        have h9 : 10 + z49 = lean0 g1.2.1 m := by rw [h49]; rfl
        have h99 : 15 ≥ 10 + z49 ∧ 10 + z49 ≥ 10 := by rw [h49]; split <;> omega
        refine a_iadd 50 dX12_lean_49 (by unfold zr; omega) rfl ?_
        rw [h9] at h99 ⊢
        clear h9 h49
        refine a_istore 52 dX12_lean_50 (by decide) rfl rfl ?_
        refine a_aload_n 53 dX12_lean_52 rfl rfl ?_
        refine a_dup 54 dX12_lean_53 (by intro w h; cases h) rfl ?_
        refine a_getL 57 dX12_lean_54 fX12_114 hM.1 rfl rfl ?_
        refine a_lconst (w := 1) 58 dX12_lean_57 rfl rfl ?_
        refine a_ladd 59 dX12_lean_58 rfl ?_
        refine a_putL 62 dX12_lean_59 fX12_114 (Or.inl rfl) hM.1 rfl rfl ?_
        refine a_iload_n 63 dX12_lean_62 rfl rfl ?_
        refine a_iconst (z := 1) 64 dX12_lean_63 rfl (zrl rfl) rfl ?_
        refine a_icmp_eq 72 67 dX12_lean_64 (by decide) rfl (fun c64 => ?_) (fun c64 => ?_)
        · skip
          refine a_iconst (z := 0) 73 dX12_lean_72 rfl (zrl rfl) rfl ?_
          refine a_istore 75 dX12_lean_73 (by decide) rfl rfl ?_
          refine a_iload 77 dX12_lean_75 rfl rfl ?_
          refine a_iconst (z := 3) 78 dX12_lean_77 rfl (zrl rfl) rfl ?_
          refine a_icmp_ge 111 81 dX12_lean_78 (by decide) rfl (fun c78 => ?_) (fun c78 => ?_)
          · exfalso; omega
          · skip
            refine a_iload 83 dX12_lean_81 rfl rfl ?_
            refine AW.cut (J := 102) (P := fun z => z = rdI (g1.2.1 1014 (10 * m + 5 + (0)).toNat)) ?_ (fun J102 => ?_)
            · intro z102 h102
              have hw0 : 0 ≤ z102 ∧ z102 ≤ 4 := by rw [h102]; unfold rdI; split <;> omega
              subst h102
              refine a_iadd 103 dX12_lean_102 (by unfold zr; omega) rfl ?_
              refine a_istore 105 dX12_lean_103 (by decide) rfl rfl ?_
              refine a_iinc 108 dX12_lean_105 rfl (by unfold zr; omega) (by decide) rfl rfl ?_
              refine a_goto 75 dX12_lean_108 (by decide) ?_
              refine a_iload 77 dX12_lean_75 rfl rfl ?_
              refine a_iconst (z := 3) 78 dX12_lean_77 rfl (zrl rfl) rfl ?_
              refine a_icmp_ge 111 81 dX12_lean_78 (by decide) rfl (fun c78 => ?_) (fun c78 => ?_)
              · exfalso; omega
              · skip
                refine a_iload 83 dX12_lean_81 rfl rfl ?_
                refine AW.cut (J := 102) (P := fun z => z = rdI (g1.2.1 1014 (10 * m + 5 + (0 + 1)).toNat)) ?_ (fun J102 => ?_)
                · intro z102 h102
                  have hw1 : 0 ≤ z102 ∧ z102 ≤ 4 := by rw [h102]; unfold rdI; split <;> omega
                  subst h102
                  refine a_iadd 103 dX12_lean_102 (by unfold zr; omega) rfl ?_
                  refine a_istore 105 dX12_lean_103 (by decide) rfl rfl ?_
                  refine a_iinc 108 dX12_lean_105 rfl (by unfold zr; omega) (by decide) rfl rfl ?_
                  refine a_goto 75 dX12_lean_108 (by decide) ?_
                  refine a_iload 77 dX12_lean_75 rfl rfl ?_
                  refine a_iconst (z := 3) 78 dX12_lean_77 rfl (zrl rfl) rfl ?_
                  refine a_icmp_ge 111 81 dX12_lean_78 (by decide) rfl (fun c78 => ?_) (fun c78 => ?_)
                  · exfalso; omega
                  · skip
                    refine a_iload 83 dX12_lean_81 rfl rfl ?_
                    refine AW.cut (J := 102) (P := fun z => z = rdI (g1.2.1 1014 (10 * m + 5 + (0 + 1 + 1)).toNat)) ?_ (fun J102 => ?_)
                    · intro z102 h102
                      have hw2 : 0 ≤ z102 ∧ z102 ≤ 4 := by rw [h102]; unfold rdI; split <;> omega
                      subst h102
                      refine a_iadd 103 dX12_lean_102 (by unfold zr; omega) rfl ?_
                      refine a_istore 105 dX12_lean_103 (by decide) rfl rfl ?_
                      refine a_iinc 108 dX12_lean_105 rfl (by unfold zr; omega) (by decide) rfl rfl ?_
                      refine a_goto 75 dX12_lean_108 (by decide) ?_
                      refine a_iload 77 dX12_lean_75 rfl rfl ?_
                      refine a_iconst (z := 3) 78 dX12_lean_77 rfl (zrl rfl) rfl ?_
                      refine a_icmp_ge 111 81 dX12_lean_78 (by decide) rfl (fun c78 => ?_) (fun c78 => ?_)
                      · skip
                        refine a_aload_n 112 dX12_lean_111 rfl rfl ?_
                        refine a_dup 113 dX12_lean_112 (by intro w h; cases h) rfl ?_
                        refine a_getL 116 dX12_lean_113 fX12_114 hM.1 rfl rfl ?_
                        refine a_ldc2 119 dX12_lean_116 kX12_118 rfl ?_
                        refine a_ladd 120 dX12_lean_119 rfl ?_
                        refine a_putL 123 dX12_lean_120 fX12_114 (Or.inl rfl) hM.1 rfl rfl ?_
                        refine a_iload_n 124 dX12_lean_123 rfl rfl ?_
                        refine a_iconst (z := 2) 125 dX12_lean_124 rfl (zrl rfl) rfl ?_
                        refine a_icmp_ne 168 128 dX12_lean_125 (by decide) rfl (fun c125 => ?_) (fun c125 => ?_)
                        · skip
                          refine a_iload_n 169 dX12_lean_168 rfl rfl ?_
                          refine a_iconst (z := 3) 170 dX12_lean_169 rfl (zrl rfl) rfl ?_
                          refine a_icmp_ne 197 173 dX12_lean_170 (by decide) rfl (fun c170 => ?_) (fun c170 => ?_)
                          · skip
                            refine a_iload_n 198 dX12_lean_197 rfl rfl ?_
                            refine a_iconst (z := 4) 199 dX12_lean_198 rfl (zrl rfl) rfl ?_
                            refine a_icmp_ne 230 202 dX12_lean_199 (by decide) rfl (fun c199 => ?_) (fun c199 => ?_)
                            · skip
                              refine a_iload_n 231 dX12_lean_230 rfl rfl ?_
                              refine a_iconst (z := 5) 232 dX12_lean_231 rfl (zrl rfl) rfl ?_
                              refine a_icmp_ne 253 235 dX12_lean_232 (by decide) rfl (fun c232 => ?_) (fun c232 => ?_)
                              · skip
                                refine a_iload 255 dX12_lean_253 rfl rfl ?_
                                refine a_ireturn dX12_lean_255 rfl ⟨Nat.zero_le _, Nat.zero_le _⟩ ?_
                                first
                                | (exfalso; omega)
                                | (refine Or.inl ⟨by omega, congrArg vI (?_ : _ = leanV g1.2.1 k m), (?_ : _ = gL g1 1000 1 (leanT k (g1.2.2.1 1000 1)))⟩
                                   · unfold leanV lean1; repeat (first | rw [if_pos (by omega)] | rw [if_neg (by omega)])
                                   · unfold leanT; repeat (first | rw [if_pos (by omega)] | rw [if_neg (by omega)])
                                     all_goals first | rfl | exact gL_gL _ _ _ _ _ | exact (gL_gL _ _ _ _ _).trans (gL_gL _ _ _ _ _))
                              · skip
                                refine a_iload 237 dX12_lean_235 rfl rfl ?_
                                refine a_iconst (z := 2) 238 dX12_lean_237 rfl (zrl rfl) rfl ?_
                                refine a_idiv 239 dX12_lean_238 (by omega) (by omega) rfl ?_
                                refine a_istore 241 dX12_lean_239 (by decide) rfl rfl ?_
                                refine a_aload_n 242 dX12_lean_241 rfl rfl ?_
                                refine a_dup 243 dX12_lean_242 (by intro w h; cases h) rfl ?_
                                refine a_getL 246 dX12_lean_243 fX12_114 hM.1 rfl rfl ?_
                                refine a_ldc2 249 dX12_lean_246 kX12_126 rfl ?_
                                refine a_ladd 250 dX12_lean_249 rfl ?_
                                refine a_putL 253 dX12_lean_250 fX12_114 (Or.inl rfl) hM.1 rfl rfl ?_
                                refine a_iload 255 dX12_lean_253 rfl rfl ?_
                                refine a_ireturn dX12_lean_255 rfl ⟨Nat.zero_le _, Nat.zero_le _⟩ ?_
                                first
                                | (exfalso; omega)
                                | (refine Or.inl ⟨by omega, congrArg vI (?_ : _ = leanV g1.2.1 k m), (?_ : _ = gL g1 1000 1 (leanT k (g1.2.2.1 1000 1)))⟩
                                   · unfold leanV lean1; repeat (first | rw [if_pos (by omega)] | rw [if_neg (by omega)])
                                   · unfold leanT; repeat (first | rw [if_pos (by omega)] | rw [if_neg (by omega)])
                                     all_goals first | rfl | exact gL_gL _ _ _ _ _ | exact (gL_gL _ _ _ _ _).trans (gL_gL _ _ _ _ _))
                            · skip
                              refine a_iload 204 dX12_lean_202 rfl rfl ?_
                              refine a_aload_n 205 dX12_lean_204 rfl rfl ?_
                              refine a_getR 208 dX12_lean_205 fX12_37 hM.1 rfl (mr_14 hM).1 rfl ?_
                              refine a_iload_n 209 dX12_lean_208 rfl rfl ?_
                              refine a_iconst (z := 3) 210 dX12_lean_209 rfl (zrl rfl) rfl ?_
                              refine a_iadd 211 dX12_lean_210 (by unfold zr; omega) rfl ?_
                              refine a_ialdz (g1.2.1 1014 (10 * m + 3).toNat) 212 dX12_lean_211 (mr_14 hM).2 (by omega) (by omega) rfl rfl ?_
                              refine a_iadd 213 dX12_lean_212 (by unfold zr; omega) rfl ?_
                              refine a_istore 215 dX12_lean_213 (by decide) rfl rfl ?_
                              refine a_aload_n 216 dX12_lean_215 rfl rfl ?_
                              refine a_dup 217 dX12_lean_216 (by intro w h; cases h) rfl ?_
                              refine a_getL 220 dX12_lean_217 fX12_114 hM.1 rfl rfl ?_
                              refine a_ldc2 223 dX12_lean_220 kX12_124 rfl ?_
                              refine a_ladd 224 dX12_lean_223 rfl ?_
                              refine a_putL 227 dX12_lean_224 fX12_114 (Or.inl rfl) hM.1 rfl rfl ?_
                              refine a_goto 253 dX12_lean_227 (by decide) ?_
                              refine a_iload 255 dX12_lean_253 rfl rfl ?_
                              refine a_ireturn dX12_lean_255 rfl ⟨Nat.zero_le _, Nat.zero_le _⟩ ?_
                              first
                              | (exfalso; omega)
                              | (refine Or.inl ⟨by omega, congrArg vI (?_ : _ = leanV g1.2.1 k m), (?_ : _ = gL g1 1000 1 (leanT k (g1.2.2.1 1000 1)))⟩
                                 · unfold leanV lean1; repeat (first | rw [if_pos (by omega)] | rw [if_neg (by omega)])
                                 · unfold leanT; repeat (first | rw [if_pos (by omega)] | rw [if_neg (by omega)])
                                   all_goals first | rfl | exact gL_gL _ _ _ _ _ | exact (gL_gL _ _ _ _ _).trans (gL_gL _ _ _ _ _))
                          · skip
                            refine a_iload 175 dX12_lean_173 rfl rfl ?_
                            refine a_iload 177 dX12_lean_175 rfl rfl ?_
                            refine a_iconst (z := 3) 178 dX12_lean_177 rfl (zrl rfl) rfl ?_
                            refine a_idiv 179 dX12_lean_178 (by omega) (by omega) rfl ?_
                            refine a_iadd 180 dX12_lean_179 (by unfold zr; omega) rfl ?_
                            refine a_istore 182 dX12_lean_180 (by decide) rfl rfl ?_
                            refine a_aload_n 183 dX12_lean_182 rfl rfl ?_
                            refine a_dup 184 dX12_lean_183 (by intro w h; cases h) rfl ?_
                            refine a_getL 187 dX12_lean_184 fX12_114 hM.1 rfl rfl ?_
                            refine a_ldc2 190 dX12_lean_187 kX12_122 rfl ?_
                            refine a_ladd 191 dX12_lean_190 rfl ?_
                            refine a_putL 194 dX12_lean_191 fX12_114 (Or.inl rfl) hM.1 rfl rfl ?_
                            refine a_goto 253 dX12_lean_194 (by decide) ?_
                            refine a_iload 255 dX12_lean_253 rfl rfl ?_
                            refine a_ireturn dX12_lean_255 rfl ⟨Nat.zero_le _, Nat.zero_le _⟩ ?_
                            first
                            | (exfalso; omega)
                            | (refine Or.inl ⟨by omega, congrArg vI (?_ : _ = leanV g1.2.1 k m), (?_ : _ = gL g1 1000 1 (leanT k (g1.2.2.1 1000 1)))⟩
                               · unfold leanV lean1; repeat (first | rw [if_pos (by omega)] | rw [if_neg (by omega)])
                               · unfold leanT; repeat (first | rw [if_pos (by omega)] | rw [if_neg (by omega)])
                                 all_goals first | rfl | exact gL_gL _ _ _ _ _ | exact (gL_gL _ _ _ _ _).trans (gL_gL _ _ _ _ _))
                        · skip
                          refine a_iload 130 dX12_lean_128 rfl rfl ?_
                          refine a_aload_n 131 dX12_lean_130 rfl rfl ?_
                          refine a_getR 134 dX12_lean_131 fX12_37 hM.1 rfl (mr_14 hM).1 rfl ?_
                          refine a_iload_n 135 dX12_lean_134 rfl rfl ?_
                          refine a_bipush (z := 8) 137 dX12_lean_135 rfl (zrl rfl) rfl ?_
                          refine a_iadd 138 dX12_lean_137 (by unfold zr; omega) rfl ?_
                          refine a_ialdz (g1.2.1 1014 (10 * m + 8).toNat) 139 dX12_lean_138 (mr_14 hM).2 (by omega) (by omega) rfl rfl ?_
                          refine a_bipush (z := (-9)) 141 dX12_lean_139 rfl (zrl rfl) rfl ?_
                          refine a_icmp_ne 148 144 dX12_lean_141 (by decide) rfl (fun c141 => ?_) (fun c141 => ?_)
                          · skip
                            refine a_bipush (z := 7) 150 dX12_lean_148 rfl (zrl rfl) rfl ?_
                            refine a_iadd 151 dX12_lean_150 (by unfold zr; omega) rfl ?_
                            refine a_istore 153 dX12_lean_151 (by decide) rfl rfl ?_
                            refine a_aload_n 154 dX12_lean_153 rfl rfl ?_
                            refine a_dup 155 dX12_lean_154 (by intro w h; cases h) rfl ?_
                            refine a_getL 158 dX12_lean_155 fX12_114 hM.1 rfl rfl ?_
                            refine a_ldc2 161 dX12_lean_158 kX12_120 rfl ?_
                            refine a_ladd 162 dX12_lean_161 rfl ?_
                            refine a_putL 165 dX12_lean_162 fX12_114 (Or.inl rfl) hM.1 rfl rfl ?_
                            refine a_goto 253 dX12_lean_165 (by decide) ?_
                            refine a_iload 255 dX12_lean_253 rfl rfl ?_
                            refine a_ireturn dX12_lean_255 rfl ⟨Nat.zero_le _, Nat.zero_le _⟩ ?_
                            first
                            | (exfalso; omega)
                            | (refine Or.inl ⟨by omega, congrArg vI (?_ : _ = leanV g1.2.1 k m), (?_ : _ = gL g1 1000 1 (leanT k (g1.2.2.1 1000 1)))⟩
                               · unfold leanV lean1; repeat (first | rw [if_pos (by omega)] | rw [if_neg (by omega)])
                               · unfold leanT; repeat (first | rw [if_pos (by omega)] | rw [if_neg (by omega)])
                                 all_goals first | rfl | exact gL_gL _ _ _ _ _ | exact (gL_gL _ _ _ _ _).trans (gL_gL _ _ _ _ _))
                          · skip
                            refine a_iconst (z := 0) 145 dX12_lean_144 rfl (zrl rfl) rfl ?_
                            refine a_goto 150 dX12_lean_145 (by decide) ?_
                            refine a_iadd 151 dX12_lean_150 (by unfold zr; omega) rfl ?_
                            refine a_istore 153 dX12_lean_151 (by decide) rfl rfl ?_
                            refine a_aload_n 154 dX12_lean_153 rfl rfl ?_
                            refine a_dup 155 dX12_lean_154 (by intro w h; cases h) rfl ?_
                            refine a_getL 158 dX12_lean_155 fX12_114 hM.1 rfl rfl ?_
                            refine a_ldc2 161 dX12_lean_158 kX12_120 rfl ?_
                            refine a_ladd 162 dX12_lean_161 rfl ?_
                            refine a_putL 165 dX12_lean_162 fX12_114 (Or.inl rfl) hM.1 rfl rfl ?_
                            refine a_goto 253 dX12_lean_165 (by decide) ?_
                            refine a_iload 255 dX12_lean_253 rfl rfl ?_
                            refine a_ireturn dX12_lean_255 rfl ⟨Nat.zero_le _, Nat.zero_le _⟩ ?_
                            first
                            | (exfalso; omega)
                            | (refine Or.inl ⟨by omega, congrArg vI (?_ : _ = leanV g1.2.1 k m), (?_ : _ = gL g1 1000 1 (leanT k (g1.2.2.1 1000 1)))⟩
                               · unfold leanV lean1; repeat (first | rw [if_pos (by omega)] | rw [if_neg (by omega)])
                               · unfold leanT; repeat (first | rw [if_pos (by omega)] | rw [if_neg (by omega)])
                                 all_goals first | rfl | exact gL_gL _ _ _ _ _ | exact (gL_gL _ _ _ _ _).trans (gL_gL _ _ _ _ _))
                      · exfalso; omega
                    · skip
                      refine a_aload_n 84 dX12_lean_83 rfl rfl ?_
                      refine a_getR 87 dX12_lean_84 fX12_37 hM.1 rfl (mr_14 hM).1 rfl ?_
                      refine a_iload_n 88 dX12_lean_87 rfl rfl ?_
                      refine a_iconst (z := 5) 89 dX12_lean_88 rfl (zrl rfl) rfl ?_
                      refine a_iadd 90 dX12_lean_89 (by unfold zr; omega) rfl ?_
                      refine a_iload 92 dX12_lean_90 rfl rfl ?_
                      refine a_iadd 93 dX12_lean_92 (by unfold zr; omega) rfl ?_
                      refine a_ialdz (g1.2.1 1014 (10 * m + 5 + (0 + 1 + 1)).toNat) 94 dX12_lean_93 (mr_14 hM).2 (by omega) (by omega) rfl rfl ?_
                      refine a_if_ge 101 97 dX12_lean_94 (by decide) rfl (fun c94 => ?_) (fun c94 => ?_)
                      · skip
                        refine a_iconst (z := 4) 102 dX12_lean_101 rfl (zrl rfl) rfl ?_
                        exact J102 _ (by unfold rdI; first | rw [if_pos (by omega)] | rw [if_neg (by omega)])
                      · skip
                        refine a_iconst (z := 0) 98 dX12_lean_97 rfl (zrl rfl) rfl ?_
                        refine a_goto 102 dX12_lean_98 (by decide) ?_
                        exact J102 _ (by unfold rdI; first | rw [if_pos (by omega)] | rw [if_neg (by omega)])
                · skip
                  refine a_aload_n 84 dX12_lean_83 rfl rfl ?_
                  refine a_getR 87 dX12_lean_84 fX12_37 hM.1 rfl (mr_14 hM).1 rfl ?_
                  refine a_iload_n 88 dX12_lean_87 rfl rfl ?_
                  refine a_iconst (z := 5) 89 dX12_lean_88 rfl (zrl rfl) rfl ?_
                  refine a_iadd 90 dX12_lean_89 (by unfold zr; omega) rfl ?_
                  refine a_iload 92 dX12_lean_90 rfl rfl ?_
                  refine a_iadd 93 dX12_lean_92 (by unfold zr; omega) rfl ?_
                  refine a_ialdz (g1.2.1 1014 (10 * m + 5 + (0 + 1)).toNat) 94 dX12_lean_93 (mr_14 hM).2 (by omega) (by omega) rfl rfl ?_
                  refine a_if_ge 101 97 dX12_lean_94 (by decide) rfl (fun c94 => ?_) (fun c94 => ?_)
                  · skip
                    refine a_iconst (z := 4) 102 dX12_lean_101 rfl (zrl rfl) rfl ?_
                    exact J102 _ (by unfold rdI; first | rw [if_pos (by omega)] | rw [if_neg (by omega)])
                  · skip
                    refine a_iconst (z := 0) 98 dX12_lean_97 rfl (zrl rfl) rfl ?_
                    refine a_goto 102 dX12_lean_98 (by decide) ?_
                    exact J102 _ (by unfold rdI; first | rw [if_pos (by omega)] | rw [if_neg (by omega)])
            · skip
              refine a_aload_n 84 dX12_lean_83 rfl rfl ?_
              refine a_getR 87 dX12_lean_84 fX12_37 hM.1 rfl (mr_14 hM).1 rfl ?_
              refine a_iload_n 88 dX12_lean_87 rfl rfl ?_
              refine a_iconst (z := 5) 89 dX12_lean_88 rfl (zrl rfl) rfl ?_
              refine a_iadd 90 dX12_lean_89 (by unfold zr; omega) rfl ?_
              refine a_iload 92 dX12_lean_90 rfl rfl ?_
              refine a_iadd 93 dX12_lean_92 (by unfold zr; omega) rfl ?_
              refine a_ialdz (g1.2.1 1014 (10 * m + 5 + (0)).toNat) 94 dX12_lean_93 (mr_14 hM).2 (by omega) (by omega) rfl rfl ?_
              refine a_if_ge 101 97 dX12_lean_94 (by decide) rfl (fun c94 => ?_) (fun c94 => ?_)
              · skip
                refine a_iconst (z := 4) 102 dX12_lean_101 rfl (zrl rfl) rfl ?_
                exact J102 _ (by unfold rdI; first | rw [if_pos (by omega)] | rw [if_neg (by omega)])
              · skip
                refine a_iconst (z := 0) 98 dX12_lean_97 rfl (zrl rfl) rfl ?_
                refine a_goto 102 dX12_lean_98 (by decide) ?_
                exact J102 _ (by unfold rdI; first | rw [if_pos (by omega)] | rw [if_neg (by omega)])
        · skip
          refine a_iload_n 68 dX12_lean_67 rfl rfl ?_
          refine a_iconst (z := 3) 69 dX12_lean_68 rfl (zrl rfl) rfl ?_
          refine a_icmp_ne 123 72 dX12_lean_69 (by decide) rfl (fun c69 => ?_) (fun c69 => ?_)
          · skip
            refine a_iload_n 124 dX12_lean_123 rfl rfl ?_
            refine a_iconst (z := 2) 125 dX12_lean_124 rfl (zrl rfl) rfl ?_
            refine a_icmp_ne 168 128 dX12_lean_125 (by decide) rfl (fun c125 => ?_) (fun c125 => ?_)
            · skip
              refine a_iload_n 169 dX12_lean_168 rfl rfl ?_
              refine a_iconst (z := 3) 170 dX12_lean_169 rfl (zrl rfl) rfl ?_
              refine a_icmp_ne 197 173 dX12_lean_170 (by decide) rfl (fun c170 => ?_) (fun c170 => ?_)
              · skip
                refine a_iload_n 198 dX12_lean_197 rfl rfl ?_
                refine a_iconst (z := 4) 199 dX12_lean_198 rfl (zrl rfl) rfl ?_
                refine a_icmp_ne 230 202 dX12_lean_199 (by decide) rfl (fun c199 => ?_) (fun c199 => ?_)
                · skip
                  refine a_iload_n 231 dX12_lean_230 rfl rfl ?_
                  refine a_iconst (z := 5) 232 dX12_lean_231 rfl (zrl rfl) rfl ?_
                  refine a_icmp_ne 253 235 dX12_lean_232 (by decide) rfl (fun c232 => ?_) (fun c232 => ?_)
                  · skip
                    refine a_iload 255 dX12_lean_253 rfl rfl ?_
                    refine a_ireturn dX12_lean_255 rfl ⟨Nat.zero_le _, Nat.zero_le _⟩ ?_
                    first
                    | (exfalso; omega)
                    | (refine Or.inl ⟨by omega, congrArg vI (?_ : _ = leanV g1.2.1 k m), (?_ : _ = gL g1 1000 1 (leanT k (g1.2.2.1 1000 1)))⟩
                       · unfold leanV lean1; repeat (first | rw [if_pos (by omega)] | rw [if_neg (by omega)])
                       · unfold leanT; repeat (first | rw [if_pos (by omega)] | rw [if_neg (by omega)])
                         all_goals first | rfl | exact gL_gL _ _ _ _ _ | exact (gL_gL _ _ _ _ _).trans (gL_gL _ _ _ _ _))
                  · skip
                    refine a_iload 237 dX12_lean_235 rfl rfl ?_
                    refine a_iconst (z := 2) 238 dX12_lean_237 rfl (zrl rfl) rfl ?_
                    refine a_idiv 239 dX12_lean_238 (by omega) (by omega) rfl ?_
                    refine a_istore 241 dX12_lean_239 (by decide) rfl rfl ?_
                    refine a_aload_n 242 dX12_lean_241 rfl rfl ?_
                    refine a_dup 243 dX12_lean_242 (by intro w h; cases h) rfl ?_
                    refine a_getL 246 dX12_lean_243 fX12_114 hM.1 rfl rfl ?_
                    refine a_ldc2 249 dX12_lean_246 kX12_126 rfl ?_
                    refine a_ladd 250 dX12_lean_249 rfl ?_
                    refine a_putL 253 dX12_lean_250 fX12_114 (Or.inl rfl) hM.1 rfl rfl ?_
                    refine a_iload 255 dX12_lean_253 rfl rfl ?_
                    refine a_ireturn dX12_lean_255 rfl ⟨Nat.zero_le _, Nat.zero_le _⟩ ?_
                    first
                    | (exfalso; omega)
                    | (refine Or.inl ⟨by omega, congrArg vI (?_ : _ = leanV g1.2.1 k m), (?_ : _ = gL g1 1000 1 (leanT k (g1.2.2.1 1000 1)))⟩
                       · unfold leanV lean1; repeat (first | rw [if_pos (by omega)] | rw [if_neg (by omega)])
                       · unfold leanT; repeat (first | rw [if_pos (by omega)] | rw [if_neg (by omega)])
                         all_goals first | rfl | exact gL_gL _ _ _ _ _ | exact (gL_gL _ _ _ _ _).trans (gL_gL _ _ _ _ _))
                · skip
                  refine a_iload 204 dX12_lean_202 rfl rfl ?_
                  refine a_aload_n 205 dX12_lean_204 rfl rfl ?_
                  refine a_getR 208 dX12_lean_205 fX12_37 hM.1 rfl (mr_14 hM).1 rfl ?_
                  refine a_iload_n 209 dX12_lean_208 rfl rfl ?_
                  refine a_iconst (z := 3) 210 dX12_lean_209 rfl (zrl rfl) rfl ?_
                  refine a_iadd 211 dX12_lean_210 (by unfold zr; omega) rfl ?_
                  refine a_ialdz (g1.2.1 1014 (10 * m + 3).toNat) 212 dX12_lean_211 (mr_14 hM).2 (by omega) (by omega) rfl rfl ?_
                  refine a_iadd 213 dX12_lean_212 (by unfold zr; omega) rfl ?_
                  refine a_istore 215 dX12_lean_213 (by decide) rfl rfl ?_
                  refine a_aload_n 216 dX12_lean_215 rfl rfl ?_
                  refine a_dup 217 dX12_lean_216 (by intro w h; cases h) rfl ?_
                  refine a_getL 220 dX12_lean_217 fX12_114 hM.1 rfl rfl ?_
                  refine a_ldc2 223 dX12_lean_220 kX12_124 rfl ?_
                  refine a_ladd 224 dX12_lean_223 rfl ?_
                  refine a_putL 227 dX12_lean_224 fX12_114 (Or.inl rfl) hM.1 rfl rfl ?_
                  refine a_goto 253 dX12_lean_227 (by decide) ?_
                  refine a_iload 255 dX12_lean_253 rfl rfl ?_
                  refine a_ireturn dX12_lean_255 rfl ⟨Nat.zero_le _, Nat.zero_le _⟩ ?_
                  first
                  | (exfalso; omega)
                  | (refine Or.inl ⟨by omega, congrArg vI (?_ : _ = leanV g1.2.1 k m), (?_ : _ = gL g1 1000 1 (leanT k (g1.2.2.1 1000 1)))⟩
                     · unfold leanV lean1; repeat (first | rw [if_pos (by omega)] | rw [if_neg (by omega)])
                     · unfold leanT; repeat (first | rw [if_pos (by omega)] | rw [if_neg (by omega)])
                       all_goals first | rfl | exact gL_gL _ _ _ _ _ | exact (gL_gL _ _ _ _ _).trans (gL_gL _ _ _ _ _))
              · skip
                refine a_iload 175 dX12_lean_173 rfl rfl ?_
                refine a_iload 177 dX12_lean_175 rfl rfl ?_
                refine a_iconst (z := 3) 178 dX12_lean_177 rfl (zrl rfl) rfl ?_
                refine a_idiv 179 dX12_lean_178 (by omega) (by omega) rfl ?_
                refine a_iadd 180 dX12_lean_179 (by unfold zr; omega) rfl ?_
                refine a_istore 182 dX12_lean_180 (by decide) rfl rfl ?_
                refine a_aload_n 183 dX12_lean_182 rfl rfl ?_
                refine a_dup 184 dX12_lean_183 (by intro w h; cases h) rfl ?_
                refine a_getL 187 dX12_lean_184 fX12_114 hM.1 rfl rfl ?_
                refine a_ldc2 190 dX12_lean_187 kX12_122 rfl ?_
                refine a_ladd 191 dX12_lean_190 rfl ?_
                refine a_putL 194 dX12_lean_191 fX12_114 (Or.inl rfl) hM.1 rfl rfl ?_
                refine a_goto 253 dX12_lean_194 (by decide) ?_
                refine a_iload 255 dX12_lean_253 rfl rfl ?_
                refine a_ireturn dX12_lean_255 rfl ⟨Nat.zero_le _, Nat.zero_le _⟩ ?_
                first
                | (exfalso; omega)
                | (refine Or.inl ⟨by omega, congrArg vI (?_ : _ = leanV g1.2.1 k m), (?_ : _ = gL g1 1000 1 (leanT k (g1.2.2.1 1000 1)))⟩
                   · unfold leanV lean1; repeat (first | rw [if_pos (by omega)] | rw [if_neg (by omega)])
                   · unfold leanT; repeat (first | rw [if_pos (by omega)] | rw [if_neg (by omega)])
                     all_goals first | rfl | exact gL_gL _ _ _ _ _ | exact (gL_gL _ _ _ _ _).trans (gL_gL _ _ _ _ _))
            · skip
              refine a_iload 130 dX12_lean_128 rfl rfl ?_
              refine a_aload_n 131 dX12_lean_130 rfl rfl ?_
              refine a_getR 134 dX12_lean_131 fX12_37 hM.1 rfl (mr_14 hM).1 rfl ?_
              refine a_iload_n 135 dX12_lean_134 rfl rfl ?_
              refine a_bipush (z := 8) 137 dX12_lean_135 rfl (zrl rfl) rfl ?_
              refine a_iadd 138 dX12_lean_137 (by unfold zr; omega) rfl ?_
              refine a_ialdz (g1.2.1 1014 (10 * m + 8).toNat) 139 dX12_lean_138 (mr_14 hM).2 (by omega) (by omega) rfl rfl ?_
              refine a_bipush (z := (-9)) 141 dX12_lean_139 rfl (zrl rfl) rfl ?_
              refine a_icmp_ne 148 144 dX12_lean_141 (by decide) rfl (fun c141 => ?_) (fun c141 => ?_)
              · skip
                refine a_bipush (z := 7) 150 dX12_lean_148 rfl (zrl rfl) rfl ?_
                refine a_iadd 151 dX12_lean_150 (by unfold zr; omega) rfl ?_
                refine a_istore 153 dX12_lean_151 (by decide) rfl rfl ?_
                refine a_aload_n 154 dX12_lean_153 rfl rfl ?_
                refine a_dup 155 dX12_lean_154 (by intro w h; cases h) rfl ?_
                refine a_getL 158 dX12_lean_155 fX12_114 hM.1 rfl rfl ?_
                refine a_ldc2 161 dX12_lean_158 kX12_120 rfl ?_
                refine a_ladd 162 dX12_lean_161 rfl ?_
                refine a_putL 165 dX12_lean_162 fX12_114 (Or.inl rfl) hM.1 rfl rfl ?_
                refine a_goto 253 dX12_lean_165 (by decide) ?_
                refine a_iload 255 dX12_lean_253 rfl rfl ?_
                refine a_ireturn dX12_lean_255 rfl ⟨Nat.zero_le _, Nat.zero_le _⟩ ?_
                first
                | (exfalso; omega)
                | (refine Or.inl ⟨by omega, congrArg vI (?_ : _ = leanV g1.2.1 k m), (?_ : _ = gL g1 1000 1 (leanT k (g1.2.2.1 1000 1)))⟩
                   · unfold leanV lean1; repeat (first | rw [if_pos (by omega)] | rw [if_neg (by omega)])
                   · unfold leanT; repeat (first | rw [if_pos (by omega)] | rw [if_neg (by omega)])
                     all_goals first | rfl | exact gL_gL _ _ _ _ _ | exact (gL_gL _ _ _ _ _).trans (gL_gL _ _ _ _ _))
              · skip
                refine a_iconst (z := 0) 145 dX12_lean_144 rfl (zrl rfl) rfl ?_
                refine a_goto 150 dX12_lean_145 (by decide) ?_
                refine a_iadd 151 dX12_lean_150 (by unfold zr; omega) rfl ?_
                refine a_istore 153 dX12_lean_151 (by decide) rfl rfl ?_
                refine a_aload_n 154 dX12_lean_153 rfl rfl ?_
                refine a_dup 155 dX12_lean_154 (by intro w h; cases h) rfl ?_
                refine a_getL 158 dX12_lean_155 fX12_114 hM.1 rfl rfl ?_
                refine a_ldc2 161 dX12_lean_158 kX12_120 rfl ?_
                refine a_ladd 162 dX12_lean_161 rfl ?_
                refine a_putL 165 dX12_lean_162 fX12_114 (Or.inl rfl) hM.1 rfl rfl ?_
                refine a_goto 253 dX12_lean_165 (by decide) ?_
                refine a_iload 255 dX12_lean_253 rfl rfl ?_
                refine a_ireturn dX12_lean_255 rfl ⟨Nat.zero_le _, Nat.zero_le _⟩ ?_
                first
                | (exfalso; omega)
                | (refine Or.inl ⟨by omega, congrArg vI (?_ : _ = leanV g1.2.1 k m), (?_ : _ = gL g1 1000 1 (leanT k (g1.2.2.1 1000 1)))⟩
                   · unfold leanV lean1; repeat (first | rw [if_pos (by omega)] | rw [if_neg (by omega)])
                   · unfold leanT; repeat (first | rw [if_pos (by omega)] | rw [if_neg (by omega)])
                     all_goals first | rfl | exact gL_gL _ _ _ _ _ | exact (gL_gL _ _ _ _ _).trans (gL_gL _ _ _ _ _))
          · skip
            refine a_iconst (z := 0) 73 dX12_lean_72 rfl (zrl rfl) rfl ?_
            refine a_istore 75 dX12_lean_73 (by decide) rfl rfl ?_
            refine a_iload 77 dX12_lean_75 rfl rfl ?_
            refine a_iconst (z := 3) 78 dX12_lean_77 rfl (zrl rfl) rfl ?_
            refine a_icmp_ge 111 81 dX12_lean_78 (by decide) rfl (fun c78 => ?_) (fun c78 => ?_)
            · exfalso; omega
            · skip
              refine a_iload 83 dX12_lean_81 rfl rfl ?_
              refine AW.cut (J := 102) (P := fun z => z = rdI (g1.2.1 1014 (10 * m + 5 + (0)).toNat)) ?_ (fun J102 => ?_)
              · intro z102 h102
                have hw0 : 0 ≤ z102 ∧ z102 ≤ 4 := by rw [h102]; unfold rdI; split <;> omega
                subst h102
                refine a_iadd 103 dX12_lean_102 (by unfold zr; omega) rfl ?_
                refine a_istore 105 dX12_lean_103 (by decide) rfl rfl ?_
                refine a_iinc 108 dX12_lean_105 rfl (by unfold zr; omega) (by decide) rfl rfl ?_
                refine a_goto 75 dX12_lean_108 (by decide) ?_
                refine a_iload 77 dX12_lean_75 rfl rfl ?_
                refine a_iconst (z := 3) 78 dX12_lean_77 rfl (zrl rfl) rfl ?_
                refine a_icmp_ge 111 81 dX12_lean_78 (by decide) rfl (fun c78 => ?_) (fun c78 => ?_)
                · exfalso; omega
                · skip
                  refine a_iload 83 dX12_lean_81 rfl rfl ?_
                  refine AW.cut (J := 102) (P := fun z => z = rdI (g1.2.1 1014 (10 * m + 5 + (0 + 1)).toNat)) ?_ (fun J102 => ?_)
                  · intro z102 h102
                    have hw1 : 0 ≤ z102 ∧ z102 ≤ 4 := by rw [h102]; unfold rdI; split <;> omega
                    subst h102
                    refine a_iadd 103 dX12_lean_102 (by unfold zr; omega) rfl ?_
                    refine a_istore 105 dX12_lean_103 (by decide) rfl rfl ?_
                    refine a_iinc 108 dX12_lean_105 rfl (by unfold zr; omega) (by decide) rfl rfl ?_
                    refine a_goto 75 dX12_lean_108 (by decide) ?_
                    refine a_iload 77 dX12_lean_75 rfl rfl ?_
                    refine a_iconst (z := 3) 78 dX12_lean_77 rfl (zrl rfl) rfl ?_
                    refine a_icmp_ge 111 81 dX12_lean_78 (by decide) rfl (fun c78 => ?_) (fun c78 => ?_)
                    · exfalso; omega
                    · skip
                      refine a_iload 83 dX12_lean_81 rfl rfl ?_
                      refine AW.cut (J := 102) (P := fun z => z = rdI (g1.2.1 1014 (10 * m + 5 + (0 + 1 + 1)).toNat)) ?_ (fun J102 => ?_)
                      · intro z102 h102
                        have hw2 : 0 ≤ z102 ∧ z102 ≤ 4 := by rw [h102]; unfold rdI; split <;> omega
                        subst h102
                        refine a_iadd 103 dX12_lean_102 (by unfold zr; omega) rfl ?_
                        refine a_istore 105 dX12_lean_103 (by decide) rfl rfl ?_
                        refine a_iinc 108 dX12_lean_105 rfl (by unfold zr; omega) (by decide) rfl rfl ?_
                        refine a_goto 75 dX12_lean_108 (by decide) ?_
                        refine a_iload 77 dX12_lean_75 rfl rfl ?_
                        refine a_iconst (z := 3) 78 dX12_lean_77 rfl (zrl rfl) rfl ?_
                        refine a_icmp_ge 111 81 dX12_lean_78 (by decide) rfl (fun c78 => ?_) (fun c78 => ?_)
                        · skip
                          refine a_aload_n 112 dX12_lean_111 rfl rfl ?_
                          refine a_dup 113 dX12_lean_112 (by intro w h; cases h) rfl ?_
                          refine a_getL 116 dX12_lean_113 fX12_114 hM.1 rfl rfl ?_
                          refine a_ldc2 119 dX12_lean_116 kX12_118 rfl ?_
                          refine a_ladd 120 dX12_lean_119 rfl ?_
                          refine a_putL 123 dX12_lean_120 fX12_114 (Or.inl rfl) hM.1 rfl rfl ?_
                          refine a_iload_n 124 dX12_lean_123 rfl rfl ?_
                          refine a_iconst (z := 2) 125 dX12_lean_124 rfl (zrl rfl) rfl ?_
                          refine a_icmp_ne 168 128 dX12_lean_125 (by decide) rfl (fun c125 => ?_) (fun c125 => ?_)
                          · skip
                            refine a_iload_n 169 dX12_lean_168 rfl rfl ?_
                            refine a_iconst (z := 3) 170 dX12_lean_169 rfl (zrl rfl) rfl ?_
                            refine a_icmp_ne 197 173 dX12_lean_170 (by decide) rfl (fun c170 => ?_) (fun c170 => ?_)
                            · skip
                              refine a_iload_n 198 dX12_lean_197 rfl rfl ?_
                              refine a_iconst (z := 4) 199 dX12_lean_198 rfl (zrl rfl) rfl ?_
                              refine a_icmp_ne 230 202 dX12_lean_199 (by decide) rfl (fun c199 => ?_) (fun c199 => ?_)
                              · skip
                                refine a_iload_n 231 dX12_lean_230 rfl rfl ?_
                                refine a_iconst (z := 5) 232 dX12_lean_231 rfl (zrl rfl) rfl ?_
                                refine a_icmp_ne 253 235 dX12_lean_232 (by decide) rfl (fun c232 => ?_) (fun c232 => ?_)
                                · skip
                                  refine a_iload 255 dX12_lean_253 rfl rfl ?_
                                  refine a_ireturn dX12_lean_255 rfl ⟨Nat.zero_le _, Nat.zero_le _⟩ ?_
                                  first
                                  | (exfalso; omega)
                                  | (refine Or.inl ⟨by omega, congrArg vI (?_ : _ = leanV g1.2.1 k m), (?_ : _ = gL g1 1000 1 (leanT k (g1.2.2.1 1000 1)))⟩
                                     · unfold leanV lean1; repeat (first | rw [if_pos (by omega)] | rw [if_neg (by omega)])
                                     · unfold leanT; repeat (first | rw [if_pos (by omega)] | rw [if_neg (by omega)])
                                       all_goals first | rfl | exact gL_gL _ _ _ _ _ | exact (gL_gL _ _ _ _ _).trans (gL_gL _ _ _ _ _))
                                · skip
                                  refine a_iload 237 dX12_lean_235 rfl rfl ?_
                                  refine a_iconst (z := 2) 238 dX12_lean_237 rfl (zrl rfl) rfl ?_
                                  refine a_idiv 239 dX12_lean_238 (by omega) (by omega) rfl ?_
                                  refine a_istore 241 dX12_lean_239 (by decide) rfl rfl ?_
                                  refine a_aload_n 242 dX12_lean_241 rfl rfl ?_
                                  refine a_dup 243 dX12_lean_242 (by intro w h; cases h) rfl ?_
                                  refine a_getL 246 dX12_lean_243 fX12_114 hM.1 rfl rfl ?_
                                  refine a_ldc2 249 dX12_lean_246 kX12_126 rfl ?_
                                  refine a_ladd 250 dX12_lean_249 rfl ?_
                                  refine a_putL 253 dX12_lean_250 fX12_114 (Or.inl rfl) hM.1 rfl rfl ?_
                                  refine a_iload 255 dX12_lean_253 rfl rfl ?_
                                  refine a_ireturn dX12_lean_255 rfl ⟨Nat.zero_le _, Nat.zero_le _⟩ ?_
                                  first
                                  | (exfalso; omega)
                                  | (refine Or.inl ⟨by omega, congrArg vI (?_ : _ = leanV g1.2.1 k m), (?_ : _ = gL g1 1000 1 (leanT k (g1.2.2.1 1000 1)))⟩
                                     · unfold leanV lean1; repeat (first | rw [if_pos (by omega)] | rw [if_neg (by omega)])
                                     · unfold leanT; repeat (first | rw [if_pos (by omega)] | rw [if_neg (by omega)])
                                       all_goals first | rfl | exact gL_gL _ _ _ _ _ | exact (gL_gL _ _ _ _ _).trans (gL_gL _ _ _ _ _))
                              · skip
                                refine a_iload 204 dX12_lean_202 rfl rfl ?_
                                refine a_aload_n 205 dX12_lean_204 rfl rfl ?_
                                refine a_getR 208 dX12_lean_205 fX12_37 hM.1 rfl (mr_14 hM).1 rfl ?_
                                refine a_iload_n 209 dX12_lean_208 rfl rfl ?_
                                refine a_iconst (z := 3) 210 dX12_lean_209 rfl (zrl rfl) rfl ?_
                                refine a_iadd 211 dX12_lean_210 (by unfold zr; omega) rfl ?_
                                refine a_ialdz (g1.2.1 1014 (10 * m + 3).toNat) 212 dX12_lean_211 (mr_14 hM).2 (by omega) (by omega) rfl rfl ?_
                                refine a_iadd 213 dX12_lean_212 (by unfold zr; omega) rfl ?_
                                refine a_istore 215 dX12_lean_213 (by decide) rfl rfl ?_
                                refine a_aload_n 216 dX12_lean_215 rfl rfl ?_
                                refine a_dup 217 dX12_lean_216 (by intro w h; cases h) rfl ?_
                                refine a_getL 220 dX12_lean_217 fX12_114 hM.1 rfl rfl ?_
                                refine a_ldc2 223 dX12_lean_220 kX12_124 rfl ?_
                                refine a_ladd 224 dX12_lean_223 rfl ?_
                                refine a_putL 227 dX12_lean_224 fX12_114 (Or.inl rfl) hM.1 rfl rfl ?_
                                refine a_goto 253 dX12_lean_227 (by decide) ?_
                                refine a_iload 255 dX12_lean_253 rfl rfl ?_
                                refine a_ireturn dX12_lean_255 rfl ⟨Nat.zero_le _, Nat.zero_le _⟩ ?_
                                first
                                | (exfalso; omega)
                                | (refine Or.inl ⟨by omega, congrArg vI (?_ : _ = leanV g1.2.1 k m), (?_ : _ = gL g1 1000 1 (leanT k (g1.2.2.1 1000 1)))⟩
                                   · unfold leanV lean1; repeat (first | rw [if_pos (by omega)] | rw [if_neg (by omega)])
                                   · unfold leanT; repeat (first | rw [if_pos (by omega)] | rw [if_neg (by omega)])
                                     all_goals first | rfl | exact gL_gL _ _ _ _ _ | exact (gL_gL _ _ _ _ _).trans (gL_gL _ _ _ _ _))
                            · skip
                              refine a_iload 175 dX12_lean_173 rfl rfl ?_
                              refine a_iload 177 dX12_lean_175 rfl rfl ?_
                              refine a_iconst (z := 3) 178 dX12_lean_177 rfl (zrl rfl) rfl ?_
                              refine a_idiv 179 dX12_lean_178 (by omega) (by omega) rfl ?_
                              refine a_iadd 180 dX12_lean_179 (by unfold zr; omega) rfl ?_
                              refine a_istore 182 dX12_lean_180 (by decide) rfl rfl ?_
                              refine a_aload_n 183 dX12_lean_182 rfl rfl ?_
                              refine a_dup 184 dX12_lean_183 (by intro w h; cases h) rfl ?_
                              refine a_getL 187 dX12_lean_184 fX12_114 hM.1 rfl rfl ?_
                              refine a_ldc2 190 dX12_lean_187 kX12_122 rfl ?_
                              refine a_ladd 191 dX12_lean_190 rfl ?_
                              refine a_putL 194 dX12_lean_191 fX12_114 (Or.inl rfl) hM.1 rfl rfl ?_
                              refine a_goto 253 dX12_lean_194 (by decide) ?_
                              refine a_iload 255 dX12_lean_253 rfl rfl ?_
                              refine a_ireturn dX12_lean_255 rfl ⟨Nat.zero_le _, Nat.zero_le _⟩ ?_
                              first
                              | (exfalso; omega)
                              | (refine Or.inl ⟨by omega, congrArg vI (?_ : _ = leanV g1.2.1 k m), (?_ : _ = gL g1 1000 1 (leanT k (g1.2.2.1 1000 1)))⟩
                                 · unfold leanV lean1; repeat (first | rw [if_pos (by omega)] | rw [if_neg (by omega)])
                                 · unfold leanT; repeat (first | rw [if_pos (by omega)] | rw [if_neg (by omega)])
                                   all_goals first | rfl | exact gL_gL _ _ _ _ _ | exact (gL_gL _ _ _ _ _).trans (gL_gL _ _ _ _ _))
                          · skip
                            refine a_iload 130 dX12_lean_128 rfl rfl ?_
                            refine a_aload_n 131 dX12_lean_130 rfl rfl ?_
                            refine a_getR 134 dX12_lean_131 fX12_37 hM.1 rfl (mr_14 hM).1 rfl ?_
                            refine a_iload_n 135 dX12_lean_134 rfl rfl ?_
                            refine a_bipush (z := 8) 137 dX12_lean_135 rfl (zrl rfl) rfl ?_
                            refine a_iadd 138 dX12_lean_137 (by unfold zr; omega) rfl ?_
                            refine a_ialdz (g1.2.1 1014 (10 * m + 8).toNat) 139 dX12_lean_138 (mr_14 hM).2 (by omega) (by omega) rfl rfl ?_
                            refine a_bipush (z := (-9)) 141 dX12_lean_139 rfl (zrl rfl) rfl ?_
                            refine a_icmp_ne 148 144 dX12_lean_141 (by decide) rfl (fun c141 => ?_) (fun c141 => ?_)
                            · skip
                              refine a_bipush (z := 7) 150 dX12_lean_148 rfl (zrl rfl) rfl ?_
                              refine a_iadd 151 dX12_lean_150 (by unfold zr; omega) rfl ?_
                              refine a_istore 153 dX12_lean_151 (by decide) rfl rfl ?_
                              refine a_aload_n 154 dX12_lean_153 rfl rfl ?_
                              refine a_dup 155 dX12_lean_154 (by intro w h; cases h) rfl ?_
                              refine a_getL 158 dX12_lean_155 fX12_114 hM.1 rfl rfl ?_
                              refine a_ldc2 161 dX12_lean_158 kX12_120 rfl ?_
                              refine a_ladd 162 dX12_lean_161 rfl ?_
                              refine a_putL 165 dX12_lean_162 fX12_114 (Or.inl rfl) hM.1 rfl rfl ?_
                              refine a_goto 253 dX12_lean_165 (by decide) ?_
                              refine a_iload 255 dX12_lean_253 rfl rfl ?_
                              refine a_ireturn dX12_lean_255 rfl ⟨Nat.zero_le _, Nat.zero_le _⟩ ?_
                              first
                              | (exfalso; omega)
                              | (refine Or.inl ⟨by omega, congrArg vI (?_ : _ = leanV g1.2.1 k m), (?_ : _ = gL g1 1000 1 (leanT k (g1.2.2.1 1000 1)))⟩
                                 · unfold leanV lean1; repeat (first | rw [if_pos (by omega)] | rw [if_neg (by omega)])
                                 · unfold leanT; repeat (first | rw [if_pos (by omega)] | rw [if_neg (by omega)])
                                   all_goals first | rfl | exact gL_gL _ _ _ _ _ | exact (gL_gL _ _ _ _ _).trans (gL_gL _ _ _ _ _))
                            · skip
                              refine a_iconst (z := 0) 145 dX12_lean_144 rfl (zrl rfl) rfl ?_
                              refine a_goto 150 dX12_lean_145 (by decide) ?_
                              refine a_iadd 151 dX12_lean_150 (by unfold zr; omega) rfl ?_
                              refine a_istore 153 dX12_lean_151 (by decide) rfl rfl ?_
                              refine a_aload_n 154 dX12_lean_153 rfl rfl ?_
                              refine a_dup 155 dX12_lean_154 (by intro w h; cases h) rfl ?_
                              refine a_getL 158 dX12_lean_155 fX12_114 hM.1 rfl rfl ?_
                              refine a_ldc2 161 dX12_lean_158 kX12_120 rfl ?_
                              refine a_ladd 162 dX12_lean_161 rfl ?_
                              refine a_putL 165 dX12_lean_162 fX12_114 (Or.inl rfl) hM.1 rfl rfl ?_
                              refine a_goto 253 dX12_lean_165 (by decide) ?_
                              refine a_iload 255 dX12_lean_253 rfl rfl ?_
                              refine a_ireturn dX12_lean_255 rfl ⟨Nat.zero_le _, Nat.zero_le _⟩ ?_
                              first
                              | (exfalso; omega)
                              | (refine Or.inl ⟨by omega, congrArg vI (?_ : _ = leanV g1.2.1 k m), (?_ : _ = gL g1 1000 1 (leanT k (g1.2.2.1 1000 1)))⟩
                                 · unfold leanV lean1; repeat (first | rw [if_pos (by omega)] | rw [if_neg (by omega)])
                                 · unfold leanT; repeat (first | rw [if_pos (by omega)] | rw [if_neg (by omega)])
                                   all_goals first | rfl | exact gL_gL _ _ _ _ _ | exact (gL_gL _ _ _ _ _).trans (gL_gL _ _ _ _ _))
                        · exfalso; omega
                      · skip
                        refine a_aload_n 84 dX12_lean_83 rfl rfl ?_
                        refine a_getR 87 dX12_lean_84 fX12_37 hM.1 rfl (mr_14 hM).1 rfl ?_
                        refine a_iload_n 88 dX12_lean_87 rfl rfl ?_
                        refine a_iconst (z := 5) 89 dX12_lean_88 rfl (zrl rfl) rfl ?_
                        refine a_iadd 90 dX12_lean_89 (by unfold zr; omega) rfl ?_
                        refine a_iload 92 dX12_lean_90 rfl rfl ?_
                        refine a_iadd 93 dX12_lean_92 (by unfold zr; omega) rfl ?_
                        refine a_ialdz (g1.2.1 1014 (10 * m + 5 + (0 + 1 + 1)).toNat) 94 dX12_lean_93 (mr_14 hM).2 (by omega) (by omega) rfl rfl ?_
                        refine a_if_ge 101 97 dX12_lean_94 (by decide) rfl (fun c94 => ?_) (fun c94 => ?_)
                        · skip
                          refine a_iconst (z := 4) 102 dX12_lean_101 rfl (zrl rfl) rfl ?_
                          exact J102 _ (by unfold rdI; first | rw [if_pos (by omega)] | rw [if_neg (by omega)])
                        · skip
                          refine a_iconst (z := 0) 98 dX12_lean_97 rfl (zrl rfl) rfl ?_
                          refine a_goto 102 dX12_lean_98 (by decide) ?_
                          exact J102 _ (by unfold rdI; first | rw [if_pos (by omega)] | rw [if_neg (by omega)])
                  · skip
                    refine a_aload_n 84 dX12_lean_83 rfl rfl ?_
                    refine a_getR 87 dX12_lean_84 fX12_37 hM.1 rfl (mr_14 hM).1 rfl ?_
                    refine a_iload_n 88 dX12_lean_87 rfl rfl ?_
                    refine a_iconst (z := 5) 89 dX12_lean_88 rfl (zrl rfl) rfl ?_
                    refine a_iadd 90 dX12_lean_89 (by unfold zr; omega) rfl ?_
                    refine a_iload 92 dX12_lean_90 rfl rfl ?_
                    refine a_iadd 93 dX12_lean_92 (by unfold zr; omega) rfl ?_
                    refine a_ialdz (g1.2.1 1014 (10 * m + 5 + (0 + 1)).toNat) 94 dX12_lean_93 (mr_14 hM).2 (by omega) (by omega) rfl rfl ?_
                    refine a_if_ge 101 97 dX12_lean_94 (by decide) rfl (fun c94 => ?_) (fun c94 => ?_)
                    · skip
                      refine a_iconst (z := 4) 102 dX12_lean_101 rfl (zrl rfl) rfl ?_
                      exact J102 _ (by unfold rdI; first | rw [if_pos (by omega)] | rw [if_neg (by omega)])
                    · skip
                      refine a_iconst (z := 0) 98 dX12_lean_97 rfl (zrl rfl) rfl ?_
                      refine a_goto 102 dX12_lean_98 (by decide) ?_
                      exact J102 _ (by unfold rdI; first | rw [if_pos (by omega)] | rw [if_neg (by omega)])
              · skip
                refine a_aload_n 84 dX12_lean_83 rfl rfl ?_
                refine a_getR 87 dX12_lean_84 fX12_37 hM.1 rfl (mr_14 hM).1 rfl ?_
                refine a_iload_n 88 dX12_lean_87 rfl rfl ?_
                refine a_iconst (z := 5) 89 dX12_lean_88 rfl (zrl rfl) rfl ?_
                refine a_iadd 90 dX12_lean_89 (by unfold zr; omega) rfl ?_
                refine a_iload 92 dX12_lean_90 rfl rfl ?_
                refine a_iadd 93 dX12_lean_92 (by unfold zr; omega) rfl ?_
                refine a_ialdz (g1.2.1 1014 (10 * m + 5 + (0)).toNat) 94 dX12_lean_93 (mr_14 hM).2 (by omega) (by omega) rfl rfl ?_
                refine a_if_ge 101 97 dX12_lean_94 (by decide) rfl (fun c94 => ?_) (fun c94 => ?_)
                · skip
                  refine a_iconst (z := 4) 102 dX12_lean_101 rfl (zrl rfl) rfl ?_
                  exact J102 _ (by unfold rdI; first | rw [if_pos (by omega)] | rw [if_neg (by omega)])
                · skip
                  refine a_iconst (z := 0) 98 dX12_lean_97 rfl (zrl rfl) rfl ?_
                  refine a_goto 102 dX12_lean_98 (by decide) ?_
                  exact J102 _ (by unfold rdI; first | rw [if_pos (by omega)] | rw [if_neg (by omega)])
      · skip
        refine a_aload_n 32 dX12_lean_31 rfl rfl ?_
        refine a_getR 35 dX12_lean_32 fX12_37 hM.1 rfl (mr_14 hM).1 rfl ?_
        refine a_iload_n 36 dX12_lean_35 rfl rfl ?_
        refine a_iconst (z := 2) 37 dX12_lean_36 rfl (zrl rfl) rfl ?_
        refine a_iadd 38 dX12_lean_37 (by unfold zr; omega) rfl ?_
        refine a_iald 39 dX12_lean_38 (mr_14 hM).2 (by omega) (by omega) rfl ?_
        refine a_bipush (z := (-9)) 41 dX12_lean_39 rfl (zrl rfl) rfl ?_
        refine a_icmp_ne 48 44 dX12_lean_41 (by decide) rfl (fun c41 => ?_) (fun c41 => ?_)
        · skip
          refine a_iconst (z := 5) 49 dX12_lean_48 rfl (zrl rfl) rfl ?_
          exact J49 _ (by first | rw [if_pos (by omega)] | rw [if_neg (by omega)])
        · skip
          refine a_iconst (z := 0) 45 dX12_lean_44 rfl (zrl rfl) rfl ?_
          refine a_goto 49 dX12_lean_45 (by decide) ?_
          exact J49 _ (by first | rw [if_pos (by omega)] | rw [if_neg (by omega)])
    · skip
      refine a_iconst (z := (-1)) 23 dX12_lean_22 rfl (zrl rfl) rfl ?_
      refine a_ireturn dX12_lean_23 rfl ⟨Nat.zero_le _, Nat.zero_le _⟩ ?_
      exact Or.inr ⟨by omega, rfl, rfl⟩
set_option maxHeartbeats 4000000 in
set_option maxRecDepth 100000 in
theorem r_type (g : GH) (n : Int) (v : Int64) (hM : MR g) (hV : MV g.2.1) : AMet mX12_type g [vA 1000, vL v, vI n] (fun r g' => ((1 ≤ n ∧ n ≤ 8) ∧ (gI g 1000 0 0).2.1 1000 29 + n ≤ 600 ∧ r = vI ((gI g 1000 0 0).2.1 1000 29 + n) ∧ g' = ((gI g 1000 0 0).1, typed v n ((gI g 1000 0 0).2.1 1000 29) n (gI g 1000 0 0).2.1, (gI g 1000 0 0).2.2)) ∨ ((1 ≤ n ∧ n ≤ 8) ∧ 600 < (gI g 1000 0 0).2.1 1000 29 + n ∧ r = vI (-3) ∧ g' = gI g 1000 0 0) ∨ (¬ (1 ≤ n ∧ n ≤ 8) ∧ r = vI (-1) ∧ g' = gI g 1000 0 0)) := by
  refine AMet.of [vA 1000, vL v, none, vI n, none] (by decide) rfl (Nat.le_of_ble_eq_true rfl) ?_
  refine a_aload_n 1 dX12_type_0 rfl rfl ?_
  refine a_iconst (z := 0) 2 dX12_type_1 rfl (zrl rfl) rfl ?_
  refine a_putI 5 dX12_type_2 fX12_80 (Or.inl rfl) hM.1 (Or.inl rfl) rfl ?_
  have hM : MR (gI g 1000 0 0) := hM
  have hV : MV (gI g 1000 0 0).2.1 := MV_th hV
  have hc := hV.1
  unfold MVc at hc
  generalize gI g 1000 0 0 = g1 at hM hV hc ⊢
  refine a_iload_n 6 dX12_type_5 rfl rfl ?_
  refine a_iconst (z := 1) 7 dX12_type_6 rfl (zrl rfl) rfl ?_
  refine a_bipush (z := 8) 9 dX12_type_7 rfl (zrl rfl) rfl ?_
  refine a_callS 12 (r_in _ _ _ _) cdX12_in lX12_84 dX12_type_9 rfl rfl ⟨by decide, by decide, rfl, rfl⟩ ⟨Nat.zero_le _, Nat.zero_le _⟩ (Nat.le_of_ble_eq_true rfl) rfl ?_
  rintro _ _ - ⟨b9, rfl, rfl, h9⟩ -
  refine a_if_ne 17 15 dX12_type_12 (by decide) rfl (fun c12 => ?_) (fun c12 => ?_)
  · skip
    refine a_aload_n 18 dX12_type_17 rfl rfl ?_
    refine a_getIz (g1.2.1 1000 29) 21 dX12_type_18 fX12_168 hM.1 rfl rfl rfl ?_
    refine a_iload_n 22 dX12_type_21 rfl rfl ?_
    refine a_iadd 23 dX12_type_22 (by unfold zr; omega) rfl ?_
    refine a_sipush (z := 600) 26 dX12_type_23 rfl (zrl rfl) rfl ?_
    refine a_icmp_le 32 29 dX12_type_26 (by decide) rfl (fun c26 => ?_) (fun c26 => ?_)
    · skip
      refine a_iload_n 33 dX12_type_32 rfl rfl ?_
      refine a_iconst (z := 1) 34 dX12_type_33 rfl (zrl rfl) rfl ?_
      refine a_isub 35 dX12_type_34 (by unfold zr; omega) rfl ?_
      rw [show n - 1 = n - 1 - 0 by omega]
      refine a_istore 37 dX12_type_35 (by decide) rfl rfl ?_
      refine AW.loop (α := GH × Int) (fun p => (n - p.2).toNat) (fun p => p.1 = (g1.1, typed v n (g1.2.1 1000 29) p.2 g1.2.1, g1.2.2) ∧ 0 ≤ p.2 ∧ p.2 ≤ n) (fun p => p.1) (fun p => [vA 1000, vL v, none, vI n, vI (n - 1 - p.2)]) (fun p => []) ?_ (g1, 0) ?_
      · rintro ⟨g2, j⟩ ⟨e8, hI⟩ ih
        try dsimp only at hI ih ⊢
        dsimp only at e8
        subst e8
        have e9 : typed v n (g1.2.1 1000 29) j g1.2.1 1000 29 = g1.2.1 1000 29 + j := by unfold typed; rw [if_neg (by omega), if_pos ⟨rfl, rfl⟩]
        refine a_iload 39 dX12_type_37 rfl rfl ?_
        refine a_if_lt 79 42 dX12_type_39 (by decide) rfl (fun c39 => ?_) (fun c39 => ?_)
        · skip
          refine a_aload_n 80 dX12_type_79 rfl rfl ?_
          refine a_getIz (g1.2.1 1000 29 + j) 83 dX12_type_80 fX12_168 hM.1 rfl e9 rfl ?_
          refine a_ireturn dX12_type_83 rfl ⟨Nat.zero_le _, Nat.zero_le _⟩ ?_
          have e : j = n := by omega
          subst e
          exact Or.inl ⟨by omega, by omega, rfl, rfl⟩
        · skip
          refine a_aload_n 43 dX12_type_42 rfl rfl ?_
          refine a_getR 46 dX12_type_43 fX12_71 hM.1 rfl (mr_28 hM).1 rfl ?_
          refine a_aload_n 47 dX12_type_46 rfl rfl ?_
          refine a_getIz (g1.2.1 1000 29 + j) 50 dX12_type_47 fX12_168 hM.1 rfl e9 rfl ?_
          refine a_lload_n 51 dX12_type_50 rfl rfl ?_
          refine a_bipush (z := 8) 53 dX12_type_51 rfl (zrl rfl) rfl ?_
          refine a_iload 55 dX12_type_53 rfl rfl ?_
          refine a_imul 56 dX12_type_55 (by unfold zr; omega) rfl ?_
          refine a_lshr 57 dX12_type_56 rfl rfl ?_
          refine a_ldc2 60 dX12_type_57 kX12_171 rfl ?_
          refine a_land 61 dX12_type_60 rfl ?_
          refine a_l2i 62 dX12_type_61 rfl ?_
          refine a_iast 63 dX12_type_62 (mr_28 hM).2 (by omega) (by omega) rfl ?_
          refine a_aload_n 64 dX12_type_63 rfl rfl ?_
          refine a_dup 65 dX12_type_64 (by intro w h; cases h) rfl ?_
          refine a_getIz (g1.2.1 1000 29 + j) 68 dX12_type_65 fX12_168 hM.1 rfl ((gI_n (Or.inl (by decide))).trans e9) rfl ?_
          refine a_iconst (z := 1) 69 dX12_type_68 rfl (zrl rfl) rfl ?_
          refine a_iadd 70 dX12_type_69 (by unfold zr; omega) rfl ?_
          refine a_putI 73 dX12_type_70 fX12_168 (Or.inl rfl) hM.1 (Or.inl rfl) rfl ?_
          refine a_iinc 76 dX12_type_73 rfl (by unfold zr; omega) (by decide) rfl rfl ?_
          refine a_goto 37 dX12_type_76 (by decide) ?_
          rw [show n - 1 - j + -1 = n - 1 - (j + 1) by omega]
          refine ih (_, j + 1) ⟨?_, by omega, by omega⟩ (by dsimp only; omega)
          show gI (gI (g1.1, typed v n (g1.2.1 1000 29) j g1.2.1, g1.2.2) 1028 (g1.2.1 1000 29 + j).toNat (byt v (n - 1 - j))) 1000 29 (g1.2.1 1000 29 + j + 1) = _
          unfold gI; dsimp only; rw [typed_s (by omega) hI.1 rfl]
      · exact ⟨by rw [typed_0], by omega, by omega⟩
    · skip
      refine a_bipush (z := (-3)) 31 dX12_type_29 rfl (zrl rfl) rfl ?_
      refine a_ireturn dX12_type_31 rfl ⟨Nat.zero_le _, Nat.zero_le _⟩ ?_
      exact Or.inr (Or.inl ⟨by omega, by omega, rfl, rfl⟩)
  · skip
    refine a_iconst (z := (-1)) 16 dX12_type_15 rfl (zrl rfl) rfl ?_
    refine a_ireturn dX12_type_16 rfl ⟨Nat.zero_le _, Nat.zero_le _⟩ ?_
    exact Or.inr (Or.inr ⟨by omega, rfl, rfl⟩)
