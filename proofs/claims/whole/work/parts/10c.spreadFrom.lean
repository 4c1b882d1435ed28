set_option maxHeartbeats 4000000 in
set_option maxRecDepth 100000 in
theorem c10_spreadFrom (g : GH) (t d : Int) {h : Nat → Nat → Int} (hh : ∀ x k, x ≠ 20 → g.2.1 x k = h x k) (hw : CWs g) (hv : CWv h) (hV : MV h) (ht : 0 ≤ t ∧ t ≤ 5) (hd : 0 ≤ d ∧ d ≤ 999) : AMet mX10_spreadFrom g [vA 8, vI t, vI d] (fun _ g' => sameB (fun x _ => x = 20) g g' ∧ ∀ b, b < 6 → isSoon h t.toNat d b (g'.2.1 20 b)) := by
  refine AMet.of [vA 8, vI t, vI d, none, none] (by decide) rfl (Nat.le_of_ble_eq_true rfl) ?_
  refine a_aload_n 1 dX10_spreadFrom_0 rfl rfl ?_
  refine a_getR 4 dX10_spreadFrom_1 fX10_29 hw.1 rfl hw.2.1.2.2.2.2.2.1 rfl ?_
  refine a_sipush (z := 1000) 7 dX10_spreadFrom_4 rfl (zrl rfl) rfl ?_
  refine a_callS 10 (j_fill _ _ hw.2.2.1.2.2.2.2.2.1 (by decide)) cdJ7_fill_53178 lX10_39 dX10_spreadFrom_7 rfl rfl ⟨by decide, by decide, rfl, rfl⟩ ⟨Nat.zero_le _, Nat.zero_le _⟩ (Nat.le_of_ble_eq_true rfl) rfl ?_
  rintro _ g2 - rfl -
  have h2 : sameB (fun x _ => x = 20) g (gF g 20 6 1000) := ⟨rfl, rfl, fun a k q => gF_n q⟩
  have hz2 : ∀ f : Nat, f < 6 → (gF g 20 6 1000).2.1 20 f = 1000 := fun f hf => gF_i hf
  generalize gF g 20 6 1000 = g2 at h2 hz2 ⊢
  refine a_aload_n 11 dX10_spreadFrom_10 rfl rfl ?_
  refine a_getR 14 dX10_spreadFrom_11 fX10_29 (CWs.keep h2 hw).1 rfl (CWs.keep h2 hw).2.1.2.2.2.2.2.1 rfl ?_
  refine a_iload_n 15 dX10_spreadFrom_14 rfl rfl ?_
  refine a_iload_n 16 dX10_spreadFrom_15 rfl rfl ?_
  refine a_iast 17 dX10_spreadFrom_16 (CWs.keep h2 hw).2.2.1.2.2.2.2.2.1 (by omega) (by omega) rfl ?_
  have h3 : sameB (fun x _ => x = 20) g (gI g2 20 t.toNat d) := h2.wr rfl
  have e1 : (gI g2 20 t.toNat d).2.1 20 t.toNat = d := gI_s
  have e2 : ∀ k, k < 6 → k ≠ t.toNat → (gI g2 20 t.toNat d).2.1 20 k = 1000 := fun k hk q => (gI_n (Or.inr q)).trans (hz2 k hk)
  generalize gI g2 20 t.toNat d = g3 at h3 e1 e2 ⊢
  have hS3 : spB h t.toNat d (g3.2.1 20) := by
    refine ⟨fun k hk => ?_, fun k hk => ?_, Int.le_of_eq e1⟩
    · by_cases e : k = t.toNat
      · rw [e, e1]; omega
      · rw [e2 k hk e]; omega
    · by_cases e : k = t.toNat
      · right; exact ⟨0, e.symm, by rw [e, e1]⟩
      · exact Or.inl (e2 k hk e)
  have hR3 : spR h t.toNat d (g3.2.1 20) 0 := fun n hn b x p _ => by
    have hn0 : n = 0 := by omega
    subst hn0
    rw [← p.1, ← p.2]; exact Int.le_of_eq e1
  refine a_iconst (z := 1) 18 dX10_spreadFrom_17 rfl (zrl rfl) rfl ?_
  refine a_istore_n 19 dX10_spreadFrom_18 (by decide) rfl rfl ?_
  refine a_iconst (z := 0) 20 dX10_spreadFrom_19 rfl (zrl rfl) rfl ?_
  refine a_istore 22 dX10_spreadFrom_20 (by decide) rfl rfl ?_
  refine AW.loop (α := GH × Nat × Int) (fun p => 6 - p.2.1) (fun p => sameB (fun x _ => x = 20) g p.1 ∧ spB h t.toNat d (p.1.2.1 20) ∧ p.2.1 ≤ 6 ∧ spR h t.toNat d (p.1.2.1 20) p.2.1 ∧ (p.2.2 = 0 ∨ p.2.2 = 1) ∧ (p.2.2 = 0 → ∀ u v t', stp h u (p.1.2.1 20 u) v t' → t' ≤ 999 → p.1.2.1 20 v ≤ t')) (fun p => p.1) (fun p => [vA 8, vI t, vI d, vI p.2.2, vI (p.2.1 : Int)]) (fun p => []) ?_ (g3, 0, 1) ?_
  · rintro ⟨g3, r, b⟩ ⟨h3, hS3, hr6, hR3, hb3, hcl⟩ ih22
    try dsimp only at hI ih ⊢
    try dsimp only at h3 hS3 hr6 hR3 hb3 hcl ih22 ⊢
    refine a_iload 24 dX10_spreadFrom_22 rfl rfl ?_
    refine a_bipush (z := 6) 26 dX10_spreadFrom_24 rfl (zrl rfl) rfl ?_
    refine a_icmp_ge 61 29 dX10_spreadFrom_26 (by decide) rfl (fun c26 => ?_) (fun c26 => ?_)
    · skip
      refine a_return dX10_spreadFrom_61 rfl ⟨Nat.zero_le _, Nat.zero_le _⟩ ?_
      refine ⟨h3, fun b hb => ?_⟩
      first
      | (have e6 : r = 6 := by omega
         subst e6
         exact hS3.end6 hV.2.2.2.2.1 hV.2.2.2.2.2.1 (by omega) hR3 hb)
      | exact hS3.endC hV.2.2.2.2.1 hV.2.2.2.2.2.1 (by omega) (hcl c30) hb
    · skip
      refine a_iload_n 30 dX10_spreadFrom_29 rfl rfl ?_
      refine a_if_eq 61 33 dX10_spreadFrom_30 (by decide) rfl (fun c30 => ?_) (fun c30 => ?_)
      · skip
        refine a_return dX10_spreadFrom_61 rfl ⟨Nat.zero_le _, Nat.zero_le _⟩ ?_
        refine ⟨h3, fun b hb => ?_⟩
        first
        | (have e6 : r = 6 := by omega
           subst e6
           exact hS3.end6 hV.2.2.2.2.1 hV.2.2.2.2.2.1 (by omega) hR3 hb)
        | exact hS3.endC hV.2.2.2.2.1 hV.2.2.2.2.2.1 (by omega) (hcl c30) hb
      · skip
        refine a_aload_n 34 dX10_spreadFrom_33 rfl rfl ?_
        refine a_callV 37 (c10_spreadBySailings _ (fun x k hx => (h3.2.2 x k hx).trans (hh x k hx)) (CWs.keep h3 hw) hv hV hS3) cdX10_spreadBySailings lX10_45 dX10_spreadFrom_34 rfl (CWs.keep h3 hw).1 rfl ⟨by decide, by decide, rfl, rfl⟩ ⟨Nat.zero_le _, Nat.zero_le _⟩ (Nat.le_of_ble_eq_true rfl) rfl ?_
        rintro _ g4 - ⟨b4, rfl, hb4, s4, hS4, hle4, hz4, hx4⟩ -
        have h4 := h3.tr s4
        refine a_istore_n 38 dX10_spreadFrom_37 (by decide) rfl rfl ?_
        refine a_aload_n 39 dX10_spreadFrom_38 rfl rfl ?_
        refine a_callV 42 (c10_spreadByRoads _ (fun x k hx => (h4.2.2 x k hx).trans (hh x k hx)) (CWs.keep h4 hw) hv hV hS4) cdX10_spreadByRoads lX10_49 dX10_spreadFrom_39 rfl (CWs.keep h4 hw).1 rfl ⟨by decide, by decide, rfl, rfl⟩ ⟨Nat.zero_le _, Nat.zero_le _⟩ (Nat.le_of_ble_eq_true rfl) rfl ?_
        rintro _ g5 - ⟨b5, rfl, hb5, s5, hS5, hle5, hz5, hx5⟩ -
        have h5 := h4.tr s5
        refine a_if_ne 49 45 dX10_spreadFrom_42 (by decide) rfl (fun c42 => ?_) (fun c42 => ?_)
        · skip
          refine a_iconst (z := 1) 50 dX10_spreadFrom_49 rfl (zrl rfl) rfl ?_
          refine a_goto 54 dX10_spreadFrom_50 (by decide) ?_
          refine a_istore_n 55 dX10_spreadFrom_54 (by decide) rfl rfl ?_
          refine a_iinc 58 dX10_spreadFrom_55 rfl (by unfold zr; omega) (by decide) rfl rfl ?_
          refine a_goto 22 dX10_spreadFrom_58 (by decide) ?_
          have hx : ∀ u v t', stp h u (g3.2.1 20 u) v t' → t' ≤ 999 → g5.2.1 20 v ≤ t' := fun u v t' q _ => by
            obtain ⟨hu, hvv, ⟨q1, q2⟩ | ⟨s, q1, q2, q3, q4, q6, q7⟩⟩ := q
            · have y1 := hx5 u v hu hvv trivial q1
              have y2 := hle4 u hu
              omega
            · have y1 := hx4 s q1 q4 (by rw [q2, Int.toNat_natCast]; exact q6)
              rw [q3, Int.toNat_natCast] at y1
              have y2 := hle5 v hvv
              omega
          have hR5 : spR h t.toNat d (g5.2.1 20) (r + 1) := spR.next hV.2.2.2.2.1 hV.2.2.2.2.2.1 hS5.2.2 hR3 hx
          refine ih22 (g5, r + 1, 1) ⟨h5, hS5, by dsimp only; omega, hR5, Or.inr rfl, fun z => absurd (show (1 : Int) = 0 from z) (by decide)⟩ (by dsimp only; omega)
        · skip
          refine a_iload_n 46 dX10_spreadFrom_45 rfl rfl ?_
          refine a_if_eq 53 49 dX10_spreadFrom_46 (by decide) rfl (fun c46 => ?_) (fun c46 => ?_)
          · skip
            refine a_iconst (z := 0) 54 dX10_spreadFrom_53 rfl (zrl rfl) rfl ?_
            refine a_istore_n 55 dX10_spreadFrom_54 (by decide) rfl rfl ?_
            refine a_iinc 58 dX10_spreadFrom_55 rfl (by unfold zr; omega) (by decide) rfl rfl ?_
            refine a_goto 22 dX10_spreadFrom_58 (by decide) ?_
            have hx : ∀ u v t', stp h u (g3.2.1 20 u) v t' → t' ≤ 999 → g5.2.1 20 v ≤ t' := fun u v t' q _ => by
              obtain ⟨hu, hvv, ⟨q1, q2⟩ | ⟨s, q1, q2, q3, q4, q6, q7⟩⟩ := q
              · have y1 := hx5 u v hu hvv trivial q1
                have y2 := hle4 u hu
                omega
              · have y1 := hx4 s q1 q4 (by rw [q2, Int.toNat_natCast]; exact q6)
                rw [q3, Int.toNat_natCast] at y1
                have y2 := hle5 v hvv
                omega
            have hR5 : spR h t.toNat d (g5.2.1 20) (r + 1) := spR.next hV.2.2.2.2.1 hV.2.2.2.2.2.1 hS5.2.2 hR3 hx
            refine ih22 (g5, r + 1, 0) ⟨h5, hS5, by dsimp only; omega, hR5, Or.inl rfl, fun _ u v t' q hq => ?_⟩ (by dsimp only; omega)
            have e4 := hz4 c46
            have e5 := hz5 c42
            refine hx u v t' ?_ hq
            have e6 : g3.2.1 20 u = g5.2.1 20 u := by rw [e5 u q.1, e4 u q.1]
            rw [e6]; exact q
          · skip
            refine a_iconst (z := 1) 50 dX10_spreadFrom_49 rfl (zrl rfl) rfl ?_
            refine a_goto 54 dX10_spreadFrom_50 (by decide) ?_
            refine a_istore_n 55 dX10_spreadFrom_54 (by decide) rfl rfl ?_
            refine a_iinc 58 dX10_spreadFrom_55 rfl (by unfold zr; omega) (by decide) rfl rfl ?_
            refine a_goto 22 dX10_spreadFrom_58 (by decide) ?_
            have hx : ∀ u v t', stp h u (g3.2.1 20 u) v t' → t' ≤ 999 → g5.2.1 20 v ≤ t' := fun u v t' q _ => by
              obtain ⟨hu, hvv, ⟨q1, q2⟩ | ⟨s, q1, q2, q3, q4, q6, q7⟩⟩ := q
              · have y1 := hx5 u v hu hvv trivial q1
                have y2 := hle4 u hu
                omega
              · have y1 := hx4 s q1 q4 (by rw [q2, Int.toNat_natCast]; exact q6)
                rw [q3, Int.toNat_natCast] at y1
                have y2 := hle5 v hvv
                omega
            have hR5 : spR h t.toNat d (g5.2.1 20) (r + 1) := spR.next hV.2.2.2.2.1 hV.2.2.2.2.2.1 hS5.2.2 hR3 hx
            refine ih22 (g5, r + 1, 1) ⟨h5, hS5, by dsimp only; omega, hR5, Or.inr rfl, fun z => absurd (show (1 : Int) = 0 from z) (by decide)⟩ (by dsimp only; omega)
  · exact ⟨h3, hS3, Nat.zero_le _, hR3, Or.inr rfl, fun z => absurd (show (1 : Int) = 0 from z) (by decide)⟩
