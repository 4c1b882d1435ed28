/-! a mark of the class beside the reference's: the mark m at 100 + m, its days at 200 + m, their words at 300 + m, its row at 400 + m -/
def MKs (g : GH) (m : Nat) : Prop := g.1 (100 + m) = some (Sum.inl 5) ∧ g.2.2.2 (100 + m) 3 = some (200 + m) ∧ g.1 (200 + m) = some (Sum.inl 1) ∧ g.2.2.2 (200 + m) 0 = some (300 + m) ∧ g.1 (300 + m) = some (Sum.inr (.long, 16)) ∧ g.2.2.2 (100 + m) 4 = some (400 + m) ∧ g.1 (400 + m) = some (Sum.inr (.int, 3))
def MKd (g : GH) (m : Nat) : Prop := ∀ d : Int, 0 ≤ d → (dB (g.2.2.1 (300 + m)) d ↔ d ≤ 999 ∧ canB g.2.1 m d)
def MKv (g : GH) (m : Nat) : Prop := g.2.1 (100 + m) 0 = g.2.1 1014 (10 * m) ∧ g.2.1 (100 + m) 1 = g.2.1 1014 (10 * m + 1) ∧ g.2.1 (100 + m) 2 = g.2.1 1014 (10 * m + 9) ∧ g.2.1 (100 + m) 6 = g.2.1 1014 (10 * m + 8) ∧ g.2.1 (100 + m) 7 = g.2.1 1014 (10 * m + 2) ∧ g.2.1 (100 + m) 9 = g.2.1 1014 (10 * m + 3) ∧ g.2.1 (100 + m) 10 = g.2.1 1014 (10 * m + 4)
def MKt (g : GH) (m : Nat) : Prop := 0 ≤ g.2.1 (100 + m) 5 ∧ ∀ i : Nat, i < 3 → (bOf (g.2.1 (100 + m) 5) i = 63 ↔ g.2.1 1014 (10 * m + 5 + i) < 0)
def MKr (g : GH) (m : Nat) : Prop := g.2.2.2 (100 + m) 8 = (if g.2.1 1014 (10 * m + 2) = -9 then none else some (80 + (g.2.1 1014 (10 * m + 2)).toNat)) ∧ (g.2.1 1014 (10 * m + 2) ≠ -9 → g.2.1 (100 + m) 11 = twn g.2.1 m)
def MKc (g : GH) (m : Nat) : Prop := g.2.1 (100 + m) 12 = cnt (canB g.2.1 m) 1000 ∧ ∀ i : Nat, i < 3 → isMx (fun f : Nat => cnt (fun d => canB g.2.1 m d ∧ figD i d = f) 1000) 10 (g.2.1 (400 + m) i)
def MK (g : GH) (m : Nat) : Prop := MKs g m ∧ MKv g m ∧ MKd g m ∧ MKt g m ∧ MKr g m ∧ MKc g m
def CMk (g : GH) : Prop := g.1 5 = some (Sum.inl 0) ∧ g.2.2.2 5 0 = some 6 ∧ g.1 6 = some (Sum.inr (.object RX5, 40)) ∧ g.2.1 5 1 = g.2.1 1000 13 ∧ ∀ m : Nat, (m : Int) < g.2.1 1000 13 → g.2.2.2 6 m = some (100 + m) ∧ MK g m
theorem CMk.r {g : GH} (h : CMk g) {m : Nat} (hm : (m : Int) < g.2.1 1000 13) : g.2.2.2 6 m = some (100 + m) := (h.2.2.2.2 m hm).1
theorem CMk.k {g : GH} (h : CMk g) {m : Nat} (hm : (m : Int) < g.2.1 1000 13) : MK g m := (h.2.2.2.2 m hm).2
theorem MKv.on {g : GH} {m : Nat} (h : MKv g m) {c D : Int} : (g.2.1 (100 + m) 0 = c ∧ g.2.1 (100 + m) 2 ≤ D) ↔ isOfB g.2.1 c D m := by
  unfold isOfB
  rw [h.1, h.2.2.1, show (10 * (m : Int)).toNat = 10 * m by omega, show (10 * (m : Int) + 9).toNat = 10 * m + 9 by omega]
theorem MKv.die {g : GH} {m : Nat} (h : MKv g m) : g.2.1 (100 + m) 7 = g.2.1 1014 (10 * (m : Int) + 2).toNat := by
  rw [h.2.2.2.2.1, show (10 * (m : Int) + 2).toNat = 10 * m + 2 by omega]
theorem MKr.non {g : GH} {m : Nat} (h : MKr g m) : g.2.2.2 (100 + m) 8 = none ↔ g.2.1 1014 (10 * (m : Int) + 2).toNat = -9 := by
  rw [h.1, show (10 * (m : Int) + 2).toNat = 10 * m + 2 by omega]
  split
  · exact ⟨fun _ => by assumption, fun _ => rfl⟩
  · exact ⟨fun z => (by cases z), fun z => by contradiction⟩
theorem MK.meet {g : GH} {m n : Nat} (h : MKd g m) (k : MKd g n) : (∃ d : Int, 0 ≤ d ∧ d ≤ 1023 ∧ dB (g.2.2.1 (300 + n)) d ∧ dB (g.2.2.1 (300 + m)) d) ↔ ∃ d : Int, 0 ≤ d ∧ d ≤ 999 ∧ canB g.2.1 m d ∧ canB g.2.1 n d := by
  constructor
  · rintro ⟨d, a, b, c, e⟩
    have := (h d a).mp e; have q := (k d a).mp c
    exact ⟨d, a, this.1, this.2, q.2⟩
  · rintro ⟨d, a, b, c, e⟩
    exact ⟨d, a, by omega, (k d a).mpr ⟨b, e⟩, (h d a).mpr ⟨b, c⟩⟩
set_option maxHeartbeats 4000000 in
set_option maxRecDepth 100000 in
theorem c0_countOn (g : GH) (c D : Int) (hC : CMk g) (hn : 0 ≤ g.2.1 1000 13 ∧ g.2.1 1000 13 ≤ 40) : AMet mX0_countOn g [vA 5, vI c, vI D] (pZ g (cnt (isOfB g.2.1 c D) (g.2.1 1000 13).toNat)) := by
  refine AMet.of [vA 5, vI c, vI D, none, none] (by decide) rfl (Nat.le_of_ble_eq_true rfl) ?_
  refine a_iconst (z := 0) 1 dX0_countOn_0 rfl (zrl rfl) rfl ?_
  refine a_istore_n 2 dX0_countOn_1 (by decide) rfl rfl ?_
  refine a_iconst (z := 0) 3 dX0_countOn_2 rfl (zrl rfl) rfl ?_
  refine a_istore 5 dX0_countOn_3 (by decide) rfl rfl ?_
  refine AW.loop (α := Nat) (fun p => (g.2.1 1000 13).toNat - p) (fun p => (p : Int) ≤ g.2.1 1000 13) (fun p => g) (fun p => [vA 5, vI c, vI D, vI (cnt (isOfB g.2.1 c D) p), vI (p : Int)]) (fun p => []) ?_ 0 ?_
  · intro m hm ih5
    try dsimp only at hI ih ⊢
    have hb := cnt_le (isOfB g.2.1 c D) m
    refine a_iload 7 dX0_countOn_5 rfl rfl ?_
    refine a_aload_n 8 dX0_countOn_7 rfl rfl ?_
    refine a_getIz (g.2.1 1000 13) 11 dX0_countOn_8 fX0_17 hC.1 rfl hC.2.2.2.1 rfl ?_
    refine a_icmp_ge 43 14 dX0_countOn_11 (by decide) rfl (fun c11 => ?_) (fun c11 => ?_)
    · skip
      refine a_iload_n 44 dX0_countOn_43 rfl rfl ?_
      refine a_ireturn dX0_countOn_44 rfl ⟨Nat.zero_le _, Nat.zero_le _⟩ ?_
      have e : m = (g.2.1 1000 13).toNat := by omega
      subst e
      exact ⟨rfl, rfl⟩
    · skip
      refine a_iload_n 15 dX0_countOn_14 rfl rfl ?_
      refine AW.cut (J := 35) (P := fun z => z = ci (isOfB g.2.1 c D m)) ?_ (fun J35 => ?_)
      · intro z35 h35
        have hz : z35 = 0 ∨ z35 = 1 := by rw [h35]; exact ci_01 _
        subst h35
        refine a_iadd 36 dX0_countOn_35 (by unfold zr; omega) rfl ?_
        refine a_istore_n 37 dX0_countOn_36 (by decide) rfl rfl ?_
        refine a_iinc 40 dX0_countOn_37 rfl (by unfold zr; omega) (by decide) rfl rfl ?_
        refine a_goto 5 dX0_countOn_40 (by decide) ?_
        exact ih5 (m + 1) (by omega) (by omega)
      · skip
        refine a_aload_n 16 dX0_countOn_15 rfl rfl ?_
        refine a_getR 19 dX0_countOn_16 fX0_11 hC.1 rfl hC.2.1 rfl ?_
        refine a_iload 21 dX0_countOn_19 rfl rfl ?_
        refine a_aald 22 dX0_countOn_21 hC.2.2.1 rfl (by omega) (by omega) (hC.r (m := m) (by omega)) rfl ?_
        refine a_iload_n 23 dX0_countOn_22 rfl rfl ?_
        refine a_iload_n 24 dX0_countOn_23 rfl rfl ?_
        refine a_callV 27 (c5_isOn _ _ _ (hC.k (m := m) (by omega)).1.1) cdX5_isOn lX0_21 dX0_countOn_24 rfl (hC.k (m := m) (by omega)).1.1 rfl ⟨by decide, by decide, rfl, rfl⟩ ⟨Nat.zero_le _, Nat.zero_le _⟩ (Nat.le_of_ble_eq_true rfl) rfl ?_
        rintro _ _ - ⟨b24, rfl, rfl, h24⟩ -
        rw [(hC.k (m := m) (by omega)).2.1.on] at h24
        refine a_if_eq 34 30 dX0_countOn_27 (by decide) rfl (fun c27 => ?_) (fun c27 => ?_)
        · skip
          refine a_iconst (z := 0) 35 dX0_countOn_34 rfl (zrl rfl) rfl ?_
          exact J35 _ (by first | exact ci1 h24 c27 | exact ci0 h24 c27)
        · skip
          refine a_iconst (z := 1) 31 dX0_countOn_30 rfl (zrl rfl) rfl ?_
          refine a_goto 35 dX0_countOn_31 (by decide) ?_
          exact J35 _ (by first | exact ci1 h24 c27 | exact ci0 h24 c27)
  · show ((0 : Nat) : Int) ≤ _
    omega
set_option maxHeartbeats 4000000 in
set_option maxRecDepth 100000 in
theorem c0_hasMarkWith (g : GH) (c D : Int) (hC : CMk g) (hn : 0 ≤ g.2.1 1000 13 ∧ g.2.1 1000 13 ≤ 40) {t : Nat} (ht : (t : Int) < g.2.1 1000 13) : AMet mX0_hasMarkWith g [vA 5, vA (100 + t), vI c, vI D] (pB g (∃ k : Nat, (k : Int) < g.2.1 1000 13 ∧ isOfB g.2.1 c D k ∧ g.2.1 1014 (10 * (k : Int) + 2).toNat = g.2.1 1014 (10 * (t : Int) + 2).toNat ∧ ∃ d : Int, 0 ≤ d ∧ d ≤ 999 ∧ canB g.2.1 t d ∧ canB g.2.1 k d)) := by
  refine AMet.of [vA 5, vA (100 + t), vI c, vI D, none, none] (by decide) rfl (Nat.le_of_ble_eq_true rfl) ?_
  refine a_iconst (z := 0) 1 dX0_hasMarkWith_0 rfl (zrl rfl) rfl ?_
  refine a_istore 3 dX0_hasMarkWith_1 (by decide) rfl rfl ?_
  refine AW.loop (α := Nat) (fun p => (g.2.1 1000 13).toNat - p) (fun p => (p : Int) ≤ g.2.1 1000 13 ∧ ∀ k : Nat, k < p → ¬ (isOfB g.2.1 c D k ∧ g.2.1 1014 (10 * (k : Int) + 2).toNat = g.2.1 1014 (10 * (t : Int) + 2).toNat ∧ ∃ d : Int, 0 ≤ d ∧ d ≤ 999 ∧ canB g.2.1 t d ∧ canB g.2.1 k d)) (fun p => g) (fun p => [vA 5, vA (100 + t), vI c, vI D, vI (p : Int), none]) (fun p => []) ?_ 0 ?_
  · intro m hm ih3
    try dsimp only at hI ih ⊢
    refine a_iload 5 dX0_hasMarkWith_3 rfl rfl ?_
    refine a_aload_n 6 dX0_hasMarkWith_5 rfl rfl ?_
    refine a_getIz (g.2.1 1000 13) 9 dX0_hasMarkWith_6 fX0_17 hC.1 rfl hC.2.2.2.1 rfl ?_
    refine a_icmp_ge 66 12 dX0_hasMarkWith_9 (by decide) rfl (fun c9 => ?_) (fun c9 => ?_)
    · skip
      refine a_iconst (z := 0) 67 dX0_hasMarkWith_66 rfl (zrl rfl) rfl ?_
      refine a_breturn dX0_hasMarkWith_67 rfl (by omega) ⟨Nat.zero_le _, Nat.zero_le _⟩ ?_
      exact ⟨_, rfl, rfl, Or.inr ⟨rfl, fun ⟨k, a, b⟩ => hm.2 k (by omega) b⟩⟩
    · skip
      refine a_aload_n 13 dX0_hasMarkWith_12 rfl rfl ?_
      refine a_getR 16 dX0_hasMarkWith_13 fX0_11 hC.1 rfl hC.2.1 rfl ?_
      refine a_iload 18 dX0_hasMarkWith_16 rfl rfl ?_
      refine a_aald 19 dX0_hasMarkWith_18 hC.2.2.1 rfl (by omega) (by omega) (hC.r (m := m) (by omega)) rfl ?_
      refine a_astore 21 dX0_hasMarkWith_19 (by decide) rfl rfl ?_
      refine a_aload 23 dX0_hasMarkWith_21 rfl rfl ?_
      refine a_iload_n 24 dX0_hasMarkWith_23 rfl rfl ?_
      refine a_iload_n 25 dX0_hasMarkWith_24 rfl rfl ?_
      refine a_callV 28 (c5_isOn _ _ _ (hC.k (m := m) (by omega)).1.1) cdX5_isOn lX0_21 dX0_hasMarkWith_25 rfl (hC.k (m := m) (by omega)).1.1 rfl ⟨by decide, by decide, rfl, rfl⟩ ⟨Nat.zero_le _, Nat.zero_le _⟩ (Nat.le_of_ble_eq_true rfl) rfl ?_
      rintro _ _ - ⟨b25, rfl, rfl, h25⟩ -
      rw [(hC.k (m := m) (by omega)).2.1.on] at h25
      refine a_if_eq 60 31 dX0_hasMarkWith_28 (by decide) rfl (fun c28 => ?_) (fun c28 => ?_)
      · skip
        refine a_iinc 63 dX0_hasMarkWith_60 rfl (by unfold zr; omega) (by decide) rfl rfl ?_
        refine a_goto 3 dX0_hasMarkWith_63 (by decide) ?_
        refine AW.kill 5 ?_
        refine ih3 (m + 1) ⟨by omega, fun k hk z => ?_⟩ (by omega)
        by_cases e : k = m
        · subst e
          first
          | exact isN h25 c28 z.1
          | exact c40 z.2.1
          | exact isN h52 c55 z.2.2
        · exact hm.2 k (by omega) z
      · skip
        refine a_aload 33 dX0_hasMarkWith_31 rfl rfl ?_
        refine a_getIz (g.2.1 1014 (10 * (m : Int) + 2).toNat) 36 dX0_hasMarkWith_33 fX0_33 (hC.k (m := m) (by omega)).1.1 rfl (hC.k (m := m) (by omega)).2.1.die rfl ?_
        refine a_aload_n 37 dX0_hasMarkWith_36 rfl rfl ?_
        refine a_getIz (g.2.1 1014 (10 * (t : Int) + 2).toNat) 40 dX0_hasMarkWith_37 fX0_33 (hC.k (m := t) ht).1.1 rfl (hC.k ht).2.1.die rfl ?_
        refine a_icmp_ne 60 43 dX0_hasMarkWith_40 (by decide) rfl (fun c40 => ?_) (fun c40 => ?_)
        · skip
          refine a_iinc 63 dX0_hasMarkWith_60 rfl (by unfold zr; omega) (by decide) rfl rfl ?_
          refine a_goto 3 dX0_hasMarkWith_63 (by decide) ?_
          refine AW.kill 5 ?_
          refine ih3 (m + 1) ⟨by omega, fun k hk z => ?_⟩ (by omega)
          by_cases e : k = m
          · subst e
            first
            | exact isN h25 c28 z.1
            | exact c40 z.2.1
            | exact isN h52 c55 z.2.2
          · exact hm.2 k (by omega) z
        · skip
          refine a_aload 45 dX0_hasMarkWith_43 rfl rfl ?_
          refine a_getR 48 dX0_hasMarkWith_45 fX0_36 (hC.k (m := m) (by omega)).1.1 rfl (hC.k (m := m) (by omega)).1.2.1 rfl ?_
          refine a_aload_n 49 dX0_hasMarkWith_48 rfl rfl ?_
          refine a_getR 52 dX0_hasMarkWith_49 fX0_36 (hC.k (m := t) ht).1.1 rfl (hC.k (m := t) ht).1.2.1 rfl ?_
          refine a_callV 55 (c1_meets _ (hC.k (m := m) (by omega)).1.2.2.1 (hC.k (m := m) (by omega)).1.2.2.2.1 (hC.k (m := m) (by omega)).1.2.2.2.2.1 (hC.k ht).1.2.2.1 (hC.k ht).1.2.2.2.1 (hC.k ht).1.2.2.2.2.1) cdX1_meets lX0_40 dX0_hasMarkWith_52 rfl (hC.k (m := m) (by omega)).1.2.2.1 rfl ⟨by decide, by decide, rfl, rfl⟩ ⟨Nat.zero_le _, Nat.zero_le _⟩ (Nat.le_of_ble_eq_true rfl) rfl ?_
          rintro _ _ - ⟨b52, rfl, rfl, h52⟩ -
          rw [MK.meet (hC.k ht).2.2.1 (hC.k (m := m) (by omega)).2.2.1] at h52
          refine a_if_eq 60 58 dX0_hasMarkWith_55 (by decide) rfl (fun c55 => ?_) (fun c55 => ?_)
          · skip
            refine a_iinc 63 dX0_hasMarkWith_60 rfl (by unfold zr; omega) (by decide) rfl rfl ?_
            refine a_goto 3 dX0_hasMarkWith_63 (by decide) ?_
            refine AW.kill 5 ?_
            refine ih3 (m + 1) ⟨by omega, fun k hk z => ?_⟩ (by omega)
            by_cases e : k = m
            · subst e
              first
              | exact isN h25 c28 z.1
              | exact c40 z.2.1
              | exact isN h52 c55 z.2.2
            · exact hm.2 k (by omega) z
          · skip
            refine a_iconst (z := 1) 59 dX0_hasMarkWith_58 rfl (zrl rfl) rfl ?_
            refine a_breturn dX0_hasMarkWith_59 rfl (by omega) ⟨Nat.zero_le _, Nat.zero_le _⟩ ?_
            exact ⟨_, rfl, rfl, Or.inl ⟨rfl, m, by omega, isT h25 c28, c40, isT h52 c55⟩⟩
  · exact ⟨by show ((0 : Nat) : Int) ≤ _; omega, fun k h => absurd h (Nat.not_lt_zero _)⟩
set_option maxHeartbeats 4000000 in
set_option maxRecDepth 100000 in
theorem c0_areOneMail (g : GH) (a b D : Int) (hC : CMk g) (hn : 0 ≤ g.2.1 1000 13 ∧ g.2.1 1000 13 ≤ 40) : AMet mX0_areOneMail g [vA 5, vI a, vI b, vI D] (pB g (mailB g.2.1 a b D)) := by
  refine AMet.of [vA 5, vI a, vI b, vI D, none] (by decide) rfl (Nat.le_of_ble_eq_true rfl) ?_
  refine a_iconst (z := 0) 1 dX0_areOneMail_0 rfl (zrl rfl) rfl ?_
  refine a_istore 3 dX0_areOneMail_1 (by decide) rfl rfl ?_
  refine AW.loop (α := Nat) (fun p => (g.2.1 1000 13).toNat - p) (fun p => (p : Int) ≤ g.2.1 1000 13 ∧ ∀ m k : Int, (0 ≤ m ∧ m < p) → (0 ≤ k ∧ k < g.2.1 1000 13) → ¬ pairB g.2.1 a b D m k) (fun p => g) (fun p => [vA 5, vI a, vI b, vI D, vI (p : Int)]) (fun p => []) ?_ 0 ?_
  · intro m hm ih3
    try dsimp only at hI ih ⊢
    refine a_iload 5 dX0_areOneMail_3 rfl rfl ?_
    refine a_aload_n 6 dX0_areOneMail_5 rfl rfl ?_
    refine a_getIz (g.2.1 1000 13) 9 dX0_areOneMail_6 fX0_17 hC.1 rfl hC.2.2.2.1 rfl ?_
    refine a_icmp_ge 64 12 dX0_areOneMail_9 (by decide) rfl (fun c9 => ?_) (fun c9 => ?_)
    · skip
      refine a_iconst (z := 0) 65 dX0_areOneMail_64 rfl (zrl rfl) rfl ?_
      refine a_breturn dX0_areOneMail_65 rfl (by omega) ⟨Nat.zero_le _, Nat.zero_le _⟩ ?_
      exact ⟨_, rfl, rfl, Or.inr ⟨rfl, fun ⟨x, k, q1, q2, q3⟩ => hm.2 x k (by omega) q2 q3⟩⟩
    · skip
      refine a_aload_n 13 dX0_areOneMail_12 rfl rfl ?_
      refine a_getR 16 dX0_areOneMail_13 fX0_11 hC.1 rfl hC.2.1 rfl ?_
      refine a_iload 18 dX0_areOneMail_16 rfl rfl ?_
      refine a_aald 19 dX0_areOneMail_18 hC.2.2.1 rfl (by omega) (by omega) (hC.r (m := m) (by omega)) rfl ?_
      refine a_getR 22 dX0_areOneMail_19 fX0_25 (hC.k (m := m) (by omega)).1.1 rfl rfl rfl ?_
      refine a_ifnull 58 25 dX0_areOneMail_22 (by decide) rfl (fun c22 => ?_) (fun a22 c22 => ?_)
      · skip
        refine a_iinc 61 dX0_areOneMail_58 rfl (by unfold zr; omega) (by decide) rfl rfl ?_
        refine a_goto 3 dX0_areOneMail_61 (by decide) ?_
        refine ih3 (m + 1) ⟨by omega, fun x k hx hk z => ?_⟩ (by omega)
        by_cases e : x = m
        · subst e
          first
          | exact z.2.2.1 ((hC.k (m := m) (by omega)).2.2.2.2.1.non.mp c22)
          | exact isN h34 c37 z.1
          | (obtain ⟨y, rfl⟩ : ∃ y : Nat, k = y := ⟨k.toNat, by omega⟩
             exact isN h50 c53 ⟨y, hk.2, z.2.1, z.2.2.2.1, z.2.2.2.2⟩)
        · exact hm.2 x k (by omega) hk z
      · skip
        refine a_aload_n 26 dX0_areOneMail_25 rfl rfl ?_
        refine a_getR 29 dX0_areOneMail_26 fX0_11 hC.1 rfl hC.2.1 rfl ?_
        refine a_iload 31 dX0_areOneMail_29 rfl rfl ?_
        refine a_aald 32 dX0_areOneMail_31 hC.2.2.1 rfl (by omega) (by omega) (hC.r (m := m) (by omega)) rfl ?_
        refine a_iload_n 33 dX0_areOneMail_32 rfl rfl ?_
        refine a_iload_n 34 dX0_areOneMail_33 rfl rfl ?_
        refine a_callV 37 (c5_isOn _ _ _ (hC.k (m := m) (by omega)).1.1) cdX5_isOn lX0_21 dX0_areOneMail_34 rfl (hC.k (m := m) (by omega)).1.1 rfl ⟨by decide, by decide, rfl, rfl⟩ ⟨Nat.zero_le _, Nat.zero_le _⟩ (Nat.le_of_ble_eq_true rfl) rfl ?_
        rintro _ _ - ⟨b34, rfl, rfl, h34⟩ -
        rw [(hC.k (m := m) (by omega)).2.1.on] at h34
        refine a_if_eq 58 40 dX0_areOneMail_37 (by decide) rfl (fun c37 => ?_) (fun c37 => ?_)
        · skip
          refine a_iinc 61 dX0_areOneMail_58 rfl (by unfold zr; omega) (by decide) rfl rfl ?_
          refine a_goto 3 dX0_areOneMail_61 (by decide) ?_
          refine ih3 (m + 1) ⟨by omega, fun x k hx hk z => ?_⟩ (by omega)
          by_cases e : x = m
          · subst e
            first
            | exact z.2.2.1 ((hC.k (m := m) (by omega)).2.2.2.2.1.non.mp c22)
            | exact isN h34 c37 z.1
            | (obtain ⟨y, rfl⟩ : ∃ y : Nat, k = y := ⟨k.toNat, by omega⟩
               exact isN h50 c53 ⟨y, hk.2, z.2.1, z.2.2.2.1, z.2.2.2.2⟩)
          · exact hm.2 x k (by omega) hk z
        · skip
          refine a_aload_n 41 dX0_areOneMail_40 rfl rfl ?_
          refine a_aload_n 42 dX0_areOneMail_41 rfl rfl ?_
          refine a_getR 45 dX0_areOneMail_42 fX0_11 hC.1 rfl hC.2.1 rfl ?_
          refine a_iload 47 dX0_areOneMail_45 rfl rfl ?_
          refine a_aald 48 dX0_areOneMail_47 hC.2.2.1 rfl (by omega) (by omega) (hC.r (m := m) (by omega)) rfl ?_
          refine a_iload_n 49 dX0_areOneMail_48 rfl rfl ?_
          refine a_iload_n 50 dX0_areOneMail_49 rfl rfl ?_
          refine a_callV 53 (c0_hasMarkWith _ _ _ hC hn (t := m) (by omega)) cdX0_hasMarkWith lX0_29 dX0_areOneMail_50 rfl hC.1 rfl ⟨by decide, by decide, rfl, rfl⟩ ⟨Nat.zero_le _, Nat.zero_le _⟩ (Nat.le_of_ble_eq_true rfl) rfl ?_
          rintro _ _ - ⟨b50, rfl, rfl, h50⟩ -
          refine a_if_eq 58 56 dX0_areOneMail_53 (by decide) rfl (fun c53 => ?_) (fun c53 => ?_)
          · skip
            refine a_iinc 61 dX0_areOneMail_58 rfl (by unfold zr; omega) (by decide) rfl rfl ?_
            refine a_goto 3 dX0_areOneMail_61 (by decide) ?_
            refine ih3 (m + 1) ⟨by omega, fun x k hx hk z => ?_⟩ (by omega)
            by_cases e : x = m
            · subst e
              first
              | exact z.2.2.1 ((hC.k (m := m) (by omega)).2.2.2.2.1.non.mp c22)
              | exact isN h34 c37 z.1
              | (obtain ⟨y, rfl⟩ : ∃ y : Nat, k = y := ⟨k.toNat, by omega⟩
                 exact isN h50 c53 ⟨y, hk.2, z.2.1, z.2.2.2.1, z.2.2.2.2⟩)
            · exact hm.2 x k (by omega) hk z
          · skip
            refine a_iconst (z := 1) 57 dX0_areOneMail_56 rfl (zrl rfl) rfl ?_
            refine a_breturn dX0_areOneMail_57 rfl (by omega) ⟨Nat.zero_le _, Nat.zero_le _⟩ ?_
            obtain ⟨k, q1, q2, q3, q4⟩ := isT h50 c53
            refine ⟨_, rfl, rfl, Or.inl ⟨rfl, m, k, by omega, by omega, isT h34 c37, q2, fun z => ?_, q3, q4⟩⟩
            have z2 := (hC.k (m := m) (by omega)).2.2.2.2.1.non.mpr z
            exact absurd (z2.symm.trans c22) (by simp)
  · exact ⟨by show ((0 : Nat) : Int) ≤ _; omega, fun k x h => by omega⟩
set_option maxHeartbeats 4000000 in
set_option maxRecDepth 100000 in
theorem c0_hasDie (g : GH) (c e D : Int) (hC : CMk g) (hn : 0 ≤ g.2.1 1000 13 ∧ g.2.1 1000 13 ≤ 40) : AMet mX0_hasDie g [vA 5, vI c, vI e, vI D] (pB g (hsD g.2.1 e D (g.2.1 1000 13) c)) := by
  refine AMet.of [vA 5, vI c, vI e, vI D, none] (by decide) rfl (Nat.le_of_ble_eq_true rfl) ?_
  refine a_iconst (z := 0) 1 dX0_hasDie_0 rfl (zrl rfl) rfl ?_
  refine a_istore 3 dX0_hasDie_1 (by decide) rfl rfl ?_
  refine AW.loop (α := Nat) (fun p => (g.2.1 1000 13).toNat - p) (fun p => (p : Int) ≤ g.2.1 1000 13 ∧ ¬ hsD g.2.1 e D p c) (fun p => g) (fun p => [vA 5, vI c, vI e, vI D, vI (p : Int)]) (fun p => []) ?_ 0 ?_
  · intro m hm ih3
    try dsimp only at hI ih ⊢
    refine a_iload 5 dX0_hasDie_3 rfl rfl ?_
    refine a_aload_n 6 dX0_hasDie_5 rfl rfl ?_
    refine a_getIz (g.2.1 1000 13) 9 dX0_hasDie_6 fX0_17 hC.1 rfl hC.2.2.2.1 rfl ?_
    refine a_icmp_ge 49 12 dX0_hasDie_9 (by decide) rfl (fun c9 => ?_) (fun c9 => ?_)
    · skip
      refine a_iconst (z := 0) 50 dX0_hasDie_49 rfl (zrl rfl) rfl ?_
      refine a_breturn dX0_hasDie_50 rfl (by omega) ⟨Nat.zero_le _, Nat.zero_le _⟩ ?_
      have e9 : (m : Int) = g.2.1 1000 13 := by omega
      exact ⟨_, rfl, rfl, Or.inr ⟨rfl, e9 ▸ hm.2⟩⟩
    · skip
      refine a_aload_n 13 dX0_hasDie_12 rfl rfl ?_
      refine a_getR 16 dX0_hasDie_13 fX0_11 hC.1 rfl hC.2.1 rfl ?_
      refine a_iload 18 dX0_hasDie_16 rfl rfl ?_
      refine a_aald 19 dX0_hasDie_18 hC.2.2.1 rfl (by omega) (by omega) (hC.r (m := m) (by omega)) rfl ?_
      refine a_getIz (g.2.1 1014 (10 * (m : Int) + 2).toNat) 22 dX0_hasDie_19 fX0_33 (hC.k (m := m) (by omega)).1.1 rfl (hC.k (m := m) (by omega)).2.1.die rfl ?_
      refine a_iload_n 23 dX0_hasDie_22 rfl rfl ?_
      refine a_icmp_ne 43 26 dX0_hasDie_23 (by decide) rfl (fun c23 => ?_) (fun c23 => ?_)
      · skip
        refine a_iinc 46 dX0_hasDie_43 rfl (by unfold zr; omega) (by decide) rfl rfl ?_
        refine a_goto 3 dX0_hasDie_46 (by decide) ?_
        refine ih3 (m + 1) ⟨by omega, fun ⟨k, q1, q2, q3, q4⟩ => ?_⟩ (by omega)
        by_cases y : k = m
        · subst y
          first
          | exact c23 q4
          | exact isN h35 c38 q3
        · exact hm.2 ⟨k, q1, by omega, q3, q4⟩
      · skip
        refine a_aload_n 27 dX0_hasDie_26 rfl rfl ?_
        refine a_getR 30 dX0_hasDie_27 fX0_11 hC.1 rfl hC.2.1 rfl ?_
        refine a_iload 32 dX0_hasDie_30 rfl rfl ?_
        refine a_aald 33 dX0_hasDie_32 hC.2.2.1 rfl (by omega) (by omega) (hC.r (m := m) (by omega)) rfl ?_
        refine a_iload_n 34 dX0_hasDie_33 rfl rfl ?_
        refine a_iload_n 35 dX0_hasDie_34 rfl rfl ?_
        refine a_callV 38 (c5_isOn _ _ _ (hC.k (m := m) (by omega)).1.1) cdX5_isOn lX0_21 dX0_hasDie_35 rfl (hC.k (m := m) (by omega)).1.1 rfl ⟨by decide, by decide, rfl, rfl⟩ ⟨Nat.zero_le _, Nat.zero_le _⟩ (Nat.le_of_ble_eq_true rfl) rfl ?_
        rintro _ _ - ⟨b35, rfl, rfl, h35⟩ -
        rw [(hC.k (m := m) (by omega)).2.1.on] at h35
        refine a_if_eq 43 41 dX0_hasDie_38 (by decide) rfl (fun c38 => ?_) (fun c38 => ?_)
        · skip
          refine a_iinc 46 dX0_hasDie_43 rfl (by unfold zr; omega) (by decide) rfl rfl ?_
          refine a_goto 3 dX0_hasDie_46 (by decide) ?_
          refine ih3 (m + 1) ⟨by omega, fun ⟨k, q1, q2, q3, q4⟩ => ?_⟩ (by omega)
          by_cases y : k = m
          · subst y
            first
            | exact c23 q4
            | exact isN h35 c38 q3
          · exact hm.2 ⟨k, q1, by omega, q3, q4⟩
        · skip
          refine a_iconst (z := 1) 42 dX0_hasDie_41 rfl (zrl rfl) rfl ?_
          refine a_breturn dX0_hasDie_42 rfl (by omega) ⟨Nat.zero_le _, Nat.zero_le _⟩ ?_
          exact ⟨_, rfl, rfl, Or.inl ⟨rfl, m, by omega, by omega, isT h35 c38, c23⟩⟩
  · exact ⟨by show ((0 : Nat) : Int) ≤ _; omega, fun ⟨k, a, b, _⟩ => by omega⟩
