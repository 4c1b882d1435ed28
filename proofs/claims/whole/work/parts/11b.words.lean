theorem a_baldz {M : MI} {T : TT} {kn : Nat × Nat} {g : GH} {pc : Nat} {ls st : List AV} {a n : Nat} {i : Int} (z : Int) (pc2 : Nat) (hd : decode M.2.1 pc = .ok (.baload, 1)) (hs : g.1 a = some (Sum.inr (.byte, n))) (h0 : 0 ≤ i) (hi : i < n) (hz : g.2.1 a i.toNat = z) (hp : pc + 1 = pc2) (kk : AW M T kn g pc2 ls (vI z :: st)) : AW M T kn g pc ls (vI i :: vA a :: st) := by
  subst hz; exact a_bald pc2 hd hs h0 hi hp kk
/-! ===== the class's text at 26, its bytes at 27 ===== -/
def sg (b : Int) : Int := if b < 128 then b else b - 256
def TXs (g : GH) : Prop := g.1 26 = some (Sum.inl 8) ∧ g.2.2.2 26 0 = some 27 ∧ g.1 27 = some (Sum.inr (.byte, 600))
def TXc (g : GH) (T : Int → Int) (L : Int) : Prop := (0 ≤ L ∧ L ≤ 600) ∧ g.2.1 26 1 = L ∧ (∀ k : Int, 0 ≤ k → k < L → (0 ≤ T k ∧ T k ≤ 255) ∧ g.2.1 27 k.toNat = sg (T k)) ∧ ∀ k, L ≤ k → T k = -1
theorem sg_d {b : Int} (h : 0 ≤ b ∧ b ≤ 255) : (dgB (sg b) ↔ dgB b) ∧ (ltB (sg b) ↔ ltB b) ∧ (sg b = 32 ↔ b = 32) ∧ (sg b = 48 ↔ b = 48) ∧ (sgB (sg b) ↔ sgB b) ∧ (b < 128 → sg b = b) ∧ (-128 ≤ sg b ∧ sg b ≤ 127) := by
  unfold sg dgB ltB sgB
  by_cases q : b < 128
  · rw [if_pos q]; exact ⟨Iff.rfl, Iff.rfl, Iff.rfl, Iff.rfl, Iff.rfl, fun _ => rfl, by omega⟩
  · rw [if_neg q]
    refine ⟨⟨fun z => by omega, fun z => by omega⟩, ⟨fun z => by omega, fun z => by omega⟩, ⟨fun z => by omega, fun z => by omega⟩, ⟨fun z => by omega, fun z => by omega⟩, ⟨fun z => by omega, fun z => by omega⟩, fun z => by omega, by omega⟩
theorem TXs.keep {X : Nat → Nat → Prop} {g g' : GH} (h : sameB X g g') (q : TXs g) : TXs g' := by unfold TXs at q ⊢; rw [h.1, h.2.1]; exact q
theorem TXc.keep {X : Nat → Nat → Prop} {g g' : GH} {T : Int → Int} {L : Int} (h : sameB X g g') (h1 : ¬ X 26 1) (h2 : ∀ k, ¬ X 27 k) (q : TXc g T L) : TXc g' T L := by
  refine ⟨q.1, (h.2.2 _ _ h1).trans q.2.1, fun k a b => ⟨(q.2.2.1 k a b).1, (h.2.2 _ _ (h2 _)).trans (q.2.2.1 k a b).2⟩, q.2.2.2⟩
def xN (a k : Nat) : Prop := a = 26 ∧ (k = 2 ∨ k = 5)
def xS (a k : Nat) : Prop := a = 26 ∧ 2 ≤ k ∧ k ≤ 5
theorem TXc.n {g g' : GH} {T : Int → Int} {L : Int} (h : sameB xN g g') (q : TXc g T L) : TXc g' T L := q.keep h (by unfold xN; omega) (fun k => by unfold xN; omega)
theorem TXc.s {g g' : GH} {T : Int → Int} {L : Int} (h : sameB xS g g') (q : TXc g T L) : TXc g' T L := q.keep h (by unfold xS; omega) (fun k => by unfold xS; omega)
/-- a row of figures as the class reads it -/
def cn (T : Int → Int) (q : Int) : Nat → Int
  | 0 => 0
  | j + 1 => if 10000 < 10 * cn T q j + T (q + j) - 48 then 10000 else 10 * cn T q j + T (q + j) - 48
theorem cn_b {T : Int → Int} {q : Int} : ∀ j : Nat, (∀ x, q ≤ x → x < q + j → dgB (T x)) → 0 ≤ cn T q j ∧ cn T q j ≤ 10000
  | 0, _ => by show (0 : Int) ≤ 0 ∧ (0 : Int) ≤ 10000; omega
  | j + 1, h => by
    have ih := cn_b (T := T) (q := q) j (fun x a b => h x a (by omega))
    have hd := h (q + j) (by omega) (by omega)
    simp only [cn]
    split <;> omega
theorem cn_nv {T : Int → Int} {q : Int} : ∀ j : Nat, j ≤ 4 → (∀ x, q ≤ x → x < q + j → dgB (T x)) → cn T q j = nv T q j
  | 0, _, _ => rfl
  | j + 1, h4, h => by
    have ih := cn_nv (T := T) (q := q) j (by omega) (fun x a b => h x a (by omega))
    have hd := h (q + j) (by omega) (by omega)
    have hb := nv_le (T := T) (q := q) (j + 1) h
    have e : nv T q (j + 1) = 10 * nv T q j + T (q + j) - 48 := by simp only [nv]; rw [if_pos (by omega)]
    simp only [cn]
    rw [ih, if_neg (by have := hb.2.2.2.2.2.1 h4; omega), e]
theorem cn_big {T : Int → Int} {q : Int} (h0 : T q ≠ 48) : ∀ j : Nat, (∀ x, q ≤ x → x < q + j → dgB (T x)) → (1 ≤ j → 1 ≤ cn T q j) ∧ (2 ≤ j → 10 ≤ cn T q j) ∧ (3 ≤ j → 100 ≤ cn T q j) ∧ (4 ≤ j → 1000 ≤ cn T q j) ∧ (5 ≤ j → cn T q j = 10000)
  | 0, _ => ⟨fun z => by omega, fun z => by omega, fun z => by omega, fun z => by omega, fun z => by omega⟩
  | j + 1, h => by
    have ih := cn_big h0 j (fun x a b => h x a (by omega))
    have hd := h (q + j) (by omega) (by omega)
    have hb := cn_b (T := T) (q := q) j (fun x a b => h x a (by omega))
    have hq : j = 0 → T (q + j) ≠ 48 := fun z => by subst z; simpa using h0
    simp only [cn]
    split
    · exact ⟨fun _ => by omega, fun _ => by omega, fun _ => by omega, fun _ => by omega, fun _ => rfl⟩
    · obtain ⟨i1, i2, i3, i4, i5⟩ := ih
      refine ⟨fun _ => ?_, fun z => ?_, fun z => ?_, fun z => ?_, fun z => ?_⟩
      · by_cases y : j = 0
        · have := hq y; omega
        · have := i1 (by omega); omega
      · have := i1 (by omega); omega
      · have := i2 (by omega); omega
      · have := i3 (by omega); omega
      · have := i4 (by omega); omega
theorem nB_cn {T : Int → Int} {q : Int} {n : Nat} (h1 : 1 ≤ n) (h : ∀ x, q ≤ x → x < q + n → dgB (T x)) : (nB T q n ↔ (T q = 48 ∧ n > 1) ∨ 9999 < cn T q n) ∧ (¬ nB T q n → cn T q n = nv T q n) := by
  unfold nB
  by_cases z : n ≤ 4
  · have e := cn_nv n z h
    have hb := (nv_le (T := T) (q := q) n h).2.2.2.2.2.1 z
    rw [e]
    exact ⟨⟨fun y => y.elim (fun y => by omega) Or.inl, fun y => y.elim Or.inr (fun y => by omega)⟩, fun _ => rfl⟩
  · have e : nv T q n = 10000 := by
      cases n with
      | zero => omega
      | succ j => simp only [nv]; rw [if_neg (by omega)]
    refine ⟨⟨fun _ => ?_, fun _ => Or.inl (by omega)⟩, fun y => absurd (Or.inl (by omega)) y⟩
    by_cases y : T q = 48
    · exact Or.inl ⟨y, by omega⟩
    · right; rw [(cn_big y n h).2.2.2.2 (by omega)]; omega
set_option maxHeartbeats 4000000 in
set_option maxRecDepth 100000 in
theorem c8_isDigit (g : GH) (x : Int)  : AMet mX8_isDigit g [vI x] (pB g (dgB x)) := by
  refine AMet.of [vI x] (by decide) rfl (Nat.le_of_ble_eq_true rfl) ?_
  refine a_iload_n 1 dX8_isDigit_0 rfl rfl ?_
  refine a_bipush (z := 48) 3 dX8_isDigit_1 rfl (zrl rfl) rfl ?_
  refine a_icmp_lt 16 6 dX8_isDigit_3 (by decide) rfl (fun c3 => ?_) (fun c3 => ?_)
  · skip
    refine a_iconst (z := 0) 17 dX8_isDigit_16 rfl (zrl rfl) rfl ?_
    refine a_breturn dX8_isDigit_17 rfl (by omega) ⟨Nat.zero_le _, Nat.zero_le _⟩ ?_
    exact ⟨_, rfl, rfl, by unfold isb; omega⟩
  · skip
    refine a_iload_n 7 dX8_isDigit_6 rfl rfl ?_
    refine a_bipush (z := 57) 9 dX8_isDigit_7 rfl (zrl rfl) rfl ?_
    refine a_icmp_gt 16 12 dX8_isDigit_9 (by decide) rfl (fun c9 => ?_) (fun c9 => ?_)
    · skip
      refine a_iconst (z := 0) 17 dX8_isDigit_16 rfl (zrl rfl) rfl ?_
      refine a_breturn dX8_isDigit_17 rfl (by omega) ⟨Nat.zero_le _, Nat.zero_le _⟩ ?_
      exact ⟨_, rfl, rfl, by unfold isb; omega⟩
    · skip
      refine a_iconst (z := 1) 13 dX8_isDigit_12 rfl (zrl rfl) rfl ?_
      refine a_goto 17 dX8_isDigit_13 (by decide) ?_
      refine a_breturn dX8_isDigit_17 rfl (by omega) ⟨Nat.zero_le _, Nat.zero_le _⟩ ?_
      exact ⟨_, rfl, rfl, by unfold isb; omega⟩
set_option maxHeartbeats 4000000 in
set_option maxRecDepth 100000 in
theorem c8_isLetter (g : GH) (x : Int)  : AMet mX8_isLetter g [vI x] (pB g (ltB x)) := by
  refine AMet.of [vI x] (by decide) rfl (Nat.le_of_ble_eq_true rfl) ?_
  refine a_iload_n 1 dX8_isLetter_0 rfl rfl ?_
  refine a_bipush (z := 97) 3 dX8_isLetter_1 rfl (zrl rfl) rfl ?_
  refine a_icmp_lt 16 6 dX8_isLetter_3 (by decide) rfl (fun c3 => ?_) (fun c3 => ?_)
  · skip
    refine a_iconst (z := 0) 17 dX8_isLetter_16 rfl (zrl rfl) rfl ?_
    refine a_breturn dX8_isLetter_17 rfl (by omega) ⟨Nat.zero_le _, Nat.zero_le _⟩ ?_
    exact ⟨_, rfl, rfl, by unfold isb; omega⟩
  · skip
    refine a_iload_n 7 dX8_isLetter_6 rfl rfl ?_
    refine a_bipush (z := 122) 9 dX8_isLetter_7 rfl (zrl rfl) rfl ?_
    refine a_icmp_gt 16 12 dX8_isLetter_9 (by decide) rfl (fun c9 => ?_) (fun c9 => ?_)
    · skip
      refine a_iconst (z := 0) 17 dX8_isLetter_16 rfl (zrl rfl) rfl ?_
      refine a_breturn dX8_isLetter_17 rfl (by omega) ⟨Nat.zero_le _, Nat.zero_le _⟩ ?_
      exact ⟨_, rfl, rfl, by unfold isb; omega⟩
    · skip
      refine a_iconst (z := 1) 13 dX8_isLetter_12 rfl (zrl rfl) rfl ?_
      refine a_goto 17 dX8_isLetter_13 (by decide) ?_
      refine a_breturn dX8_isLetter_17 rfl (by omega) ⟨Nat.zero_le _, Nat.zero_le _⟩ ?_
      exact ⟨_, rfl, rfl, by unfold isb; omega⟩
theorem sg_of : ∀ j, j < 7 → sgB (sB 4 j) := by decide +kernel
set_option maxHeartbeats 4000000 in
set_option maxRecDepth 100000 in
theorem c8_isSign (g : GH) (x : Int)  : AMet mX8_isSign g [vI x] (pB g (sgB x)) := by
  refine AMet.of [vI x, none] (by decide) rfl (Nat.le_of_ble_eq_true rfl) ?_
  refine a_iconst (z := 0) 1 dX8_isSign_0 rfl (zrl rfl) rfl ?_
  refine a_istore_n 2 dX8_isSign_1 (by decide) rfl rfl ?_
  refine AW.loop (α := Nat) (fun p => 7 - p) (fun p => p ≤ 7 ∧ ∀ i : Nat, i < p → sB 4 i ≠ x) (fun p => g) (fun p => [vI x, vI (p : Int)]) (fun p => []) ?_ 0 ?_
  · rintro j ⟨hj, hI⟩ ih2
    try dsimp only at hI ih ⊢
    try dsimp only at hj hI ih2 ⊢
    refine a_iload_n 3 dX8_isSign_2 rfl rfl ?_
    refine a_ldcS (k := 4) 5 dX8_isSign_3 rfl rfl rfl ?_
    refine a_callVT 8 (j_len _ (k := 4) (by decide)) cdJ0_length_8abf5 lX8_143 dX8_isSign_5 rfl (by decide) rfl ⟨by decide, by decide, rfl, rfl⟩ ⟨Nat.zero_le _, Nat.zero_le _⟩ (Nat.le_of_ble_eq_true rfl) rfl ?_
    rintro _ _ - ⟨rfl, rfl⟩ -
    refine a_icmp_ge 29 11 dX8_isSign_8 (by decide) rfl (fun c8 => ?_) (fun c8 => ?_)
    · skip
      refine a_iconst (z := 0) 30 dX8_isSign_29 rfl (zrl rfl) rfl ?_
      refine a_breturn dX8_isSign_30 rfl (by omega) ⟨Nat.zero_le _, Nat.zero_le _⟩ ?_
      refine ⟨_, rfl, rfl, Or.inr ⟨rfl, ?_⟩⟩
      have e7 : j = 7 := by have : ¬ (j : Int) < ((sL 4 : Nat) : Int) := by omega
                            have : sL 4 = 7 := rfl
                            omega
      subst e7
      have y0 := hI 0 (by omega); have y1 := hI 1 (by omega); have y2 := hI 2 (by omega); have y3 := hI 3 (by omega); have y4 := hI 4 (by omega); have y5 := hI 5 (by omega); have y6 := hI 6 (by omega)
      have z0 : sB 4 0 = 62 := rfl; have z1 : sB 4 1 = 44 := rfl; have z2 : sB 4 2 = 45 := rfl; have z3 : sB 4 3 = 58 := rfl; have z4 : sB 4 4 = 43 := rfl; have z5 : sB 4 5 = 47 := rfl; have z6 : sB 4 6 = 59 := rfl
      unfold sgB; omega
    · skip
      have hj7 : j < 7 := by have : (j : Int) < ((sL 4 : Nat) : Int) := c8; have : sL 4 = 7 := rfl; omega
      refine a_ldcS (k := 4) 13 dX8_isSign_11 rfl rfl rfl ?_
      refine a_iload_n 14 dX8_isSign_13 rfl rfl ?_
      refine a_callVT 17 (j_chA _ _ (k := 4) (by decide) ⟨by omega, by show (j : Int) < 7; omega⟩) cdJ0_charAt_5068e lX8_147 dX8_isSign_14 rfl (by decide) rfl ⟨by decide, by decide, rfl, rfl⟩ ⟨Nat.zero_le _, Nat.zero_le _⟩ (Nat.le_of_ble_eq_true rfl) rfl ?_
      rintro _ _ - ⟨rfl, rfl⟩ -
      refine a_iload_n 18 dX8_isSign_17 rfl rfl ?_
      refine a_icmp_ne 23 21 dX8_isSign_18 (by decide) rfl (fun c18 => ?_) (fun c18 => ?_)
      · skip
        refine a_iinc 26 dX8_isSign_23 rfl (by unfold zr; omega) (by decide) rfl rfl ?_
        refine a_goto 2 dX8_isSign_26 (by decide) ?_
        refine ih2 (j + 1) ⟨by omega, fun i hi => ?_⟩ (by omega)
        by_cases e : i = j
        · subst e; rw [Int.toNat_natCast] at c18; exact c18
        · exact hI i (by omega)
      · skip
        refine a_iconst (z := 1) 22 dX8_isSign_21 rfl (zrl rfl) rfl ?_
        refine a_breturn dX8_isSign_22 rfl (by omega) ⟨Nat.zero_le _, Nat.zero_le _⟩ ?_
        refine ⟨_, rfl, rfl, Or.inl ⟨rfl, ?_⟩⟩
        rw [Int.toNat_natCast] at c18
        have y := sg_of j hj7
        rw [c18] at y; exact y
  · exact ⟨by omega, fun i hi => absurd hi (Nat.not_lt_zero _)⟩
set_option maxHeartbeats 4000000 in
set_option maxRecDepth 100000 in
theorem c8_stepNumber (g : GH) {T : Int → Int} {L : Int} (hs : TXs g) (hc : TXc g T L) {q : Int} (hq : 0 ≤ q ∧ q < L) (ha : g.2.1 26 2 = q) (hst : g.2.1 26 3 = q) (hd : dgB (T q)) : AMet mX8_stepNumber g [vA 26] (fun r g' => ∃ n : Nat, (1 ≤ n ∧ q + n ≤ L) ∧ isSk (fun x => dgB (T x)) q (q + n) ∧ r = vI (if nB T q n then 0 else 2) ∧ sameB xN g g' ∧ g'.2.1 26 2 = q + n ∧ (¬ nB T q n → g'.2.1 26 5 = nv T q n)) := by
  refine AMet.of [vA 26, none] (by decide) rfl (Nat.le_of_ble_eq_true rfl) ?_
  refine a_aload_n 1 dX8_stepNumber_0 rfl rfl ?_
  refine a_iconst (z := 0) 2 dX8_stepNumber_1 rfl (zrl rfl) rfl ?_
  refine a_putI 5 dX8_stepNumber_2 fX8_28 (Or.inl rfl) (hs.1) (Or.inl rfl) rfl ?_
  refine AW.loop (α := GH × Nat) (fun p => (L - q).toNat - p.2) (fun p => sameB xN g p.1 ∧ p.1.2.1 26 2 = q + p.2 ∧ q + p.2 ≤ L ∧ (∀ x, q ≤ x → x < q + p.2 → dgB (T x)) ∧ p.1.2.1 26 5 = cn T q p.2) (fun p => p.1) (fun p => [vA 26, none]) (fun p => []) ?_ (gI g 26 5 0, 0) ?_
  · rintro ⟨g2, j⟩ ⟨h2, h2a, hjl, hall, h2n⟩ ih5
    try dsimp only at hI ih ⊢
    try dsimp only at h2 h2a hjl hall h2n ih5 ⊢
    have hs2 := TXs.keep h2 hs
    have hc2 := hc.n h2
    have hL := hc.1
    have h2s : g2.2.1 26 3 = q := (h2.2.2 26 3 (by unfold xN; omega)).trans hst
    refine a_aload_n 6 dX8_stepNumber_5 rfl rfl ?_
    refine a_getIz ((q + (j : Int))) 9 dX8_stepNumber_6 fX8_19 (hs2.1) rfl h2a rfl ?_
    refine a_aload_n 10 dX8_stepNumber_9 rfl rfl ?_
    refine a_getIz (L) 13 dX8_stepNumber_10 fX8_15 (hs2.1) rfl hc2.2.1 rfl ?_
    refine a_icmp_ge 74 16 dX8_stepNumber_13 (by decide) rfl (fun c13 => ?_) (fun c13 => ?_)
    · skip
      have hj1 : 1 ≤ j := by
        by_cases e : j = 0
        · exfalso
          subst e
          have e2 : q + ((0 : Nat) : Int) = q := by omega
          first
          | omega
          | (have y := isN h25 c28; rw [e2] at y; exact y ((sg_d (hc2.2.2.1 q hq.1 hq.2).1).1.mpr hd))
        · omega
      have hend : ¬ dgB (T (q + j)) := by
        first
        | (rw [hc2.2.2.2 _ (by omega)]; unfold dgB; omega)
        | (intro y; exact isN h25 c28 (hsg.1.mpr y))
      have hsk : isSk (fun x => dgB (T x)) q (q + j) := ⟨by omega, hall, hend⟩
      have hcb := cn_b (T := T) (q := q) j hall
      have hnb := nB_cn (T := T) (q := q) hj1 hall
      have hsq := sg_d (hc2.2.2.1 q hq.1 hq.2).1
      refine a_aload_n 75 dX8_stepNumber_74 rfl rfl ?_
      refine a_getR 78 dX8_stepNumber_75 fX8_9 (hs2.1) rfl (hs2.2.1) rfl ?_
      refine a_aload_n 79 dX8_stepNumber_78 rfl rfl ?_
      refine a_getIz (q) 82 dX8_stepNumber_79 fX8_22 (hs2.1) rfl h2s rfl ?_
      refine a_baldz (sg (T q)) 83 dX8_stepNumber_82 (hs2.2.2) (by omega) (by omega) (hc2.2.2.1 _ (by omega) (by omega)).2 rfl ?_
      refine a_bipush (z := 48) 85 dX8_stepNumber_83 rfl (zrl rfl) rfl ?_
      refine a_icmp_ne 105 88 dX8_stepNumber_85 (by decide) rfl (fun c85 => ?_) (fun c85 => ?_)
      · skip
        refine a_iconst (z := 0) 106 dX8_stepNumber_105 rfl (zrl rfl) rfl ?_
        refine a_istore_n 107 dX8_stepNumber_106 (by decide) rfl rfl ?_
        refine a_iload_n 108 dX8_stepNumber_107 rfl rfl ?_
        refine a_if_ne 121 111 dX8_stepNumber_108 (by decide) rfl (fun c108 => ?_) (fun c108 => ?_)
        · skip
          refine a_iconst (z := 0) 122 dX8_stepNumber_121 rfl (zrl rfl) rfl ?_
          refine a_goto 126 dX8_stepNumber_122 (by decide) ?_
          refine a_ireturn dX8_stepNumber_126 rfl ⟨Nat.zero_le _, Nat.zero_le _⟩ ?_
          refine ⟨j, ⟨hj1, hjl⟩, hsk, congrArg vI ?_, h2, h2a, fun y => h2n.trans (hnb.2 y)⟩
          first
          | (exfalso; omega)
          | (rw [if_pos (hnb.1.mpr (by first | (exact Or.inl ⟨hsq.2.2.2.1.mp (by omega), by omega⟩) | (right; omega)))])
          | (rw [if_neg (fun y => by
               rcases hnb.1.mp y with z | z
               · have := hsq.2.2.2.1.mpr z.1; omega
               · omega)])
        · skip
          refine a_aload_n 112 dX8_stepNumber_111 rfl rfl ?_
          refine a_getIz (cn T q j) 115 dX8_stepNumber_112 fX8_28 (hs2.1) rfl h2n rfl ?_
          refine a_sipush (z := 9999) 118 dX8_stepNumber_115 rfl (zrl rfl) rfl ?_
          refine a_icmp_le 125 121 dX8_stepNumber_118 (by decide) rfl (fun c118 => ?_) (fun c118 => ?_)
          · skip
            refine a_iconst (z := 2) 126 dX8_stepNumber_125 rfl (zrl rfl) rfl ?_
            refine a_ireturn dX8_stepNumber_126 rfl ⟨Nat.zero_le _, Nat.zero_le _⟩ ?_
            refine ⟨j, ⟨hj1, hjl⟩, hsk, congrArg vI ?_, h2, h2a, fun y => h2n.trans (hnb.2 y)⟩
            first
            | (exfalso; omega)
            | (rw [if_pos (hnb.1.mpr (by first | (exact Or.inl ⟨hsq.2.2.2.1.mp (by omega), by omega⟩) | (right; omega)))])
            | (rw [if_neg (fun y => by
                 rcases hnb.1.mp y with z | z
                 · have := hsq.2.2.2.1.mpr z.1; omega
                 · omega)])
          · skip
            refine a_iconst (z := 0) 122 dX8_stepNumber_121 rfl (zrl rfl) rfl ?_
            refine a_goto 126 dX8_stepNumber_122 (by decide) ?_
            refine a_ireturn dX8_stepNumber_126 rfl ⟨Nat.zero_le _, Nat.zero_le _⟩ ?_
            refine ⟨j, ⟨hj1, hjl⟩, hsk, congrArg vI ?_, h2, h2a, fun y => h2n.trans (hnb.2 y)⟩
            first
            | (exfalso; omega)
            | (rw [if_pos (hnb.1.mpr (by first | (exact Or.inl ⟨hsq.2.2.2.1.mp (by omega), by omega⟩) | (right; omega)))])
            | (rw [if_neg (fun y => by
                 rcases hnb.1.mp y with z | z
                 · have := hsq.2.2.2.1.mpr z.1; omega
                 · omega)])
      · skip
        refine a_aload_n 89 dX8_stepNumber_88 rfl rfl ?_
        refine a_getIz ((q + (j : Int))) 92 dX8_stepNumber_89 fX8_19 (hs2.1) rfl h2a rfl ?_
        refine a_aload_n 93 dX8_stepNumber_92 rfl rfl ?_
        refine a_getIz (q) 96 dX8_stepNumber_93 fX8_22 (hs2.1) rfl h2s rfl ?_
        refine a_isub 97 dX8_stepNumber_96 (by unfold zr; omega) rfl ?_
        refine a_iconst (z := 1) 98 dX8_stepNumber_97 rfl (zrl rfl) rfl ?_
        refine a_icmp_le 105 101 dX8_stepNumber_98 (by decide) rfl (fun c98 => ?_) (fun c98 => ?_)
        · skip
          refine a_iconst (z := 0) 106 dX8_stepNumber_105 rfl (zrl rfl) rfl ?_
          refine a_istore_n 107 dX8_stepNumber_106 (by decide) rfl rfl ?_
          refine a_iload_n 108 dX8_stepNumber_107 rfl rfl ?_
          refine a_if_ne 121 111 dX8_stepNumber_108 (by decide) rfl (fun c108 => ?_) (fun c108 => ?_)
          · skip
            refine a_iconst (z := 0) 122 dX8_stepNumber_121 rfl (zrl rfl) rfl ?_
            refine a_goto 126 dX8_stepNumber_122 (by decide) ?_
            refine a_ireturn dX8_stepNumber_126 rfl ⟨Nat.zero_le _, Nat.zero_le _⟩ ?_
            refine ⟨j, ⟨hj1, hjl⟩, hsk, congrArg vI ?_, h2, h2a, fun y => h2n.trans (hnb.2 y)⟩
            first
            | (exfalso; omega)
            | (rw [if_pos (hnb.1.mpr (by first | (exact Or.inl ⟨hsq.2.2.2.1.mp (by omega), by omega⟩) | (right; omega)))])
            | (rw [if_neg (fun y => by
                 rcases hnb.1.mp y with z | z
                 · have := hsq.2.2.2.1.mpr z.1; omega
                 · omega)])
          · skip
            refine a_aload_n 112 dX8_stepNumber_111 rfl rfl ?_
            refine a_getIz (cn T q j) 115 dX8_stepNumber_112 fX8_28 (hs2.1) rfl h2n rfl ?_
            refine a_sipush (z := 9999) 118 dX8_stepNumber_115 rfl (zrl rfl) rfl ?_
            refine a_icmp_le 125 121 dX8_stepNumber_118 (by decide) rfl (fun c118 => ?_) (fun c118 => ?_)
            · skip
              refine a_iconst (z := 2) 126 dX8_stepNumber_125 rfl (zrl rfl) rfl ?_
              refine a_ireturn dX8_stepNumber_126 rfl ⟨Nat.zero_le _, Nat.zero_le _⟩ ?_
              refine ⟨j, ⟨hj1, hjl⟩, hsk, congrArg vI ?_, h2, h2a, fun y => h2n.trans (hnb.2 y)⟩
              first
              | (exfalso; omega)
              | (rw [if_pos (hnb.1.mpr (by first | (exact Or.inl ⟨hsq.2.2.2.1.mp (by omega), by omega⟩) | (right; omega)))])
              | (rw [if_neg (fun y => by
                   rcases hnb.1.mp y with z | z
                   · have := hsq.2.2.2.1.mpr z.1; omega
                   · omega)])
            · skip
              refine a_iconst (z := 0) 122 dX8_stepNumber_121 rfl (zrl rfl) rfl ?_
              refine a_goto 126 dX8_stepNumber_122 (by decide) ?_
              refine a_ireturn dX8_stepNumber_126 rfl ⟨Nat.zero_le _, Nat.zero_le _⟩ ?_
              refine ⟨j, ⟨hj1, hjl⟩, hsk, congrArg vI ?_, h2, h2a, fun y => h2n.trans (hnb.2 y)⟩
              first
              | (exfalso; omega)
              | (rw [if_pos (hnb.1.mpr (by first | (exact Or.inl ⟨hsq.2.2.2.1.mp (by omega), by omega⟩) | (right; omega)))])
              | (rw [if_neg (fun y => by
                   rcases hnb.1.mp y with z | z
                   · have := hsq.2.2.2.1.mpr z.1; omega
                   · omega)])
        · skip
          refine a_iconst (z := 1) 102 dX8_stepNumber_101 rfl (zrl rfl) rfl ?_
          refine a_goto 106 dX8_stepNumber_102 (by decide) ?_
          refine a_istore_n 107 dX8_stepNumber_106 (by decide) rfl rfl ?_
          refine a_iload_n 108 dX8_stepNumber_107 rfl rfl ?_
          refine a_if_ne 121 111 dX8_stepNumber_108 (by decide) rfl (fun c108 => ?_) (fun c108 => ?_)
          · skip
            refine a_iconst (z := 0) 122 dX8_stepNumber_121 rfl (zrl rfl) rfl ?_
            refine a_goto 126 dX8_stepNumber_122 (by decide) ?_
            refine a_ireturn dX8_stepNumber_126 rfl ⟨Nat.zero_le _, Nat.zero_le _⟩ ?_
            refine ⟨j, ⟨hj1, hjl⟩, hsk, congrArg vI ?_, h2, h2a, fun y => h2n.trans (hnb.2 y)⟩
            first
            | (exfalso; omega)
            | (rw [if_pos (hnb.1.mpr (by first | (exact Or.inl ⟨hsq.2.2.2.1.mp (by omega), by omega⟩) | (right; omega)))])
            | (rw [if_neg (fun y => by
                 rcases hnb.1.mp y with z | z
                 · have := hsq.2.2.2.1.mpr z.1; omega
                 · omega)])
          · skip
            refine a_aload_n 112 dX8_stepNumber_111 rfl rfl ?_
            refine a_getIz (cn T q j) 115 dX8_stepNumber_112 fX8_28 (hs2.1) rfl h2n rfl ?_
            refine a_sipush (z := 9999) 118 dX8_stepNumber_115 rfl (zrl rfl) rfl ?_
            refine a_icmp_le 125 121 dX8_stepNumber_118 (by decide) rfl (fun c118 => ?_) (fun c118 => ?_)
            · skip
              refine a_iconst (z := 2) 126 dX8_stepNumber_125 rfl (zrl rfl) rfl ?_
              refine a_ireturn dX8_stepNumber_126 rfl ⟨Nat.zero_le _, Nat.zero_le _⟩ ?_
              refine ⟨j, ⟨hj1, hjl⟩, hsk, congrArg vI ?_, h2, h2a, fun y => h2n.trans (hnb.2 y)⟩
              first
              | (exfalso; omega)
              | (rw [if_pos (hnb.1.mpr (by first | (exact Or.inl ⟨hsq.2.2.2.1.mp (by omega), by omega⟩) | (right; omega)))])
              | (rw [if_neg (fun y => by
                   rcases hnb.1.mp y with z | z
                   · have := hsq.2.2.2.1.mpr z.1; omega
                   · omega)])
            · skip
              refine a_iconst (z := 0) 122 dX8_stepNumber_121 rfl (zrl rfl) rfl ?_
              refine a_goto 126 dX8_stepNumber_122 (by decide) ?_
              refine a_ireturn dX8_stepNumber_126 rfl ⟨Nat.zero_le _, Nat.zero_le _⟩ ?_
              refine ⟨j, ⟨hj1, hjl⟩, hsk, congrArg vI ?_, h2, h2a, fun y => h2n.trans (hnb.2 y)⟩
              first
              | (exfalso; omega)
              | (rw [if_pos (hnb.1.mpr (by first | (exact Or.inl ⟨hsq.2.2.2.1.mp (by omega), by omega⟩) | (right; omega)))])
              | (rw [if_neg (fun y => by
                   rcases hnb.1.mp y with z | z
                   · have := hsq.2.2.2.1.mpr z.1; omega
                   · omega)])
    · skip
      have hjL : q + (j : Int) < L := by omega
      have hTb := (hc2.2.2.1 _ (by omega : (0 : Int) ≤ q + j) hjL).1
      have hsg := sg_d hTb
      refine a_aload_n 17 dX8_stepNumber_16 rfl rfl ?_
      refine a_getR 20 dX8_stepNumber_17 fX8_9 (hs2.1) rfl (hs2.2.1) rfl ?_
      refine a_aload_n 21 dX8_stepNumber_20 rfl rfl ?_
      refine a_getIz ((q + (j : Int))) 24 dX8_stepNumber_21 fX8_19 (hs2.1) rfl h2a rfl ?_
      refine a_baldz (sg (T (q + (j : Int)))) 25 dX8_stepNumber_24 (hs2.2.2) (by omega) (by omega) (hc2.2.2.1 _ (by omega) (by omega)).2 rfl ?_
      refine a_callS 28 (c8_isDigit _ _) cdX8_isDigit lX8_113 dX8_stepNumber_25 rfl rfl ⟨by decide, by decide, rfl, rfl⟩ ⟨Nat.zero_le _, Nat.zero_le _⟩ (Nat.le_of_ble_eq_true rfl) rfl ?_
      rintro _ _ - ⟨b25, rfl, rfl, h25⟩ -
      refine a_if_eq 74 31 dX8_stepNumber_28 (by decide) rfl (fun c28 => ?_) (fun c28 => ?_)
      · skip
        have hj1 : 1 ≤ j := by
          by_cases e : j = 0
          · exfalso
            subst e
            have e2 : q + ((0 : Nat) : Int) = q := by omega
            first
            | omega
            | (have y := isN h25 c28; rw [e2] at y; exact y ((sg_d (hc2.2.2.1 q hq.1 hq.2).1).1.mpr hd))
          · omega
        have hend : ¬ dgB (T (q + j)) := by
          first
          | (rw [hc2.2.2.2 _ (by omega)]; unfold dgB; omega)
          | (intro y; exact isN h25 c28 (hsg.1.mpr y))
        have hsk : isSk (fun x => dgB (T x)) q (q + j) := ⟨by omega, hall, hend⟩
        have hcb := cn_b (T := T) (q := q) j hall
        have hnb := nB_cn (T := T) (q := q) hj1 hall
        have hsq := sg_d (hc2.2.2.1 q hq.1 hq.2).1
        refine a_aload_n 75 dX8_stepNumber_74 rfl rfl ?_
        refine a_getR 78 dX8_stepNumber_75 fX8_9 (hs2.1) rfl (hs2.2.1) rfl ?_
        refine a_aload_n 79 dX8_stepNumber_78 rfl rfl ?_
        refine a_getIz (q) 82 dX8_stepNumber_79 fX8_22 (hs2.1) rfl h2s rfl ?_
        refine a_baldz (sg (T q)) 83 dX8_stepNumber_82 (hs2.2.2) (by omega) (by omega) (hc2.2.2.1 _ (by omega) (by omega)).2 rfl ?_
        refine a_bipush (z := 48) 85 dX8_stepNumber_83 rfl (zrl rfl) rfl ?_
        refine a_icmp_ne 105 88 dX8_stepNumber_85 (by decide) rfl (fun c85 => ?_) (fun c85 => ?_)
        · skip
          refine a_iconst (z := 0) 106 dX8_stepNumber_105 rfl (zrl rfl) rfl ?_
          refine a_istore_n 107 dX8_stepNumber_106 (by decide) rfl rfl ?_
          refine a_iload_n 108 dX8_stepNumber_107 rfl rfl ?_
          refine a_if_ne 121 111 dX8_stepNumber_108 (by decide) rfl (fun c108 => ?_) (fun c108 => ?_)
          · skip
            refine a_iconst (z := 0) 122 dX8_stepNumber_121 rfl (zrl rfl) rfl ?_
            refine a_goto 126 dX8_stepNumber_122 (by decide) ?_
            refine a_ireturn dX8_stepNumber_126 rfl ⟨Nat.zero_le _, Nat.zero_le _⟩ ?_
            refine ⟨j, ⟨hj1, hjl⟩, hsk, congrArg vI ?_, h2, h2a, fun y => h2n.trans (hnb.2 y)⟩
            first
            | (exfalso; omega)
            | (rw [if_pos (hnb.1.mpr (by first | (exact Or.inl ⟨hsq.2.2.2.1.mp (by omega), by omega⟩) | (right; omega)))])
            | (rw [if_neg (fun y => by
                 rcases hnb.1.mp y with z | z
                 · have := hsq.2.2.2.1.mpr z.1; omega
                 · omega)])
          · skip
            refine a_aload_n 112 dX8_stepNumber_111 rfl rfl ?_
            refine a_getIz (cn T q j) 115 dX8_stepNumber_112 fX8_28 (hs2.1) rfl h2n rfl ?_
            refine a_sipush (z := 9999) 118 dX8_stepNumber_115 rfl (zrl rfl) rfl ?_
            refine a_icmp_le 125 121 dX8_stepNumber_118 (by decide) rfl (fun c118 => ?_) (fun c118 => ?_)
            · skip
              refine a_iconst (z := 2) 126 dX8_stepNumber_125 rfl (zrl rfl) rfl ?_
              refine a_ireturn dX8_stepNumber_126 rfl ⟨Nat.zero_le _, Nat.zero_le _⟩ ?_
              refine ⟨j, ⟨hj1, hjl⟩, hsk, congrArg vI ?_, h2, h2a, fun y => h2n.trans (hnb.2 y)⟩
              first
              | (exfalso; omega)
              | (rw [if_pos (hnb.1.mpr (by first | (exact Or.inl ⟨hsq.2.2.2.1.mp (by omega), by omega⟩) | (right; omega)))])
              | (rw [if_neg (fun y => by
                   rcases hnb.1.mp y with z | z
                   · have := hsq.2.2.2.1.mpr z.1; omega
                   · omega)])
            · skip
              refine a_iconst (z := 0) 122 dX8_stepNumber_121 rfl (zrl rfl) rfl ?_
              refine a_goto 126 dX8_stepNumber_122 (by decide) ?_
              refine a_ireturn dX8_stepNumber_126 rfl ⟨Nat.zero_le _, Nat.zero_le _⟩ ?_
              refine ⟨j, ⟨hj1, hjl⟩, hsk, congrArg vI ?_, h2, h2a, fun y => h2n.trans (hnb.2 y)⟩
              first
              | (exfalso; omega)
              | (rw [if_pos (hnb.1.mpr (by first | (exact Or.inl ⟨hsq.2.2.2.1.mp (by omega), by omega⟩) | (right; omega)))])
              | (rw [if_neg (fun y => by
                   rcases hnb.1.mp y with z | z
                   · have := hsq.2.2.2.1.mpr z.1; omega
                   · omega)])
        · skip
          refine a_aload_n 89 dX8_stepNumber_88 rfl rfl ?_
          refine a_getIz ((q + (j : Int))) 92 dX8_stepNumber_89 fX8_19 (hs2.1) rfl h2a rfl ?_
          refine a_aload_n 93 dX8_stepNumber_92 rfl rfl ?_
          refine a_getIz (q) 96 dX8_stepNumber_93 fX8_22 (hs2.1) rfl h2s rfl ?_
          refine a_isub 97 dX8_stepNumber_96 (by unfold zr; omega) rfl ?_
          refine a_iconst (z := 1) 98 dX8_stepNumber_97 rfl (zrl rfl) rfl ?_
          refine a_icmp_le 105 101 dX8_stepNumber_98 (by decide) rfl (fun c98 => ?_) (fun c98 => ?_)
          · skip
            refine a_iconst (z := 0) 106 dX8_stepNumber_105 rfl (zrl rfl) rfl ?_
            refine a_istore_n 107 dX8_stepNumber_106 (by decide) rfl rfl ?_
            refine a_iload_n 108 dX8_stepNumber_107 rfl rfl ?_
            refine a_if_ne 121 111 dX8_stepNumber_108 (by decide) rfl (fun c108 => ?_) (fun c108 => ?_)
            · skip
              refine a_iconst (z := 0) 122 dX8_stepNumber_121 rfl (zrl rfl) rfl ?_
              refine a_goto 126 dX8_stepNumber_122 (by decide) ?_
              refine a_ireturn dX8_stepNumber_126 rfl ⟨Nat.zero_le _, Nat.zero_le _⟩ ?_
              refine ⟨j, ⟨hj1, hjl⟩, hsk, congrArg vI ?_, h2, h2a, fun y => h2n.trans (hnb.2 y)⟩
              first
              | (exfalso; omega)
              | (rw [if_pos (hnb.1.mpr (by first | (exact Or.inl ⟨hsq.2.2.2.1.mp (by omega), by omega⟩) | (right; omega)))])
              | (rw [if_neg (fun y => by
                   rcases hnb.1.mp y with z | z
                   · have := hsq.2.2.2.1.mpr z.1; omega
                   · omega)])
            · skip
              refine a_aload_n 112 dX8_stepNumber_111 rfl rfl ?_
              refine a_getIz (cn T q j) 115 dX8_stepNumber_112 fX8_28 (hs2.1) rfl h2n rfl ?_
              refine a_sipush (z := 9999) 118 dX8_stepNumber_115 rfl (zrl rfl) rfl ?_
              refine a_icmp_le 125 121 dX8_stepNumber_118 (by decide) rfl (fun c118 => ?_) (fun c118 => ?_)
              · skip
                refine a_iconst (z := 2) 126 dX8_stepNumber_125 rfl (zrl rfl) rfl ?_
                refine a_ireturn dX8_stepNumber_126 rfl ⟨Nat.zero_le _, Nat.zero_le _⟩ ?_
                refine ⟨j, ⟨hj1, hjl⟩, hsk, congrArg vI ?_, h2, h2a, fun y => h2n.trans (hnb.2 y)⟩
                first
                | (exfalso; omega)
                | (rw [if_pos (hnb.1.mpr (by first | (exact Or.inl ⟨hsq.2.2.2.1.mp (by omega), by omega⟩) | (right; omega)))])
                | (rw [if_neg (fun y => by
                     rcases hnb.1.mp y with z | z
                     · have := hsq.2.2.2.1.mpr z.1; omega
                     · omega)])
              · skip
                refine a_iconst (z := 0) 122 dX8_stepNumber_121 rfl (zrl rfl) rfl ?_
                refine a_goto 126 dX8_stepNumber_122 (by decide) ?_
                refine a_ireturn dX8_stepNumber_126 rfl ⟨Nat.zero_le _, Nat.zero_le _⟩ ?_
                refine ⟨j, ⟨hj1, hjl⟩, hsk, congrArg vI ?_, h2, h2a, fun y => h2n.trans (hnb.2 y)⟩
                first
                | (exfalso; omega)
                | (rw [if_pos (hnb.1.mpr (by first | (exact Or.inl ⟨hsq.2.2.2.1.mp (by omega), by omega⟩) | (right; omega)))])
                | (rw [if_neg (fun y => by
                     rcases hnb.1.mp y with z | z
                     · have := hsq.2.2.2.1.mpr z.1; omega
                     · omega)])
          · skip
            refine a_iconst (z := 1) 102 dX8_stepNumber_101 rfl (zrl rfl) rfl ?_
            refine a_goto 106 dX8_stepNumber_102 (by decide) ?_
            refine a_istore_n 107 dX8_stepNumber_106 (by decide) rfl rfl ?_
            refine a_iload_n 108 dX8_stepNumber_107 rfl rfl ?_
            refine a_if_ne 121 111 dX8_stepNumber_108 (by decide) rfl (fun c108 => ?_) (fun c108 => ?_)
            · skip
              refine a_iconst (z := 0) 122 dX8_stepNumber_121 rfl (zrl rfl) rfl ?_
              refine a_goto 126 dX8_stepNumber_122 (by decide) ?_
              refine a_ireturn dX8_stepNumber_126 rfl ⟨Nat.zero_le _, Nat.zero_le _⟩ ?_
              refine ⟨j, ⟨hj1, hjl⟩, hsk, congrArg vI ?_, h2, h2a, fun y => h2n.trans (hnb.2 y)⟩
              first
              | (exfalso; omega)
              | (rw [if_pos (hnb.1.mpr (by first | (exact Or.inl ⟨hsq.2.2.2.1.mp (by omega), by omega⟩) | (right; omega)))])
              | (rw [if_neg (fun y => by
                   rcases hnb.1.mp y with z | z
                   · have := hsq.2.2.2.1.mpr z.1; omega
                   · omega)])
            · skip
              refine a_aload_n 112 dX8_stepNumber_111 rfl rfl ?_
              refine a_getIz (cn T q j) 115 dX8_stepNumber_112 fX8_28 (hs2.1) rfl h2n rfl ?_
              refine a_sipush (z := 9999) 118 dX8_stepNumber_115 rfl (zrl rfl) rfl ?_
              refine a_icmp_le 125 121 dX8_stepNumber_118 (by decide) rfl (fun c118 => ?_) (fun c118 => ?_)
              · skip
                refine a_iconst (z := 2) 126 dX8_stepNumber_125 rfl (zrl rfl) rfl ?_
                refine a_ireturn dX8_stepNumber_126 rfl ⟨Nat.zero_le _, Nat.zero_le _⟩ ?_
                refine ⟨j, ⟨hj1, hjl⟩, hsk, congrArg vI ?_, h2, h2a, fun y => h2n.trans (hnb.2 y)⟩
                first
                | (exfalso; omega)
                | (rw [if_pos (hnb.1.mpr (by first | (exact Or.inl ⟨hsq.2.2.2.1.mp (by omega), by omega⟩) | (right; omega)))])
                | (rw [if_neg (fun y => by
                     rcases hnb.1.mp y with z | z
                     · have := hsq.2.2.2.1.mpr z.1; omega
                     · omega)])
              · skip
                refine a_iconst (z := 0) 122 dX8_stepNumber_121 rfl (zrl rfl) rfl ?_
                refine a_goto 126 dX8_stepNumber_122 (by decide) ?_
                refine a_ireturn dX8_stepNumber_126 rfl ⟨Nat.zero_le _, Nat.zero_le _⟩ ?_
                refine ⟨j, ⟨hj1, hjl⟩, hsk, congrArg vI ?_, h2, h2a, fun y => h2n.trans (hnb.2 y)⟩
                first
                | (exfalso; omega)
                | (rw [if_pos (hnb.1.mpr (by first | (exact Or.inl ⟨hsq.2.2.2.1.mp (by omega), by omega⟩) | (right; omega)))])
                | (rw [if_neg (fun y => by
                     rcases hnb.1.mp y with z | z
                     · have := hsq.2.2.2.1.mpr z.1; omega
                     · omega)])
      · skip
        have hdj : dgB (T (q + j)) := hsg.1.mp (isT h25 c28)
        have hcb := cn_b (T := T) (q := q) j hall
        have hsb := hsg.2.2.2.2.2.1 (by omega)
        refine a_aload_n 32 dX8_stepNumber_31 rfl rfl ?_
        refine a_bipush (z := 10) 34 dX8_stepNumber_32 rfl (zrl rfl) rfl ?_
        refine a_aload_n 35 dX8_stepNumber_34 rfl rfl ?_
        refine a_getIz (cn T q j) 38 dX8_stepNumber_35 fX8_28 (hs2.1) rfl h2n rfl ?_
        refine a_imul 39 dX8_stepNumber_38 (by unfold zr; omega) rfl ?_
        refine a_aload_n 40 dX8_stepNumber_39 rfl rfl ?_
        refine a_getR 43 dX8_stepNumber_40 fX8_9 (hs2.1) rfl (hs2.2.1) rfl ?_
        refine a_aload_n 44 dX8_stepNumber_43 rfl rfl ?_
        refine a_getIz ((q + (j : Int))) 47 dX8_stepNumber_44 fX8_19 (hs2.1) rfl h2a rfl ?_
        refine a_baldz (sg (T (q + (j : Int)))) 48 dX8_stepNumber_47 (hs2.2.2) (by omega) (by omega) (hc2.2.2.1 _ (by omega) (by omega)).2 rfl ?_
        rw [hsb]
        refine a_iadd 49 dX8_stepNumber_48 (by unfold zr; omega) rfl ?_
        refine a_bipush (z := 48) 51 dX8_stepNumber_49 rfl (zrl rfl) rfl ?_
        refine a_isub 52 dX8_stepNumber_51 (by unfold zr; omega) rfl ?_
        refine a_sipush (z := 10000) 55 dX8_stepNumber_52 rfl (zrl rfl) rfl ?_
        refine a_min 58 klX8_129 dX8_stepNumber_55 ⟨by decide, by decide, rfl, rfl⟩ ⟨Nat.zero_le _, Nat.zero_le _⟩ (Nat.le_of_ble_eq_true rfl) rfl ?_
        refine a_putI 61 dX8_stepNumber_58 fX8_28 (Or.inl rfl) (hs2.1) (Or.inl rfl) rfl ?_
        refine a_aload_n 62 dX8_stepNumber_61 rfl rfl ?_
        refine a_dup 63 dX8_stepNumber_62 (by intro w h; cases h) rfl ?_
        refine a_getIz ((q + (j : Int))) 66 dX8_stepNumber_63 fX8_19 (hs2.1) rfl ((gI_n (Or.inr (by decide))).trans h2a) rfl ?_
        refine a_iconst (z := 1) 67 dX8_stepNumber_66 rfl (zrl rfl) rfl ?_
        refine a_iadd 68 dX8_stepNumber_67 (by unfold zr; omega) rfl ?_
        refine a_putI 71 dX8_stepNumber_68 fX8_19 (Or.inl rfl) (hs2.1) (Or.inl rfl) rfl ?_
        refine a_goto 5 dX8_stepNumber_71 (by decide) ?_
        refine ih5 (_, j + 1) ⟨(h2.wr (by unfold xN; omega)).wr (by unfold xN; omega), gI_s.trans (by dsimp only; omega), by dsimp only; omega, fun x a b => ?_, (gI_n (Or.inr (by decide))).trans gI_s⟩ (by dsimp only; omega)
        by_cases e : x = q + j
        · rw [e]; exact hdj
        · exact hall x a (by dsimp only at b; omega)
  · exact ⟨sameB.rf.wr (by unfold xN; omega), (gI_n (Or.inr (by decide))).trans (by rw [ha]; dsimp only; omega), by dsimp only; omega, fun x a b => by dsimp only at b; omega, gI_s⟩
set_option maxHeartbeats 4000000 in
set_option maxRecDepth 100000 in
theorem c8_spells (g : GH) {T : Int → Int} {L : Int} (hs : TXs g) (hc : TXc g T L) {q : Int} {n k : Nat} (hk5 : k < 5) (hq : 0 ≤ q ∧ q + n ≤ L) (ha : g.2.1 26 2 = q + n) (hst : g.2.1 26 3 = q) (hall : ∀ x, q ≤ x → x < q + n → ltB (T x)) : AMet mX8_spells g [vA 26, vA (1000000 + k)] (pB g (n = sL k ∧ ∀ i : Nat, i < n → T (q + i) = sB k i)) := by
  refine AMet.of [vA 26, vA (1000000 + k), none] (by decide) rfl (Nat.le_of_ble_eq_true rfl) ?_
  have hL := hc.1
  refine a_aload_n 1 dX8_spells_0 rfl rfl ?_
  refine a_getIz (q + n) 4 dX8_spells_1 fX8_19 (hs.1) rfl ha rfl ?_
  refine a_aload_n 5 dX8_spells_4 rfl rfl ?_
  refine a_getIz (q) 8 dX8_spells_5 fX8_22 (hs.1) rfl hst rfl ?_
  refine a_isub 9 dX8_spells_8 (by unfold zr; omega) rfl ?_
  refine a_aload_n 10 dX8_spells_9 rfl rfl ?_
  refine a_callVT 13 (j_len _ hk5) cdJ0_length_8abf5 lX8_143 dX8_spells_10 rfl hk5 rfl ⟨by decide, by decide, rfl, rfl⟩ ⟨Nat.zero_le _, Nat.zero_le _⟩ (Nat.le_of_ble_eq_true rfl) rfl ?_
  rintro _ _ - ⟨rfl, rfl⟩ -
  refine a_icmp_eq 18 16 dX8_spells_13 (by decide) rfl (fun c13 => ?_) (fun c13 => ?_)
  · skip
    have hnk : n = sL k := by omega
    refine a_aload_n 19 dX8_spells_18 rfl rfl ?_
    refine a_getIz (q) 22 dX8_spells_19 fX8_22 (hs.1) rfl hst rfl ?_
    refine a_istore_n 23 dX8_spells_22 (by decide) rfl rfl ?_
    refine AW.loop (α := Int) (fun p => (q + n - p).toNat) (fun p => (q ≤ p ∧ p ≤ q + n) ∧ ∀ i : Nat, q + i < p → T (q + i) = sB k i) (fun p => g) (fun p => [vA 26, vA (1000000 + k), vI p]) (fun p => []) ?_ q ?_
    · rintro b ⟨hb, hI⟩ ih23
      try dsimp only at hI ih ⊢
      try dsimp only at hb hI ih23 ⊢
      obtain ⟨j, rfl⟩ : ∃ j : Nat, b = q + (j : Int) := ⟨(b - q).toNat, by omega⟩
      refine a_iload_n 24 dX8_spells_23 rfl rfl ?_
      refine a_aload_n 25 dX8_spells_24 rfl rfl ?_
      refine a_getIz (q + n) 28 dX8_spells_25 fX8_19 (hs.1) rfl ha rfl ?_
      refine a_icmp_ge 58 31 dX8_spells_28 (by decide) rfl (fun c28 => ?_) (fun c28 => ?_)
      · skip
        refine a_iconst (z := 1) 59 dX8_spells_58 rfl (zrl rfl) rfl ?_
        refine a_breturn dX8_spells_59 rfl (by omega) ⟨Nat.zero_le _, Nat.zero_le _⟩ ?_
        exact ⟨_, rfl, rfl, Or.inl ⟨rfl, hnk, fun i hi => hI i (by omega)⟩⟩
      · skip
        have hjn : j < n := by omega
        have hTb := (hc.2.2.1 (q + (j : Int)) (by omega) (by omega)).1
        have hsb := (sg_d hTb).2.2.2.2.2.1 (by have := (hall (q + j) (by omega) (by omega)).2; omega)
        refine a_aload_n 32 dX8_spells_31 rfl rfl ?_
        refine a_getR 35 dX8_spells_32 fX8_9 (hs.1) rfl (hs.2.1) rfl ?_
        refine a_iload_n 36 dX8_spells_35 rfl rfl ?_
        refine a_baldz (sg (T (q + (j : Int)))) 37 dX8_spells_36 (hs.2.2) (by omega) (by omega) (hc.2.2.1 _ (by omega) (by omega)).2 rfl ?_
        refine a_aload_n 38 dX8_spells_37 rfl rfl ?_
        refine a_iload_n 39 dX8_spells_38 rfl rfl ?_
        refine a_aload_n 40 dX8_spells_39 rfl rfl ?_
        refine a_getIz (q) 43 dX8_spells_40 fX8_22 (hs.1) rfl hst rfl ?_
        refine a_isub 44 dX8_spells_43 (by unfold zr; omega) rfl ?_
        rw [show q + (j : Int) - q = (j : Int) by omega]
        refine a_callVT 47 (j_chA _ _ hk5 ⟨by omega, by omega⟩) cdJ0_charAt_5068e lX8_147 dX8_spells_44 rfl hk5 rfl ⟨by decide, by decide, rfl, rfl⟩ ⟨Nat.zero_le _, Nat.zero_le _⟩ (Nat.le_of_ble_eq_true rfl) rfl ?_
        rintro _ _ - ⟨rfl, rfl⟩ -
        refine a_icmp_eq 52 50 dX8_spells_47 (by decide) rfl (fun c47 => ?_) (fun c47 => ?_)
        · skip
          refine a_iinc 55 dX8_spells_52 rfl (by unfold zr; omega) (by decide) rfl rfl ?_
          refine a_goto 23 dX8_spells_55 (by decide) ?_
          rw [Int.toNat_natCast, hsb] at c47
          refine ih23 (q + (j : Int) + 1) ⟨by omega, fun i hi => ?_⟩ (by omega)
          by_cases e : i = j
          · subst e; exact c47
          · exact hI i (by omega)
        · skip
          refine a_iconst (z := 0) 51 dX8_spells_50 rfl (zrl rfl) rfl ?_
          refine a_breturn dX8_spells_51 rfl (by omega) ⟨Nat.zero_le _, Nat.zero_le _⟩ ?_
          refine ⟨_, rfl, rfl, Or.inr ⟨rfl, fun z => c47 ?_⟩⟩
          rw [Int.toNat_natCast, hsb]; exact z.2 j hjn
    · exact ⟨by omega, fun i hi => by omega⟩
  · skip
    refine a_iconst (z := 0) 17 dX8_spells_16 rfl (zrl rfl) rfl ?_
    refine a_breturn dX8_spells_17 rfl (by omega) ⟨Nat.zero_le _, Nat.zero_le _⟩ ?_
    exact ⟨_, rfl, rfl, Or.inr ⟨rfl, fun z => by have := z.1; omega⟩⟩
/-- the four words -/
theorem wE_is {T : Int → Int} {q : Int} {n : Nat} (hn : 1 ≤ n) (h : ∀ x, q ≤ x → x < q + n → ltB (T x)) : (∀ k, k < 4 → ((n = sL k ∧ ∀ i : Nat, i < n → T (q + i) = sB k i) ↔ wE T q n = k)) ∧ (wE T q n = -9 ∨ (0 ≤ wE T q n ∧ wE T q n ≤ 3)) := by
  have hr : ∀ v, wOf v = -9 ∨ (0 ≤ wOf v ∧ wOf v ≤ 3) := fun v => by
    unfold wOf
    by_cases a : v = 1918989413
    · rw [if_pos a]; omega
    · rw [if_neg a]
      by_cases b : v = 7366002
      · rw [if_pos b]; omega
      · rw [if_neg b]
        by_cases c : v = 1885434484
        · rw [if_pos c]; omega
        · rw [if_neg c]
          by_cases d : v = 6583653
          · rw [if_pos d]; omega
          · rw [if_neg d]; omega
  have hw : ∀ v, (wOf v = ((0 : Nat) : Int) ↔ v = 1918989413) ∧ (wOf v = ((1 : Nat) : Int) ↔ v = 7366002) ∧ (wOf v = ((2 : Nat) : Int) ↔ v = 1885434484) ∧ (wOf v = ((3 : Nat) : Int) ↔ v = 6583653) := fun v => by
    unfold wOf
    by_cases a : v = 1918989413
    · rw [if_pos a]; omega
    · rw [if_neg a]
      by_cases b : v = 7366002
      · rw [if_pos b]; omega
      · rw [if_neg b]
        by_cases c : v = 1885434484
        · rw [if_pos c]; omega
        · rw [if_neg c]
          by_cases d : v = 6583653
          · rw [if_pos d]; omega
          · rw [if_neg d]; omega
  have l0 : sL 0 = 4 := rfl
  have l1 : sL 1 = 3 := rfl
  have l2 : sL 2 = 4 := rfl
  have l3 : sL 3 = 3 := rfl
  by_cases h5 : n < 5
  · have e : wE T q n = wOf (wv T q n) := if_pos h5
    rw [e]
    refine ⟨fun k hk => ?_, hr _⟩
    have hb : ∀ i : Nat, i < n → 97 ≤ T (q + i) ∧ T (q + i) ≤ 122 := fun i hi => h _ (by omega) (by omega)
    obtain ⟨w0, w1, w2, w3⟩ := hw (wv T q n)
    have hn4 : n = 1 ∨ n = 2 ∨ n = 3 ∨ n = 4 := by omega
    have hk4 : k = 0 ∨ k = 1 ∨ k = 2 ∨ k = 3 := by omega
    have s0 : sB 0 0 = 114 := rfl
    have s1 : sB 0 1 = 97 := rfl
    have s2 : sB 0 2 = 116 := rfl
    have s3 : sB 0 3 = 101 := rfl
    have t0 : sB 1 0 = 112 := rfl
    have t1 : sB 1 1 = 101 := rfl
    have t2 : sB 1 2 = 114 := rfl
    have u0 : sB 2 0 = 112 := rfl
    have u1 : sB 2 1 = 97 := rfl
    have u2 : sB 2 2 = 114 := rfl
    have u3 : sB 2 3 = 116 := rfl
    have x0 : sB 3 0 = 100 := rfl
    have x1 : sB 3 1 = 117 := rfl
    have x2 : sB 3 2 = 101 := rfl
    rcases hn4 with rfl | rfl | rfl | rfl
    · have e1 : wv T q 1 = 256 * 0 + T (q + (0 : Nat)) := rfl
      have b0 := hb 0 (by omega)
      rcases hk4 with rfl | rfl | rfl | rfl <;> refine ⟨fun z => ?_, fun z => ?_⟩ <;> (try (have := z.1; omega)) <;> (first | (have := w0.mp z; omega) | (have := w1.mp z; omega) | (have := w2.mp z; omega) | (have := w3.mp z; omega))
    · have e1 : wv T q 2 = 256 * (256 * 0 + T (q + (0 : Nat))) + T (q + (1 : Nat)) := rfl
      have b0 := hb 0 (by omega); have b1 := hb 1 (by omega)
      rcases hk4 with rfl | rfl | rfl | rfl <;> refine ⟨fun z => ?_, fun z => ?_⟩ <;> (try (have := z.1; omega)) <;> (first | (have := w0.mp z; omega) | (have := w1.mp z; omega) | (have := w2.mp z; omega) | (have := w3.mp z; omega))
    · have e1 : wv T q 3 = 256 * (256 * (256 * 0 + T (q + (0 : Nat))) + T (q + (1 : Nat))) + T (q + (2 : Nat)) := rfl
      have b0 := hb 0 (by omega); have b1 := hb 1 (by omega); have b2 := hb 2 (by omega)
      rcases hk4 with rfl | rfl | rfl | rfl
      · exact ⟨fun z => by have := z.1; omega, fun z => by have := w0.mp z; omega⟩
      · refine ⟨fun z => w1.mpr ?_, fun z => ⟨rfl, fun i hi => ?_⟩⟩
        · have y0 := z.2 0 (by omega); have y1 := z.2 1 (by omega); have y2 := z.2 2 (by omega); omega
        · have := w1.mp z
          have hi3 : i = 0 ∨ i = 1 ∨ i = 2 := by omega
          rcases hi3 with rfl | rfl | rfl <;> omega
      · exact ⟨fun z => by have := z.1; omega, fun z => by have := w2.mp z; omega⟩
      · refine ⟨fun z => w3.mpr ?_, fun z => ⟨rfl, fun i hi => ?_⟩⟩
        · have y0 := z.2 0 (by omega); have y1 := z.2 1 (by omega); have y2 := z.2 2 (by omega); omega
        · have := w3.mp z
          have hi3 : i = 0 ∨ i = 1 ∨ i = 2 := by omega
          rcases hi3 with rfl | rfl | rfl <;> omega
    · have e1 : wv T q 4 = 256 * (256 * (256 * (256 * 0 + T (q + (0 : Nat))) + T (q + (1 : Nat))) + T (q + (2 : Nat))) + T (q + (3 : Nat)) := rfl
      have b0 := hb 0 (by omega); have b1 := hb 1 (by omega); have b2 := hb 2 (by omega); have b3 := hb 3 (by omega)
      rcases hk4 with rfl | rfl | rfl | rfl
      · refine ⟨fun z => w0.mpr ?_, fun z => ⟨rfl, fun i hi => ?_⟩⟩
        · have y0 := z.2 0 (by omega); have y1 := z.2 1 (by omega); have y2 := z.2 2 (by omega); have y3 := z.2 3 (by omega); omega
        · have := w0.mp z
          have hi3 : i = 0 ∨ i = 1 ∨ i = 2 ∨ i = 3 := by omega
          rcases hi3 with rfl | rfl | rfl | rfl <;> omega
      · exact ⟨fun z => by have := z.1; omega, fun z => by have := w1.mp z; omega⟩
      · refine ⟨fun z => w2.mpr ?_, fun z => ⟨rfl, fun i hi => ?_⟩⟩
        · have y0 := z.2 0 (by omega); have y1 := z.2 1 (by omega); have y2 := z.2 2 (by omega); have y3 := z.2 3 (by omega); omega
        · have := w2.mp z
          have hi3 : i = 0 ∨ i = 1 ∨ i = 2 ∨ i = 3 := by omega
          rcases hi3 with rfl | rfl | rfl | rfl <;> omega
      · exact ⟨fun z => by have := z.1; omega, fun z => by have := w3.mp z; omega⟩
  · have e : wE T q n = -9 := if_neg h5
    rw [e]
    refine ⟨fun k hk => ⟨fun z => ?_, fun z => by omega⟩, Or.inl rfl⟩
    have h7 : ∀ k, k < 4 → sL k < 5 := by decide
    have := h7 k hk
    have := z.1
    omega
set_option maxHeartbeats 4000000 in
set_option maxRecDepth 100000 in
theorem c8_stepWord (g : GH) {T : Int → Int} {L : Int} (hs : TXs g) (hc : TXc g T L) {q : Int} (hq : 0 ≤ q ∧ q < L) (ha : g.2.1 26 2 = q) (hst : g.2.1 26 3 = q) (hd : ltB (T q)) : AMet mX8_stepWord g [vA 26] (fun r g' => ∃ n : Nat, (1 ≤ n ∧ q + n ≤ L) ∧ isSk (fun x => ltB (T x)) q (q + n) ∧ r = vI (if wE T q n = -9 then 0 else 3 + wE T q n) ∧ sameB xN g g' ∧ g'.2.1 26 2 = q + n) := by
  refine AMet.of [vA 26] (by decide) rfl (Nat.le_of_ble_eq_true rfl) ?_
  refine AW.loop (α := GH × Nat) (fun p => (L - q).toNat - p.2) (fun p => sameB xN g p.1 ∧ p.1.2.1 26 2 = q + p.2 ∧ q + p.2 ≤ L ∧ (∀ x, q ≤ x → x < q + p.2 → ltB (T x))) (fun p => p.1) (fun p => [vA 26]) (fun p => []) ?_ (g, 0) ?_
  · rintro ⟨g2, j⟩ ⟨h2, h2a, hjl, hall⟩ ih0
    try dsimp only at hI ih ⊢
    try dsimp only at h2 h2a hjl hall ih0 ⊢
    have hs2 := TXs.keep h2 hs
    have hc2 := hc.n h2
    have hL := hc.1
    have h2s : g2.2.1 26 3 = q := (h2.2.2 26 3 (by unfold xN; omega)).trans hst
    refine a_aload_n 1 dX8_stepWord_0 rfl rfl ?_
    refine a_getIz ((q + (j : Int))) 4 dX8_stepWord_1 fX8_19 (hs2.1) rfl h2a rfl ?_
    refine a_aload_n 5 dX8_stepWord_4 rfl rfl ?_
    refine a_getIz (L) 8 dX8_stepWord_5 fX8_15 (hs2.1) rfl hc2.2.1 rfl ?_
    refine a_icmp_ge 39 11 dX8_stepWord_8 (by decide) rfl (fun c8 => ?_) (fun c8 => ?_)
    · skip
      have hj1 : 1 ≤ j := by
        by_cases e : j = 0
        · exfalso
          subst e
          have e2 : q + ((0 : Nat) : Int) = q := by omega
          first
          | omega
          | (have y := isN h20 c23; rw [e2] at y; exact y ((sg_d (hc2.2.2.1 q hq.1 hq.2).1).2.1.mpr hd))
        · omega
      have hend : ¬ ltB (T (q + j)) := by
        first
        | (rw [hc2.2.2.2 _ (by omega)]; unfold ltB; omega)
        | (intro y; exact isN h20 c23 (hsg.2.1.mpr y))
      have hsk : isSk (fun x => ltB (T x)) q (q + j) := ⟨by omega, hall, hend⟩
      have hwe := wE_is (T := T) (q := q) hj1 hall
      refine a_aload_n 40 dX8_stepWord_39 rfl rfl ?_
      refine a_ldcS (k := 0) 42 dX8_stepWord_40 rfl rfl rfl ?_
      refine a_callV 45 (c8_spells _ (k := 0) hs2 hc2 (by decide) ⟨hq.1, hjl⟩ h2a h2s hall) cdX8_spells lX8_134 dX8_stepWord_42 rfl (hs2.1) rfl ⟨by decide, by decide, rfl, rfl⟩ ⟨Nat.zero_le _, Nat.zero_le _⟩ (Nat.le_of_ble_eq_true rfl) rfl ?_
      rintro _ _ - ⟨b42, rfl, rfl, h42⟩ -
      refine a_if_eq 50 48 dX8_stepWord_45 (by decide) rfl (fun c45 => ?_) (fun c45 => ?_)
      · skip
        refine a_aload_n 51 dX8_stepWord_50 rfl rfl ?_
        refine a_ldcS (k := 1) 53 dX8_stepWord_51 rfl rfl rfl ?_
        refine a_callV 56 (c8_spells _ (k := 1) hs2 hc2 (by decide) ⟨hq.1, hjl⟩ h2a h2s hall) cdX8_spells lX8_134 dX8_stepWord_53 rfl (hs2.1) rfl ⟨by decide, by decide, rfl, rfl⟩ ⟨Nat.zero_le _, Nat.zero_le _⟩ (Nat.le_of_ble_eq_true rfl) rfl ?_
        rintro _ _ - ⟨b53, rfl, rfl, h53⟩ -
        refine a_if_eq 61 59 dX8_stepWord_56 (by decide) rfl (fun c56 => ?_) (fun c56 => ?_)
        · skip
          refine a_aload_n 62 dX8_stepWord_61 rfl rfl ?_
          refine a_ldcS (k := 2) 64 dX8_stepWord_62 rfl rfl rfl ?_
          refine a_callV 67 (c8_spells _ (k := 2) hs2 hc2 (by decide) ⟨hq.1, hjl⟩ h2a h2s hall) cdX8_spells lX8_134 dX8_stepWord_64 rfl (hs2.1) rfl ⟨by decide, by decide, rfl, rfl⟩ ⟨Nat.zero_le _, Nat.zero_le _⟩ (Nat.le_of_ble_eq_true rfl) rfl ?_
          rintro _ _ - ⟨b64, rfl, rfl, h64⟩ -
          refine a_if_eq 72 70 dX8_stepWord_67 (by decide) rfl (fun c67 => ?_) (fun c67 => ?_)
          · skip
            refine a_aload_n 73 dX8_stepWord_72 rfl rfl ?_
            refine a_ldcS (k := 3) 75 dX8_stepWord_73 rfl rfl rfl ?_
            refine a_callV 78 (c8_spells _ (k := 3) hs2 hc2 (by decide) ⟨hq.1, hjl⟩ h2a h2s hall) cdX8_spells lX8_134 dX8_stepWord_75 rfl (hs2.1) rfl ⟨by decide, by decide, rfl, rfl⟩ ⟨Nat.zero_le _, Nat.zero_le _⟩ (Nat.le_of_ble_eq_true rfl) rfl ?_
            rintro _ _ - ⟨b75, rfl, rfl, h75⟩ -
            refine a_if_eq 86 81 dX8_stepWord_78 (by decide) rfl (fun c78 => ?_) (fun c78 => ?_)
            · skip
              refine a_iconst (z := 0) 87 dX8_stepWord_86 rfl (zrl rfl) rfl ?_
              refine a_ireturn dX8_stepWord_87 rfl ⟨Nat.zero_le _, Nat.zero_le _⟩ ?_
              have y : wE T q j = -9 := by
                rcases hwe.2 with y | y
                · exact y
                · exfalso
                  have e4 : wE T q j = ((0 : Nat) : Int) ∨ wE T q j = ((1 : Nat) : Int) ∨ wE T q j = ((2 : Nat) : Int) ∨ wE T q j = ((3 : Nat) : Int) := by omega
                  rcases e4 with e4 | e4 | e4 | e4
                  · exact isN h42 c45 ((hwe.1 0 (by omega)).mpr e4)
                  · exact isN h53 c56 ((hwe.1 1 (by omega)).mpr e4)
                  · exact isN h64 c67 ((hwe.1 2 (by omega)).mpr e4)
                  · exact isN h75 c78 ((hwe.1 3 (by omega)).mpr e4)
              exact ⟨j, ⟨hj1, hjl⟩, hsk, congrArg vI (by rw [if_pos y]), h2, h2a⟩
            · skip
              refine a_bipush (z := 6) 83 dX8_stepWord_81 rfl (zrl rfl) rfl ?_
              refine a_goto 87 dX8_stepWord_83 (by decide) ?_
              refine a_ireturn dX8_stepWord_87 rfl ⟨Nat.zero_le _, Nat.zero_le _⟩ ?_
              have y := (hwe.1 3 (by omega)).mp (isT h75 c78)
              exact ⟨j, ⟨hj1, hjl⟩, hsk, congrArg vI (by rw [if_neg (by omega), y]; rfl), h2, h2a⟩
          · skip
            refine a_iconst (z := 5) 71 dX8_stepWord_70 rfl (zrl rfl) rfl ?_
            refine a_ireturn dX8_stepWord_71 rfl ⟨Nat.zero_le _, Nat.zero_le _⟩ ?_
            have y := (hwe.1 2 (by omega)).mp (isT h64 c67)
            exact ⟨j, ⟨hj1, hjl⟩, hsk, congrArg vI (by rw [if_neg (by omega), y]; rfl), h2, h2a⟩
        · skip
          refine a_iconst (z := 4) 60 dX8_stepWord_59 rfl (zrl rfl) rfl ?_
          refine a_ireturn dX8_stepWord_60 rfl ⟨Nat.zero_le _, Nat.zero_le _⟩ ?_
          have y := (hwe.1 1 (by omega)).mp (isT h53 c56)
          exact ⟨j, ⟨hj1, hjl⟩, hsk, congrArg vI (by rw [if_neg (by omega), y]; rfl), h2, h2a⟩
      · skip
        refine a_iconst (z := 3) 49 dX8_stepWord_48 rfl (zrl rfl) rfl ?_
        refine a_ireturn dX8_stepWord_49 rfl ⟨Nat.zero_le _, Nat.zero_le _⟩ ?_
        have y := (hwe.1 0 (by omega)).mp (isT h42 c45)
        exact ⟨j, ⟨hj1, hjl⟩, hsk, congrArg vI (by rw [if_neg (by omega), y]; rfl), h2, h2a⟩
    · skip
      have hjL : q + (j : Int) < L := by omega
      have hTb := (hc2.2.2.1 _ (by omega : (0 : Int) ≤ q + j) hjL).1
      have hsg := sg_d hTb
      refine a_aload_n 12 dX8_stepWord_11 rfl rfl ?_
      refine a_getR 15 dX8_stepWord_12 fX8_9 (hs2.1) rfl (hs2.2.1) rfl ?_
      refine a_aload_n 16 dX8_stepWord_15 rfl rfl ?_
      refine a_getIz ((q + (j : Int))) 19 dX8_stepWord_16 fX8_19 (hs2.1) rfl h2a rfl ?_
      refine a_baldz (sg (T (q + (j : Int)))) 20 dX8_stepWord_19 (hs2.2.2) (by omega) (by omega) (hc2.2.2.1 _ (by omega) (by omega)).2 rfl ?_
      refine a_callS 23 (c8_isLetter _ _) cdX8_isLetter lX8_120 dX8_stepWord_20 rfl rfl ⟨by decide, by decide, rfl, rfl⟩ ⟨Nat.zero_le _, Nat.zero_le _⟩ (Nat.le_of_ble_eq_true rfl) rfl ?_
      rintro _ _ - ⟨b20, rfl, rfl, h20⟩ -
      refine a_if_eq 39 26 dX8_stepWord_23 (by decide) rfl (fun c23 => ?_) (fun c23 => ?_)
      · skip
        have hj1 : 1 ≤ j := by
          by_cases e : j = 0
          · exfalso
            subst e
            have e2 : q + ((0 : Nat) : Int) = q := by omega
            first
            | omega
            | (have y := isN h20 c23; rw [e2] at y; exact y ((sg_d (hc2.2.2.1 q hq.1 hq.2).1).2.1.mpr hd))
          · omega
        have hend : ¬ ltB (T (q + j)) := by
          first
          | (rw [hc2.2.2.2 _ (by omega)]; unfold ltB; omega)
          | (intro y; exact isN h20 c23 (hsg.2.1.mpr y))
        have hsk : isSk (fun x => ltB (T x)) q (q + j) := ⟨by omega, hall, hend⟩
        have hwe := wE_is (T := T) (q := q) hj1 hall
        refine a_aload_n 40 dX8_stepWord_39 rfl rfl ?_
        refine a_ldcS (k := 0) 42 dX8_stepWord_40 rfl rfl rfl ?_
        refine a_callV 45 (c8_spells _ (k := 0) hs2 hc2 (by decide) ⟨hq.1, hjl⟩ h2a h2s hall) cdX8_spells lX8_134 dX8_stepWord_42 rfl (hs2.1) rfl ⟨by decide, by decide, rfl, rfl⟩ ⟨Nat.zero_le _, Nat.zero_le _⟩ (Nat.le_of_ble_eq_true rfl) rfl ?_
        rintro _ _ - ⟨b42, rfl, rfl, h42⟩ -
        refine a_if_eq 50 48 dX8_stepWord_45 (by decide) rfl (fun c45 => ?_) (fun c45 => ?_)
        · skip
          refine a_aload_n 51 dX8_stepWord_50 rfl rfl ?_
          refine a_ldcS (k := 1) 53 dX8_stepWord_51 rfl rfl rfl ?_
          refine a_callV 56 (c8_spells _ (k := 1) hs2 hc2 (by decide) ⟨hq.1, hjl⟩ h2a h2s hall) cdX8_spells lX8_134 dX8_stepWord_53 rfl (hs2.1) rfl ⟨by decide, by decide, rfl, rfl⟩ ⟨Nat.zero_le _, Nat.zero_le _⟩ (Nat.le_of_ble_eq_true rfl) rfl ?_
          rintro _ _ - ⟨b53, rfl, rfl, h53⟩ -
          refine a_if_eq 61 59 dX8_stepWord_56 (by decide) rfl (fun c56 => ?_) (fun c56 => ?_)
          · skip
            refine a_aload_n 62 dX8_stepWord_61 rfl rfl ?_
            refine a_ldcS (k := 2) 64 dX8_stepWord_62 rfl rfl rfl ?_
            refine a_callV 67 (c8_spells _ (k := 2) hs2 hc2 (by decide) ⟨hq.1, hjl⟩ h2a h2s hall) cdX8_spells lX8_134 dX8_stepWord_64 rfl (hs2.1) rfl ⟨by decide, by decide, rfl, rfl⟩ ⟨Nat.zero_le _, Nat.zero_le _⟩ (Nat.le_of_ble_eq_true rfl) rfl ?_
            rintro _ _ - ⟨b64, rfl, rfl, h64⟩ -
            refine a_if_eq 72 70 dX8_stepWord_67 (by decide) rfl (fun c67 => ?_) (fun c67 => ?_)
            · skip
              refine a_aload_n 73 dX8_stepWord_72 rfl rfl ?_
              refine a_ldcS (k := 3) 75 dX8_stepWord_73 rfl rfl rfl ?_
              refine a_callV 78 (c8_spells _ (k := 3) hs2 hc2 (by decide) ⟨hq.1, hjl⟩ h2a h2s hall) cdX8_spells lX8_134 dX8_stepWord_75 rfl (hs2.1) rfl ⟨by decide, by decide, rfl, rfl⟩ ⟨Nat.zero_le _, Nat.zero_le _⟩ (Nat.le_of_ble_eq_true rfl) rfl ?_
              rintro _ _ - ⟨b75, rfl, rfl, h75⟩ -
              refine a_if_eq 86 81 dX8_stepWord_78 (by decide) rfl (fun c78 => ?_) (fun c78 => ?_)
              · skip
                refine a_iconst (z := 0) 87 dX8_stepWord_86 rfl (zrl rfl) rfl ?_
                refine a_ireturn dX8_stepWord_87 rfl ⟨Nat.zero_le _, Nat.zero_le _⟩ ?_
                have y : wE T q j = -9 := by
                  rcases hwe.2 with y | y
                  · exact y
                  · exfalso
                    have e4 : wE T q j = ((0 : Nat) : Int) ∨ wE T q j = ((1 : Nat) : Int) ∨ wE T q j = ((2 : Nat) : Int) ∨ wE T q j = ((3 : Nat) : Int) := by omega
                    rcases e4 with e4 | e4 | e4 | e4
                    · exact isN h42 c45 ((hwe.1 0 (by omega)).mpr e4)
                    · exact isN h53 c56 ((hwe.1 1 (by omega)).mpr e4)
                    · exact isN h64 c67 ((hwe.1 2 (by omega)).mpr e4)
                    · exact isN h75 c78 ((hwe.1 3 (by omega)).mpr e4)
                exact ⟨j, ⟨hj1, hjl⟩, hsk, congrArg vI (by rw [if_pos y]), h2, h2a⟩
              · skip
                refine a_bipush (z := 6) 83 dX8_stepWord_81 rfl (zrl rfl) rfl ?_
                refine a_goto 87 dX8_stepWord_83 (by decide) ?_
                refine a_ireturn dX8_stepWord_87 rfl ⟨Nat.zero_le _, Nat.zero_le _⟩ ?_
                have y := (hwe.1 3 (by omega)).mp (isT h75 c78)
                exact ⟨j, ⟨hj1, hjl⟩, hsk, congrArg vI (by rw [if_neg (by omega), y]; rfl), h2, h2a⟩
            · skip
              refine a_iconst (z := 5) 71 dX8_stepWord_70 rfl (zrl rfl) rfl ?_
              refine a_ireturn dX8_stepWord_71 rfl ⟨Nat.zero_le _, Nat.zero_le _⟩ ?_
              have y := (hwe.1 2 (by omega)).mp (isT h64 c67)
              exact ⟨j, ⟨hj1, hjl⟩, hsk, congrArg vI (by rw [if_neg (by omega), y]; rfl), h2, h2a⟩
          · skip
            refine a_iconst (z := 4) 60 dX8_stepWord_59 rfl (zrl rfl) rfl ?_
            refine a_ireturn dX8_stepWord_60 rfl ⟨Nat.zero_le _, Nat.zero_le _⟩ ?_
            have y := (hwe.1 1 (by omega)).mp (isT h53 c56)
            exact ⟨j, ⟨hj1, hjl⟩, hsk, congrArg vI (by rw [if_neg (by omega), y]; rfl), h2, h2a⟩
        · skip
          refine a_iconst (z := 3) 49 dX8_stepWord_48 rfl (zrl rfl) rfl ?_
          refine a_ireturn dX8_stepWord_49 rfl ⟨Nat.zero_le _, Nat.zero_le _⟩ ?_
          have y := (hwe.1 0 (by omega)).mp (isT h42 c45)
          exact ⟨j, ⟨hj1, hjl⟩, hsk, congrArg vI (by rw [if_neg (by omega), y]; rfl), h2, h2a⟩
      · skip
        have hdj : ltB (T (q + j)) := hsg.2.1.mp (isT h20 c23)
        refine a_aload_n 27 dX8_stepWord_26 rfl rfl ?_
        refine a_dup 28 dX8_stepWord_27 (by intro w h; cases h) rfl ?_
        refine a_getIz ((q + (j : Int))) 31 dX8_stepWord_28 fX8_19 (hs2.1) rfl h2a rfl ?_
        refine a_iconst (z := 1) 32 dX8_stepWord_31 rfl (zrl rfl) rfl ?_
        refine a_iadd 33 dX8_stepWord_32 (by unfold zr; omega) rfl ?_
        refine a_putI 36 dX8_stepWord_33 fX8_19 (Or.inl rfl) (hs2.1) (Or.inl rfl) rfl ?_
        refine a_goto 0 dX8_stepWord_36 (by decide) ?_
        refine ih0 (_, j + 1) ⟨h2.wr (by unfold xN; omega), gI_s.trans (by dsimp only; omega), by dsimp only; omega, fun x a b => ?_⟩ (by dsimp only; omega)
        by_cases e : x = q + j
        · rw [e]; exact hdj
        · exact hall x a (by dsimp only at b; omega)
  · exact ⟨sameB.rf, by dsimp only; omega, by dsimp only; omega, fun x a b => by dsimp only at b; omega⟩
