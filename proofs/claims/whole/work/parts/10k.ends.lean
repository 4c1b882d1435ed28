theorem gst_b {h : Nat → Nat → Int} {w : Nat → Int} {L : Int} (hV : MV h) : ∀ i : Nat, 0 ≤ (gst h w L i).2.1 ∧ (gst h w L i).2.1 ≤ 999
  | 0 => by show (0 : Int) ≤ 0 ∧ (0 : Int) ≤ 999; omega
  | i + 1 => by
    have ih := gst_b (h := h) (w := w) (L := L) hV i
    by_cases q : L / 2 ^ i % 2 = 0
    · by_cases q0 : (gst h w L i).2.2 = -9
      · by_cases q1 : fdV (canB h (w i)) (if (gst h w L i).1 = -9 then 0 else soonV h (gst h w L i).1.toNat (gst h w L i).2.1 (twn h (w i)).toNat) ≤ 999
        · rw [gst_go q0 q q1]
          refine ⟨?_, q1⟩
          have hb : 0 ≤ (if (gst h w L i).1 = -9 then 0 else soonV h (gst h w L i).1.toNat (gst h w L i).2.1 (twn h (w i)).toNat) ∧ (if (gst h w L i).1 = -9 then 0 else soonV h (gst h w L i).1.toNat (gst h w L i).2.1 (twn h (w i)).toNat) ≤ 1000 := by
            by_cases z : (gst h w L i).1 = -9
            · rw [if_pos z]; omega
            · rw [if_neg z]; exact soon_b hV ih.1 (soonV_is hV ih.1)
          have h2 := fdV_is (P := canB h (w i)) hb.2
          rcases h2 with z | z
          · exact Int.le_trans hb.1 z.1
          · have := z.1; dsimp only; omega
        · rw [gst_bar q0 q (by omega)]; exact ih
      · rw [gst_st q0]; exact ih
    · rw [gst_let q]; exact ih
theorem nxD_b {h : Nat → Nat → Int} {w : Nat → Int} {s : Int × Int × Int} {i : Nat} (hV : MV h) (hs : 0 ≤ s.2.1) : 0 ≤ (if s.1 = -9 then 0 else soonV h s.1.toNat s.2.1 (twn h (w i)).toNat) ∧ (if s.1 = -9 then 0 else soonV h s.1.toNat s.2.1 (twn h (w i)).toNat) ≤ 1000 := by
  by_cases z : s.1 = -9
  · rw [if_pos z]; omega
  · rw [if_neg z]; exact soon_b hV hs (soonV_is hV hs)
theorem or_add {K i : Nat} (h : K < 2 ^ i) : K ||| 2 ^ i = K + 2 ^ i := by
  have := Nat.two_pow_add_eq_or_of_lt h 1
  rw [Nat.mul_one] at this
  rw [Nat.or_comm, ← this, Nat.add_comm]
theorem top_inj {K K' i j : Nat} (h : K < 2 ^ i) (h' : K' < 2 ^ j) (e : K + 2 ^ i = K' + 2 ^ j) : i = j ∧ K = K' := by
  have hs : ∀ m : Nat, 2 ^ (m + 1) = 2 * 2 ^ m := fun m => by rw [Nat.pow_succ]; omega
  have : i = j := by
    rcases Nat.lt_trichotomy i j with z | z | z
    · have := Nat.pow_le_pow_right (n := 2) (by decide) (show i + 1 ≤ j from z); have := hs i; omega
    · exact z
    · have := Nat.pow_le_pow_right (n := 2) (by decide) (show j + 1 ≤ i from z); have := hs j; omega
  subst this
  exact ⟨rfl, by omega⟩
theorem top_ex {k : Nat} : ∀ n : Nat, 0 < k → k < 2 ^ n → ∃ K t, t < n ∧ K < 2 ^ t ∧ k = K + 2 ^ t ∧ 2 ^ t ≤ k
  | 0, h0, h1 => by have : k < 1 := h1; omega
  | n + 1, h0, h1 => by
    have hs : 2 ^ (n + 1) = 2 * 2 ^ n := by rw [Nat.pow_succ]; omega
    by_cases z : k < 2 ^ n
    · obtain ⟨K, t, a, b, c, d⟩ := top_ex n h0 z; exact ⟨K, t, by omega, b, c, d⟩
    · exact ⟨k - 2 ^ n, n, by omega, by omega, by omega, by omega⟩
/-- the row of ends, while set k, from mark i on, is at work -/
def eI (h : Nat → Nat → Int) (w : Nat → Int) (n k i : Nat) (E : Nat → Int) : Prop := E 0 = 0 ∧ ∀ K j, j < n → K < 2 ^ j → E (K + 2 ^ j) = if K < k ∨ (K = k ∧ j < i) then eS h w n (K + 2 ^ j) else -9
theorem eS_0 {h : Nat → Nat → Int} {w : Nat → Int} {n : Nat} : kS h w n 0 n = (-9, 0, -9) := by
  have := kS_skip (h := h) (w := w) (n := n) (K := 0) (i := 0) (Nat.pow_pos (by decide)) n (by omega) (fun j _ _ => bt_0)
  rw [Nat.zero_add] at this
  exact this
theorem eS_b {h : Nat → Nat → Int} {w : Nat → Int} {n K : Nat} (hV : MV h) : (eS h w n K = -9 ∧ (kS h w n K n).2.2 ≠ -9) ∨ ((kS h w n K n).2.2 = -9 ∧ eS h w n K = (kS h w n K n).2.1 ∧ 0 ≤ eS h w n K ∧ eS h w n K ≤ 999) := by
  by_cases z : (kS h w n K n).2.2 = -9
  · have e : eS h w n K = (kS h w n K n).2.1 := if_pos z
    have b : 0 ≤ (kS h w n K n).2.1 ∧ (kS h w n K n).2.1 ≤ 999 := gst_b hV n
    exact Or.inr ⟨z, e, by rw [e]; exact b.1, by rw [e]; exact b.2⟩
  · exact Or.inl ⟨if_neg z, z⟩
theorem eI.get {h : Nat → Nat → Int} {w : Nat → Int} {n k i : Nat} {E : Nat → Int} (q : eI h w n k i E) (hk : k < 2 ^ n) : E k = eS h w n k := by
  by_cases z : k = 0
  · subst z; rw [q.1]; unfold eS; rw [eS_0]; rfl
  · obtain ⟨K, t, a, b, c, d⟩ := top_ex n (by omega) hk
    have hp : 0 < 2 ^ t := Nat.pow_pos (by decide)
    rw [c, q.2 K t a b, if_pos (Or.inl (by omega))]
theorem eI.start {h : Nat → Nat → Int} {w : Nat → Int} {n : Nat} {E : Nat → Int} (hn : n ≤ 10) (h0 : E 0 = 0) (h1 : ∀ K, 0 < K → K < 1024 → E K = -9) : eI h w n 0 0 E := by
  refine ⟨h0, fun K j hj hK => ?_⟩
  have hp : 0 < 2 ^ j := Nat.pow_pos (by decide)
  have h2 : 2 ^ (j + 1) ≤ 2 ^ 10 := Nat.pow_le_pow_right (by decide) (by omega)
  rw [Nat.pow_succ] at h2
  rw [if_neg (by omega)]
  exact h1 _ (by omega) (by omega)
theorem eI.next {h : Nat → Nat → Int} {w : Nat → Int} {n k : Nat} {E : Nat → Int} (q : eI h w n k n E) : eI h w n (k + 1) 0 E := by
  refine ⟨q.1, fun K j hj hK => ?_⟩
  rw [q.2 K j hj hK]
  by_cases z : K < k + 1
  · rw [if_pos (by omega), if_pos (by omega)]
  · rw [if_neg (by omega), if_neg (by omega)]
theorem eI.bad {h : Nat → Nat → Int} {w : Nat → Int} {n k : Nat} {E : Nat → Int} (hV : MV h) (q : eI h w n k 0 E) (hk : k < 2 ^ n) (hb : E k = -9) : eI h w n (k + 1) 0 E := by
  have e := q.get hk
  have hbad : (kS h w n k n).2.2 ≠ -9 := by
    rcases eS_b (h := h) (w := w) (n := n) (K := k) hV with z | z
    · exact z.2
    · omega
  refine ⟨q.1, fun K j hj hK => ?_⟩
  rw [q.2 K j hj hK]
  by_cases z : K = k
  · subst z
    rw [if_neg (by omega), if_pos (by omega), ← or_add hK, eS_bad hj hK hbad]
  · by_cases y : K < k
    · rw [if_pos (by omega), if_pos (by omega)]
    · rw [if_neg (by omega), if_neg (by omega)]
theorem eI.from {h : Nat → Nat → Int} {w : Nat → Int} {n k l : Nat} {E : Nat → Int} (q : eI h w n k 0 E) (hl : ∀ j, j < l → 2 ^ j ≤ k) : eI h w n k l E := by
  refine ⟨q.1, fun K j hj hK => ?_⟩
  rw [q.2 K j hj hK]
  by_cases z : K < k
  · rw [if_pos (by omega), if_pos (by omega)]
  · rw [if_neg (by omega), if_neg]
    rintro (y | ⟨y1, y2⟩)
    · omega
    · have := hl j y2; omega
theorem eI.put {h : Nat → Nat → Int} {w : Nat → Int} {n k i : Nat} {E E' : Nat → Int} (q : eI h w n k i E) (hk : k < 2 ^ i) (hv : E' (k + 2 ^ i) = eS h w n (k + 2 ^ i)) (ho : ∀ X, X ≠ k + 2 ^ i → E' X = E X) : eI h w n k (i + 1) E' := by
  have hp : 0 < 2 ^ i := Nat.pow_pos (by decide)
  refine ⟨(ho 0 (by omega)).trans q.1, fun K j hj hK => ?_⟩
  by_cases z : K + 2 ^ j = k + 2 ^ i
  · rw [z, hv, if_pos]
    have := top_inj hK hk z
    omega
  · rw [ho _ z, q.2 K j hj hK]
    by_cases y : K < k ∨ (K = k ∧ j < i)
    · rw [if_pos y, if_pos (by omega)]
    · rw [if_neg y, if_neg]
      intro x
      have : K = k ∧ j = i := by omega
      obtain ⟨rfl, rfl⟩ := this
      exact z rfl
/-- the state behind a good set, its last mark t -/
theorem kS_top {h : Nat → Nat → Int} {w : Nat → Int} {n k t : Nat} (hV : MV h) (ht : t < n) (hk : 2 ^ t ≤ k ∧ k < 2 ^ (t + 1)) (hg : eS h w n k ≠ -9) : (kS h w n k n).1 = twn h (w t) ∧ (kS h w n k n).2.1 = eS h w n k := by
  have e : k = (k - 2 ^ t) + 2 ^ t := by omega
  have hK : k - 2 ^ t < 2 ^ t := by rw [Nat.pow_succ] at hk; omega
  rw [← or_add hK] at e
  generalize k - 2 ^ t = K at e hK
  subst e
  by_cases z : (kS h w n K n).2.2 = -9
  · have x := eS_next ht hK z
    by_cases y : nxD h w (kS h w n K n) t ≤ 999
    · rw [if_pos y] at x
      rw [x.2 y, x.1]; exact ⟨rfl, rfl⟩
    · rw [if_neg y] at x; exact absurd x.1 hg
  · exact absurd (eS_bad ht hK z) hg
def sX (x _ : Nat) : Prop := x = 20 ∨ x = 25
theorem sX_hk {g g' : GH} (h : sameB sX g g') : HK g.2.1 g'.2.1 := fun a k y _ => h.2.2 a k (by unfold sX; omega)
theorem sX_cm {g g' : GH} (h : sameB sX g g') (hC : CMk g) (hn : g.2.1 1000 13 ≤ 40) : CMk g' := hC.keep h.1 (sX_hk h) (fun a k q => h.2.2 a k (by unfold kpC at q; unfold sX; omega)) (fun a _ => by rw [h.lg]) (fun a k _ => by rw [h.2.1]) hn
theorem sX13 {g g' : GH} (h : sameB sX g g') : g'.2.1 1000 13 = g.2.1 1000 13 := h.2.2 1000 13 (by unfold sX; omega)
theorem CWv.sX {g g' : GH} (h : sameB sX g g') (q : CWv g.2.1) : CWv g'.2.1 := by
  have e : ∀ a k, a ≠ 20 → a ≠ 25 → g'.2.1 a k = g.2.1 a k := fun a k h1 h2 => h.2.2 a k (by unfold Jvm.Pilot.@@N@@.sX; omega)
  refine ⟨by rw [e 8 7 (by decide) (by decide), e 1000 15 (by decide) (by decide)]; exact q.1, fun s hs => ?_, fun a b ha hb => by rw [e (14 + a) b (by omega) (by omega), e 1020 _ (by decide) (by decide)]; exact q.2.2 a b ha hb⟩
  rw [e 1000 15 (by decide) (by decide)] at hs
  rw [e 9 s (by decide) (by decide), e 10 s (by decide) (by decide), e 11 s (by decide) (by decide), e 12 s (by decide) (by decide), e 1016 s (by decide) (by decide), e 1017 s (by decide) (by decide), e 1018 s (by decide) (by decide), e 1019 s (by decide) (by decide)]
  exact q.2.1 s hs
set_option maxHeartbeats 4000000 in
set_option maxRecDepth 100000 in
theorem c3_lastOf (g : GH) (k : Int) {n : Nat} (hG : g.1 22 = some (Sum.inl 3)) (hn : g.2.1 22 4 = n) (hn10 : n ≤ 10) (hk : 0 ≤ k) : AMet mX3_lastOf g [vA 22, vI k] (fun r g' => ∃ z, r = vI z ∧ g = g' ∧ ((z = -9 ∧ ∀ j : Nat, j < n → k / 2 ^ j % 2 = 0) ∨ ∃ t : Nat, z = t ∧ t < n ∧ k / 2 ^ t % 2 = 1 ∧ ∀ j : Nat, t < j → j < n → k / 2 ^ j % 2 = 0)) := by
  refine AMet.of [vA 22, vI k, none] (by decide) rfl (Nat.le_of_ble_eq_true rfl) ?_
  refine a_aload_n 1 dX3_lastOf_0 rfl rfl ?_
  refine a_getIz ((n : Int)) 4 dX3_lastOf_1 fX3_24 hG rfl hn rfl ?_
  refine a_iconst (z := 1) 5 dX3_lastOf_4 rfl (zrl rfl) rfl ?_
  refine a_isub 6 dX3_lastOf_5 (by unfold zr; omega) rfl ?_
  refine a_istore_n 7 dX3_lastOf_6 (by decide) rfl rfl ?_
  refine AW.loop (α := Int) (fun p => (p + 1).toNat) (fun p => (-1 ≤ p ∧ p ≤ n - 1) ∧ ∀ j : Nat, p < j → j < n → k / 2 ^ j % 2 = 0) (fun p => g) (fun p => [vA 22, vI k, vI p]) (fun p => []) ?_ ((n : Int) - 1) ?_
  · rintro p ⟨hp, hz⟩ ih7
    try dsimp only at hI ih ⊢
    try dsimp only at hp hz ih7 ⊢
    refine a_iload_n 8 dX3_lastOf_7 rfl rfl ?_
    refine a_if_lt 28 11 dX3_lastOf_8 (by decide) rfl (fun c8 => ?_) (fun c8 => ?_)
    · skip
      refine a_bipush (z := (-9)) 30 dX3_lastOf_28 rfl (zrl rfl) rfl ?_
      refine a_ireturn dX3_lastOf_30 rfl ⟨Nat.zero_le _, Nat.zero_le _⟩ ?_
      exact ⟨_, rfl, rfl, Or.inl ⟨rfl, fun j a => hz j (by omega) a⟩⟩
    · skip
      refine a_iload_n 12 dX3_lastOf_11 rfl rfl ?_
      refine a_iload_n 13 dX3_lastOf_12 rfl rfl ?_
      refine a_ishr _ 14 dX3_lastOf_13 (v_shr (by omega) (by omega) (by omega)) rfl ?_
      refine a_iconst (z := 1) 15 dX3_lastOf_14 rfl (zrl rfl) rfl ?_
      refine a_iand _ 16 dX3_lastOf_15 v_and1 rfl ?_
      refine a_iconst (z := 1) 17 dX3_lastOf_16 rfl (zrl rfl) rfl ?_
      refine a_icmp_ne 22 20 dX3_lastOf_17 (by decide) rfl (fun c17 => ?_) (fun c17 => ?_)
      · skip
        refine a_iinc 25 dX3_lastOf_22 rfl (by unfold zr; omega) (by decide) rfl rfl ?_
        refine a_goto 7 dX3_lastOf_25 (by decide) ?_
        refine ih7 (p + -1) ⟨by omega, fun j a b => ?_⟩ (by omega)
        by_cases e : (j : Int) = p
        · have e2 : p.toNat = j := by omega
          rw [e2] at c17; omega
        · exact hz j (by omega) b
      · skip
        refine a_iload_n 21 dX3_lastOf_20 rfl rfl ?_
        refine a_ireturn dX3_lastOf_21 rfl ⟨Nat.zero_le _, Nat.zero_le _⟩ ?_
        refine ⟨_, rfl, rfl, Or.inr ⟨p.toNat, by omega, by omega, by omega, fun j a b => hz j (by omega) b⟩⟩
  · exact ⟨by omega, fun j a b => by omega⟩
set_option maxHeartbeats 4000000 in
set_option maxRecDepth 100000 in
theorem c3_endAllSets (g : GH) {n : Nat} {M : Nat → Nat} (hC : CMk g) (hG : CGs g) (hw : CWs g) (hv : CWv g.2.1) (hV : MV g.2.1) (hch : CHn g n M) (hn : 0 ≤ g.2.1 1000 13 ∧ g.2.1 1000 13 ≤ 40) : AMet mX3_endAllSets g [vA 22] (fun _ g' => sameB sX g g' ∧ ∀ K, K < 2 ^ n → g'.2.1 25 K = eS g.2.1 (fun i => (M i : Int)) n K) := by
  refine AMet.of [vA 22, none, none, none, none, none] (by decide) rfl (Nat.le_of_ble_eq_true rfl) ?_
  have hn10 := hch.1
  have htb : ∀ j, j < n → 0 ≤ twn g.2.1 (M j : Int) ∧ twn g.2.1 (M j : Int) ≤ 5 := fun j hj => twn_b hV ⟨by omega, (hch.2.2 j hj).2.1⟩ (by rw [show (10 * (M j : Int) + 2).toNat = 10 * M j + 2 by omega]; exact (hch.2.2 j hj).2.2)
  have hp10 : (2 : Nat) ^ n ≤ 2 ^ 10 := Nat.pow_le_pow_right (by decide) hn10
  have hpz : ((2 : Int) ^ ((n : Int)).toNat) = ((2 ^ n : Nat) : Int) := by rw [Int.toNat_natCast]; exact_mod_cast rfl
  refine a_iconst (z := 1) 1 dX3_endAllSets_0 rfl (zrl rfl) rfl ?_
  refine a_aload_n 2 dX3_endAllSets_1 rfl rfl ?_
  refine a_getIz ((n : Int)) 5 dX3_endAllSets_2 fX3_24 (gX_cg (sameB.rf (X := sX) (g := g)) hG).1 rfl hch.2.1 rfl ?_
  refine a_ishl ((2 ^ n : Nat) : Int) 6 dX3_endAllSets_5 (fun a b => by have := v_shl (x := 1) (y := (n : Int)) (by omega) (by omega) (by omega) (by rw [hpz]; omega) a b; rw [hpz, Int.one_mul] at this; exact this) rfl ?_
  refine a_istore_n 7 dX3_endAllSets_6 (by decide) rfl rfl ?_
  refine a_aload_n 8 dX3_endAllSets_7 rfl rfl ?_
  refine a_getR 11 dX3_endAllSets_8 fX3_21 (gX_cg (sameB.rf (X := sX) (g := g)) hG).1 rfl (gX_cg (sameB.rf (X := sX) (g := g)) hG).2.1.2.2.2 rfl ?_
  refine a_bipush (z := (-9)) 13 dX3_endAllSets_11 rfl (zrl rfl) rfl ?_
  refine a_callS 16 (j_fill _ _ (gX_cg (sameB.rf (X := sX) (g := g)) hG).2.2.2.2 (by decide)) cdJ7_fill_53178 lX3_96 dX3_endAllSets_13 rfl rfl ⟨by decide, by decide, rfl, rfl⟩ ⟨Nat.zero_le _, Nat.zero_le _⟩ (Nat.le_of_ble_eq_true rfl) rfl ?_
  rintro _ _ - rfl -
  have h1 : sameB sX g (gF g 25 1024 (-9)) := ⟨rfl, rfl, fun a k q => gF_n (by unfold sX at q; omega)⟩
  refine a_aload_n 17 dX3_endAllSets_16 rfl rfl ?_
  refine a_getR 20 dX3_endAllSets_17 fX3_21 (gX_cg h1 hG).1 rfl (gX_cg h1 hG).2.1.2.2.2 rfl ?_
  refine a_iconst (z := 0) 21 dX3_endAllSets_20 rfl (zrl rfl) rfl ?_
  refine a_iconst (z := 0) 22 dX3_endAllSets_21 rfl (zrl rfl) rfl ?_
  refine a_iast 23 dX3_endAllSets_22 (gX_cg h1 hG).2.2.2.2 (by omega) (by omega) rfl ?_
  refine a_iconst (z := 0) 24 dX3_endAllSets_23 rfl (zrl rfl) rfl ?_
  refine a_istore_n 25 dX3_endAllSets_24 (by decide) rfl rfl ?_
  refine AW.loop (α := GH × Nat) (fun p => 2 ^ n - p.2) (fun p => sameB sX g p.1 ∧ p.2 ≤ 2 ^ n ∧ eI g.2.1 (fun i => (M i : Int)) n p.2 0 (fun K => p.1.2.1 25 K)) (fun p => p.1) (fun p => [vA 22, vI ((2 ^ n : Nat) : Int), vI (p.2 : Int), none, none, none]) (fun p => []) ?_ (gI (gF g 25 1024 (-9)) 25 0 0, 0) ?_
  · rintro ⟨g2, k⟩ ⟨h2, hk, hE⟩ ih25
    try dsimp only at hI ih ⊢
    try dsimp only at h2 hk hE ih25 ⊢
    refine a_iload_n 26 dX3_endAllSets_25 rfl rfl ?_
    refine a_iload_n 27 dX3_endAllSets_26 rfl rfl ?_
    refine a_icmp_ge 170 30 dX3_endAllSets_27 (by decide) rfl (fun c27 => ?_) (fun c27 => ?_)
    · skip
      refine a_return dX3_endAllSets_170 rfl ⟨Nat.zero_le _, Nat.zero_le _⟩ ?_
      have e : k = 2 ^ n := by omega
      subst e
      refine ⟨h2, fun K hK => ?_⟩
      have y := hE
      by_cases z : K = 0
      · subst z; rw [show g2.2.1 25 0 = 0 from hE.1]; unfold eS; rw [eS_0]; rfl
      · obtain ⟨K', t, a, b, c, d⟩ := top_ex n (by omega) hK
        have hp : 0 < 2 ^ t := Nat.pow_pos (by decide)
        rw [c]
        exact (hE.2 K' t a b).trans (if_pos (Or.inl (by omega)))
    · skip
      have hkn : k < 2 ^ n := by omega
      have hEk : g2.2.1 25 ((k : Int)).toNat = eS g.2.1 (fun i => (M i : Int)) n k := by rw [Int.toNat_natCast]; exact hE.get hkn
      refine a_aload_n 31 dX3_endAllSets_30 rfl rfl ?_
      refine a_getR 34 dX3_endAllSets_31 fX3_21 (gX_cg h2 hG).1 rfl (gX_cg h2 hG).2.1.2.2.2 rfl ?_
      refine a_iload_n 35 dX3_endAllSets_34 rfl rfl ?_
      refine a_ialdz (eS g.2.1 (fun i => (M i : Int)) n k) 36 dX3_endAllSets_35 (gX_cg h2 hG).2.2.2.2 (by omega) (by omega) hEk rfl ?_
      refine a_bipush (z := (-9)) 38 dX3_endAllSets_36 rfl (zrl rfl) rfl ?_
      refine a_icmp_ne 44 41 dX3_endAllSets_38 (by decide) rfl (fun c38 => ?_) (fun c38 => ?_)
      · skip
        have hgood : (kS g.2.1 (fun i => (M i : Int)) n k n).2.2 = -9 := by
          rcases eS_b (h := g.2.1) (w := (fun i => (M i : Int))) (n := n) (K := k) hV with q | q
          · exact absurd q.1 c38
          · exact q.1
        refine a_aload_n 45 dX3_endAllSets_44 rfl rfl ?_
        refine a_iload_n 46 dX3_endAllSets_45 rfl rfl ?_
        refine a_callV 49 (c3_lastOf _ _ (gX_cg h2 hG).1 ((h2.2.2 22 4 (by unfold sX; omega)).trans hch.2.1) hn10 (by omega)) cdX3_lastOf lX3_102 dX3_endAllSets_46 rfl (gX_cg h2 hG).1 rfl ⟨by decide, by decide, rfl, rfl⟩ ⟨Nat.zero_le _, Nat.zero_le _⟩ (Nat.le_of_ble_eq_true rfl) rfl ?_
        rintro _ _ - ⟨last, rfl, rfl, hl0⟩ -
        have hlast : (last = -9 ∧ k = 0) ∨ ∃ t : Nat, last = t ∧ t < n ∧ 2 ^ t ≤ k ∧ k < 2 ^ (t + 1) := by
          by_cases z : k = 0
          · left
            rcases hl0 with q | ⟨t, q1, q2, q3, q4⟩
            · exact ⟨q.1, z⟩
            · subst z
              rw [zpow] at q3
              simp at q3
          · obtain ⟨K, t, a, b, c, d⟩ := top_ex n (by omega) hkn
            have hk2 : k < 2 ^ (t + 1) := by rw [Nat.pow_succ]; omega
            have hb : bt k t := by rw [c, ← or_add b]; exact bt_or.mpr (Or.inr (bt_1.mpr rfl))
            have hb2 := bt_z.mpr hb
            rw [Int.toNat_natCast] at hb2
            rcases hl0 with q | ⟨t', q1, q2, q3, q4⟩
            · have := q.2 t a; omega
            · refine Or.inr ⟨t, ?_, a, d, hk2⟩
              rw [q1]
              rcases Nat.lt_trichotomy t' t with y | y | y
              · have := q4 t y a; omega
              · rw [y]
              · exfalso
                have := bt_z.mp (show ((k : Int) / 2 ^ ((t' : Int)).toNat) % 2 = 1 by rw [Int.toNat_natCast]; exact q3)
                exact bt_hi hk2 (show t + 1 ≤ t' by omega) this
        refine a_istore_n 50 dX3_endAllSets_49 (by decide) rfl rfl ?_
        refine AW.cutH (J := 78) (P := fun g' => (sameB sX g g' ∧ (∀ x, g'.2.1 25 x = g2.2.1 25 x)) ∧ ((kS g.2.1 (fun i => (M i : Int)) n k n).1 ≠ -9 → ∀ b, b < 6 → g'.2.1 20 b = soonV g.2.1 (kS g.2.1 (fun i => (M i : Int)) n k n).1.toNat (kS g.2.1 (fun i => (M i : Int)) n k n).2.1 b)) ?_ (fun J78 => ?_)
        · intro g78 h78
          obtain ⟨⟨h3, h25⟩, hs20⟩ := h78
          skip
          refine AW.cut (J := 91) (P := fun z => z = if last = -9 then 0 else last + 1) ?_ (fun J91 => ?_)
          · intro z91 h91
            obtain ⟨l, rfl, hl1, hl2, hlk⟩ : ∃ l : Nat, z91 = l ∧ l ≤ n ∧ (∀ j, j < l → 2 ^ j ≤ k) ∧ ∀ j, l ≤ j → k < 2 ^ j := by
              rcases hlast with q | ⟨t, q1, q2, q3⟩
              · exact ⟨0, by rw [h91, if_pos q.1]; rfl, Nat.zero_le _, fun j hj => absurd hj (Nat.not_lt_zero _), fun j _ => by rw [q.2]; exact Nat.pow_pos (by decide)⟩
              · refine ⟨t + 1, by rw [h91, if_neg (by omega)]; omega, by omega, fun j hj => Nat.le_trans (Nat.pow_le_pow_right (by decide) (by omega)) q3.1, fun j hj => Nat.lt_of_lt_of_le q3.2 (Nat.pow_le_pow_right (by decide) hj)⟩
            have hE3 : eI g.2.1 (fun i => (M i : Int)) n k l (fun K => g78.2.1 25 K) := by
              have e : (fun K => g78.2.1 25 K) = (fun K => g2.2.1 25 K) := funext h25
              rw [e]; exact hE.from hl2
            refine a_istore 93 dX3_endAllSets_91 (by decide) rfl rfl ?_
            refine AW.loop (α := GH × Nat) (fun p => n - p.2) (fun p => (sameB sX g p.1 ∧ ∀ b, p.1.2.1 20 b = g78.2.1 20 b) ∧ (l ≤ p.2 ∧ p.2 ≤ n) ∧ eI g.2.1 (fun i => (M i : Int)) n k p.2 (fun K => p.1.2.1 25 K)) (fun p => p.1) (fun p => [vA 22, vI ((2 ^ n : Nat) : Int), vI (k : Int), vI last, vI (p.2 : Int), none]) (fun p => []) ?_ (g78, l) ?_
            · rintro ⟨g4, i⟩ ⟨⟨h4, h40⟩, ⟨hil, hin⟩, hE4⟩ ih93
              try dsimp only at hI ih ⊢
              try dsimp only at h4 h40 hil hin hE4 ih93 ⊢
              have hs20 : (kS g.2.1 (fun i => (M i : Int)) n k n).1 ≠ -9 → ∀ b, b < 6 → g4.2.1 20 b = soonV g.2.1 (kS g.2.1 (fun i => (M i : Int)) n k n).1.toNat (kS g.2.1 (fun i => (M i : Int)) n k n).2.1 b := fun a b c => (h40 b).trans (hs20 a b c)
              refine a_iload 95 dX3_endAllSets_93 rfl rfl ?_
              refine a_aload_n 96 dX3_endAllSets_95 rfl rfl ?_
              refine a_getIz ((n : Int)) 99 dX3_endAllSets_96 fX3_24 (gX_cg h4 hG).1 rfl ((h4.2.2 22 4 (by unfold sX; omega)).trans hch.2.1) rfl ?_
              refine a_icmp_ge 164 102 dX3_endAllSets_99 (by decide) rfl (fun c99 => ?_) (fun c99 => ?_)
              · skip
                refine a_iinc 167 dX3_endAllSets_164 rfl (by unfold zr; omega) (by decide) rfl rfl ?_
                refine a_goto 25 dX3_endAllSets_167 (by decide) ?_
                refine AW.kill 5 ?_
                refine AW.kill 4 ?_
                refine AW.kill 3 ?_
                refine ih25 (g4, k + 1) ⟨h4, by dsimp only; omega, ?_⟩ (by dsimp only; omega)
                have e : i = n := by omega
                subst e
                exact hE4.next
              · skip
                have hi : i < n := by omega
                have hki : k < 2 ^ i := hlk i hil
                have hpi : ((2 : Int) ^ ((i : Int)).toNat) = ((2 ^ i : Nat) : Int) := by rw [Int.toNat_natCast]; exact_mod_cast rfl
                have hpi2 := p2_le hi
                have hfb := nxD_b (h := g.2.1) (w := (fun i => (M i : Int))) (s := (kS g.2.1 (fun i => (M i : Int)) n k n)) (i := i) hV (gst_b hV n).1
                refine AW.cut (J := 130) (P := fun z => z = (if (kS g.2.1 (fun i => (M i : Int)) n k n).1 = -9 then 0 else soonV g.2.1 (kS g.2.1 (fun i => (M i : Int)) n k n).1.toNat (kS g.2.1 (fun i => (M i : Int)) n k n).2.1 (twn g.2.1 (M i : Int)).toNat)) ?_ (fun J130 => ?_)
                · intro z130 h130
                  subst h130
                  refine a_istore 132 dX3_endAllSets_130 (by decide) rfl rfl ?_
                  refine a_aload_n 133 dX3_endAllSets_132 rfl rfl ?_
                  refine a_getR 136 dX3_endAllSets_133 fX3_21 (gX_cg h4 hG).1 rfl (gX_cg h4 hG).2.1.2.2.2 rfl ?_
                  refine a_iload_n 137 dX3_endAllSets_136 rfl rfl ?_
                  refine a_iconst (z := 1) 138 dX3_endAllSets_137 rfl (zrl rfl) rfl ?_
                  refine a_iload 140 dX3_endAllSets_138 rfl rfl ?_
                  refine a_ishl ((2 ^ i : Nat) : Int) 141 dX3_endAllSets_140 (fun a b => by have := v_shl (x := 1) (y := (i : Int)) (by omega) (by omega) (by omega) (by rw [hpi]; omega) a b; rw [hpi, Int.one_mul] at this; exact this) rfl ?_
                  refine a_ior ((k + 2 ^ i : Nat) : Int) 142 dX3_endAllSets_141 (fun a b => by have := v_or (x := (k : Int)) (y := ((2 ^ i : Nat) : Int)) (by omega) (by omega) a b; rw [Int.toNat_natCast, Int.toNat_natCast, or_add hki] at this; exact this) rfl ?_
                  refine a_aload_n 143 dX3_endAllSets_142 rfl rfl ?_
                  refine a_getR 146 dX3_endAllSets_143 fX3_11 (gX_cg h4 hG).1 rfl (gX_cg h4 hG).2.1.2.1 rfl ?_
                  refine a_iload 148 dX3_endAllSets_146 rfl rfl ?_
                  refine a_aald 149 dX3_endAllSets_148 (gX_cg h4 hG).2.2.1 rfl (by omega) (by omega) (h4.rr (hch.2.2 i hi).1) rfl ?_
                  refine a_getR 152 dX3_endAllSets_149 fX3_69 ((sX_cm h4 hC hn.2).k (m := M i) (by rw [sX13 h4]; exact (hch.2.2 _ hi).2.1)).1.1 rfl ((sX_cm h4 hC hn.2).k (m := M i) (by rw [sX13 h4]; exact (hch.2.2 _ hi).2.1)).1.2.1 rfl ?_
                  refine a_iload 154 dX3_endAllSets_152 rfl rfl ?_
                  refine a_callV 157 (c1_firstFrom _ (if (kS g.2.1 (fun i => (M i : Int)) n k n).1 = -9 then 0 else soonV g.2.1 (kS g.2.1 (fun i => (M i : Int)) n k n).1.toNat (kS g.2.1 (fun i => (M i : Int)) n k n).2.1 (twn g.2.1 (M i : Int)).toNat) ((sX_cm h4 hC hn.2).k (m := M i) (by rw [sX13 h4]; exact (hch.2.2 _ hi).2.1)).1.2.2.1 ((sX_cm h4 hC hn.2).k (m := M i) (by rw [sX13 h4]; exact (hch.2.2 _ hi).2.1)).1.2.2.2.1 ((sX_cm h4 hC hn.2).k (m := M i) (by rw [sX13 h4]; exact (hch.2.2 _ hi).2.1)).1.2.2.2.2.1 hfb.2) cdX1_firstFrom lX3_73 dX3_endAllSets_154 rfl ((sX_cm h4 hC hn.2).k (m := M i) (by rw [sX13 h4]; exact (hch.2.2 _ hi).2.1)).1.2.2.1 rfl ⟨by decide, by decide, rfl, rfl⟩ ⟨Nat.zero_le _, Nat.zero_le _⟩ (Nat.le_of_ble_eq_true rfl) rfl ?_
                  rintro _ _ - ⟨z, hz, rfl, rfl⟩ -
                  rw [if_neg (by omega), h4.lg] at hz
                  have hzb : 0 ≤ z ∧ z ≤ 1000 := by rcases hz with q | q <;> omega
                  have hzf := (hC.k (hch.2.2 i hi).2.1).2.2.1.fd hfb.1 hz
                  refine a_iast 158 dX3_endAllSets_157 (gX_cg h4 hG).2.2.2.2 (by omega) (by have := Nat.pow_le_pow_right (n := 2) (by decide) (show i + 1 ≤ 10 by omega); rw [Nat.pow_succ] at this; omega) rfl ?_
                  refine a_iinc 161 dX3_endAllSets_158 rfl (by unfold zr; omega) (by decide) rfl rfl ?_
                  refine a_goto 93 dX3_endAllSets_161 (by decide) ?_
                  refine AW.kill 5 ?_
                  refine ih93 (_, i + 1) ⟨⟨h4.wr (Or.inr rfl), fun b => (gI_n (Or.inl (by decide))).trans (h40 b)⟩, ⟨by dsimp only; omega, by dsimp only; omega⟩, hE4.put hki ?_ (fun X hX => ?_)⟩ (by dsimp only; omega)
                  · have y : (if z = 1000 then -9 else z) = eS g.2.1 (fun i => (M i : Int)) n (k + 2 ^ i) := by
                      rw [← or_add hki, (eS_next hi hki hgood).1]
                      unfold nxD
                      rw [← hzf]
                      by_cases q : z = 1000
                      · rw [if_pos q, if_neg (by omega)]
                      · rw [if_neg q, if_pos (by omega)]
                    refine Eq.trans ?_ y
                    rw [Int.toNat_natCast]; exact gI_s
                  · rw [Int.toNat_natCast]; exact gI_n (Or.inr hX)
                · skip
                  refine a_iload_n 103 dX3_endAllSets_102 rfl rfl ?_
                  refine a_bipush (z := (-9)) 105 dX3_endAllSets_103 rfl (zrl rfl) rfl ?_
                  refine a_icmp_ne 112 108 dX3_endAllSets_105 (by decide) rfl (fun c105 => ?_) (fun c105 => ?_)
                  · skip
                    have hk9 : (kS g.2.1 (fun i => (M i : Int)) n k n).1 ≠ -9 := by
                      rcases hlast with q | ⟨t, q1, q2, q3⟩
                      · omega
                      · rw [(kS_top (w := (fun i => (M i : Int))) hV q2 q3 (by omega)).1]; have := htb t q2; omega
                    refine a_aload_n 113 dX3_endAllSets_112 rfl rfl ?_
                    refine a_getR 116 dX3_endAllSets_113 fX3_37 (gX_cg h4 hG).1 rfl (gX_cg h4 hG).2.1.1 rfl ?_
                    refine a_getR 119 dX3_endAllSets_116 fX3_66 (CWs.keep h4 hw).1 rfl (CWs.keep h4 hw).2.1.2.2.2.2.2.1 rfl ?_
                    refine a_aload_n 120 dX3_endAllSets_119 rfl rfl ?_
                    refine a_getR 123 dX3_endAllSets_120 fX3_11 (gX_cg h4 hG).1 rfl (gX_cg h4 hG).2.1.2.1 rfl ?_
                    refine a_iload 125 dX3_endAllSets_123 rfl rfl ?_
                    refine a_aald 126 dX3_endAllSets_125 (gX_cg h4 hG).2.2.1 rfl (by omega) (by omega) (h4.rr (hch.2.2 i hi).1) rfl ?_
                    refine a_getIz (twn g.2.1 (M i : Int)) 129 dX3_endAllSets_126 fX3_57 ((sX_cm h4 hC hn.2).k (m := M i) (by rw [sX13 h4]; exact (hch.2.2 _ hi).2.1)).1.1 rfl ((h4.2.2 _ 11 (by unfold sX; omega)).trans (hch.town hC hi)) rfl ?_
                    refine a_ialdz (soonV g.2.1 (kS g.2.1 (fun i => (M i : Int)) n k n).1.toNat (kS g.2.1 (fun i => (M i : Int)) n k n).2.1 (twn g.2.1 (M i : Int)).toNat) 130 dX3_endAllSets_129 (CWs.keep h4 hw).2.2.1.2.2.2.2.2.1 (htb i hi).1 (by have := htb i hi; omega) (hs20 hk9 _ (by have := htb i hi; omega)) rfl ?_
                    exact J130 _ (by
                      first
                      | (rw [if_neg hk9])
                      | (have hk9 : (kS g.2.1 (fun i => (M i : Int)) n k n).1 = -9 := (by
                          rcases hlast with q | ⟨t, q1, _⟩
                          · rw [q.2, eS_0]
                          · omega)
                         rw [if_pos hk9]))
                  · skip
                    refine a_iconst (z := 0) 109 dX3_endAllSets_108 rfl (zrl rfl) rfl ?_
                    refine a_goto 130 dX3_endAllSets_109 (by decide) ?_
                    exact J130 _ (by
                      first
                      | (rw [if_neg hk9])
                      | (have hk9 : (kS g.2.1 (fun i => (M i : Int)) n k n).1 = -9 := (by
                          rcases hlast with q | ⟨t, q1, _⟩
                          · rw [q.2, eS_0]
                          · omega)
                         rw [if_pos hk9]))
            · exact ⟨⟨h3, fun _ => rfl⟩, ⟨Nat.le_refl _, hl1⟩, hE3⟩
          · skip
            refine a_iload_n 79 dX3_endAllSets_78 rfl rfl ?_
            refine a_bipush (z := (-9)) 81 dX3_endAllSets_79 rfl (zrl rfl) rfl ?_
            refine a_icmp_ne 88 84 dX3_endAllSets_81 (by decide) rfl (fun c81 => ?_) (fun c81 => ?_)
            · skip
              refine a_iload_n 89 dX3_endAllSets_88 rfl rfl ?_
              refine a_iconst (z := 1) 90 dX3_endAllSets_89 rfl (zrl rfl) rfl ?_
              refine a_iadd 91 dX3_endAllSets_90 (by have hl9 : 0 ≤ last ∧ last ≤ 10 := (by rcases hlast with q | ⟨t, q, q2, _⟩ <;> omega); clear hlast; unfold zr; omega) rfl ?_
              exact J91 _ (by first | (rw [if_pos (by omega)]) | (rw [if_neg (by omega)]))
            · skip
              refine a_iconst (z := 0) 85 dX3_endAllSets_84 rfl (zrl rfl) rfl ?_
              refine a_goto 91 dX3_endAllSets_85 (by decide) ?_
              exact J91 _ (by first | (rw [if_pos (by omega)]) | (rw [if_neg (by omega)]))
        · skip
          refine a_iload_n 51 dX3_endAllSets_50 rfl rfl ?_
          refine a_bipush (z := (-9)) 53 dX3_endAllSets_51 rfl (zrl rfl) rfl ?_
          refine a_icmp_eq 78 56 dX3_endAllSets_53 (by decide) rfl (fun c53 => ?_) (fun c53 => ?_)
          · skip
            refine J78 _ ⟨⟨h2, fun _ => rfl⟩, fun z => absurd ?_ z⟩
            rcases hlast with q | ⟨t, q, _⟩
            · rw [q.2, eS_0]
            · omega
          · skip
            obtain ⟨t, rfl, htn, ht2⟩ : ∃ t : Nat, last = t ∧ t < n ∧ 2 ^ t ≤ k ∧ k < 2 ^ (t + 1) := by
              rcases hlast with q | q
              · exact absurd q.1 c53
              · exact q
            have hst := kS_top (w := (fun i => (M i : Int))) hV htn ht2 (by omega)
            have hda : 0 ≤ eS g.2.1 (fun i => (M i : Int)) n k ∧ eS g.2.1 (fun i => (M i : Int)) n k ≤ 999 := by
              rcases eS_b (h := g.2.1) (w := (fun i => (M i : Int))) (n := n) (K := k) hV with q | q
              · exact absurd q.1 (by omega)
              · exact q.2.2
            refine a_aload_n 57 dX3_endAllSets_56 rfl rfl ?_
            refine a_getR 60 dX3_endAllSets_57 fX3_37 (gX_cg h2 hG).1 rfl (gX_cg h2 hG).2.1.1 rfl ?_
            refine a_aload_n 61 dX3_endAllSets_60 rfl rfl ?_
            refine a_getR 64 dX3_endAllSets_61 fX3_11 (gX_cg h2 hG).1 rfl (gX_cg h2 hG).2.1.2.1 rfl ?_
            refine a_iload_n 65 dX3_endAllSets_64 rfl rfl ?_
            refine a_aald 66 dX3_endAllSets_65 (gX_cg h2 hG).2.2.1 rfl (by omega) (by omega) (h2.rr (hch.2.2 t htn).1) rfl ?_
            refine a_getIz (twn g.2.1 (M t : Int)) 69 dX3_endAllSets_66 fX3_57 ((sX_cm h2 hC hn.2).k (m := M t) (by rw [sX13 h2]; exact (hch.2.2 _ htn).2.1)).1.1 rfl ((h2.2.2 _ 11 (by unfold sX; omega)).trans (hch.town hC htn)) rfl ?_
            refine a_aload_n 70 dX3_endAllSets_69 rfl rfl ?_
            refine a_getR 73 dX3_endAllSets_70 fX3_21 (gX_cg h2 hG).1 rfl (gX_cg h2 hG).2.1.2.2.2 rfl ?_
            refine a_iload_n 74 dX3_endAllSets_73 rfl rfl ?_
            refine a_ialdz (eS g.2.1 (fun i => (M i : Int)) n k) 75 dX3_endAllSets_74 (gX_cg h2 hG).2.2.2.2 (by omega) (by omega) hEk rfl ?_
            refine a_callV 78 (c10_spreadFrom _ _ _ (h := g2.2.1) (fun _ _ _ => rfl) (CWs.keep h2 hw) (hv.sX h2) ((sX_hk h2).MV hV) (htb t htn) hda) cdX10_spreadFrom lX3_60 dX3_endAllSets_75 rfl (CWs.keep h2 hw).1 rfl ⟨by decide, by decide, rfl, rfl⟩ ⟨Nat.zero_le _, Nat.zero_le _⟩ (Nat.le_of_ble_eq_true rfl) rfl ?_
            rintro _ g3 - ⟨s3, hso⟩ -
            have h3 := h2.tr (s3.mono (fun x _ z => Or.inl z))
            refine J78 _ ⟨⟨h3, fun x => s3.2.2 25 x (show ¬ (25 : Nat) = 20 by decide)⟩, fun z b hb => ?_⟩
            have z2 := hso b hb
            rw [(sX_hk h2).isSoon] at z2
            rw [hst.1, hst.2]
            exact soonV_eq z2
      · skip
        refine a_goto 164 dX3_endAllSets_41 (by decide) ?_
        refine a_iinc 167 dX3_endAllSets_164 rfl (by unfold zr; omega) (by decide) rfl rfl ?_
        refine a_goto 25 dX3_endAllSets_167 (by decide) ?_
        refine ih25 (g2, k + 1) ⟨h2, by dsimp only; omega, hE.bad hV hkn ((hE.get hkn).trans (by omega))⟩ (by dsimp only; omega)
  · refine ⟨h1.wr (Or.inr rfl), Nat.zero_le _, eI.start hn10 gI_s (fun K a b => ?_)⟩
    exact (gI_n (Or.inr (by omega))).trans (gF_i b)
