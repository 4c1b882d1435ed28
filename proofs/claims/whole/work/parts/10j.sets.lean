theorem gst_cg {h : Nat → Nat → Int} {w : Nat → Int} {L L' : Int} : ∀ i : Nat, (∀ j, j < i → L / 2 ^ j % 2 = L' / 2 ^ j % 2) → gst h w L i = gst h w L' i
  | 0, _ => rfl
  | i + 1, q => by
    have e := gst_cg (h := h) (w := w) i (fun j hj => q j (by omega))
    simp only [gst]
    rw [e, q i (by omega)]
/-- let be all but K -/
def cmK (n K : Nat) : Int := ((2 ^ n - (K + 1) : Nat) : Int)
theorem cmK_bit {n K j : Nat} (hK : K < 2 ^ n) (hj : j < n) : cmK n K / 2 ^ j % 2 = 0 ↔ bt K j := by
  unfold cmK bt
  rw [zpow]
  have h1 : (2 ^ n - (K + 1)).testBit j = (decide (j < n) && !K.testBit j) := Nat.testBit_two_pow_sub_succ hK j
  rw [Nat.testBit_eq_decide_div_mod_eq] at h1
  cases e : K.testBit j
  · rw [e] at h1
    simp [hj] at h1
    constructor
    · intro z; omega
    · intro z; cases z
  · rw [e] at h1
    simp [hj] at h1
    constructor
    · intro _; rfl
    · intro _; omega
/-- the state behind the first i marks, when those of K are kept -/
noncomputable def kS (h : Nat → Nat → Int) (w : Nat → Int) (n K i : Nat) : Int × Int × Int := gst h w (cmK n K) i
/-- the day of the last of K; -9: the cover can't go by K -/
noncomputable def eS (h : Nat → Nat → Int) (w : Nat → Int) (n K : Nat) : Int := if (kS h w n K n).2.2 = -9 then (kS h w n K n).2.1 else -9
theorem kS_cg {h : Nat → Nat → Int} {w : Nat → Int} {n K K' i : Nat} (hK : K < 2 ^ n) (hK' : K' < 2 ^ n) (hi : i ≤ n) (q : ∀ j, j < i → (bt K j ↔ bt K' j)) : kS h w n K i = kS h w n K' i := by
  refine gst_cg i (fun j hj => ?_)
  have h1 := cmK_bit hK (show j < n by omega)
  have h2 := cmK_bit hK' (show j < n by omega)
  have h3 := q j hj
  by_cases z : bt K j
  · have a := h1.mpr z; have b := h2.mpr (h3.mp z); omega
  · have a : ¬ cmK n K / 2 ^ j % 2 = 0 := fun y => z (h1.mp y)
    have b : ¬ cmK n K' / 2 ^ j % 2 = 0 := fun y => z (h3.mpr (h2.mp y))
    omega
theorem kS_skip {h : Nat → Nat → Int} {w : Nat → Int} {n K i : Nat} (hK : K < 2 ^ n) : ∀ k : Nat, i + k ≤ n → (∀ j, i ≤ j → j < i + k → ¬ bt K j) → kS h w n K (i + k) = kS h w n K i
  | 0, _, _ => rfl
  | k + 1, hk, q => by
    rw [← kS_skip (h := h) (w := w) hK k (by omega) (fun j a b => q j a (by omega))]
    exact gst_let (fun z => q (i + k) (by omega) (by omega) ((cmK_bit hK (by omega)).mp z))
/-- the first day of mark i, from the state s -/
noncomputable def nxD (h : Nat → Nat → Int) (w : Nat → Int) (s : Int × Int × Int) (i : Nat) : Int := fdV (canB h (w i)) (if s.1 = -9 then 0 else soonV h s.1.toNat s.2.1 (twn h (w i)).toNat)
/-- one mark more, behind all others -/
theorem eS_next {h : Nat → Nat → Int} {w : Nat → Int} {n K i : Nat} (hi : i < n) (hK : K < 2 ^ i) (hg : (kS h w n K n).2.2 = -9) : eS h w n (K ||| 2 ^ i) = (if nxD h w (kS h w n K n) i ≤ 999 then nxD h w (kS h w n K n) i else -9) ∧ (nxD h w (kS h w n K n) i ≤ 999 → kS h w n (K ||| 2 ^ i) n = (twn h (w i), nxD h w (kS h w n K n) i, -9)) := by
  have hp : 2 ^ i < 2 ^ n := p2_le hi
  have hKn : K < 2 ^ n := by omega
  have hK2 : K ||| 2 ^ i < 2 ^ n := Nat.or_lt_two_pow hKn hp
  have hlo : ∀ j, i ≤ j → ¬ bt K j := fun j hj => bt_hi hK hj
  have b1 : ∀ j, bt (K ||| 2 ^ i) j ↔ bt K j ∨ i = j := fun j => by rw [bt_or, bt_1]
  have e1 : kS h w n K n = kS h w n K i := by
    have := kS_skip (h := h) (w := w) (i := i) hKn (n - i) (by omega) (fun j a _ => hlo j a)
    rw [show i + (n - i) = n by omega] at this; exact this
  have e2 : kS h w n (K ||| 2 ^ i) i = kS h w n K i := kS_cg hK2 hKn (by omega) (fun j hj => by rw [b1 j]; exact ⟨fun z => z.resolve_right (by omega), Or.inl⟩)
  have e3 : kS h w n (K ||| 2 ^ i) n = kS h w n (K ||| 2 ^ i) (i + 1) := by
    have := kS_skip (h := h) (w := w) (i := i + 1) hK2 (n - (i + 1)) (by omega) (fun j a _ => by rw [b1 j]; intro z; rcases z with z | z; exact hlo j (by omega) z; omega)
    rw [show i + 1 + (n - (i + 1)) = n by omega] at this; exact this
  have hbit : cmK n (K ||| 2 ^ i) / 2 ^ i % 2 = 0 := (cmK_bit hK2 hi).mpr ((b1 i).mpr (Or.inr rfl))
  have hg2 : (gst h w (cmK n (K ||| 2 ^ i)) i).2.2 = -9 := by
    show (kS h w n (K ||| 2 ^ i) i).2.2 = -9
    rw [e2, ← e1]; exact hg
  have e4 : kS h w n (K ||| 2 ^ i) i = kS h w n K n := e2.trans e1.symm
  by_cases z : nxD h w (kS h w n K n) i ≤ 999
  · have e5 : kS h w n (K ||| 2 ^ i) (i + 1) = (twn h (w i), nxD h w (kS h w n K n) i, -9) := by
      have := gst_go hg2 hbit (by show nxD h w (kS h w n (K ||| 2 ^ i) i) i ≤ 999; rw [e4]; exact z)
      refine Eq.trans this ?_
      show (twn h (w i), nxD h w (kS h w n (K ||| 2 ^ i) i) i, (-9 : Int)) = _
      rw [e4]
    refine ⟨?_, fun _ => e3.trans e5⟩
    unfold eS
    rw [e3, e5, if_pos rfl, if_pos z]
  · refine ⟨?_, fun y => absurd y z⟩
    have := gst_bar hg2 hbit (by show 999 < nxD h w (kS h w n (K ||| 2 ^ i) i) i; rw [e4]; omega)
    unfold eS
    rw [e3, if_neg z, if_neg]
    show ¬ (gst h w (cmK n (K ||| 2 ^ i)) (i + 1)).2.2 = -9
    rw [this]
    dsimp only; omega
/-- behind a set that can't be gone by, none can -/
theorem eS_bad {h : Nat → Nat → Int} {w : Nat → Int} {n K i : Nat} (hi : i < n) (hK : K < 2 ^ i) (hg : (kS h w n K n).2.2 ≠ -9) : eS h w n (K ||| 2 ^ i) = -9 := by
  have hp : 2 ^ i < 2 ^ n := p2_le hi
  have hKn : K < 2 ^ n := by omega
  have hK2 : K ||| 2 ^ i < 2 ^ n := Nat.or_lt_two_pow hKn hp
  have hlo : ∀ j, i ≤ j → ¬ bt K j := fun j hj => bt_hi hK hj
  have b1 : ∀ j, bt (K ||| 2 ^ i) j ↔ bt K j ∨ i = j := fun j => by rw [bt_or, bt_1]
  have e1 : kS h w n K n = kS h w n K i := by
    have := kS_skip (h := h) (w := w) (i := i) hKn (n - i) (by omega) (fun j a _ => hlo j a)
    rw [show i + (n - i) = n by omega] at this; exact this
  have e2 : kS h w n (K ||| 2 ^ i) i = kS h w n K i := kS_cg hK2 hKn (by omega) (fun j hj => by rw [b1 j]; exact ⟨fun z => z.resolve_right (by omega), Or.inl⟩)
  have e3 : (gst h w (cmK n (K ||| 2 ^ i)) i).2.2 ≠ -9 := by
    show (kS h w n (K ||| 2 ^ i) i).2.2 ≠ -9
    rw [e2, ← e1]; exact hg
  have e4 := gst_end (n := n) e3 (by omega)
  unfold eS
  rw [if_neg]
  show ¬ (gst h w (cmK n (K ||| 2 ^ i)) n).2.2 = -9
  rw [e4]; exact e3
