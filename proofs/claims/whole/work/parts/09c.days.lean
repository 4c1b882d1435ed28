theorem v_shr6 {x : Int} (h0 : 0 ≤ x) : zr x → zr 6 → (Int32.ofInt x >>> (Int32.ofInt 6 &&& 31)) = Int32.ofInt (x / 64) ∧ zr (x / 64) := v_shr h0 (by decide) (by decide)
theorem k_or63 : ∀ n : Nat, n < 1000 → nI n ||| Int32.ofInt 63 = nI (n / 64 * 64 + 63) := by decide +kernel
theorem k_and64 : ∀ n : Nat, n < 1000 → nI n &&& Int32.ofInt (-64) = nI (n / 64 * 64) := by decide +kernel
theorem v_or63 {x : Int} (h0 : 0 ≤ x) (h1 : x < 1000) : zr x → zr 63 → (Int32.ofInt x ||| Int32.ofInt 63) = Int32.ofInt (x / 64 * 64 + 63) ∧ zr (x / 64 * 64 + 63) := by
  intro _ _
  obtain ⟨n, rfl⟩ := Int.eq_ofNat_of_zero_le h0
  refine ⟨?_, by unfold zr; omega⟩
  rw [show ((n : Int) / 64 * 64 + 63) = ((n / 64 * 64 + 63 : Nat) : Int) by omega, zN, zN]
  exact k_or63 n (by omega)
theorem v_and64 {x : Int} (h0 : 0 ≤ x) (h1 : x < 1000) : zr x → zr (-64) → (Int32.ofInt x &&& Int32.ofInt (-64)) = Int32.ofInt (x / 64 * 64) ∧ zr (x / 64 * 64) := by
  intro _ _
  obtain ⟨n, rfl⟩ := Int.eq_ofNat_of_zero_le h0
  refine ⟨?_, by unfold zr; omega⟩
  rw [show ((n : Int) / 64 * 64) = ((n / 64 * 64 : Nat) : Int) by omega, zN, zN]
  exact k_and64 n (by omega)
theorem lcm0 {x y : Int64} : lcm x y = 0 ↔ x = y := by
  unfold lcm
  constructor
  · intro h
    split at h
    · omega
    · split at h
      · assumption
      · omega
  · intro h; subst h
    rw [if_neg (by simp [Int64.lt_irrefl]), if_pos rfl]
/-- day d is in the set -/
def dB (L : Nat → Int64) (d : Int) : Prop := bt (tn (L (d / 64).toNat)) (d % 64).toNat
theorem tn_0 : tn 0 = 0 := rfl
theorem tn_1 : tn 1 = 1 := rfl
theorem tn_bit {x : Int64} {d : Int} : ((x.toUInt64 >>> ((Int32.ofInt (d % 64)).toInt64.toUInt64 &&& Int64.toUInt64 63)).toInt64 &&& 1) = 1 ↔ bt (tn x) (d % 64).toNat := by
  have e0 : d % 64 = (((d % 64).toNat : Nat) : Int) := by omega
  have e : tn ((x.toUInt64 >>> ((Int32.ofInt (d % 64)).toInt64.toUInt64 &&& Int64.toUInt64 63)).toInt64 &&& 1) = tn x / 2 ^ (d % 64).toNat % 2 := by
    rw [tn_and, tn_1, Nat.and_one_is_mod]
    congr 1
    have h9 := tn_ushr (x := x) (k := (d % 64).toNat) (by omega)
    rw [← e0] at h9; exact h9
  unfold bt
  rw [Nat.testBit_eq_decide_div_mod_eq, decide_eq_true_iff]
  constructor
  · intro h; rw [h, tn_1] at e; omega
  · intro h; apply tn_ext; rw [e, h]; rfl
theorem tn_shl1 {k : Nat} (hk : k < 64) : tn ((1 : Int64) <<< ((Int32.ofInt (k : Int)).toInt64 &&& 63)) = 2 ^ k := by
  have hs : ∀ k : Nat, k < 64 → tn ((1 : Int64) <<< ((Int32.ofInt (k : Int)).toInt64 &&& 63)) = 2 ^ k := by decide +kernel
  exact hs k hk
theorem dB_add {L : Nat → Int64} {d x : Int} (hd : 0 ≤ d) (hx : 0 ≤ x) : dB (fun k => if k = (d / 64).toNat then L (d / 64).toNat ||| ((1 : Int64) <<< ((Int32.ofInt (d % 64)).toInt64 &&& 63)) else L k) x ↔ dB L x ∨ x = d := by
  have e0 : d % 64 = (((d % 64).toNat : Nat) : Int) := by omega
  have e1 := tn_shl1 (k := (d % 64).toNat) (by omega)
  rw [← e0] at e1
  unfold dB
  dsimp only
  by_cases h : (x / 64).toNat = (d / 64).toNat
  · rw [if_pos h, tn_or, e1, bt_or, bt_1, h]
    constructor
    · rintro (z | z)
      · exact Or.inl z
      · right; omega
    · rintro (z | z)
      · exact Or.inl z
      · right; rw [z]
  · rw [if_neg h]
    constructor
    · exact Or.inl
    · rintro (z | z)
      · exact z
      · exact absurd (by rw [z]) h
theorem cnt_add (P : Int → Prop) (n : Nat) : ∀ k : Nat, cnt P (n + k) = cnt P n + cnt (fun x => P (n + x)) k
  | 0 => by show cnt P n = cnt P n + 0; omega
  | k + 1 => by
    show cnt P (n + k) + ci (P ((n + k : Nat) : Int)) = cnt P n + (cnt (fun x => P (n + x)) k + ci (P (n + (k : Int))))
    rw [cnt_add P n k, show ((n + k : Nat) : Int) = (n : Int) + (k : Int) by omega]; omega
theorem bcN_cnt {x : Nat} {P : Int → Prop} : ∀ n : Nat, (∀ k : Nat, k < n → (bt x k ↔ P k)) → ((bcN x n : Nat) : Int) = cnt P n
  | 0, _ => rfl
  | n + 1, h => by
    show ((bcN x n + x / 2 ^ n % 2 : Nat) : Int) = cnt P n + ci (P n)
    have q := h n (by omega)
    unfold bt at q
    rw [Nat.testBit_eq_decide_div_mod_eq, decide_eq_true_iff] at q
    have i := bcN_cnt n (fun k hk => h k (by omega))
    by_cases z : P n
    · rw [ci_t z]; have := q.mpr z; omega
    · rw [ci_f z]
      have : ¬ x / 2 ^ n % 2 = 1 := fun y => z (q.mp y)
      omega
theorem dB_64 {L : Nat → Int64} {w k : Nat} (hk : k < 64) : dB L (((64 * w : Nat) : Int) + (k : Int)) ↔ bt (tn (L w)) k := by
  unfold dB
  rw [show ((((64 * w : Nat) : Int) + (k : Int)) / 64).toNat = w by omega, show ((((64 * w : Nat) : Int) + (k : Int)) % 64).toNat = k by omega]
theorem bcU_s {L : Nat → Int64} {w : Nat} : cnt (dB L) (64 * w) + bcU (L w) = cnt (dB L) (64 * (w + 1)) := by
  rw [show 64 * (w + 1) = 64 * w + 64 by omega, cnt_add]
  congr 1
  exact bcN_cnt 64 (fun k hk => (dB_64 hk).symm)
theorem cnt_0 {P : Int → Prop} {n : Nat} : ∀ k : Nat, (∀ x : Int, n ≤ x → x < n + k → ¬ P x) → cnt P (n + k) = cnt P n
  | 0, _ => rfl
  | k + 1, h => by
    show cnt P (n + k) + ci (P ((n + k : Nat) : Int)) = _
    rw [cnt_0 k (fun x a b => h x a (by omega)), ci_f (h _ (by omega) (by omega))]; omega
theorem bt_ne0 {x : Nat} (h : x ≠ 0) : ∃ k, bt x k := Classical.byContradiction (fun q => h (Nat.eq_of_testBit_eq (fun i => by
  rw [Nat.zero_testBit]
  cases e : x.testBit i
  · rfl
  · exact absurd ⟨i, e⟩ q)))
theorem bt_and {s t x : Nat} : bt (s &&& t) x ↔ bt s x ∧ bt t x := by unfold bt; rw [Nat.testBit_and, Bool.and_eq_true]
set_option maxHeartbeats 4000000 in
set_option maxRecDepth 100000 in
theorem c1_has (g : GH) (d : Int) {s w : Nat} (hs : g.1 s = some (Sum.inl 1)) (hw : g.2.2.2 s 0 = some w) (ha : g.1 w = some (Sum.inr (.long, 16))) : AMet mX1_has g [vA s, vI d] (pB g ((0 ≤ d ∧ d ≤ 999) ∧ dB (g.2.2.1 w) d)) := by
  refine AMet.of [vA s, vI d] (by decide) rfl (Nat.le_of_ble_eq_true rfl) ?_
  refine a_iload_n 1 dX1_has_0 rfl rfl ?_
  refine a_callS 4 (c11_isDay _ _) cdX11_isDay lX1_15 dX1_has_1 rfl rfl ⟨by decide, by decide, rfl, rfl⟩ ⟨Nat.zero_le _, Nat.zero_le _⟩ (Nat.le_of_ble_eq_true rfl) rfl ?_
  rintro _ _ - ⟨b1, rfl, rfl, h1⟩ -
  refine a_if_eq 32 7 dX1_has_4 (by decide) rfl (fun c4 => ?_) (fun c4 => ?_)
  · skip
    refine a_iconst (z := 0) 33 dX1_has_32 rfl (zrl rfl) rfl ?_
    refine a_breturn dX1_has_33 rfl (by omega) ⟨Nat.zero_le _, Nat.zero_le _⟩ ?_
    first
    | exact ⟨_, rfl, rfl, Or.inl ⟨rfl, isT h1 c4, tn_bit.mp (lcm0.mp c25)⟩⟩
    | exact ⟨_, rfl, rfl, Or.inr ⟨rfl, fun z => c25 (lcm0.mpr (tn_bit.mpr z.2))⟩⟩
    | exact ⟨_, rfl, rfl, Or.inr ⟨rfl, fun z => isN h1 c4 z.1⟩⟩
  · skip
    refine a_aload_n 8 dX1_has_7 rfl rfl ?_
    refine a_getR 11 dX1_has_8 fX1_11 hs rfl hw rfl ?_
    refine a_iload_n 12 dX1_has_11 rfl rfl ?_
    refine a_bipush (z := 6) 14 dX1_has_12 rfl (zrl rfl) rfl ?_
    refine a_ishr _ 15 dX1_has_14 (v_shr6 (by omega)) rfl ?_
    refine a_lald 16 dX1_has_15 ha (by omega) (by omega) rfl ?_
    refine a_iload_n 17 dX1_has_16 rfl rfl ?_
    refine a_bipush (z := 63) 19 dX1_has_17 rfl (zrl rfl) rfl ?_
    refine a_iand _ 20 dX1_has_19 v_and63 rfl ?_
    refine a_lushr 21 dX1_has_20 rfl rfl ?_
    refine a_lconst (w := 1) 22 dX1_has_21 rfl rfl ?_
    refine a_land 23 dX1_has_22 rfl ?_
    refine a_lconst (w := 1) 24 dX1_has_23 rfl rfl ?_
    refine a_lcmp 25 dX1_has_24 rfl ?_
    refine a_if_ne 32 28 dX1_has_25 (by decide) rfl (fun c25 => ?_) (fun c25 => ?_)
    · skip
      refine a_iconst (z := 0) 33 dX1_has_32 rfl (zrl rfl) rfl ?_
      refine a_breturn dX1_has_33 rfl (by omega) ⟨Nat.zero_le _, Nat.zero_le _⟩ ?_
      first
      | exact ⟨_, rfl, rfl, Or.inl ⟨rfl, isT h1 c4, tn_bit.mp (lcm0.mp c25)⟩⟩
      | exact ⟨_, rfl, rfl, Or.inr ⟨rfl, fun z => c25 (lcm0.mpr (tn_bit.mpr z.2))⟩⟩
      | exact ⟨_, rfl, rfl, Or.inr ⟨rfl, fun z => isN h1 c4 z.1⟩⟩
    · skip
      refine a_iconst (z := 1) 29 dX1_has_28 rfl (zrl rfl) rfl ?_
      refine a_goto 33 dX1_has_29 (by decide) ?_
      refine a_breturn dX1_has_33 rfl (by omega) ⟨Nat.zero_le _, Nat.zero_le _⟩ ?_
      first
      | exact ⟨_, rfl, rfl, Or.inl ⟨rfl, isT h1 c4, tn_bit.mp (lcm0.mp c25)⟩⟩
      | exact ⟨_, rfl, rfl, Or.inr ⟨rfl, fun z => c25 (lcm0.mpr (tn_bit.mpr z.2))⟩⟩
      | exact ⟨_, rfl, rfl, Or.inr ⟨rfl, fun z => isN h1 c4 z.1⟩⟩
set_option maxHeartbeats 4000000 in
set_option maxRecDepth 100000 in
theorem c1_add (g : GH) (d : Int) {s w : Nat} (hs : g.1 s = some (Sum.inl 1)) (hw : g.2.2.2 s 0 = some w) (ha : g.1 w = some (Sum.inr (.long, 16))) : AMet mX1_add g [vA s, vI d] (fun _ g' => g' = (if 0 ≤ d ∧ d ≤ 999 then gL g w (d / 64).toNat ((g.2.2.1 w) (d / 64).toNat ||| ((1 : Int64) <<< ((Int32.ofInt (d % 64)).toInt64 &&& 63))) else g)) := by
  refine AMet.of [vA s, vI d] (by decide) rfl (Nat.le_of_ble_eq_true rfl) ?_
  refine a_iload_n 1 dX1_add_0 rfl rfl ?_
  refine a_callS 4 (c11_isDay _ _) cdX11_isDay lX1_15 dX1_add_1 rfl rfl ⟨by decide, by decide, rfl, rfl⟩ ⟨Nat.zero_le _, Nat.zero_le _⟩ (Nat.le_of_ble_eq_true rfl) rfl ?_
  rintro _ _ - ⟨b1, rfl, rfl, h1⟩ -
  refine a_if_eq 25 7 dX1_add_4 (by decide) rfl (fun c4 => ?_) (fun c4 => ?_)
  · skip
    refine a_return dX1_add_25 rfl ⟨Nat.zero_le _, Nat.zero_le _⟩ ?_
    first | (rw [if_pos (isT h1 c4)]) | (rw [if_neg (isN h1 c4)])
  · skip
    refine a_aload_n 8 dX1_add_7 rfl rfl ?_
    refine a_getR 11 dX1_add_8 fX1_11 hs rfl hw rfl ?_
    refine a_iload_n 12 dX1_add_11 rfl rfl ?_
    refine a_bipush (z := 6) 14 dX1_add_12 rfl (zrl rfl) rfl ?_
    refine a_ishr _ 15 dX1_add_14 (v_shr6 (by omega)) rfl ?_
    refine a_dup2 16 dX1_add_15 (by intro w h; cases h) (by intro w h; cases h) rfl ?_
    refine a_lald 17 dX1_add_16 ha (by omega) (by omega) rfl ?_
    refine a_lconst (w := 1) 18 dX1_add_17 rfl rfl ?_
    refine a_iload_n 19 dX1_add_18 rfl rfl ?_
    refine a_bipush (z := 63) 21 dX1_add_19 rfl (zrl rfl) rfl ?_
    refine a_iand _ 22 dX1_add_21 v_and63 rfl ?_
    refine a_lshl 23 dX1_add_22 rfl rfl ?_
    refine a_lor 24 dX1_add_23 rfl ?_
    refine a_last 25 dX1_add_24 ha (by omega) (by omega) rfl ?_
    refine a_return dX1_add_25 rfl ⟨Nat.zero_le _, Nat.zero_le _⟩ ?_
    first | (rw [if_pos (isT h1 c4)]) | (rw [if_neg (isN h1 c4)])
set_option maxHeartbeats 4000000 in
set_option maxRecDepth 100000 in
theorem c1_size (g : GH) {s w : Nat} (hs : g.1 s = some (Sum.inl 1)) (hw : g.2.2.2 s 0 = some w) (ha : g.1 w = some (Sum.inr (.long, 16))) : AMet mX1_size g [vA s] (pZ g (cnt (dB (g.2.2.1 w)) 1024)) := by
  refine AMet.of [vA s, none, none] (by decide) rfl (Nat.le_of_ble_eq_true rfl) ?_
  refine a_iconst (z := 0) 1 dX1_size_0 rfl (zrl rfl) rfl ?_
  refine a_istore_n 2 dX1_size_1 (by decide) rfl rfl ?_
  refine a_iconst (z := 0) 3 dX1_size_2 rfl (zrl rfl) rfl ?_
  refine a_istore_n 4 dX1_size_3 (by decide) rfl rfl ?_
  refine AW.loop (α := Nat) (fun p => 16 - p) (fun p => p ≤ 16) (fun p => g) (fun p => [vA s, vI (cnt (dB (g.2.2.1 w)) (64 * p)), vI (p : Int)]) (fun p => []) ?_ 0 ?_
  · intro k hk ih4
    try dsimp only at hI ih ⊢
    have hb := cnt_le (dB (g.2.2.1 w)) (64 * k)
    have hb2 : 0 ≤ bcU ((g.2.2.1 w) k) ∧ bcU ((g.2.2.1 w) k) ≤ 64 := by have := bcN_le (tn ((g.2.2.1 w) k)) 64; unfold bcU; omega
    refine a_iload_n 5 dX1_size_4 rfl rfl ?_
    refine a_bipush (z := 16) 7 dX1_size_5 rfl (zrl rfl) rfl ?_
    refine a_icmp_ge 28 10 dX1_size_7 (by decide) rfl (fun c7 => ?_) (fun c7 => ?_)
    · skip
      refine a_iload_n 29 dX1_size_28 rfl rfl ?_
      refine a_ireturn dX1_size_29 rfl ⟨Nat.zero_le _, Nat.zero_le _⟩ ?_
      have e : k = 16 := by omega
      subst e
      exact ⟨rfl, rfl⟩
    · skip
      refine a_iload_n 11 dX1_size_10 rfl rfl ?_
      refine a_aload_n 12 dX1_size_11 rfl rfl ?_
      refine a_getR 15 dX1_size_12 fX1_11 hs rfl hw rfl ?_
      refine a_iload_n 16 dX1_size_15 rfl rfl ?_
      refine a_lald 17 dX1_size_16 ha (by omega) (by omega) rfl ?_
      refine a_callS 20 (j_bcL _ _) cdJ13_bitCount_95d88 lX1_19 dX1_size_17 rfl rfl ⟨by decide, by decide, rfl, rfl⟩ ⟨Nat.zero_le _, Nat.zero_le _⟩ (Nat.le_of_ble_eq_true rfl) rfl ?_
      rintro _ _ - ⟨rfl, rfl⟩ -
      rw [Int.toNat_natCast]
      refine a_iadd 21 dX1_size_20 (by unfold zr; omega) rfl ?_
      refine a_istore_n 22 dX1_size_21 (by decide) rfl rfl ?_
      refine a_iinc 25 dX1_size_22 rfl (by unfold zr; omega) (by decide) rfl rfl ?_
      refine a_goto 4 dX1_size_25 (by decide) ?_
      rw [bcU_s]
      exact ih4 (k + 1) (by omega) (by omega)
  · exact Nat.zero_le _
set_option maxHeartbeats 4000000 in
set_option maxRecDepth 100000 in
theorem c1_firstFrom (g : GH) (x : Int) {s w : Nat} (hs : g.1 s = some (Sum.inl 1)) (hw : g.2.2.2 s 0 = some w) (ha : g.1 w = some (Sum.inr (.long, 16))) (hx : x ≤ 1000) : AMet mX1_firstFrom g [vA s, vI x] (fun r g' => ∃ z, isFd (dB (g.2.2.1 w)) (if x < 0 then 0 else x) z ∧ r = vI (if z = 1000 then -9 else z) ∧ g = g') := by
  refine AMet.of [vA s, vI x, none] (by decide) rfl (Nat.le_of_ble_eq_true rfl) ?_
  refine a_iload_n 1 dX1_firstFrom_0 rfl rfl ?_
  refine a_iconst (z := 0) 2 dX1_firstFrom_1 rfl (zrl rfl) rfl ?_
  refine a_max 5 klX1_25 dX1_firstFrom_2 ⟨by decide, by decide, rfl, rfl⟩ ⟨Nat.zero_le _, Nat.zero_le _⟩ (Nat.le_of_ble_eq_true rfl) rfl ?_
  refine a_istore_n 6 dX1_firstFrom_5 (by decide) rfl rfl ?_
  refine AW.loop (α := Int) (fun p => (1100 - p).toNat) (fun p => ((if x < 0 then 0 else x) ≤ p ∧ p ≤ 1024) ∧ ∀ y, (if x < 0 then 0 else x) ≤ y → y < p → ¬ (y ≤ 999 ∧ dB (g.2.2.1 w) y)) (fun p => g) (fun p => [vA s, vI x, vI p]) (fun p => []) ?_ (if x < 0 then 0 else x) ?_
  · intro d hd ih6
    try dsimp only at hI ih ⊢
    have hx0 : 0 ≤ (if x < 0 then 0 else x) := by split <;> omega
    refine a_iload_n 7 dX1_firstFrom_6 rfl rfl ?_
    refine a_sipush (z := 1000) 10 dX1_firstFrom_7 rfl (zrl rfl) rfl ?_
    refine a_icmp_ge 53 13 dX1_firstFrom_10 (by decide) rfl (fun c10 => ?_) (fun c10 => ?_)
    · skip
      refine a_bipush (z := (-9)) 55 dX1_firstFrom_53 rfl (zrl rfl) rfl ?_
      refine a_ireturn dX1_firstFrom_55 rfl ⟨Nat.zero_le _, Nat.zero_le _⟩ ?_
      exact ⟨1000, Or.inr ⟨rfl, fun y a b q => hd.2 y a (by omega) ⟨b, q⟩⟩, congrArg vI (by rw [if_pos rfl]), rfl⟩
    · skip
      refine a_aload_n 14 dX1_firstFrom_13 rfl rfl ?_
      refine a_iload_n 15 dX1_firstFrom_14 rfl rfl ?_
      refine a_callV 18 (c1_has _ _ hs hw ha) cdX1_has lX1_31 dX1_firstFrom_15 rfl hs rfl ⟨by decide, by decide, rfl, rfl⟩ ⟨Nat.zero_le _, Nat.zero_le _⟩ (Nat.le_of_ble_eq_true rfl) rfl ?_
      rintro _ _ - ⟨b15, rfl, rfl, h15⟩ -
      refine a_if_eq 23 21 dX1_firstFrom_18 (by decide) rfl (fun c18 => ?_) (fun c18 => ?_)
      · skip
        refine a_aload_n 24 dX1_firstFrom_23 rfl rfl ?_
        refine a_getR 27 dX1_firstFrom_24 fX1_11 hs rfl hw rfl ?_
        refine a_iload_n 28 dX1_firstFrom_27 rfl rfl ?_
        refine a_bipush (z := 6) 30 dX1_firstFrom_28 rfl (zrl rfl) rfl ?_
        refine a_ishr _ 31 dX1_firstFrom_30 (v_shr6 (by omega)) rfl ?_
        refine a_lald 32 dX1_firstFrom_31 ha (by omega) (by omega) rfl ?_
        refine a_lconst (w := 0) 33 dX1_firstFrom_32 rfl rfl ?_
        refine a_lcmp 34 dX1_firstFrom_33 rfl ?_
        refine a_if_ne 46 37 dX1_firstFrom_34 (by decide) rfl (fun c34 => ?_) (fun c34 => ?_)
        · skip
          refine a_iload_n 47 dX1_firstFrom_46 rfl rfl ?_
          refine a_iconst (z := 1) 48 dX1_firstFrom_47 rfl (zrl rfl) rfl ?_
          refine a_iadd 49 dX1_firstFrom_48 (by unfold zr; omega) rfl ?_
          refine a_istore_n 50 dX1_firstFrom_49 (by decide) rfl rfl ?_
          refine a_goto 6 dX1_firstFrom_50 (by decide) ?_
          first
          | (refine ih6 (d / 64 * 64 + 63 + 1) ⟨by omega, fun y a b q => ?_⟩ (by omega)
             by_cases hy : y < d
             · exact hd.2 y a hy q
             · have e0 := lcm0.mp c34
               have q2 := q.2
               unfold dB at q2
               rw [show (y / 64).toNat = (d / 64).toNat by omega, e0] at q2
               exact bt_0 q2)
          | (refine ih6 (d + 1) ⟨by omega, fun y a b q => ?_⟩ (by omega)
             by_cases hy : y < d
             · exact hd.2 y a hy q
             · have e0 : y = d := by omega
               rw [e0] at q
               exact isN h15 c18 ⟨by omega, q.2⟩)
        · skip
          refine a_iload_n 38 dX1_firstFrom_37 rfl rfl ?_
          refine a_bipush (z := 63) 40 dX1_firstFrom_38 rfl (zrl rfl) rfl ?_
          refine a_ior _ 41 dX1_firstFrom_40 (v_or63 (by omega) (by omega)) rfl ?_
          refine a_iconst (z := 1) 42 dX1_firstFrom_41 rfl (zrl rfl) rfl ?_
          refine a_iadd 43 dX1_firstFrom_42 (by unfold zr; omega) rfl ?_
          refine a_goto 49 dX1_firstFrom_43 (by decide) ?_
          refine a_istore_n 50 dX1_firstFrom_49 (by decide) rfl rfl ?_
          refine a_goto 6 dX1_firstFrom_50 (by decide) ?_
          first
          | (refine ih6 (d / 64 * 64 + 63 + 1) ⟨by omega, fun y a b q => ?_⟩ (by omega)
             by_cases hy : y < d
             · exact hd.2 y a hy q
             · have e0 := lcm0.mp c34
               have q2 := q.2
               unfold dB at q2
               rw [show (y / 64).toNat = (d / 64).toNat by omega, e0] at q2
               exact bt_0 q2)
          | (refine ih6 (d + 1) ⟨by omega, fun y a b q => ?_⟩ (by omega)
             by_cases hy : y < d
             · exact hd.2 y a hy q
             · have e0 : y = d := by omega
               rw [e0] at q
               exact isN h15 c18 ⟨by omega, q.2⟩)
      · skip
        refine a_iload_n 22 dX1_firstFrom_21 rfl rfl ?_
        refine a_ireturn dX1_firstFrom_22 rfl ⟨Nat.zero_le _, Nat.zero_le _⟩ ?_
        exact ⟨d, Or.inl ⟨hd.1.1, by omega, (isT h15 c18).2, fun y a b q => hd.2 y a b ⟨by omega, q⟩⟩, congrArg vI (by rw [if_neg (by omega)]), rfl⟩
  · refine ⟨by split <;> omega, fun y a b => by omega⟩
set_option maxHeartbeats 4000000 in
set_option maxRecDepth 100000 in
theorem c1_lastTill (g : GH) (x : Int) {s w : Nat} (hs : g.1 s = some (Sum.inl 1)) (hw : g.2.2.2 s 0 = some w) (ha : g.1 w = some (Sum.inr (.long, 16))) : AMet mX1_lastTill g [vA s, vI x] (fun r g' => ∃ z, r = vI z ∧ g = g' ∧ ((z = -9 ∧ ∀ y, 0 ≤ y → y ≤ (if 999 < x then 999 else x) → ¬ dB (g.2.2.1 w) y) ∨ ((0 ≤ z ∧ z ≤ (if 999 < x then 999 else x)) ∧ dB (g.2.2.1 w) z ∧ ∀ y, z < y → y ≤ (if 999 < x then 999 else x) → ¬ dB (g.2.2.1 w) y))) := by
  refine AMet.of [vA s, vI x, none] (by decide) rfl (Nat.le_of_ble_eq_true rfl) ?_
  refine a_iload_n 1 dX1_lastTill_0 rfl rfl ?_
  refine a_sipush (z := 999) 4 dX1_lastTill_1 rfl (zrl rfl) rfl ?_
  refine a_min 7 klX1_34 dX1_lastTill_4 ⟨by decide, by decide, rfl, rfl⟩ ⟨Nat.zero_le _, Nat.zero_le _⟩ (Nat.le_of_ble_eq_true rfl) rfl ?_
  refine a_istore_n 8 dX1_lastTill_7 (by decide) rfl rfl ?_
  refine AW.loop (α := Int) (fun p => (p + 1).toNat) (fun p => p ≤ (if 999 < x then 999 else x) ∧ ∀ y, p < y → 0 ≤ y → y ≤ (if 999 < x then 999 else x) → ¬ dB (g.2.2.1 w) y) (fun p => g) (fun p => [vA s, vI x, vI p]) (fun p => []) ?_ (if 999 < x then 999 else x) ?_
  · intro d hd ih8
    try dsimp only at hI ih ⊢
    have hx9 : (if 999 < x then 999 else x) ≤ 999 := by split <;> omega
    refine a_iload_n 9 dX1_lastTill_8 rfl rfl ?_
    refine a_if_lt 52 12 dX1_lastTill_9 (by decide) rfl (fun c9 => ?_) (fun c9 => ?_)
    · skip
      refine a_bipush (z := (-9)) 54 dX1_lastTill_52 rfl (zrl rfl) rfl ?_
      refine a_ireturn dX1_lastTill_54 rfl ⟨Nat.zero_le _, Nat.zero_le _⟩ ?_
      exact ⟨_, rfl, rfl, Or.inl ⟨rfl, fun y a b => hd.2 y (by omega) a b⟩⟩
    · skip
      refine a_aload_n 13 dX1_lastTill_12 rfl rfl ?_
      refine a_iload_n 14 dX1_lastTill_13 rfl rfl ?_
      refine a_callV 17 (c1_has _ _ hs hw ha) cdX1_has lX1_31 dX1_lastTill_14 rfl hs rfl ⟨by decide, by decide, rfl, rfl⟩ ⟨Nat.zero_le _, Nat.zero_le _⟩ (Nat.le_of_ble_eq_true rfl) rfl ?_
      rintro _ _ - ⟨b14, rfl, rfl, h14⟩ -
      refine a_if_eq 22 20 dX1_lastTill_17 (by decide) rfl (fun c17 => ?_) (fun c17 => ?_)
      · skip
        refine a_aload_n 23 dX1_lastTill_22 rfl rfl ?_
        refine a_getR 26 dX1_lastTill_23 fX1_11 hs rfl hw rfl ?_
        refine a_iload_n 27 dX1_lastTill_26 rfl rfl ?_
        refine a_bipush (z := 6) 29 dX1_lastTill_27 rfl (zrl rfl) rfl ?_
        refine a_ishr _ 30 dX1_lastTill_29 (v_shr6 (by omega)) rfl ?_
        refine a_lald 31 dX1_lastTill_30 ha (by omega) (by omega) rfl ?_
        refine a_lconst (w := 0) 32 dX1_lastTill_31 rfl rfl ?_
        refine a_lcmp 33 dX1_lastTill_32 rfl ?_
        refine a_if_ne 45 36 dX1_lastTill_33 (by decide) rfl (fun c33 => ?_) (fun c33 => ?_)
        · skip
          refine a_iload_n 46 dX1_lastTill_45 rfl rfl ?_
          refine a_iconst (z := 1) 47 dX1_lastTill_46 rfl (zrl rfl) rfl ?_
          refine a_isub 48 dX1_lastTill_47 (by unfold zr; omega) rfl ?_
          refine a_istore_n 49 dX1_lastTill_48 (by decide) rfl rfl ?_
          refine a_goto 8 dX1_lastTill_49 (by decide) ?_
          first
          | (refine ih8 (d / 64 * 64 - 1) ⟨by omega, fun y a b q z => ?_⟩ (by omega)
             by_cases hy : d < y
             · exact hd.2 y hy b q z
             · have e0 := lcm0.mp c33
               unfold dB at z
               rw [show (y / 64).toNat = (d / 64).toNat by omega, e0] at z
               exact bt_0 z)
          | (refine ih8 (d - 1) ⟨by omega, fun y a b q z => ?_⟩ (by omega)
             by_cases hy : d < y
             · exact hd.2 y hy b q z
             · have e0 : y = d := by omega
               rw [e0] at z
               exact isN h14 c17 ⟨by omega, z⟩)
        · skip
          refine a_iload_n 37 dX1_lastTill_36 rfl rfl ?_
          refine a_bipush (z := (-64)) 39 dX1_lastTill_37 rfl (zrl rfl) rfl ?_
          refine a_iand _ 40 dX1_lastTill_39 (v_and64 (by omega) (by omega)) rfl ?_
          refine a_iconst (z := 1) 41 dX1_lastTill_40 rfl (zrl rfl) rfl ?_
          refine a_isub 42 dX1_lastTill_41 (by unfold zr; omega) rfl ?_
          refine a_goto 48 dX1_lastTill_42 (by decide) ?_
          refine a_istore_n 49 dX1_lastTill_48 (by decide) rfl rfl ?_
          refine a_goto 8 dX1_lastTill_49 (by decide) ?_
          first
          | (refine ih8 (d / 64 * 64 - 1) ⟨by omega, fun y a b q z => ?_⟩ (by omega)
             by_cases hy : d < y
             · exact hd.2 y hy b q z
             · have e0 := lcm0.mp c33
               unfold dB at z
               rw [show (y / 64).toNat = (d / 64).toNat by omega, e0] at z
               exact bt_0 z)
          | (refine ih8 (d - 1) ⟨by omega, fun y a b q z => ?_⟩ (by omega)
             by_cases hy : d < y
             · exact hd.2 y hy b q z
             · have e0 : y = d := by omega
               rw [e0] at z
               exact isN h14 c17 ⟨by omega, z⟩)
      · skip
        refine a_iload_n 21 dX1_lastTill_20 rfl rfl ?_
        refine a_ireturn dX1_lastTill_21 rfl ⟨Nat.zero_le _, Nat.zero_le _⟩ ?_
        exact ⟨_, rfl, rfl, Or.inr ⟨⟨by omega, hd.1⟩, (isT h14 c17).2, fun y a b => hd.2 y a (by omega) b⟩⟩
  · exact ⟨Int.le_refl _, fun y a b => by omega⟩
set_option maxHeartbeats 4000000 in
set_option maxRecDepth 100000 in
theorem c1_meets (g : GH) {s w : Nat} (hs : g.1 s = some (Sum.inl 1)) (hw : g.2.2.2 s 0 = some w) (ha : g.1 w = some (Sum.inr (.long, 16))) {t v : Nat} (ht : g.1 t = some (Sum.inl 1)) (hv : g.2.2.2 t 0 = some v) (hb : g.1 v = some (Sum.inr (.long, 16))) : AMet mX1_meets g [vA s, vA t] (pB g (∃ d : Int, 0 ≤ d ∧ d ≤ 1023 ∧ dB (g.2.2.1 w) d ∧ dB (g.2.2.1 v) d)) := by
  refine AMet.of [vA s, vA t, none] (by decide) rfl (Nat.le_of_ble_eq_true rfl) ?_
  refine a_iconst (z := 0) 1 dX1_meets_0 rfl (zrl rfl) rfl ?_
  refine a_istore_n 2 dX1_meets_1 (by decide) rfl rfl ?_
  refine AW.loop (α := Nat) (fun p => 16 - p) (fun p => p ≤ 16 ∧ ∀ d : Int, 0 ≤ d → d < 64 * (p : Int) → ¬ (dB (g.2.2.1 w) d ∧ dB (g.2.2.1 v) d)) (fun p => g) (fun p => [vA s, vA t, vI (p : Int)]) (fun p => []) ?_ 0 ?_
  · intro k hk ih2
    try dsimp only at hI ih ⊢
    refine a_iload_n 3 dX1_meets_2 rfl rfl ?_
    refine a_bipush (z := 16) 5 dX1_meets_3 rfl (zrl rfl) rfl ?_
    refine a_icmp_ge 34 8 dX1_meets_5 (by decide) rfl (fun c5 => ?_) (fun c5 => ?_)
    · skip
      refine a_iconst (z := 0) 35 dX1_meets_34 rfl (zrl rfl) rfl ?_
      refine a_breturn dX1_meets_35 rfl (by omega) ⟨Nat.zero_le _, Nat.zero_le _⟩ ?_
      exact ⟨_, rfl, rfl, Or.inr ⟨rfl, fun ⟨d, a, b, z⟩ => hk.2 d a (by omega) z⟩⟩
    · skip
      refine a_aload_n 9 dX1_meets_8 rfl rfl ?_
      refine a_getR 12 dX1_meets_9 fX1_11 hs rfl hw rfl ?_
      refine a_iload_n 13 dX1_meets_12 rfl rfl ?_
      refine a_lald 14 dX1_meets_13 ha (by omega) (by omega) rfl ?_
      refine a_aload_n 15 dX1_meets_14 rfl rfl ?_
      refine a_getR 18 dX1_meets_15 fX1_11 ht rfl hv rfl ?_
      refine a_iload_n 19 dX1_meets_18 rfl rfl ?_
      refine a_lald 20 dX1_meets_19 hb (by omega) (by omega) rfl ?_
      refine a_land 21 dX1_meets_20 rfl ?_
      refine a_lconst (w := 0) 22 dX1_meets_21 rfl rfl ?_
      refine a_lcmp 23 dX1_meets_22 rfl ?_
      refine a_if_eq 28 26 dX1_meets_23 (by decide) rfl (fun c23 => ?_) (fun c23 => ?_)
      · skip
        refine a_iinc 31 dX1_meets_28 rfl (by unfold zr; omega) (by decide) rfl rfl ?_
        refine a_goto 2 dX1_meets_31 (by decide) ?_
        refine ih2 (k + 1) ⟨by omega, fun d a b z => ?_⟩ (by omega)
        by_cases hy : d < 64 * (k : Int)
        · exact hk.2 d a hy z
        · have e0 := lcm0.mp c23
          have e1 : (d / 64).toNat = k := by omega
          unfold dB at z
          rw [e1] at z
          have e2 := bt_and.mpr z
          rw [← tn_and] at e2
          rw [Int.toNat_natCast] at e0
          rw [e0] at e2
          exact bt_0 e2
      · skip
        refine a_iconst (z := 1) 27 dX1_meets_26 rfl (zrl rfl) rfl ?_
        refine a_breturn dX1_meets_27 rfl (by omega) ⟨Nat.zero_le _, Nat.zero_le _⟩ ?_
        have e1 : tn ((g.2.2.1 w) k &&& g.2.2.1 v k) ≠ 0 := fun z => c23 (lcm0.mpr (by rw [Int.toNat_natCast]; exact tn_ext z))
        obtain ⟨i, hi⟩ := bt_ne0 e1
        rw [tn_and, bt_and] at hi
        have h64 : i < 64 := Classical.byContradiction (fun z => bt_hi (tn_lt _) (by omega : 64 ≤ i) hi.1)
        exact ⟨_, rfl, rfl, Or.inl ⟨rfl, ((64 * k : Nat) : Int) + (i : Int), by omega, by omega, (dB_64 h64).mpr hi.1, (dB_64 h64).mpr hi.2⟩⟩
  · exact ⟨Nat.zero_le _, fun d a b => by omega⟩
