/-! ===== int operations by their values ===== -/
theorem zN {n : Nat} : Int32.ofInt (n : Int) = nI n := Int32.ofInt_eq_ofNat
theorem sl31 : ∀ n, n < 32 → ((nI n &&& 31).toBitVec.smod 32).toNat = n := by decide +kernel
theorem zpow {n k : Nat} : ((n : Int) / 2 ^ k) = ((n / 2 ^ k : Nat) : Int) := by
  rw [Int.natCast_ediv]; congr 1
theorem v_shr {x y : Int} (h0 : 0 ≤ x) (h1 : 0 ≤ y) (h2 : y < 32) : zr x → zr y → (Int32.ofInt x >>> (Int32.ofInt y &&& 31)) = Int32.ofInt (x / 2 ^ y.toNat) ∧ zr (x / 2 ^ y.toNat) := by
  intro hx _
  obtain ⟨n, rfl⟩ := Int.eq_ofNat_of_zero_le h0
  obtain ⟨k, rfl⟩ := Int.eq_ofNat_of_zero_le h1
  have hn : n < 2 ^ 31 := by have := hx.2; omega
  have hk : k < 32 := by omega
  rw [Int.toNat_natCast, zpow, zN, zN, zN, pk_shrN hn _ k (sl31 k hk)]
  refine ⟨rfl, ?_⟩
  have : n / 2 ^ k ≤ n := Nat.div_le_self _ _
  generalize n / 2 ^ k = q at *
  exact ⟨by omega, by omega⟩
theorem v_mask {x m : Int} (k : Nat) (hk : k ≤ 30) (hm : m = 2 ^ k - 1) : zr x → zr m → (Int32.ofInt x &&& Int32.ofInt m) = Int32.ofInt (x % 2 ^ k) ∧ zr (x % 2 ^ k) := by
  intro hx hz
  have hp : (0 : Int) < 2 ^ k := Int.pow_pos (by decide)
  have hb1 := Int.emod_nonneg x (show (2 : Int) ^ k ≠ 0 by omega)
  have hb2 := Int.emod_lt_of_pos x hp
  have hle : (2 : Int) ^ k ≤ 2 ^ 30 := by
    have : (2 : Nat) ^ k ≤ 2 ^ 30 := Nat.pow_le_pow_right (by decide) hk
    exact_mod_cast this
  have hr : zr (x % 2 ^ k) := ⟨by omega, by omega⟩
  refine ⟨?_, hr⟩
  have hmn : (Int32.ofInt m).toBitVec.toNat = 2 ^ k - 1 := by
    have hpn : (2 : Int) ^ k = ((2 ^ k : Nat) : Int) := by norm_cast
    have h1 : 0 < 2 ^ k := Nat.pow_pos (by decide)
    have : m = ((2 ^ k - 1 : Nat) : Int) := by rw [hm, hpn]; omega
    rw [this, zN, pk_tn (by have : (2 : Nat) ^ k ≤ 2 ^ 30 := Nat.pow_le_pow_right (by decide) hk; omega)]
  rw [pk_and _ k hmn]
  have e1 : (Int32.ofInt x).toBitVec.toNat = (x % 2 ^ 32).toNat := by
    rw [Int32.toBitVec_ofInt, BitVec.toNat_ofInt]; rfl
  have hpn : (2 : Int) ^ k = ((2 ^ k : Nat) : Int) := by norm_cast
  have hdvd : (2 ^ k : Nat) ∣ 2 ^ 32 := Nat.pow_dvd_pow 2 (by omega)
  have e2 : (((x % 2 ^ 32).toNat % 2 ^ k : Nat) : Int) = x % 2 ^ k := by
    rw [Int.natCast_emod, Int.toNat_of_nonneg (Int.emod_nonneg x (by decide)), hpn]
    exact Int.emod_emod_of_dvd x (by exact_mod_cast hdvd)
  rw [e1, ← e2, zN]
theorem v_and1 {x : Int} : zr x → zr 1 → (Int32.ofInt x &&& Int32.ofInt 1) = Int32.ofInt (x % 2) ∧ zr (x % 2) := v_mask 1 (by decide) (by decide)
theorem v_and255 {x : Int} : zr x → zr 255 → (Int32.ofInt x &&& Int32.ofInt 255) = Int32.ofInt (x % 256) ∧ zr (x % 256) := v_mask 8 (by decide) (by decide)
theorem v_and63 {x : Int} : zr x → zr 63 → (Int32.ofInt x &&& Int32.ofInt 63) = Int32.ofInt (x % 64) ∧ zr (x % 64) := v_mask 6 (by decide) (by decide)
theorem v_and31 {x : Int} : zr x → zr 31 → (Int32.ofInt x &&& Int32.ofInt 31) = Int32.ofInt (x % 32) ∧ zr (x % 32) := v_mask 5 (by decide) (by decide)
theorem v_shl {x y : Int} (h0 : 0 ≤ x) (h1 : 0 ≤ y) (h2 : y < 32) (h3 : x * 2 ^ y.toNat ≤ 2147483647) : zr x → zr y → (Int32.ofInt x <<< (Int32.ofInt y &&& 31)) = Int32.ofInt (x * 2 ^ y.toNat) ∧ zr (x * 2 ^ y.toNat) := by
  intro hx _
  obtain ⟨n, rfl⟩ := Int.eq_ofNat_of_zero_le h0
  obtain ⟨k, rfl⟩ := Int.eq_ofNat_of_zero_le h1
  have hk : k < 32 := by omega
  rw [Int.toNat_natCast] at h3 ⊢
  have e : (n : Int) * 2 ^ k = ((n * 2 ^ k : Nat) : Int) := by norm_cast
  rw [e] at h3 ⊢
  rw [zN, zN, zN, pk_shlN _ k (sl31 k hk) (by omega)]
  exact ⟨rfl, ⟨by omega, by omega⟩⟩
theorem nI_or (a b : Nat) : nI a ||| nI b = nI (a ||| b) := by
  apply Int32.toBitVec.inj
  show BitVec.ofNat 32 a ||| BitVec.ofNat 32 b = BitVec.ofNat 32 (a ||| b)
  apply BitVec.eq_of_getLsbD_eq
  intro i hi
  simp [BitVec.getLsbD_or, BitVec.getLsbD_ofNat, hi, Nat.testBit_or]
theorem nI_and (a b : Nat) : nI a &&& nI b = nI (a &&& b) := by
  apply Int32.toBitVec.inj
  show BitVec.ofNat 32 a &&& BitVec.ofNat 32 b = BitVec.ofNat 32 (a &&& b)
  apply BitVec.eq_of_getLsbD_eq
  intro i hi
  simp [BitVec.getLsbD_and, BitVec.getLsbD_ofNat, hi, Nat.testBit_and]
theorem v_or {x y : Int} (h0 : 0 ≤ x) (h1 : 0 ≤ y) : zr x → zr y → (Int32.ofInt x ||| Int32.ofInt y) = Int32.ofInt ((x.toNat ||| y.toNat : Nat) : Int) ∧ zr ((x.toNat ||| y.toNat : Nat) : Int) := by
  intro hx hy
  obtain ⟨n, rfl⟩ := Int.eq_ofNat_of_zero_le h0
  obtain ⟨k, rfl⟩ := Int.eq_ofNat_of_zero_le h1
  rw [Int.toNat_natCast, Int.toNat_natCast, zN, zN, zN, nI_or]
  have h1 : n < 2 ^ 31 := by have := hx.2; omega
  have h2 : k < 2 ^ 31 := by have := hy.2; omega
  have := Nat.or_lt_two_pow h1 h2
  exact ⟨rfl, ⟨by omega, by omega⟩⟩
theorem v_and {x y : Int} (h0 : 0 ≤ x) (h1 : 0 ≤ y) : zr x → zr y → (Int32.ofInt x &&& Int32.ofInt y) = Int32.ofInt ((x.toNat &&& y.toNat : Nat) : Int) ∧ zr ((x.toNat &&& y.toNat : Nat) : Int) := by
  intro hx hy
  obtain ⟨n, rfl⟩ := Int.eq_ofNat_of_zero_le h0
  obtain ⟨k, rfl⟩ := Int.eq_ofNat_of_zero_le h1
  rw [Int.toNat_natCast, Int.toNat_natCast, zN, zN, zN, nI_and]
  have h1 : n < 2 ^ 31 := by have := hx.2; omega
  have := Nat.and_le_left (n := n) (m := k)
  exact ⟨rfl, ⟨by omega, by omega⟩⟩
theorem v_not {x : Int} : zr x → zr (-1) → (Int32.ofInt x ^^^ Int32.ofInt (-1)) = Int32.ofInt (-1 - x) ∧ zr (-1 - x) := by
  intro hx _
  refine ⟨?_, ⟨by have := hx.2; omega, by have := hx.1; omega⟩⟩
  rw [show (-1 - x : Int) = -x - 1 by omega, Int32.ofInt_sub, Int32.ofInt_neg]
  rw [show Int32.ofInt 1 = 1 from rfl, Int32.xor_neg_one, Int32.not_eq_neg_sub, Int32.ofInt_neg]
