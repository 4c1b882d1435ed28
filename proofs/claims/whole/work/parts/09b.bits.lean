/-! ===== the count of bits, as the JDK does it ===== -/
def rp (m : Nat) : Nat → Nat
  | 0 => 0
  | n + 1 => m + 256 * rp m n
theorem and_by {a b c d : Nat} (ha : a < 256) (hc : c < 256) : (a + 256 * b) &&& (c + 256 * d) = (a &&& c) + 256 * (b &&& d) := by
  apply Nat.eq_of_testBit_eq
  intro i
  have h3 : a &&& c < 2 ^ 8 := Nat.and_lt_two_pow a hc
  rw [Nat.testBit_and, show a + 256 * b = 2 ^ 8 * b + a by omega, show c + 256 * d = 2 ^ 8 * d + c by omega, show (a &&& c) + 256 * (b &&& d) = 2 ^ 8 * (b &&& d) + (a &&& c) by omega, Nat.testBit_two_pow_mul_add b (show a < 2 ^ 8 from ha) i, Nat.testBit_two_pow_mul_add d (show c < 2 ^ 8 from hc) i, Nat.testBit_two_pow_mul_add (b &&& d) h3 i]
  split
  · rw [Nat.testBit_and]
  · rw [Nat.testBit_and]
def S1 (n x : Nat) : Nat := x - ((x / 2) &&& rp 85 n)
def S2 (n x : Nat) : Nat := (x &&& rp 51 n) + ((x / 4) &&& rp 51 n)
def S3 (n x : Nat) : Nat := (x + x / 16) &&& rp 15 n
def f1 (x : Nat) : Nat := x - ((x / 2) &&& 85)
def f2 (x : Nat) : Nat := (x &&& 51) + ((x / 4) &&& 51)
def f3 (x : Nat) : Nat := (x + x / 16) &&& 15
theorem d1 : ∀ lo, lo < 256 → ∀ t, t < 2 → (lo / 2 + 128 * t) &&& 85 = (lo / 2) &&& 85 := by decide +kernel
theorem d2 : ∀ lo, lo < 256 → ∀ t, t < 4 → (lo / 4 + 64 * t) &&& 51 = (lo / 4) &&& 51 := by decide +kernel
theorem d3 : ∀ lo, lo < 69 → ∀ t, t < 5 → (lo + lo / 16 + 16 * t) &&& 15 = (lo + lo / 16) &&& 15 := by decide +kernel
theorem d4 : ∀ lo, lo < 256 → f1 lo < 256 ∧ f2 (f1 lo) < 69 ∧ f2 (f1 lo) % 16 < 5 := by decide +kernel
theorem d5 : ∀ lo, lo < 256 → f3 (f2 (f1 lo)) = lo % 2 + lo / 2 % 2 + lo / 4 % 2 + lo / 8 % 2 + lo / 16 % 2 + lo / 32 % 2 + lo / 64 % 2 + lo / 128 % 2 := by decide +kernel
theorem S1_s {n lo hi : Nat} (h : lo < 256) : S1 (n + 1) (lo + 256 * hi) = f1 lo + 256 * S1 n hi := by
  unfold S1 f1
  rw [show (lo + 256 * hi) / 2 = (lo / 2 + 128 * (hi % 2)) + 256 * (hi / 2) by omega, show rp 85 (n + 1) = 85 + 256 * rp 85 n from rfl, and_by (by omega) (by decide), d1 lo h (hi % 2) (by omega)]
  have h1 : (lo / 2) &&& 85 ≤ lo / 2 := Nat.and_le_left
  have h2 : (hi / 2) &&& rp 85 n ≤ hi / 2 := Nat.and_le_left
  omega
theorem S2_s {n lo hi : Nat} (h : lo < 256) : S2 (n + 1) (lo + 256 * hi) = f2 lo + 256 * S2 n hi := by
  unfold S2 f2
  rw [show (lo + 256 * hi) / 4 = (lo / 4 + 64 * (hi % 4)) + 256 * (hi / 4) by omega, show rp 51 (n + 1) = 51 + 256 * rp 51 n from rfl, and_by (by omega) (by decide), and_by (by omega) (by decide), d2 lo h (hi % 4) (by omega)]
  omega
theorem S3_s {n lo hi : Nat} (h : lo < 69) (hh : hi % 16 < 5) : S3 (n + 1) (lo + 256 * hi) = f3 lo + 256 * S3 n hi := by
  unfold S3 f3
  rw [show lo + 256 * hi + (lo + 256 * hi) / 16 = (lo + lo / 16 + 16 * (hi % 16)) + 256 * (hi + hi / 16) by omega, show rp 15 (n + 1) = 15 + 256 * rp 15 n from rfl, and_by (by omega) (by decide), d3 lo h (hi % 16) hh]
def P8 : Nat → Nat → Nat
  | 0, _ => 0
  | n + 1, x => f3 (f2 (f1 (x % 256))) + 256 * P8 n (x / 256)
theorem S_P : ∀ n x : Nat, x < 256 ^ n → S3 n (S2 n (S1 n x)) = P8 n x ∧ S2 n (S1 n x) % 16 < 5
  | 0, x, h => by
    have : x = 0 := by simpa using h
    subst this; decide
  | n + 1, x, h => by
    have hh : x / 256 < 256 ^ n := Nat.div_lt_of_lt_mul (by rw [Nat.pow_succ, Nat.mul_comm] at h; exact h)
    obtain ⟨i1, i2⟩ := S_P n (x / 256) hh
    have hl : x % 256 < 256 := Nat.mod_lt _ (by decide)
    obtain ⟨e1, e2, e3⟩ := d4 (x % 256) hl
    have ex : x = x % 256 + 256 * (x / 256) := by omega
    have q1 : S1 (n + 1) x = f1 (x % 256) + 256 * S1 n (x / 256) := by rw [← S1_s hl, ← ex]
    rw [q1, S2_s e1, S3_s e2 i2, i1]
    exact ⟨rfl, by omega⟩
/-- the bits of x, n of them, together -/
def bcN (x : Nat) : Nat → Nat
  | 0 => 0
  | n + 1 => bcN x n + x / 2 ^ n % 2
theorem bcN_8 (x : Nat) : bcN x 8 = f3 (f2 (f1 (x % 256))) := by
  rw [d5 (x % 256) (Nat.mod_lt _ (by decide))]
  show 0 + x / 2 ^ 0 % 2 + x / 2 ^ 1 % 2 + x / 2 ^ 2 % 2 + x / 2 ^ 3 % 2 + x / 2 ^ 4 % 2 + x / 2 ^ 5 % 2 + x / 2 ^ 6 % 2 + x / 2 ^ 7 % 2 = _
  omega
theorem bcN_s (x : Nat) : ∀ k : Nat, bcN x (8 + k) = f3 (f2 (f1 (x % 256))) + bcN (x / 256) k
  | 0 => bcN_8 x
  | k + 1 => by
    show bcN x (8 + k) + x / 2 ^ (8 + k) % 2 = _ + (bcN (x / 256) k + x / 256 / 2 ^ k % 2)
    rw [bcN_s x k, Nat.pow_add, ← Nat.div_div_eq_div_mul, show (2 : Nat) ^ 8 = 256 from rfl]; omega
theorem bcN_le (x : Nat) : ∀ n, bcN x n ≤ n
  | 0 => Nat.le_refl _
  | n + 1 => by have := bcN_le x n; show bcN x n + x / 2 ^ n % 2 ≤ n + 1; omega
theorem pc_64 {x : Nat} (h : x < 2 ^ 64) : ∃ c0 c1 c2 c3 c4 c5 c6 c7 : Nat, (c0 ≤ 8 ∧ c1 ≤ 8 ∧ c2 ≤ 8 ∧ c3 ≤ 8 ∧ c4 ≤ 8 ∧ c5 ≤ 8 ∧ c6 ≤ 8 ∧ c7 ≤ 8) ∧ S3 8 (S2 8 (S1 8 x)) = c0 + 256 * (c1 + 256 * (c2 + 256 * (c3 + 256 * (c4 + 256 * (c5 + 256 * (c6 + 256 * c7)))))) ∧ bcN x 64 = c0 + c1 + c2 + c3 + c4 + c5 + c6 + c7 := by
  have b : ∀ y, f3 (f2 (f1 (y % 256))) ≤ 8 := fun y => by rw [← bcN_8]; exact bcN_le y 8
  refine ⟨_, _, _, _, _, _, _, _, ⟨b x, b (x / 256), b (x / 256 / 256), b (x / 256 / 256 / 256), b (x / 256 / 256 / 256 / 256), b (x / 256 / 256 / 256 / 256 / 256), b (x / 256 / 256 / 256 / 256 / 256 / 256), b (x / 256 / 256 / 256 / 256 / 256 / 256 / 256)⟩, ?_, ?_⟩
  · rw [(S_P 8 x (by rw [show (256 : Nat) ^ 8 = 2 ^ 64 from rfl]; exact h)).1]; simp only [P8]; omega
  · rw [show (64 : Nat) = 8 + 56 from rfl, bcN_s x 56, show (56 : Nat) = 8 + 48 from rfl, bcN_s _ 48, show (48 : Nat) = 8 + 40 from rfl, bcN_s _ 40, show (40 : Nat) = 8 + 32 from rfl, bcN_s _ 32, show (32 : Nat) = 8 + 24 from rfl, bcN_s _ 24, show (24 : Nat) = 8 + 16 from rfl, bcN_s _ 16, show (16 : Nat) = 8 + 8 from rfl, bcN_s _ 8, bcN_8]; omega
theorem pc_32 {x : Nat} (h : x < 2 ^ 32) : ∃ c0 c1 c2 c3 : Nat, (c0 ≤ 8 ∧ c1 ≤ 8 ∧ c2 ≤ 8 ∧ c3 ≤ 8) ∧ S3 4 (S2 4 (S1 4 x)) = c0 + 256 * (c1 + 256 * (c2 + 256 * c3)) ∧ bcN x 32 = c0 + c1 + c2 + c3 := by
  have b : ∀ y, f3 (f2 (f1 (y % 256))) ≤ 8 := fun y => by rw [← bcN_8]; exact bcN_le y 8
  refine ⟨_, _, _, _, ⟨b x, b (x / 256), b (x / 256 / 256), b (x / 256 / 256 / 256)⟩, ?_, ?_⟩
  · rw [(S_P 4 x (by rw [show (256 : Nat) ^ 4 = 2 ^ 32 from rfl]; exact h)).1]; simp only [P8]; omega
  · rw [show (32 : Nat) = 8 + 24 from rfl, bcN_s x 24, show (24 : Nat) = 8 + 16 from rfl, bcN_s _ 16, show (16 : Nat) = 8 + 8 from rfl, bcN_s _ 8, bcN_8]; omega
/-! longs by their numbers -/
def tn (x : Int64) : Nat := x.toBitVec.toNat
theorem tn_lt (x : Int64) : tn x < 2 ^ 64 := x.toBitVec.isLt
theorem tn_ext {x y : Int64} (h : tn x = tn y) : x = y := Int64.toBitVec.inj (BitVec.eq_of_toNat_eq h)
theorem tn_and (x y : Int64) : tn (x &&& y) = tn x &&& tn y := BitVec.toNat_and ..
theorem tn_or (x y : Int64) : tn (x ||| y) = tn x ||| tn y := BitVec.toNat_or ..
theorem tn_add {x y : Int64} (h : tn x + tn y < 2 ^ 64) : tn (x + y) = tn x + tn y := by
  have : tn (x + y) = (tn x + tn y) % 2 ^ 64 := BitVec.toNat_add ..
  rw [this, Nat.mod_eq_of_lt h]
theorem tn_sub {x y : Int64} (h : tn y ≤ tn x) : tn (x - y) = tn x - tn y := BitVec.toNat_sub_of_le h
theorem tn_ushr {x : Int64} {k : Nat} (hk : k < 64) : tn ((x.toUInt64 >>> ((Int32.ofInt (k : Int)).toInt64.toUInt64 &&& Int64.toUInt64 63)).toInt64) = tn x / 2 ^ k := by
  have hs : ∀ k : Nat, k < 64 → (((Int32.ofInt (k : Int)).toInt64.toUInt64 &&& Int64.toUInt64 63).toBitVec % 64).toNat = k := by decide +kernel
  show (x.toBitVec >>> (((Int32.ofInt (k : Int)).toInt64.toUInt64 &&& Int64.toUInt64 63).toBitVec % 64)).toNat = _
  rw [BitVec.ushiftRight_eq', BitVec.toNat_ushiftRight, hs k hk, Nat.shiftRight_eq_div_pow]; rfl
theorem i32_mod (b : Int64) (n : Nat) (hn : n ≤ 32) : b.toInt32.toInt % 2 ^ n = ((tn b % 2 ^ n : Nat) : Int) := by
  have h1 : b.toInt32.toInt = (BitVec.setWidth 32 b.toBitVec).toInt := by
    show b.toInt32.toBitVec.toInt = _
    rw [Int64.toBitVec_toInt32, BitVec.signExtend_eq_setWidth_of_le _ (by decide)]
  rw [h1, BitVec.toInt_eq_toNat_bmod, BitVec.toNat_setWidth]
  have hd : (2 ^ n : Nat) ∣ 2 ^ 32 := Nat.pow_dvd_pow 2 hn
  have h2 : (Int.bmod (((b.toBitVec.toNat % 2 ^ 32 : Nat)) : Int) (2 ^ 32)) % ((2 ^ n : Nat) : Int) = (((b.toBitVec.toNat % 2 ^ 32 : Nat)) : Int) % ((2 ^ n : Nat) : Int) := by
    rw [Int.bmod_def]
    have hz : (((2 ^ 32 : Nat)) : Int) % ((2 ^ n : Nat) : Int) = 0 := Int.emod_eq_zero_of_dvd (by exact_mod_cast hd)
    split
    · exact Int.emod_emod_of_dvd _ (by exact_mod_cast hd)
    · rw [Int.sub_emod, hz, Int.sub_zero, Int.emod_emod_of_dvd _ (Int.dvd_refl _)]
      exact Int.emod_emod_of_dvd _ (by exact_mod_cast hd)
  have h3 : ((2 : Int) ^ n) = ((2 ^ n : Nat) : Int) := (Int.natCast_pow 2 n).symm
  rw [h3, h2]
  show _ = ((b.toBitVec.toNat % 2 ^ n : Nat) : Int)
  rw [← Int.natCast_emod, Nat.mod_mod_of_dvd _ hd]
theorem pc_end {x c0 c1 c2 c3 c4 c5 c6 c7 : Nat} (hb : c0 ≤ 8 ∧ c1 ≤ 8 ∧ c2 ≤ 8 ∧ c3 ≤ 8 ∧ c4 ≤ 8 ∧ c5 ≤ 8 ∧ c6 ≤ 8 ∧ c7 ≤ 8) (hx : x = c0 + 256 * (c1 + 256 * (c2 + 256 * (c3 + 256 * (c4 + 256 * (c5 + 256 * (c6 + 256 * c7))))))) :
    x / 256 = c1 + 256 * (c2 + 256 * (c3 + 256 * (c4 + 256 * (c5 + 256 * (c6 + 256 * c7))))) ∧ (x + x / 256) / 65536 = (c2 + c3) + 256 * ((c3 + c4) + 256 * ((c4 + c5) + 256 * ((c5 + c6) + 256 * ((c6 + c7) + 256 * c7)))) ∧ ((x + x / 256) + (x + x / 256) / 65536) / 4294967296 = (c4 + c5 + c6 + c7) + 256 * ((c5 + c6 + c7) + 256 * ((c6 + c7) + 256 * c7)) := by
  have e1 : x / 256 = c1 + 256 * (c2 + 256 * (c3 + 256 * (c4 + 256 * (c5 + 256 * (c6 + 256 * c7))))) := by omega
  have e2 : (x + x / 256) / 65536 = (c2 + c3) + 256 * ((c3 + c4) + 256 * ((c4 + c5) + 256 * ((c5 + c6) + 256 * ((c6 + c7) + 256 * c7)))) := by rw [e1, hx]; omega
  refine ⟨e1, e2, ?_⟩
  rw [e2, e1, hx]; omega
theorem pc_bd {x c0 c1 c2 c3 c4 c5 c6 c7 : Nat} (hb : c0 ≤ 8 ∧ c1 ≤ 8 ∧ c2 ≤ 8 ∧ c3 ≤ 8 ∧ c4 ≤ 8 ∧ c5 ≤ 8 ∧ c6 ≤ 8 ∧ c7 ≤ 8) (hx : x = c0 + 256 * (c1 + 256 * (c2 + 256 * (c3 + 256 * (c4 + 256 * (c5 + 256 * (c6 + 256 * c7))))))) : x < 1152921504606846976 := by omega
theorem pc_fin {x c0 c1 c2 c3 c4 c5 c6 c7 : Nat} (hb : c0 ≤ 8 ∧ c1 ≤ 8 ∧ c2 ≤ 8 ∧ c3 ≤ 8 ∧ c4 ≤ 8 ∧ c5 ≤ 8 ∧ c6 ≤ 8 ∧ c7 ≤ 8) (hx : x = c0 + 256 * (c1 + 256 * (c2 + 256 * (c3 + 256 * (c4 + 256 * (c5 + 256 * (c6 + 256 * c7))))))) : ((x + x / 256) + (x + x / 256) / 65536 + ((x + x / 256) + (x + x / 256) / 65536) / 4294967296) % 128 = c0 + c1 + c2 + c3 + c4 + c5 + c6 + c7 := by
  obtain ⟨p1, p2, p3⟩ := pc_end hb hx
  rw [p3, p2, p1]
  subst hx
  clear p1 p2 p3
  omega
theorem st_add {x y z : Int64} {k : Nat} (hk : k < 64) (hy : y = x + (x.toUInt64 >>> ((Int32.ofInt (k : Int)).toInt64.toUInt64 &&& Int64.toUInt64 63)).toInt64) (h : tn x + tn x / 2 ^ k < 2 ^ 64) : tn y = tn x + tn x / 2 ^ k := by
  rw [hy, tn_add (by rw [tn_ushr hk]; exact h), tn_ushr hk]
def bcU (w : Int64) : Int := (bcN (tn w) 64 : Nat)
theorem m55 : tn (6148914691236517205 : Int64) = rp 85 8 := by decide +kernel
theorem m33 : tn (3689348814741910323 : Int64) = rp 51 8 := by decide +kernel
theorem m0f : tn (1085102592571150095 : Int64) = rp 15 8 := by decide +kernel
theorem r33 : rp 51 8 = 3689348814741910323 := by decide +kernel
theorem st_1 {w w1 : Int64} (h1 : w1 = w - (((w).toUInt64 >>> ((Int32.ofInt 1).toInt64.toUInt64 &&& Int64.toUInt64 63)).toInt64 &&& 6148914691236517205)) : tn w1 = S1 8 (tn w) := by
  have e : tn (((w).toUInt64 >>> ((Int32.ofInt 1).toInt64.toUInt64 &&& Int64.toUInt64 63)).toInt64 &&& 6148914691236517205) = (tn w / 2) &&& rp 85 8 := by
    rw [tn_and, m55, show tn (((w).toUInt64 >>> ((Int32.ofInt 1).toInt64.toUInt64 &&& Int64.toUInt64 63)).toInt64) = tn w / 2 ^ 1 from tn_ushr (k := 1) (by decide)]
  have h2 : (tn w / 2) &&& rp 85 8 ≤ tn w / 2 := Nat.and_le_left
  rw [h1, tn_sub (by rw [e]; omega), e]; rfl
theorem st_2 {w1 w2 : Int64} (h1 : w2 = (w1 &&& 3689348814741910323) + (((w1).toUInt64 >>> ((Int32.ofInt 2).toInt64.toUInt64 &&& Int64.toUInt64 63)).toInt64 &&& 3689348814741910323)) : tn w2 = S2 8 (tn w1) ∧ tn w2 ≤ 7378697629483820646 := by
  have e1 : tn (w1 &&& 3689348814741910323) = tn w1 &&& rp 51 8 := by rw [tn_and, m33]
  have e2 : tn (((w1).toUInt64 >>> ((Int32.ofInt 2).toInt64.toUInt64 &&& Int64.toUInt64 63)).toInt64 &&& 3689348814741910323) = (tn w1 / 4) &&& rp 51 8 := by
    rw [tn_and, m33, show tn (((w1).toUInt64 >>> ((Int32.ofInt 2).toInt64.toUInt64 &&& Int64.toUInt64 63)).toInt64) = tn w1 / 2 ^ 2 from tn_ushr (k := 2) (by decide)]
  have h2 : tn w1 &&& rp 51 8 ≤ rp 51 8 := Nat.and_le_right
  have h3 : (tn w1 / 4) &&& rp 51 8 ≤ rp 51 8 := Nat.and_le_right
  have h4 := r33
  have h5 : tn w2 = S2 8 (tn w1) := by rw [h1, tn_add (by rw [e1, e2]; omega), e1, e2]; rfl
  refine ⟨h5, ?_⟩
  rw [h5]; unfold S2; omega
theorem st_3 {w2 w3 : Int64} (hb : tn w2 ≤ 7378697629483820646) (h1 : w3 = (w2 + ((w2).toUInt64 >>> ((Int32.ofInt 4).toInt64.toUInt64 &&& Int64.toUInt64 63)).toInt64) &&& 1085102592571150095) : tn w3 = S3 8 (tn w2) := by
  have e2 : tn (((w2).toUInt64 >>> ((Int32.ofInt 4).toInt64.toUInt64 &&& Int64.toUInt64 63)).toInt64) = tn w2 / 16 := tn_ushr (k := 4) (by decide)
  rw [h1, tn_and, m0f, tn_add (by rw [e2]; omega), e2]; rfl
theorem bc_long (w w1 w2 w3 w4 w5 w6 : Int64) (h1 : w1 = w - (((w).toUInt64 >>> ((Int32.ofInt 1).toInt64.toUInt64 &&& Int64.toUInt64 63)).toInt64 &&& 6148914691236517205)) (h2 : w2 = (w1 &&& 3689348814741910323) + (((w1).toUInt64 >>> ((Int32.ofInt 2).toInt64.toUInt64 &&& Int64.toUInt64 63)).toInt64 &&& 3689348814741910323)) (h3 : w3 = (w2 + ((w2).toUInt64 >>> ((Int32.ofInt 4).toInt64.toUInt64 &&& Int64.toUInt64 63)).toInt64) &&& 1085102592571150095)
    (h4 : w4 = w3 + ((w3).toUInt64 >>> ((Int32.ofInt 8).toInt64.toUInt64 &&& Int64.toUInt64 63)).toInt64) (h5 : w5 = w4 + ((w4).toUInt64 >>> ((Int32.ofInt 16).toInt64.toUInt64 &&& Int64.toUInt64 63)).toInt64) (h6 : w6 = w5 + ((w5).toUInt64 >>> ((Int32.ofInt 32).toInt64.toUInt64 &&& Int64.toUInt64 63)).toInt64) : w6.toInt32.toInt % 2 ^ 7 = bcU w := by
  obtain ⟨c0, c1, c2, c3, c4, c5, c6, c7, hb, hs, hn⟩ := pc_64 (tn_lt w)
  have t2 := st_2 h2
  have hx : tn w3 = c0 + 256 * (c1 + 256 * (c2 + 256 * (c3 + 256 * (c4 + 256 * (c5 + 256 * (c6 + 256 * c7)))))) := by rw [st_3 t2.2 h3, t2.1, st_1 h1, hs]
  have hl := pc_bd hb hx
  have hf := pc_fin hb hx
  clear hx hs
  have t4 : tn w4 = tn w3 + tn w3 / 256 := st_add (z := w) (k := 8) (by decide) h4 (by show tn w3 + tn w3 / 256 < _; omega)
  have t5 : tn w5 = tn w4 + tn w4 / 65536 := st_add (z := w) (k := 16) (by decide) h5 (by show tn w4 + tn w4 / 65536 < _; omega)
  have t6 : tn w6 = tn w5 + tn w5 / 4294967296 := st_add (z := w) (k := 32) (by decide) h6 (by show tn w5 + tn w5 / 4294967296 < _; omega)
  rw [i32_mod w6 7 (by decide)]
  unfold bcU
  congr 1
  rw [hn, t6, t5, t4]; exact hf
set_option maxHeartbeats 4000000 in
set_option maxRecDepth 100000 in
theorem j_bcL (g : GH) (w : Int64)  : AMet mJ13_bitCount_95d88 g [vL w] (pZ g (bcU w)) := by
  refine AMet.of [vL w, none] (by decide) rfl (Nat.le_of_ble_eq_true rfl) ?_
  refine a_lload_n 1 dJ13_bitCount_95d88_0 rfl rfl ?_
  refine a_lload_n 2 dJ13_bitCount_95d88_1 rfl rfl ?_
  refine a_iconst (z := 1) 3 dJ13_bitCount_95d88_2 rfl (zrl rfl) rfl ?_
  refine a_lushr 4 dJ13_bitCount_95d88_3 rfl rfl ?_
  refine a_ldc2 7 dJ13_bitCount_95d88_4 kJ13_314 rfl ?_
  refine a_land 8 dJ13_bitCount_95d88_7 rfl ?_
  refine a_lsub 9 dJ13_bitCount_95d88_8 rfl ?_
  refine a_lstore_n 10 dJ13_bitCount_95d88_9 (by decide) rfl rfl ?_
  refine a_lload_n 11 dJ13_bitCount_95d88_10 rfl rfl ?_
  refine a_ldc2 14 dJ13_bitCount_95d88_11 kJ13_316 rfl ?_
  refine a_land 15 dJ13_bitCount_95d88_14 rfl ?_
  refine a_lload_n 16 dJ13_bitCount_95d88_15 rfl rfl ?_
  refine a_iconst (z := 2) 17 dJ13_bitCount_95d88_16 rfl (zrl rfl) rfl ?_
  refine a_lushr 18 dJ13_bitCount_95d88_17 rfl rfl ?_
  refine a_ldc2 21 dJ13_bitCount_95d88_18 kJ13_316 rfl ?_
  refine a_land 22 dJ13_bitCount_95d88_21 rfl ?_
  refine a_ladd 23 dJ13_bitCount_95d88_22 rfl ?_
  refine a_lstore_n 24 dJ13_bitCount_95d88_23 (by decide) rfl rfl ?_
  refine a_lload_n 25 dJ13_bitCount_95d88_24 rfl rfl ?_
  refine a_lload_n 26 dJ13_bitCount_95d88_25 rfl rfl ?_
  refine a_iconst (z := 4) 27 dJ13_bitCount_95d88_26 rfl (zrl rfl) rfl ?_
  refine a_lushr 28 dJ13_bitCount_95d88_27 rfl rfl ?_
  refine a_ladd 29 dJ13_bitCount_95d88_28 rfl ?_
  refine a_ldc2 32 dJ13_bitCount_95d88_29 kJ13_318 rfl ?_
  refine a_land 33 dJ13_bitCount_95d88_32 rfl ?_
  refine a_lstore_n 34 dJ13_bitCount_95d88_33 (by decide) rfl rfl ?_
  refine a_lload_n 35 dJ13_bitCount_95d88_34 rfl rfl ?_
  refine a_lload_n 36 dJ13_bitCount_95d88_35 rfl rfl ?_
  refine a_bipush (z := 8) 38 dJ13_bitCount_95d88_36 rfl (zrl rfl) rfl ?_
  refine a_lushr 39 dJ13_bitCount_95d88_38 rfl rfl ?_
  refine a_ladd 40 dJ13_bitCount_95d88_39 rfl ?_
  refine a_lstore_n 41 dJ13_bitCount_95d88_40 (by decide) rfl rfl ?_
  refine a_lload_n 42 dJ13_bitCount_95d88_41 rfl rfl ?_
  refine a_lload_n 43 dJ13_bitCount_95d88_42 rfl rfl ?_
  refine a_bipush (z := 16) 45 dJ13_bitCount_95d88_43 rfl (zrl rfl) rfl ?_
  refine a_lushr 46 dJ13_bitCount_95d88_45 rfl rfl ?_
  refine a_ladd 47 dJ13_bitCount_95d88_46 rfl ?_
  refine a_lstore_n 48 dJ13_bitCount_95d88_47 (by decide) rfl rfl ?_
  refine a_lload_n 49 dJ13_bitCount_95d88_48 rfl rfl ?_
  refine a_lload_n 50 dJ13_bitCount_95d88_49 rfl rfl ?_
  refine a_bipush (z := 32) 52 dJ13_bitCount_95d88_50 rfl (zrl rfl) rfl ?_
  refine a_lushr 53 dJ13_bitCount_95d88_52 rfl rfl ?_
  refine a_ladd 54 dJ13_bitCount_95d88_53 rfl ?_
  refine a_lstore_n 55 dJ13_bitCount_95d88_54 (by decide) rfl rfl ?_
  refine a_lload_n 56 dJ13_bitCount_95d88_55 rfl rfl ?_
  refine a_l2i 57 dJ13_bitCount_95d88_56 rfl ?_
  refine a_bipush (z := 127) 59 dJ13_bitCount_95d88_57 rfl (zrl rfl) rfl ?_
  refine a_iand _ 60 dJ13_bitCount_95d88_59 (v_mask 7 (by decide) (by decide)) rfl ?_
  refine a_ireturn dJ13_bitCount_95d88_60 rfl ⟨Nat.zero_le _, Nat.zero_le _⟩ ?_
  exact ⟨congrArg vI (bc_long w _ _ _ _ _ _ rfl rfl rfl rfl rfl rfl), rfl⟩
/-- a row of ints filled -/
def gF (g : GH) (a n : Nat) (z : Int) : GH := (g.1, fun x k => if x = a ∧ k < n then z else g.2.1 x k, g.2.2)
theorem gF_s {g : GH} {a n : Nat} {z : Int} : gI (gF g a n z) a n z = gF g a (n + 1) z := by
  have : u2 (gF g a n z).2.1 a n z = (gF g a (n + 1) z).2.1 := by
    funext x k
    show (if x = a ∧ k = n then z else if x = a ∧ k < n then z else g.2.1 x k) = (if x = a ∧ k < n + 1 then z else g.2.1 x k)
    by_cases h1 : x = a ∧ k = n
    · rw [if_pos h1, if_pos ⟨h1.1, by omega⟩]
    · rw [if_neg h1]
      by_cases h2 : x = a ∧ k < n
      · rw [if_pos h2, if_pos ⟨h2.1, by omega⟩]
      · rw [if_neg h2, if_neg (fun q => by
          rcases (by omega : k = n ∨ k < n) with y | y
          · exact h1 ⟨q.1, y⟩
          · exact h2 ⟨q.1, y⟩)]
  show (g.1, u2 (gF g a n z).2.1 a n z, g.2.2) = gF g a (n + 1) z
  rw [this]; rfl
theorem gF_0 {g : GH} {a : Nat} {z : Int} : gF g a 0 z = g := by
  have : (fun x k => if x = a ∧ k < 0 then z else g.2.1 x k) = g.2.1 := by
    funext x k; rw [if_neg (fun q => Nat.not_lt_zero _ q.2)]
  show (g.1, _, g.2.2) = g
  rw [this]
theorem gF_i {g : GH} {a n k : Nat} {z : Int} (h : k < n) : (gF g a n z).2.1 a k = z := if_pos ⟨rfl, h⟩
theorem gF_n {g : GH} {a n x k : Nat} {z : Int} (h : x ≠ a) : (gF g a n z).2.1 x k = g.2.1 x k := if_neg (fun q => h q.1)
set_option maxHeartbeats 4000000 in
set_option maxRecDepth 100000 in
theorem j_fill (g : GH) (z : Int) {a n : Nat} (ha : g.1 a = some (Sum.inr (.int, n))) (hn : n ≤ 1000000) : AMet mJ7_fill_53178 g [vA a, vI z] (fun _ g' => g' = gF g a n z) := by
  refine AMet.of [vA a, vI z, none, none] (by decide) rfl (Nat.le_of_ble_eq_true rfl) ?_
  refine a_iconst (z := 0) 1 dJ7_fill_53178_0 rfl (zrl rfl) rfl ?_
  refine a_istore_n 2 dJ7_fill_53178_1 (by decide) rfl rfl ?_
  refine a_aload_n 3 dJ7_fill_53178_2 rfl rfl ?_
  refine a_alen 4 dJ7_fill_53178_3 ha (by omega) rfl ?_
  refine a_istore_n 5 dJ7_fill_53178_4 (by decide) rfl rfl ?_
  have e0 : gF g a 0 z = g := gF_0
  suffices hh : AW mJ7_fill_53178 (tE mJ7_fill_53178 g (fun _ g' => g' = gF g a n z)) (0, 0) (gF g a 0 z) 5 [vA a, vI z, vI ((0 : Nat) : Int), vI (n : Int)] [] by rw [e0] at hh; exact hh
  refine AW.loop (α := Nat) (fun p => n - p) (fun p => p ≤ n) (fun p => (gF g a p z)) (fun p => [vA a, vI z, vI (p : Int), vI (n : Int)]) (fun p => []) ?_ 0 ?_
  · intro k hk ih5
    try dsimp only at hI ih ⊢
    skip
    refine a_iload_n 6 dJ7_fill_53178_5 rfl rfl ?_
    refine a_iload_n 7 dJ7_fill_53178_6 rfl rfl ?_
    refine a_icmp_ge 20 10 dJ7_fill_53178_7 (by decide) rfl (fun c7 => ?_) (fun c7 => ?_)
    · skip
      refine a_return dJ7_fill_53178_20 rfl ⟨Nat.zero_le _, Nat.zero_le _⟩ ?_
      have e : k = n := by omega
      subst e
      rfl
    · skip
      refine a_aload_n 11 dJ7_fill_53178_10 rfl rfl ?_
      refine a_iload_n 12 dJ7_fill_53178_11 rfl rfl ?_
      refine a_iload_n 13 dJ7_fill_53178_12 rfl rfl ?_
      refine a_iast 14 dJ7_fill_53178_13 ha (by omega) (by omega) rfl ?_
      refine a_iinc 17 dJ7_fill_53178_14 rfl (by unfold zr; omega) (by decide) rfl rfl ?_
      refine a_goto 5 dJ7_fill_53178_17 (by decide) ?_
      rw [Int.toNat_natCast, gF_s]
      exact ih5 (k + 1) (by omega) (by omega)
  · exact Nat.zero_le _
