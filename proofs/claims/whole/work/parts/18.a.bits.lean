/-! lN n to 2^64: begun with rows of the kit's BITS (wb_) -/
theorem wb_tb (n : Nat) : (lN n).toBitVec = BitVec.ofNat 64 n := rfl
theorem wb_inj {a b : Int64} (h : a.toBitVec = b.toBitVec) : a = b := Int64.toBitVec_inj.mp h
theorem wb_tn {n : Nat} (h : n < 2 ^ 64) : (lN n).toBitVec.toNat = n := by rw [wb_tb, BitVec.toNat_ofNat, Nat.mod_eq_of_lt h]
theorem wb_of (x : Int64) : ∃ n, n < 2 ^ 64 ∧ x = lN n := ⟨x.toBitVec.toNat, x.toBitVec.isLt, wb_inj (by rw [wb_tb]; simp)⟩
theorem wb_c : ∀ k, k < 64 → ((nI k).toInt64 &&& 63) = lN k := by decide +kernel
theorem wb_cu : ∀ k, k < 64 → ((nI k).toInt64.toUInt64 &&& Int64.toUInt64 63) = UInt64.ofNat k := by decide +kernel
theorem wb_sm : ∀ k, k < 64 → (BitVec.ofNat 64 k).smod 64 = BitVec.ofNat 64 k := by decide +kernel
theorem wb_shr {n k : Nat} (hn : n < 2 ^ 64) (hk : k < 64) : ((lN n).toUInt64 >>> ((nI k).toInt64.toUInt64 &&& Int64.toUInt64 63)).toInt64 = lN (n / 2 ^ k) := by
  rw [wb_cu k hk]
  apply wb_inj
  apply BitVec.eq_of_toNat_eq
  show ((lN n).toUInt64 >>> UInt64.ofNat k).toNat = (BitVec.ofNat 64 _).toNat
  have h1 : (UInt64.ofNat k).toNat = k := by
    show (BitVec.ofNat 64 k).toNat = k
    rw [BitVec.toNat_ofNat, Nat.mod_eq_of_lt (by omega)]
  have h2 : (lN n).toUInt64.toNat = n := wb_tn hn
  rw [UInt64.toNat_shiftRight, h1, h2, Nat.mod_eq_of_lt hk, Nat.shiftRight_eq_div_pow, BitVec.toNat_ofNat, Nat.mod_eq_of_lt (Nat.lt_of_le_of_lt (Nat.div_le_self _ _) hn)]
theorem wb_and {a b : Nat} (ha : a < 2 ^ 64) (hb : b < 2 ^ 64) : lN a &&& lN b = lN (a &&& b) := by
  apply wb_inj
  rw [Int64.toBitVec_and, wb_tb, wb_tb, wb_tb]
  apply BitVec.eq_of_toNat_eq
  rw [BitVec.toNat_and, BitVec.toNat_ofNat, BitVec.toNat_ofNat, BitVec.toNat_ofNat, Nat.mod_eq_of_lt ha, Nat.mod_eq_of_lt hb, Nat.mod_eq_of_lt (Nat.and_lt_two_pow _ hb)]
theorem bc_and (a b : Nat) : nI a &&& nI b = nI (a &&& b) := by
  apply Int32.toBitVec_inj.1
  show BitVec.ofNat 32 a &&& BitVec.ofNat 32 b = BitVec.ofNat 32 (a &&& b)
  apply BitVec.eq_of_getLsbD_eq
  intro i hi
  simp [hi]
theorem i_and7 (y : Nat) : nI y &&& 127 = nI (y % 128) := by
  rw [pk_and (nI y) 7 (by decide)]
  show nI ((BitVec.ofNat 32 y).toNat % 2 ^ 7) = _
  rw [BitVec.toNat_ofNat]
  congr 1
  omega
/-! bits counted: by the machine's own bitCount, and one by one -/
def bq : Nat → Nat → Nat
  | 0, _ => 0
  | k + 1, n => n % 2 + bq k (n / 2)
theorem bq_top : ∀ k n, bq (k + 1) n = bq k n + n / 2 ^ k % 2
  | 0, n => by
    show n % 2 + 0 = 0 + n / 1 % 2
    rw [Nat.div_one, Nat.add_comm]
  | k + 1, n => by
    show n % 2 + bq (k + 1) (n / 2) = (n % 2 + bq k (n / 2)) + n / 2 ^ (k + 1) % 2
    rw [bq_top k (n / 2), Nat.div_div_eq_div_mul, show 2 * 2 ^ k = 2 ^ (k + 1) by rw [Nat.pow_succ, Nat.mul_comm], Nat.add_assoc]
theorem bq_le : ∀ k n, bq k n ≤ k
  | 0, _ => Nat.le_refl _
  | k + 1, n => by
    have := bq_le k (n / 2)
    show n % 2 + bq k (n / 2) ≤ k + 1
    omega
theorem bq_small {n k : Nat} (h : n < 2 ^ k) : ∀ j, bq (k + j) n = bq k n
  | 0 => rfl
  | j + 1 => by
    have h2 : n < 2 ^ (k + j) := Nat.lt_of_lt_of_le h (Nat.pow_le_pow_right (by decide) (Nat.le_add_right k j))
    show bq (k + j + 1) n = _
    rw [bq_top, bq_small h j, Nat.div_eq_of_lt h2]
    rfl
theorem bq_8 (k n : Nat) : bq (k + 8) n = n % 2 + (n / 2 % 2 + (n / 4 % 2 + (n / 8 % 2 + (n / 16 % 2 + (n / 32 % 2 + (n / 64 % 2 + (n / 128 % 2 + bq k (n / 256)))))))) := by
  have h : bq (k + 8) n = n % 2 + (n / 2 % 2 + (n / 2 / 2 % 2 + (n / 2 / 2 / 2 % 2 + (n / 2 / 2 / 2 / 2 % 2 + (n / 2 / 2 / 2 / 2 / 2 % 2 + (n / 2 / 2 / 2 / 2 / 2 / 2 % 2 + (n / 2 / 2 / 2 / 2 / 2 / 2 / 2 % 2 + bq k (n / 2 / 2 / 2 / 2 / 2 / 2 / 2 / 2)))))))) := rfl
  rw [h]
  simp only [Nat.div_div_eq_div_mul, Nat.reduceMul]
theorem bq_byte (k n : Nat) : bq (k + 8) n = bq 8 (n % 256) + bq k (n / 256) := by
  have e1 : n % 256 % 2 = n % 2 := by omega
  have e2 : n % 256 / 2 % 2 = n / 2 % 2 := by omega
  have e3 : n % 256 / 4 % 2 = n / 4 % 2 := by omega
  have e4 : n % 256 / 8 % 2 = n / 8 % 2 := by omega
  have e5 : n % 256 / 16 % 2 = n / 16 % 2 := by omega
  have e6 : n % 256 / 32 % 2 = n / 32 % 2 := by omega
  have e7 : n % 256 / 64 % 2 = n / 64 % 2 := by omega
  have e8 : n % 256 / 128 % 2 = n / 128 % 2 := by omega
  have h := bq_8 0 (n % 256)
  have z : bq 0 (n % 256 / 256) = 0 := rfl
  rw [z, e1, e2, e3, e4, e5, e6, e7, e8] at h
  rw [bq_8 k n, show bq 8 (n % 256) = bq (0 + 8) (n % 256) from rfl, h]
  generalize bq k (n / 256) = z
  generalize n % 2 = a1
  generalize n / 2 % 2 = a2
  generalize n / 4 % 2 = a3
  generalize n / 8 % 2 = a4
  generalize n / 16 % 2 = a5
  generalize n / 32 % 2 = a6
  generalize n / 64 % 2 = a7
  generalize n / 128 % 2 = a8
  omega
theorem and_b (a b m n : Nat) (ha : a < 256) (hm : m < 256) : (a + 256 * b) &&& (m + 256 * n) = (a &&& m) + 256 * (b &&& n) := by
  have h1 : ((a + 256 * b) &&& (m + 256 * n)) % 2 ^ 8 = a &&& m := by
    rw [Nat.and_mod_two_pow, show (a + 256 * b) % 2 ^ 8 = a by omega, show (m + 256 * n) % 2 ^ 8 = m by omega]
  have h2 : ((a + 256 * b) &&& (m + 256 * n)) / 2 ^ 8 = b &&& n := by
    rw [Nat.and_div_two_pow, show (a + 256 * b) / 2 ^ 8 = b by omega, show (m + 256 * n) / 2 ^ 8 = n by omega]
  generalize (a + 256 * b) &&& (m + 256 * n) = z at h1 h2
  generalize a &&& m = x at h1
  generalize b &&& n = y at h2
  omega
def mkB (m : Nat) : Nat → Nat
  | 0 => 0
  | k + 1 => m + 256 * mkB m k
def fA (k y : Nat) : Nat := y - (y / 2 &&& mkB 85 k)
def fB (k y : Nat) : Nat := (y &&& mkB 51 k) + (y / 4 &&& mkB 51 k)
def fC (k y : Nat) : Nat := (y + y / 16) &&& mkB 15 k
theorem tA : ∀ a, a < 256 → ∀ c, c < 2 → (a / 2 + 128 * c) &&& 85 = a / 2 &&& 85 := by decide +kernel
theorem tB : ∀ a, a < 256 → ∀ c, c < 4 → (a / 4 + 64 * c) &&& 51 = a / 4 &&& 51 := by decide +kernel
theorem fA_s (k a b : Nat) (ha : a < 256) : fA (k + 1) (a + 256 * b) = (a - (a / 2 &&& 85)) + 256 * fA k b := by
  have h : (a + 256 * b) / 2 = (a / 2 + 128 * (b % 2)) + 256 * (b / 2) := by omega
  have hs : a / 2 + 128 * (b % 2) < 256 := by omega
  have hm : (a / 2 + 128 * (b % 2)) &&& 85 = a / 2 &&& 85 := tA a ha (b % 2) (by omega)
  have h1 : a / 2 &&& 85 ≤ a := Nat.le_trans Nat.and_le_left (Nat.div_le_self _ _)
  have h2 : b / 2 &&& mkB 85 k ≤ b := Nat.le_trans Nat.and_le_left (Nat.div_le_self _ _)
  show a + 256 * b - ((a + 256 * b) / 2 &&& (85 + 256 * mkB 85 k)) = (a - (a / 2 &&& 85)) + 256 * (b - (b / 2 &&& mkB 85 k))
  rw [h, and_b _ _ _ _ hs (by decide), hm]
  generalize a / 2 &&& 85 = x at h1
  generalize b / 2 &&& mkB 85 k = y at h2
  omega
theorem fB_s (k a b : Nat) (ha : a < 256) : fB (k + 1) (a + 256 * b) = ((a &&& 51) + (a / 4 &&& 51)) + 256 * fB k b := by
  have h : (a + 256 * b) / 4 = (a / 4 + 64 * (b % 4)) + 256 * (b / 4) := by omega
  have hs : a / 4 + 64 * (b % 4) < 256 := by omega
  have hm : (a / 4 + 64 * (b % 4)) &&& 51 = a / 4 &&& 51 := tB a ha (b % 4) (by omega)
  show ((a + 256 * b) &&& (51 + 256 * mkB 51 k)) + ((a + 256 * b) / 4 &&& (51 + 256 * mkB 51 k)) = ((a &&& 51) + (a / 4 &&& 51)) + 256 * ((b &&& mkB 51 k) + (b / 4 &&& mkB 51 k))
  rw [h, and_b _ _ _ _ hs (by decide), and_b _ _ _ _ ha (by decide), hm]
  generalize a &&& 51 = x
  generalize a / 4 &&& 51 = x2
  generalize b &&& mkB 51 k = y
  generalize b / 4 &&& mkB 51 k = y2
  omega
theorem fC_s (k a b : Nat) (h : a + a / 16 + 16 * (b % 16) < 256) : fC (k + 1) (a + 256 * b) = (a + a / 16) % 16 + 256 * fC k b := by
  have e : (a + 256 * b) + (a + 256 * b) / 16 = (a + a / 16 + 16 * (b % 16)) + 256 * (b + b / 16) := by omega
  show ((a + 256 * b) + (a + 256 * b) / 16) &&& (15 + 256 * mkB 15 k) = (a + a / 16) % 16 + 256 * ((b + b / 16) &&& mkB 15 k)
  rw [e, and_b _ _ _ _ h (by decide), show (a + a / 16 + 16 * (b % 16)) &&& 15 = (a + a / 16 + 16 * (b % 16)) % 2 ^ 4 from Nat.and_two_pow_sub_one_eq_mod _ 4]
  generalize (b + b / 16) &&& mkB 15 k = y
  omega
def tb (a : Nat) : Nat := ((a - (a / 2 &&& 85)) &&& 51) + ((a - (a / 2 &&& 85)) / 4 &&& 51)
theorem tT : ∀ a, a < 256 → tb a < 69 ∧ tb a % 16 ≤ 4 ∧ (tb a + tb a / 16) % 16 = bq 8 a := by decide +kernel
def fBA (k y : Nat) : Nat := fB k (fA k y)
theorem fBA_s (k a b : Nat) (ha : a < 256) : fBA (k + 1) (a + 256 * b) = tb a + 256 * fBA k b := by
  unfold fBA
  rw [fA_s k a b ha, fB_s k _ _ (Nat.lt_of_le_of_lt (Nat.sub_le _ _) ha)]
  rfl
theorem fBA_low : ∀ k b, fBA k b % 16 ≤ 4
  | 0, b => by
    show ((fA 0 b &&& 0) + (fA 0 b / 4 &&& 0)) % 16 ≤ 4
    rw [Nat.and_zero, Nat.and_zero]; decide
  | k + 1, b => by
    have hb : b = b % 256 + 256 * (b / 256) := by omega
    have ha : b % 256 < 256 := Nat.mod_lt _ (by decide)
    rw [hb, fBA_s k _ _ ha]
    have := (tT _ ha).2.1
    generalize fBA k (b / 256) = z
    omega
def smB : Nat → Nat → Nat
  | 0, _ => 0
  | k + 1, n => bq 8 (n % 256) + 256 * smB k (n / 256)
theorem fC_all : ∀ k n, fC k (fBA k n) = smB k n
  | 0, n => by
    show (fBA 0 n + fBA 0 n / 16) &&& 0 = 0
    rw [Nat.and_zero]
  | k + 1, n => by
    have hn : fBA (k + 1) n = tb (n % 256) + 256 * fBA k (n / 256) := by
      have h := fBA_s k (n % 256) (n / 256) (Nat.mod_lt _ (by decide))
      rw [show n % 256 + 256 * (n / 256) = n by omega] at h
      exact h
    obtain ⟨t1, t2, t3⟩ := tT (n % 256) (Nat.mod_lt _ (by decide))
    have l := fBA_low k (n / 256)
    rw [hn, fC_s k _ _ (by omega), fC_all k (n / 256), t3]
    rfl
