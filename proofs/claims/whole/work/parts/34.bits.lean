theorem and_dig (s a m u v : Nat) (ha : a < 2 ^ s) (hm : m < 2 ^ s) : (2 ^ s * u + a) &&& (2 ^ s * v + m) = 2 ^ s * (u &&& v) + (a &&& m) := by
  apply Nat.eq_of_testBit_eq
  intro j
  have hb : a &&& m < 2 ^ s := Nat.and_lt_two_pow a hm
  rw [Nat.testBit_and, Nat.testBit_two_pow_mul_add u ha, Nat.testBit_two_pow_mul_add v hm, Nat.testBit_two_pow_mul_add _ hb]
  by_cases hj : j < s
  · simp [hj]
  · simp [hj]
theorem and_4 (m b0 b1 b2 b3 : Nat) (hm : m < 256) (h0 : b0 < 256) (h1 : b1 < 256) (h2 : b2 < 256) (h3 : b3 < 256) : (b0 + 256 * (b1 + 256 * (b2 + 256 * b3))) &&& (m + 256 * (m + 256 * (m + 256 * m))) = (b0 &&& m) + 256 * ((b1 &&& m) + 256 * ((b2 &&& m) + 256 * (b3 &&& m))) := by
  have e0 := and_dig 8 b0 m (b1 + 256 * (b2 + 256 * b3)) (m + 256 * (m + 256 * m)) h0 hm
  have e1 := and_dig 8 b1 m (b2 + 256 * b3) (m + 256 * m) h1 hm
  have e2 := and_dig 8 b2 m b3 m h2 hm
  have c : (2 : Nat) ^ 8 = 256 := by decide
  rw [c] at e0 e1 e2
  rw [Nat.add_comm b0, Nat.add_comm m, e0, Nat.add_comm b1 (256 * (b2 + 256 * b3)), Nat.add_comm m (256 * (m + 256 * m)), e1, Nat.add_comm b2 (256 * b3), Nat.add_comm m (256 * m), e2]
  omega
def bc1 (b : Nat) : Nat := b - ((b / 2) &&& 85)
def bc2 (b : Nat) : Nat := (b &&& 51) + ((b / 4) &&& 51)
def bc3 (b : Nat) : Nat := (b + b / 16) % 16
def ones8 (b : Nat) : Nat := b % 2 + b / 2 % 2 + b / 4 % 2 + b / 8 % 2 + b / 16 % 2 + b / 32 % 2 + b / 64 % 2 + b / 128 % 2
theorem bc_ones : ∀ b, b < 256 → bc3 (bc2 (bc1 b)) = ones8 b ∧ (b / 2 &&& 85) ≤ b ∧ bc1 b < 256 ∧ bc2 (bc1 b) ≤ 68 ∧ ones8 b ≤ 8 ∧ (bc1 b &&& 51) ≤ 51 ∧ (bc1 b / 4 &&& 51) ≤ 51 ∧ bc2 (bc1 b) % 16 ≤ 4 := by decide +kernel
theorem bc_hi1 : ∀ b, b < 128 → ∀ e, e < 2 → (b + 128 * e) &&& 85 = b &&& 85 := by decide +kernel
theorem bc_hi2 : ∀ b, b < 64 → ∀ e, e < 4 → (b + 64 * e) &&& 51 = b &&& 51 := by decide +kernel
theorem bc_hi3 : ∀ b, b < 256 → b &&& 15 = b % 16 := by decide +kernel
def TN (x : Int32) : Nat := x.toBitVec.toNat
theorem TN_lt (x : Int32) : TN x < 4294967296 := x.toBitVec.isLt
theorem TN_and (x y : Int32) : TN (x &&& y) = TN x &&& TN y := by unfold TN; rw [Int32.toBitVec_and, BitVec.toNat_and]
theorem TN_add (x y : Int32) : TN (x + y) = (TN x + TN y) % 4294967296 := by unfold TN; rw [Int32.toBitVec_add, BitVec.toNat_add]
theorem TN_sub (x y : Int32) : TN (x - y) = (4294967296 - TN y + TN x) % 4294967296 := by unfold TN; rw [Int32.toBitVec_sub, BitVec.toNat_sub]
theorem TN_sh (x s : Int32) (k : Nat) (hs : ((s.toUInt32 &&& Int32.toUInt32 31).toBitVec % 32).toNat = k) : TN ((x.toUInt32 >>> (s.toUInt32 &&& Int32.toUInt32 31)).toInt32) = TN x / 2 ^ k := pk_ushr x s k hs
def bcA (x : Int32) : Int32 := x - ((x.toUInt32 >>> ((1 : Int32).toUInt32 &&& Int32.toUInt32 31)).toInt32 &&& (1431655765 : Int32))
def bcB (x : Int32) : Int32 := (x &&& (858993459 : Int32)) + ((x.toUInt32 >>> ((2 : Int32).toUInt32 &&& Int32.toUInt32 31)).toInt32 &&& (858993459 : Int32))
def bcC (x : Int32) : Int32 := (x + (x.toUInt32 >>> ((4 : Int32).toUInt32 &&& Int32.toUInt32 31)).toInt32) &&& (252645135 : Int32)
def bcD (x : Int32) : Int32 := x + (x.toUInt32 >>> ((8 : Int32).toUInt32 &&& Int32.toUInt32 31)).toInt32
def bcE (x : Int32) : Int32 := x + (x.toUInt32 >>> ((16 : Int32).toUInt32 &&& Int32.toUInt32 31)).toInt32
theorem bit_steps (fz : Nat) (x : Int32) (h : HH) : B_I_bitCount fz x h = bcE (bcD (bcC (bcB (bcA x)))) &&& (63 : Int32) := rfl
theorem bcA_T (x : Int32) (b0 b1 b2 b3 : Nat) (h0 : b0 < 256) (h1 : b1 < 256) (h2 : b2 < 256) (h3 : b3 < 256) (h : TN x = b0 + 256 * (b1 + 256 * (b2 + 256 * b3))) : TN (bcA x) = bc1 b0 + 256 * (bc1 b1 + 256 * (bc1 b2 + 256 * bc1 b3)) := by
  have e1 : TN ((x.toUInt32 >>> ((1 : Int32).toUInt32 &&& Int32.toUInt32 31)).toInt32) = (b0 / 2 + 128 * (b1 % 2)) + 256 * ((b1 / 2 + 128 * (b2 % 2)) + 256 * ((b2 / 2 + 128 * (b3 % 2)) + 256 * (b3 / 2))) := by
    rw [TN_sh x 1 1 (by decide +kernel), h]
    omega
  have em : TN (1431655765 : Int32) = 85 + 256 * (85 + 256 * (85 + 256 * 85)) := by decide +kernel
  have ea : TN ((x.toUInt32 >>> ((1 : Int32).toUInt32 &&& Int32.toUInt32 31)).toInt32 &&& (1431655765 : Int32)) = (b0 / 2 &&& 85) + 256 * ((b1 / 2 &&& 85) + 256 * ((b2 / 2 &&& 85) + 256 * (b3 / 2 &&& 85))) := by
    rw [TN_and, e1, em, and_4 85 _ _ _ _ (by decide) (by omega) (by omega) (by omega) (by omega), bc_hi1 (b0 / 2) (by omega) (b1 % 2) (by omega), bc_hi1 (b1 / 2) (by omega) (b2 % 2) (by omega), bc_hi1 (b2 / 2) (by omega) (b3 % 2) (by omega)]
  have g0 := (bc_ones b0 h0).2.1
  have g1 := (bc_ones b1 h1).2.1
  have g2 := (bc_ones b2 h2).2.1
  have g3 := (bc_ones b3 h3).2.1
  unfold bcA bc1
  rw [TN_sub, ea, h]
  omega
theorem bcB_T (x : Int32) (b0 b1 b2 b3 : Nat) (h0 : b0 < 256) (h1 : b1 < 256) (h2 : b2 < 256) (h3 : b3 < 256) (h : TN x = b0 + 256 * (b1 + 256 * (b2 + 256 * b3))) (k0 : (b0 &&& 51) ≤ 51 ∧ (b0 / 4 &&& 51) ≤ 51) (k1 : (b1 &&& 51) ≤ 51 ∧ (b1 / 4 &&& 51) ≤ 51) (k2 : (b2 &&& 51) ≤ 51 ∧ (b2 / 4 &&& 51) ≤ 51) (k3 : (b3 &&& 51) ≤ 51 ∧ (b3 / 4 &&& 51) ≤ 51) : TN (bcB x) = bc2 b0 + 256 * (bc2 b1 + 256 * (bc2 b2 + 256 * bc2 b3)) := by
  have e1 : TN ((x.toUInt32 >>> ((2 : Int32).toUInt32 &&& Int32.toUInt32 31)).toInt32) = (b0 / 4 + 64 * (b1 % 4)) + 256 * ((b1 / 4 + 64 * (b2 % 4)) + 256 * ((b2 / 4 + 64 * (b3 % 4)) + 256 * (b3 / 4))) := by
    rw [TN_sh x 2 2 (by decide +kernel), h]
    omega
  have em : TN (858993459 : Int32) = 51 + 256 * (51 + 256 * (51 + 256 * 51)) := by decide +kernel
  have ea : TN ((x.toUInt32 >>> ((2 : Int32).toUInt32 &&& Int32.toUInt32 31)).toInt32 &&& (858993459 : Int32)) = (b0 / 4 &&& 51) + 256 * ((b1 / 4 &&& 51) + 256 * ((b2 / 4 &&& 51) + 256 * (b3 / 4 &&& 51))) := by
    rw [TN_and, e1, em, and_4 51 _ _ _ _ (by decide) (by omega) (by omega) (by omega) (by omega), bc_hi2 (b0 / 4) (by omega) (b1 % 4) (by omega), bc_hi2 (b1 / 4) (by omega) (b2 % 4) (by omega), bc_hi2 (b2 / 4) (by omega) (b3 % 4) (by omega)]
  have eb : TN (x &&& (858993459 : Int32)) = (b0 &&& 51) + 256 * ((b1 &&& 51) + 256 * ((b2 &&& 51) + 256 * (b3 &&& 51))) := by
    rw [TN_and, h, em, and_4 51 _ _ _ _ (by decide) h0 h1 h2 h3]
  unfold bcB bc2
  rw [TN_add, ea, eb]
  omega
theorem bcC_T (x : Int32) (b0 b1 b2 b3 : Nat) (h : TN x = b0 + 256 * (b1 + 256 * (b2 + 256 * b3))) (k0 : b0 ≤ 68 ∧ b0 % 16 ≤ 4) (k1 : b1 ≤ 68 ∧ b1 % 16 ≤ 4) (k2 : b2 ≤ 68 ∧ b2 % 16 ≤ 4) (k3 : b3 ≤ 68 ∧ b3 % 16 ≤ 4) : TN (bcC x) = bc3 b0 + 256 * (bc3 b1 + 256 * (bc3 b2 + 256 * bc3 b3)) := by
  have e1 : TN (x + (x.toUInt32 >>> ((4 : Int32).toUInt32 &&& Int32.toUInt32 31)).toInt32) = (b0 + b0 / 16 + 16 * (b1 % 16)) + 256 * ((b1 + b1 / 16 + 16 * (b2 % 16)) + 256 * ((b2 + b2 / 16 + 16 * (b3 % 16)) + 256 * (b3 + b3 / 16))) := by
    rw [TN_add, TN_sh x 4 4 (by decide +kernel), h]
    omega
  have em : TN (252645135 : Int32) = 15 + 256 * (15 + 256 * (15 + 256 * 15)) := by decide +kernel
  unfold bcC bc3
  rw [TN_and, e1, em, and_4 15 _ _ _ _ (by decide) (by omega) (by omega) (by omega) (by omega), bc_hi3 _ (by omega), bc_hi3 _ (by omega), bc_hi3 _ (by omega), bc_hi3 _ (by omega)]
  omega
theorem bt_nat (x : Int32) (j : Nat) : bt x j = decide (TN x / 2 ^ j % 2 = 1) := by
  unfold bt TN BitVec.getLsbD
  exact Nat.testBit_eq_decide_div_mod_eq
theorem cond_dec (a : Nat) : cond (decide (a % 2 = 1)) 1 0 = a % 2 := by
  rcases (show a % 2 = 0 ∨ a % 2 = 1 by omega) with h | h <;> rw [h] <;> rfl
theorem cn_add (p : Nat → Bool) : ∀ k l a, cn p a (k + l) = cn p a k + cn p (a + k) l
  | 0, l, a => by rw [Nat.zero_add, cn, Nat.zero_add, Nat.add_zero]
  | k + 1, l, a => by
    rw [show k + 1 + l = (k + l) + 1 by omega, cn, cn, cn_add p k l (a + 1), show a + 1 + k = a + (k + 1) by omega]
    omega
theorem cn_sh (p : Nat → Bool) (s : Nat) : ∀ k a, cn p (s + a) k = cn (fun j => p (s + j)) a k
  | 0, a => rfl
  | k + 1, a => by rw [cn, cn, Nat.add_assoc, cn_sh p s k (a + 1)]
def tb (N : Nat) : Nat → Bool := fun j => decide (N / 2 ^ j % 2 = 1)
theorem ones_8 (N : Nat) : cn (tb N) 0 8 = ones8 (N % 256) := by
  have e0 : N % 2 = (N % 256) % 2 := by omega
  have e1 : N / 2 % 2 = (N % 256) / 2 % 2 := by omega
  have e2 : N / 4 % 2 = (N % 256) / 4 % 2 := by omega
  have e3 : N / 8 % 2 = (N % 256) / 8 % 2 := by omega
  have e4 : N / 16 % 2 = (N % 256) / 16 % 2 := by omega
  have e5 : N / 32 % 2 = (N % 256) / 32 % 2 := by omega
  have e6 : N / 64 % 2 = (N % 256) / 64 % 2 := by omega
  have e7 : N / 128 % 2 = (N % 256) / 128 % 2 := by omega
  unfold ones8
  rw [← e0, ← e1, ← e2, ← e3, ← e4, ← e5, ← e6, ← e7]
  simp only [cn, tb, cond_dec]
  have p0 : (2 : Nat) ^ 0 = 1 := rfl
  have p1 : (2 : Nat) ^ (0 + 1) = 2 := rfl
  have p2 : (2 : Nat) ^ (0 + 1 + 1) = 4 := rfl
  have p3 : (2 : Nat) ^ (0 + 1 + 1 + 1) = 8 := rfl
  have p4 : (2 : Nat) ^ (0 + 1 + 1 + 1 + 1) = 16 := rfl
  have p5 : (2 : Nat) ^ (0 + 1 + 1 + 1 + 1 + 1) = 32 := rfl
  have p6 : (2 : Nat) ^ (0 + 1 + 1 + 1 + 1 + 1 + 1) = 64 := rfl
  have p7 : (2 : Nat) ^ (0 + 1 + 1 + 1 + 1 + 1 + 1 + 1) = 128 := rfl
  simp only [p0, p1, p2, p3, p4, p5, p6, p7, Nat.div_one]
  generalize N % 2 = a0
  generalize N / 2 % 2 = a1
  generalize N / 4 % 2 = a2
  generalize N / 8 % 2 = a3
  generalize N / 16 % 2 = a4
  generalize N / 32 % 2 = a5
  generalize N / 64 % 2 = a6
  generalize N / 128 % 2 = a7
  omega
theorem tb_8 (N j : Nat) : tb N (8 + j) = tb (N / 256) j := by
  unfold tb
  rw [Nat.pow_add, ← Nat.div_div_eq_div_mul]
theorem cn_tb (N k : Nat) : cn (tb N) 0 (8 + k) = ones8 (N % 256) + cn (tb (N / 256)) 0 k := by
  rw [cn_add, ones_8]
  have e : cn (tb N) (0 + 8) k = cn (tb (N / 256)) 0 k := by
    rw [show 0 + 8 = 8 + 0 from rfl, cn_sh]
    congr 1
    funext j
    exact tb_8 N j
  rw [e]
theorem ones_32 (N : Nat) : cn (tb N) 0 32 = ones8 (N % 256) + (ones8 (N / 256 % 256) + (ones8 (N / 256 / 256 % 256) + ones8 (N / 256 / 256 / 256 % 256))) := by
  rw [show (32 : Nat) = 8 + (8 + (8 + 8)) from rfl, cn_tb, cn_tb, cn_tb, ones_8]
theorem addE {e0 e1 e2 e3 : Nat} (h0 : e0 ≤ 8) (h1 : e1 ≤ 8) (h2 : e2 ≤ 8) (h3 : e3 ≤ 8) : ((e0 + e1) + 256 * ((e1 + e2) + 256 * ((e2 + e3) + 256 * e3)) + ((e0 + e1) + 256 * ((e1 + e2) + 256 * ((e2 + e3) + 256 * e3))) / 2 ^ 16) % 4294967296 = (e0 + e1 + (e2 + e3)) + 256 * ((e1 + e2 + e3) + 256 * ((e2 + e3) + 256 * e3)) := by
  have a : ((e0 + e1) + 256 * ((e1 + e2) + 256 * ((e2 + e3) + 256 * e3))) / 2 ^ 16 = (e2 + e3) + 256 * e3 := by
    have : (2 : Nat) ^ 16 = 65536 := by decide
    rw [this]
    omega
  rw [a, Nat.mod_eq_of_lt (by omega)]
  omega
theorem addD {e0 e1 e2 e3 : Nat} (h0 : e0 ≤ 8) (h1 : e1 ≤ 8) (h2 : e2 ≤ 8) (h3 : e3 ≤ 8) : (e0 + 256 * (e1 + 256 * (e2 + 256 * e3)) + (e0 + 256 * (e1 + 256 * (e2 + 256 * e3))) / 2 ^ 8) % 4294967296 = (e0 + e1) + 256 * ((e1 + e2) + 256 * ((e2 + e3) + 256 * e3)) := by
  have a : (e0 + 256 * (e1 + 256 * (e2 + 256 * e3))) / 2 ^ 8 = e1 + 256 * (e2 + 256 * e3) := by
    have : (2 : Nat) ^ 8 = 256 := by decide
    rw [this]
    omega
  rw [a, Nat.mod_eq_of_lt (by omega)]
  omega
theorem low6 {e0 e1 e2 e3 : Nat} (h0 : e0 ≤ 8) (h1 : e1 ≤ 8) (h2 : e2 ≤ 8) (h3 : e3 ≤ 8) : ((e0 + e1 + (e2 + e3)) + 256 * ((e1 + e2 + e3) + 256 * ((e2 + e3) + 256 * e3))) % 2 ^ 6 = e0 + e1 + (e2 + e3) := by
  have : (2 : Nat) ^ 6 = 64 := by decide
  rw [this]
  omega
theorem bytes4 {N : Nat} (h : N < 4294967296) : ∃ b0 b1 b2 b3, b0 < 256 ∧ b1 < 256 ∧ b2 < 256 ∧ b3 < 256 ∧ N = b0 + 256 * (b1 + 256 * (b2 + 256 * b3)) := ⟨N % 256, N / 256 % 256, N / 256 / 256 % 256, N / 256 / 256 / 256, by omega, by omega, by omega, by omega, by omega⟩
theorem ones_b {b0 b1 b2 b3 : Nat} (h0 : b0 < 256) (h1 : b1 < 256) (h2 : b2 < 256) (h3 : b3 < 256) : cn (tb (b0 + 256 * (b1 + 256 * (b2 + 256 * b3)))) 0 32 = ones8 b0 + ones8 b1 + (ones8 b2 + ones8 b3) := by
  have d0 : (b0 + 256 * (b1 + 256 * (b2 + 256 * b3))) % 256 = b0 := by omega
  have d1 : (b0 + 256 * (b1 + 256 * (b2 + 256 * b3))) / 256 = b1 + 256 * (b2 + 256 * b3) := by omega
  rw [ones_32, d0, d1]
  have d2 : (b1 + 256 * (b2 + 256 * b3)) % 256 = b1 := by omega
  have d3 : (b1 + 256 * (b2 + 256 * b3)) / 256 = b2 + 256 * b3 := by omega
  rw [d2, d3]
  have d4 : (b2 + 256 * b3) % 256 = b2 := by omega
  have d5 : (b2 + 256 * b3) / 256 = b3 := by omega
  rw [d4, d5, Nat.mod_eq_of_lt h3, Nat.add_assoc]
theorem bcF_T (x : Int32) (b0 b1 b2 b3 : Nat) (h0 : b0 < 256) (h1 : b1 < 256) (h2 : b2 < 256) (h3 : b3 < 256) (hb : TN x = b0 + 256 * (b1 + 256 * (b2 + 256 * b3))) : TN (bcC (bcB (bcA x))) = ones8 b0 + 256 * (ones8 b1 + 256 * (ones8 b2 + 256 * ones8 b3)) := by
  have o0 := bc_ones b0 h0
  have o1 := bc_ones b1 h1
  have o2 := bc_ones b2 h2
  have o3 := bc_ones b3 h3
  have eA := bcA_T x b0 b1 b2 b3 h0 h1 h2 h3 hb
  have eB := bcB_T (bcA x) (bc1 b0) (bc1 b1) (bc1 b2) (bc1 b3) o0.2.2.1 o1.2.2.1 o2.2.2.1 o3.2.2.1 eA ⟨o0.2.2.2.2.2.1, o0.2.2.2.2.2.2.1⟩ ⟨o1.2.2.2.2.2.1, o1.2.2.2.2.2.2.1⟩ ⟨o2.2.2.2.2.2.1, o2.2.2.2.2.2.2.1⟩ ⟨o3.2.2.2.2.2.1, o3.2.2.2.2.2.2.1⟩
  have eC := bcC_T (bcB (bcA x)) (bc2 (bc1 b0)) (bc2 (bc1 b1)) (bc2 (bc1 b2)) (bc2 (bc1 b3)) eB ⟨o0.2.2.2.1, o0.2.2.2.2.2.2.2⟩ ⟨o1.2.2.2.1, o1.2.2.2.2.2.2.2⟩ ⟨o2.2.2.2.1, o2.2.2.2.2.2.2.2⟩ ⟨o3.2.2.2.1, o3.2.2.2.2.2.2.2⟩
  rw [o0.1, o1.1, o2.1, o3.1] at eC
  exact eC
theorem bcG_T (x : Int32) (e0 e1 e2 e3 : Nat) (h0 : e0 ≤ 8) (h1 : e1 ≤ 8) (h2 : e2 ≤ 8) (h3 : e3 ≤ 8) (h : TN x = e0 + 256 * (e1 + 256 * (e2 + 256 * e3))) : bcE (bcD x) &&& (63 : Int32) = nI (e0 + e1 + (e2 + e3)) := by
  have eD : TN (bcD x) = (e0 + e1) + 256 * ((e1 + e2) + 256 * ((e2 + e3) + 256 * e3)) := by
    unfold bcD
    rw [TN_add, TN_sh _ 8 8 (by decide +kernel), h]
    exact addD h0 h1 h2 h3
  have eE : TN (bcE (bcD x)) = (e0 + e1 + (e2 + e3)) + 256 * ((e1 + e2 + e3) + 256 * ((e2 + e3) + 256 * e3)) := by
    unfold bcE
    rw [TN_add, TN_sh _ 16 16 (by decide +kernel), eD]
    exact addE h0 h1 h2 h3
  have e6 : TN (bcE (bcD x)) % 2 ^ 6 = e0 + e1 + (e2 + e3) := by
    rw [eE]
    exact low6 h0 h1 h2 h3
  have := pk_and (bcE (bcD x)) (m := 63) 6 (by decide +kernel)
  rw [this]
  exact congrArg nI e6
theorem cv_bitCount (fz : Nat) (x : Int32) (h : HH) : B_I_bitCount fz x h = nI (cn (bt x) 0 32) := by
  obtain ⟨b0, b1, b2, b3, h0, h1, h2, h3, hb⟩ := bytes4 (TN_lt x)
  have eC := bcF_T x b0 b1 b2 b3 h0 h1 h2 h3 hb
  have eG := bcG_T (bcC (bcB (bcA x))) _ _ _ _ (bc_ones b0 h0).2.2.2.2.1 (bc_ones b1 h1).2.2.2.2.1 (bc_ones b2 h2).2.2.2.2.1 (bc_ones b3 h3).2.2.2.2.1 eC
  have ef : bt x = tb (TN x) := by
    funext j
    exact bt_nat x j
  have e9 : cn (bt x) 0 32 = ones8 b0 + ones8 b1 + (ones8 b2 + ones8 b3) := by
    rw [ef, hb]
    exact ones_b h0 h1 h2 h3
  rw [e9]
  exact (bit_steps fz x h).trans eG
