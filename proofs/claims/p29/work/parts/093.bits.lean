/-! the JDK's count of bits, for sixteen of them -/
def bsum (n : Nat) : Nat → Nat
  | 0 => 0
  | k + 1 => bsum n k + n / 2 ^ k % 2
theorem and_split (k a b c d : Nat) (hb : b < 2 ^ k) (hd : d < 2 ^ k) : (2 ^ k * a + b) &&& (2 ^ k * c + d) = 2 ^ k * (a &&& c) + (b &&& d) := by
  apply Nat.eq_of_testBit_eq
  intro i
  have hbd : b &&& d < 2 ^ k := Nat.and_lt_two_pow _ hd
  rw [Nat.testBit_and, Nat.testBit_two_pow_mul_add _ hb, Nat.testBit_two_pow_mul_add _ hd, Nat.testBit_two_pow_mul_add _ hbd]
  by_cases h : i < k
  · simp only [if_pos h, Nat.testBit_and]
  · simp only [if_neg h, Nat.testBit_and]
def bF (x : Nat) : Nat := x - (x / 2 &&& 85)
def bG (x : Nat) : Nat := (x &&& 51) + (x / 4 &&& 51)
def bH (x : Nat) : Nat := (x + x / 16) % 16
theorem bF_1 : ∀ a, a < 256 → (a / 2 &&& 85) ≤ a ∧ ((a / 2 + 128) &&& 85) = (a / 2 &&& 85) ∧ (a / 2 &&& 5592405) = (a / 2 &&& 85) := by decide +kernel
theorem bG_1 : ∀ a, a < 256 → ((a / 4 + 64) &&& 51) = (a / 4 &&& 51) ∧ ((a / 4 + 128) &&& 51) = (a / 4 &&& 51) ∧ ((a / 4 + 192) &&& 51) = (a / 4 &&& 51) ∧ (a / 4 &&& 3355443) = (a / 4 &&& 51) ∧ (a &&& 3355443) = (a &&& 51) := by decide +kernel
theorem bG_2 : ∀ a, a < 256 → bG (bF a) ≤ 68 ∧ bG (bF a) % 16 ≤ 4 ∧ bH (bG (bF a)) = bsum a 8 ∧ bsum a 8 ≤ 8 := by decide +kernel
theorem st1 (a b : Nat) (ha : a < 256) (hb : b < 256) : (256 * b + a) - ((256 * b + a) / 2 &&& 1431655765) = 256 * bF b + bF a ∧ ((256 * b + a) / 2 &&& 1431655765) ≤ 256 * b + a ∧ bF a < 256 ∧ bF b < 256 := by
  have e : (256 * b + a) / 2 = 2 ^ 8 * (b / 2) + (a / 2 + 128 * (b % 2)) := by omega
  have e2 : (1431655765 : Nat) = 2 ^ 8 * 5592405 + 85 := by decide
  obtain ⟨h1, h2, h3⟩ := bF_1 a ha
  obtain ⟨g1, g2, g3⟩ := bF_1 b hb
  rw [e, e2, and_split 8 _ _ _ _ (by omega) (by omega), g3]
  have e3 : (a / 2 + 128 * (b % 2)) &&& 85 = (a / 2 &&& 85) := by
    rcases (show b % 2 = 0 ∨ b % 2 = 1 by omega) with c | c
    · rw [c]
      rfl
    · rw [c]
      exact h2
  rw [e3]
  unfold bF
  omega
theorem st2 (a b : Nat) (ha : a < 256) (hb : b < 256) : ((256 * b + a) &&& 858993459) + ((256 * b + a) / 4 &&& 858993459) = 256 * bG b + bG a := by
  have e : (256 * b + a) / 4 = 2 ^ 8 * (b / 4) + (a / 4 + 64 * (b % 4)) := by omega
  have e0 : 256 * b + a = 2 ^ 8 * b + a := by omega
  have e2 : (858993459 : Nat) = 2 ^ 8 * 3355443 + 51 := by decide
  obtain ⟨h1, h2, h3, h4, h5⟩ := bG_1 a ha
  obtain ⟨g1, g2, g3, g4, g5⟩ := bG_1 b hb
  rw [e, e0, e2, and_split 8 _ _ _ _ (by omega) (by omega), and_split 8 _ _ _ _ (by omega) (by omega), g4, g5]
  have e3 : (a / 4 + 64 * (b % 4)) &&& 51 = (a / 4 &&& 51) := by
    rcases (show b % 4 = 0 ∨ b % 4 = 1 ∨ b % 4 = 2 ∨ b % 4 = 3 by omega) with c | c | c | c <;> rw [c]
    · rfl
    · exact h1
    · exact h2
    · exact h3
  rw [e3]
  unfold bG
  omega
theorem and15 (x : Nat) : x &&& 15 = x % 16 := Nat.and_two_pow_sub_one_eq_mod x 4
theorem and63 (x : Nat) : x &&& 63 = x % 64 := Nat.and_two_pow_sub_one_eq_mod x 6
theorem st3 (a b : Nat) (ha : a ≤ 68) (hb : b ≤ 68) (ha2 : a % 16 ≤ 4) (hb2 : b % 16 ≤ 4) : ((256 * b + a) + (256 * b + a) / 16) &&& 252645135 = 256 * bH b + bH a := by
  have e : (256 * b + a) + (256 * b + a) / 16 = 2 ^ 8 * (b + b / 16) + (a + a / 16 + 16 * (b % 16)) := by omega
  have e2 : (252645135 : Nat) = 2 ^ 8 * 986895 + 15 := by decide
  rw [e, e2, and_split 8 _ _ _ _ (by omega) (by omega), and15]
  have e3 : (986895 : Nat) = 2 ^ 8 * 3855 + 15 := by decide
  have e4 : b + b / 16 = 2 ^ 8 * 0 + (b + b / 16) := by omega
  rw [e3, e4, and_split 8 _ _ _ _ (by omega) (by omega), and15, Nat.zero_and]
  unfold bH
  omega
theorem bsum_split (a b : Nat) (ha : a < 256) : bsum (256 * b + a) 16 = bsum a 8 + bsum b 8 := by
  simp only [bsum]
  have h0 : (256 * b + a) / 2 ^ 0 % 2 = a / 2 ^ 0 % 2 := by omega
  have h1 : (256 * b + a) / 2 ^ 1 % 2 = a / 2 ^ 1 % 2 := by omega
  have h2 : (256 * b + a) / 2 ^ 2 % 2 = a / 2 ^ 2 % 2 := by omega
  have h3 : (256 * b + a) / 2 ^ 3 % 2 = a / 2 ^ 3 % 2 := by omega
  have h4 : (256 * b + a) / 2 ^ 4 % 2 = a / 2 ^ 4 % 2 := by omega
  have h5 : (256 * b + a) / 2 ^ 5 % 2 = a / 2 ^ 5 % 2 := by omega
  have h6 : (256 * b + a) / 2 ^ 6 % 2 = a / 2 ^ 6 % 2 := by omega
  have h7 : (256 * b + a) / 2 ^ 7 % 2 = a / 2 ^ 7 % 2 := by omega
  have g0 : (256 * b + a) / 2 ^ 8 % 2 = b / 2 ^ 0 % 2 := by omega
  have g1 : (256 * b + a) / 2 ^ 9 % 2 = b / 2 ^ 1 % 2 := by omega
  have g2 : (256 * b + a) / 2 ^ 10 % 2 = b / 2 ^ 2 % 2 := by omega
  have g3 : (256 * b + a) / 2 ^ 11 % 2 = b / 2 ^ 3 % 2 := by omega
  have g4 : (256 * b + a) / 2 ^ 12 % 2 = b / 2 ^ 4 % 2 := by omega
  have g5 : (256 * b + a) / 2 ^ 13 % 2 = b / 2 ^ 5 % 2 := by omega
  have g6 : (256 * b + a) / 2 ^ 14 % 2 = b / 2 ^ 6 % 2 := by omega
  have g7 : (256 * b + a) / 2 ^ 15 % 2 = b / 2 ^ 7 % 2 := by omega
  rw [h0, h1, h2, h3, h4, h5, h6, h7, g0, g1, g2, g3, g4, g5, g6, g7]
  omega
theorem nand (a b : Nat) : nI a &&& nI b = nI (a &&& b) := by
  apply Int32.toBitVec_inj.mp
  rw [Int32.toBitVec_and]
  show BitVec.ofNat 32 a &&& BitVec.ofNat 32 b = BitVec.ofNat 32 (a &&& b)
  exact (BitVec.ofNat_and ..).symm
theorem nus1 {n : Nat} (h : n < 65536) : ((nI n).toUInt32 >>> ((1 : Int32).toUInt32 &&& Int32.toUInt32 31)).toInt32 = nI (n / 2) := pk_ushrN (by omega) 1 1 (by decide)
theorem nus2 {n : Nat} (h : n < 65536) : ((nI n).toUInt32 >>> ((2 : Int32).toUInt32 &&& Int32.toUInt32 31)).toInt32 = nI (n / 4) := pk_ushrN (by omega) 2 2 (by decide)
theorem nus4 {n : Nat} (h : n < 65536) : ((nI n).toUInt32 >>> ((4 : Int32).toUInt32 &&& Int32.toUInt32 31)).toInt32 = nI (n / 16) := pk_ushrN (by omega) 4 4 (by decide)
theorem nus8 {n : Nat} (h : n < 65536) : ((nI n).toUInt32 >>> ((8 : Int32).toUInt32 &&& Int32.toUInt32 31)).toInt32 = nI (n / 256) := pk_ushrN (by omega) 8 8 (by decide)
theorem nus16 {n : Nat} (h : n < 65536) : ((nI n).toUInt32 >>> ((16 : Int32).toUInt32 &&& Int32.toUInt32 31)).toInt32 = nI (n / 65536) := pk_ushrN (by omega) 16 16 (by decide)
theorem p_bits (n : Nat) (hn : n < 65536) : P_J6_bitCount_0f7a4 (nI n) (nI (bsum n 16)) := by
  obtain ⟨a, b, ha, hb, rfl⟩ : ∃ a b, a < 256 ∧ b < 256 ∧ n = 256 * b + a := ⟨n % 256, n / 256, by omega, by omega, by omega⟩
  obtain ⟨s1, s1b, s1c, s1d⟩ := st1 a b ha hb
  obtain ⟨ga, ga2, ga3, ga4⟩ := bG_2 a ha
  obtain ⟨gb, gb2, gb3, gb4⟩ := bG_2 b hb
  intro y1 e1
  rw [nus1 hn, show (1431655765 : Int32) = nI 1431655765 from rfl, nand, pk_sub s1b, s1] at e1
  intro y2 e2
  rw [e1, nus2 (by omega), show (858993459 : Int32) = nI 858993459 from rfl, nand, nand, nI_add, st2 _ _ s1c s1d] at e2
  intro y3 e3
  rw [e2, nus4 (by omega), show (252645135 : Int32) = nI 252645135 from rfl, nI_add, nand, st3 _ _ ga gb ga2 gb2, ga3, gb3] at e3
  intro y4 e4
  rw [e3, nus8 (by omega), nI_add, nus16 (by omega), nI_add] at e4
  have m1 : (256 * bsum b 8 + bsum a 8) / 256 = bsum b 8 := by omega
  have m2 : (256 * bsum b 8 + bsum a 8 + bsum b 8) / 65536 = 0 := by omega
  have m3 : (256 * bsum b 8 + bsum a 8 + bsum b 8 + 0) % 64 = bsum a 8 + bsum b 8 := by omega
  rw [e4, m1, m2, show (63 : Int32) = nI 63 from rfl, nand, and63, m3, bsum_split a b ha]
def Q_J6_bitCount_0f7a4 (x r : Int) : Prop := 0 ≤ x ∧ x < 65536 ∧ r = (bsum x.toNat 16 : Nat)
theorem t_J6_bitCount_0f7a4 (x r : Int) (hq : Q_J6_bitCount_0f7a4 x r) : P_J6_bitCount_0f7a4 (zI x) (zI r) := by
  obtain ⟨h0, h1, h2⟩ := hq
  rw [z_nI h0, h2, z_nI (Int.natCast_nonneg _), Int.toNat_natCast]
  exact p_bits _ (by omega)
