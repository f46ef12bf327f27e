/-! INTS: what the numbers mean as long as they stay in their range -/
abbrev ISt : Type := Nat → Nat → Int
def zI (z : Int) : Int32 := Int32.ofInt z
def zS (h : ISt) : St := fun j k => zI (h j k)
def inR (z : Int) : Prop := -2147483648 ≤ z ∧ z ≤ 2147483647
theorem zI_toInt {z : Int} (h : inR z) : (zI z).toInt = z := by
  unfold inR at h
  unfold zI
  rw [Int32.toInt_ofInt]
  exact Int.bmod_eq_of_le (by simp [Int32.size]; omega) (by simp [Int32.size]; omega)
theorem zI_of (x : Int32) : zI x.toInt = x := by
  unfold zI
  exact Int32.ofInt_toInt x
theorem inR_of (x : Int32) : inR x.toInt := by
  have h1 := Int32.le_toInt x
  have h2 := Int32.toInt_lt x
  unfold inR
  omega
theorem z_lt {a b : Int} (ha : inR a) (hb : inR b) : zI a < zI b ↔ a < b := by
  rw [Int32.lt_iff_toInt_lt, zI_toInt ha, zI_toInt hb]
theorem z_le {a b : Int} (ha : inR a) (hb : inR b) : zI a ≤ zI b ↔ a ≤ b := by
  rw [Int32.le_iff_toInt_le, zI_toInt ha, zI_toInt hb]
theorem z_eq {a b : Int} (ha : inR a) (hb : inR b) : zI a = zI b ↔ a = b := by
  rw [← Int32.toInt_inj, zI_toInt ha, zI_toInt hb]
theorem zadd (a b : Int) : zI a + zI b = zI (a + b) := by
  unfold zI
  exact (Int32.ofInt_add a b).symm
theorem zneg (a : Int) : - zI a = zI (-a) := by
  unfold zI
  exact (Int32.ofInt_neg a).symm
theorem zmul (a b : Int) : zI a * zI b = zI (a * b) := by
  unfold zI
  exact (Int32.ofInt_mul a b).symm
theorem zsub (a b : Int) : zI a - zI b = zI (a - b) := by
  unfold zI
  exact (Int32.ofInt_sub a b).symm
theorem zcl {i : Int} (h0 : 0 ≤ i) (h1 : i < 2147483648) : (zI i).toNatClampNeg = i.toNat := by
  rw [← Int32.toNat_toInt, zI_toInt (by unfold inR; omega)]
theorem zin {i : Int} {N : Nat} (h0 : 0 ≤ i) (h1 : i < N) (hN : N < 2147483648) : vp_in (zI i) N := by
  rw [vp_in_iff, zI_toInt (by unfold inR; omega)]
  omega
def iupd (f : Nat → Int) (k : Nat) (x : Int) : Nat → Int := fun n => if n = k then x else f n
def iset (h : ISt) (j k : Nat) (x : Int) : ISt := fun i => if i = j then iupd (h j) k x else h i
def iat (N : Nat) (f : Nat → Int) (x : Int) : Int := if 0 ≤ x ∧ x < N then f x.toNat else -1
def iputf (N : Nat) (f : Nat → Int) (i x : Int) : Nat → Int := if 0 ≤ i ∧ i < N then iupd f i.toNat x else f
def iput (h : ISt) (j N : Nat) (i x : Int) : ISt := fun i' => if i' = j then iputf N (h j) i x else h i'
theorem zset (h : ISt) (j k : Nat) (x : Int) : st_set (zS h) j k (zI x) = zS (iset h j k x) := by
  funext i n
  unfold st_set zS iset
  by_cases hi : i = j
  · simp only [if_pos hi, upd, iupd]
    by_cases hn : n = k
    · rw [if_pos hn, if_pos hn]
    · rw [if_neg hn, if_neg hn]
  · simp only [if_neg hi]
theorem zat {N : Nat} {h : ISt} {j : Nat} {x : Int} (hx : inR x) (hN : N < 2147483648) : f_at N (zS h j) (zI x) = zI (iat N (h j) x) := by
  unfold f_at iat
  have h0 : (zI x < 0) ↔ x < 0 := by rw [show (0 : Int32) = zI 0 from rfl]; exact z_lt hx ⟨by decide, by decide⟩
  have h1 : (nI N ≤ zI x) ↔ (N : Int) ≤ x := by
    rw [Int32.le_iff_toInt_le, nI_toInt (by omega), zI_toInt hx]
  unfold inR at hx
  by_cases c0 : x < 0
  · rw [if_pos (h0.mpr c0), if_neg (by omega)]
    rfl
  · rw [if_neg (fun z => c0 (h0.mp z))]
    by_cases c1 : (N : Int) ≤ x
    · rw [if_pos (h1.mpr c1), if_neg (by omega)]
      rfl
    · rw [if_neg (fun z => c1 (h1.mp z)), if_pos (by omega), zcl (by omega) (by omega)]
      rfl
theorem zput {N : Nat} {h : ISt} {j : Nat} {i x : Int} (hx : inR i) (hN : N < 2147483648) : st_put (zS h) j N (zI i) (zI x) = zS (iput h j N i x) := by
  funext i' n
  unfold st_put zS iput
  by_cases hi : i' = j
  · simp only [if_pos hi]
    unfold f_put iputf
    have h0 : (zI i < 0) ↔ i < 0 := by rw [show (0 : Int32) = zI 0 from rfl]; exact z_lt hx ⟨by decide, by decide⟩
    have h1 : (nI N ≤ zI i) ↔ (N : Int) ≤ i := by
      rw [Int32.le_iff_toInt_le, nI_toInt (by omega), zI_toInt hx]
    unfold inR at hx
    by_cases c0 : i < 0
    · rw [if_pos (h0.mpr c0), if_neg (by omega)]
    · rw [if_neg (fun z => c0 (h0.mp z))]
      by_cases c1 : (N : Int) ≤ i
      · rw [if_pos (h1.mpr c1), if_neg (by omega)]
      · rw [if_neg (fun z => c1 (h1.mp z)), if_pos (by omega), zcl (by omega) (by omega)]
        unfold upd iupd
        by_cases hn : n = i.toNat
        · rw [if_pos hn, if_pos hn]
        · rw [if_neg hn, if_neg hn]
  · simp only [if_neg hi]
def imax (a b : Int) : Int := if a < b then b else a
def imin (a b : Int) : Int := if b < a then b else a
theorem zmax {a b : Int} (ha : inR a) (hb : inR b) : (if zI a < zI b then zI b else zI a) = zI (imax a b) := by
  unfold imax
  by_cases c : a < b
  · rw [if_pos ((z_lt ha hb).mpr c), if_pos c]
  · rw [if_neg (fun h => c ((z_lt ha hb).mp h)), if_neg c]
theorem zmin {a b : Int} (ha : inR a) (hb : inR b) : (if zI b < zI a then zI b else zI a) = zI (imin a b) := by
  unfold imin
  by_cases c : b < a
  · rw [if_pos ((z_lt hb ha).mpr c), if_pos c]
  · rw [if_neg (fun h => c ((z_lt hb ha).mp h)), if_neg c]
theorem z_nI {z : Int} (h0 : 0 ≤ z) : zI z = nI z.toNat := by
  unfold zI nI
  have h : z = (z.toNat : Int) := by omega
  rw [h]
  rfl
theorem zrem {a b : Int} (ha : 0 ≤ a ∧ a ≤ 2147483647) (hb : 0 < b ∧ b ≤ 2147483647) : zI a - zI a / zI b * zI b = zI (a % b) := by
  rw [z_nI ha.1, z_nI (by omega : 0 ≤ b), pk_rem (by omega) (by omega) (by omega), z_nI (Int.emod_nonneg a (by omega))]
  congr 1
  have h1 : ((a.toNat % b.toNat : Nat) : Int) = a % b := by
    rw [Int.natCast_emod]
    congr 1 <;> omega
  omega
def icmp (u v : Int) : Int := if v < u then 1 else if u = v then 0 else -1
theorem zcmp {a b c : Int} (ha : inR a) (hb : inR b) (hc : inR c) : lg_cmp ((zI a).toInt64 + (zI b).toInt64) (zI c).toInt64 = zI (icmp (a + b) c) := by
  unfold lg_cmp icmp
  have e1 : ((zI a).toInt64 + (zI b).toInt64).toInt = a + b := by
    rw [Int64.toInt_add, Int32.toInt_toInt64, Int32.toInt_toInt64, zI_toInt ha, zI_toInt hb]
    unfold inR at ha hb
    exact Int.bmod_eq_of_le (by omega) (by omega)
  have e2 : (zI c).toInt64.toInt = c := by rw [Int32.toInt_toInt64, zI_toInt hc]
  have h1 : ((zI a).toInt64 + (zI b).toInt64 > (zI c).toInt64) ↔ c < a + b := by
    rw [gt_iff_lt, Int64.lt_iff_toInt_lt, e1, e2]
  have h2 : ((zI a).toInt64 + (zI b).toInt64 = (zI c).toInt64) ↔ a + b = c := by
    rw [← Int64.toInt_inj, e1, e2]
  by_cases c1 : c < a + b
  · rw [if_pos (h1.mpr c1), if_pos c1]; rfl
  · rw [if_neg (fun h => c1 (h1.mp h)), if_neg c1]
    by_cases c2 : a + b = c
    · rw [if_pos (h2.mpr c2), if_pos c2]; rfl
    · rw [if_neg (fun h => c2 (h2.mp h)), if_neg c2]; rfl
theorem z_m1 : (-1 : Int32) = zI (-1) := rfl
theorem z_0 : (0 : Int32) = zI 0 := rfl
theorem z_1 : (1 : Int32) = zI 1 := rfl
theorem z_2 : (2 : Int32) = zI 2 := rfl
theorem z_3 : (3 : Int32) = zI 3 := rfl
theorem z_4 : (4 : Int32) = zI 4 := rfl
theorem z_5 : (5 : Int32) = zI 5 := rfl
theorem z_6 : (6 : Int32) = zI 6 := rfl
theorem z_8 : (8 : Int32) = zI 8 := rfl
theorem z_9 : (9 : Int32) = zI 9 := rfl
theorem z_10 : (10 : Int32) = zI 10 := rfl
theorem z_12 : (12 : Int32) = zI 12 := rfl
theorem z_16 : (16 : Int32) = zI 16 := rfl
theorem z_30 : (30 : Int32) = zI 30 := rfl
theorem z_31 : (31 : Int32) = zI 31 := rfl
theorem z_99 : (99 : Int32) = zI 99 := rfl
theorem z_300 : (300 : Int32) = zI 300 := rfl
theorem z_500 : (500 : Int32) = zI 500 := rfl
theorem z_600 : (600 : Int32) = zI 600 := rfl
theorem z_20000 : (20000 : Int32) = zI 20000 := rfl
theorem zap (h : ISt) (j k : Nat) : zS h j k = zI (h j k) := rfl
/-- shifts and bits of numbers that aren't negative -/
def ishl1 (y : Int) : Int := ((2 ^ y.toNat : Nat) : Int)
def ishr (x y : Int) : Int := ((x.toNat >>> y.toNat : Nat) : Int)
def iior (x y : Int) : Int := ((x.toNat ||| y.toNat : Nat) : Int)
theorem zshl {y : Int} (h : 0 ≤ y ∧ y < 31) : zI 1 <<< (zI y &&& zI 31) = zI (ishl1 y) := by
  have key : ∀ n : Nat, n < 31 → (nI 1) <<< (nI n &&& nI 31) = nI (2 ^ n) := by decide +kernel
  rw [z_nI h.1, show zI 1 = nI 1 from rfl, show zI 31 = nI 31 from rfl, key _ (by omega)]
  rw [z_nI (by unfold ishl1; exact Int.natCast_nonneg _)]
  unfold ishl1
  rw [Int.toNat_natCast]
theorem ishr_sm : ∀ n : Nat, n < 32 → ((nI n &&& nI 31).toBitVec.smod 32).toNat = n := by decide +kernel
theorem zshr {x y : Int} (hx : 0 ≤ x ∧ x ≤ 2147483647) (hy : 0 ≤ y ∧ y < 32) : zI x >>> (zI y &&& zI 31) = zI (ishr x y) := by
  rw [z_nI hx.1, z_nI hy.1, show zI 31 = nI 31 from rfl, pk_shrN (by omega) _ y.toNat (ishr_sm _ (by omega))]
  rw [z_nI (by unfold ishr; exact Int.natCast_nonneg _)]
  unfold ishr
  rw [Int.toNat_natCast, Nat.shiftRight_eq_div_pow]
theorem nior (a b : Nat) : nI a ||| nI b = nI (a ||| b) := by
  apply Int32.toBitVec_inj.mp
  rw [Int32.toBitVec_or]
  show BitVec.ofNat 32 a ||| BitVec.ofNat 32 b = BitVec.ofNat 32 (a ||| b)
  exact (BitVec.ofNat_or ..).symm
theorem zior {x y : Int} (hx : 0 ≤ x) (hy : 0 ≤ y) : zI x ||| zI y = zI (iior x y) := by
  rw [z_nI hx, z_nI hy, nior, z_nI (by unfold iior; exact Int.natCast_nonneg _)]
  unfold iior
  rw [Int.toNat_natCast]
theorem zand1 {x : Int} (hx : 0 ≤ x ∧ x ≤ 2147483647) : zI x &&& zI 1 = zI (x % 2) := by
  rw [z_nI hx.1, show zI 1 = (1 : Int32) from rfl, pk_andN (by omega) 1 (by decide), z_nI (Int.emod_nonneg x (by omega))]
  congr 1
  omega
