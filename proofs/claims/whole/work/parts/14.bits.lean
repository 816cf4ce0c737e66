/-! sets as numbers: bits of nI -/
theorem xi_tb (n : Nat) : (nI n).toBitVec = BitVec.ofNat 32 n := rfl
theorem xi_inj {x y : Int32} (h : x.toBitVec = y.toBitVec) : x = y := Int32.toBitVec_inj.mp h
theorem xi_s : ∀ n, n < 32 → ((nI n &&& 31).toBitVec.smod 32).toNat = n := by decide +kernel
theorem xi_shr {s p : Nat} (hs : s < 2 ^ 31) (hp : p < 32) : nI s >>> (nI p &&& 31) = nI (s / 2 ^ p) := pk_shrN hs _ p (xi_s p hp)
theorem xi_bit {s p : Nat} (hs : s < 2 ^ 31) (hp : p < 32) : (nI s >>> (nI p &&& 31)) &&& 1 = nI (s / 2 ^ p % 2) := by
  rw [xi_shr hs hp]
  exact pk_andN (n := s / 2 ^ p) (Nat.lt_of_le_of_lt (Nat.div_le_self _ _) (by omega)) 1 (by decide)
theorem xi_shl (x : Nat) {p : Nat} (hp : p < 32) (h : x * 2 ^ p < 2 ^ 32) : nI x <<< (nI p &&& 31) = nI (x * 2 ^ p) := pk_shlN _ p (xi_s p hp) h
theorem xi_one {p : Nat} (hp : p < 32) : (1 : Int32) <<< (nI p &&& 31) = nI (2 ^ p) := by
  have h := xi_shl 1 hp (by rw [Nat.one_mul]; exact Nat.pow_lt_pow_right (by decide) hp)
  rw [Nat.one_mul] at h
  exact h
theorem xi_or (a b : Nat) : nI a ||| nI b = nI (a ||| b) := xi_inj (by
  show BitVec.ofNat 32 a ||| BitVec.ofNat 32 b = BitVec.ofNat 32 (a ||| b)
  rw [BitVec.ofNat_or])
theorem xi_and (a b : Nat) : nI a &&& nI b = nI (a &&& b) := xi_inj (by
  show BitVec.ofNat 32 a &&& BitVec.ofNat 32 b = BitVec.ofNat 32 (a &&& b)
  rw [BitVec.ofNat_and])
theorem xi_xor (a b : Nat) : nI a ^^^ nI b = nI (a ^^^ b) := xi_inj (by
  show BitVec.ofNat 32 a ^^^ BitVec.ofNat 32 b = BitVec.ofNat 32 (a ^^^ b)
  rw [BitVec.ofNat_xor])
/-- a without b -/
def xdf (a b : Nat) : Nat := a ^^^ (a &&& b)
theorem xdf_bit (a b i : Nat) : (xdf a b).testBit i = (a.testBit i && !b.testBit i) := by
  simp only [xdf, Nat.testBit_xor, Nat.testBit_and]
  cases a.testBit i <;> cases b.testBit i <;> rfl
theorem xdf_le (a b : Nat) : xdf a b ≤ a := by
  apply Nat.le_of_testBit
  intro i h
  rw [xdf_bit] at h
  simp only [Bool.and_eq_true] at h
  exact h.1
theorem xi_not (b : Nat) : nI b ^^^ (-1) = ~~~ nI b := xi_inj (by
  show BitVec.ofNat 32 b ^^^ (-1 : Int32).toBitVec = ~~~ BitVec.ofNat 32 b
  have h : (-1 : Int32).toBitVec = BitVec.allOnes 32 := by decide
  rw [h, BitVec.xor_allOnes])
theorem xi_andn (a b : Nat) : nI a &&& (nI b ^^^ (-1)) = nI (xdf a b) := xi_inj (by
  show BitVec.ofNat 32 a &&& (BitVec.ofNat 32 b ^^^ (-1 : Int32).toBitVec) = BitVec.ofNat 32 (xdf a b)
  have h : (-1 : Int32).toBitVec = BitVec.allOnes 32 := by decide
  rw [h]
  apply BitVec.eq_of_getLsbD_eq
  intro i hi
  simp only [BitVec.getLsbD_and, BitVec.getLsbD_xor, BitVec.getLsbD_ofNat, BitVec.getLsbD_allOnes, xdf_bit, hi, decide_true, Bool.true_and, Bool.xor_true])
theorem xt_iff (s p : Nat) : s / 2 ^ p % 2 = 1 ↔ s.testBit p = true := by
  rw [Nat.testBit_eq_decide_div_mod_eq]
  simp
theorem xt_iff0 (s p : Nat) : s / 2 ^ p % 2 = 0 ↔ s.testBit p = false := by
  rw [Nat.testBit_eq_decide_div_mod_eq]
  simp only [decide_eq_false_iff_not]
  omega
theorem xt_b (s p : Nat) : s / 2 ^ p % 2 = if s.testBit p then 1 else 0 := by
  cases h : s.testBit p
  · rw [(xt_iff0 s p).mpr h]; rfl
  · rw [(xt_iff s p).mpr h]; rfl
theorem xi_0 {n : Nat} (h : n < 2 ^ 32) : nI n = 0 ↔ n = 0 := by
  constructor
  · intro e
    have h1 : (nI n).toBitVec.toNat = (0 : Int32).toBitVec.toNat := by rw [e]
    rw [xi_tb, BitVec.toNat_ofNat, Nat.mod_eq_of_lt h] at h1
    exact h1
  · intro e; rw [e]; rfl
theorem xi_1 {n : Nat} (h : n < 2 ^ 32) : nI n = 1 ↔ n = 1 := by
  constructor
  · intro e
    have h1 : (nI n).toBitVec.toNat = (1 : Int32).toBitVec.toNat := by rw [e]
    rw [xi_tb, BitVec.toNat_ofNat, Nat.mod_eq_of_lt h] at h1
    exact h1
  · intro e; rw [e]; rfl
theorem xor_lt {a b k : Nat} (ha : a < 2 ^ k) (hb : b < 2 ^ k) : a ||| b < 2 ^ k := Nat.or_lt_two_pow ha hb
theorem xpw {p k : Nat} (h : p < k) : 2 ^ p < 2 ^ k := Nat.pow_lt_pow_right (by decide) h
theorem xpw_bit (p i : Nat) : (2 ^ p).testBit i = decide (p = i) := Nat.testBit_two_pow
