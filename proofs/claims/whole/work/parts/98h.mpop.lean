/-! Long.bitCount counts the bits -/
def bm_ (f : Nat → Nat) : Nat → Nat → Nat
  | 0, _ => 0
  | n + 1, x => 256 * bm_ f n (x / 256) + f (x % 256)
def rp8 (m : Nat) : Nat → Nat
  | 0 => 0
  | n + 1 => 256 * rp8 m n + m
theorem bm_lt {f : Nat → Nat} (hf : ∀ b, b < 256 → f b < 256) : ∀ n x, bm_ f n x < 256 ^ n
  | 0, x => by rw [bm_, Nat.pow_zero]; exact Nat.one_pos
  | n + 1, x => by
    have h := bm_lt hf n (x / 256)
    have h2 := hf (x % 256) (Nat.mod_lt _ (by decide))
    rw [bm_, Nat.pow_succ]
    omega
theorem bm_id : ∀ n x, x < 256 ^ n → bm_ (fun b => b) n x = x
  | 0, x, h => by
    rw [Nat.pow_zero] at h
    rw [bm_]; omega
  | n + 1, x, h => by
    rw [Nat.pow_succ] at h
    rw [bm_, bm_id n (x / 256) (by omega)]
    omega
theorem bm_cg {f g : Nat → Nat} (h : ∀ b, b < 256 → f b = g b) : ∀ n x, bm_ f n x = bm_ g n x
  | 0, x => rfl
  | n + 1, x => by rw [bm_, bm_, bm_cg h n, h (x % 256) (Nat.mod_lt _ (by decide))]
theorem bm_co {f g : Nat → Nat} (hg : ∀ b, b < 256 → g b < 256) : ∀ n x, bm_ f n (bm_ g n x) = bm_ (fun b => f (g b)) n x
  | 0, x => rfl
  | n + 1, x => by
    have h := hg (x % 256) (Nat.mod_lt _ (by decide))
    have ih := bm_co (f := f) hg n (x / 256)
    rw [bm_, bm_, bm_]
    have e1 : (256 * bm_ g n (x / 256) + g (x % 256)) / 256 = bm_ g n (x / 256) := by omega
    have e2 : (256 * bm_ g n (x / 256) + g (x % 256)) % 256 = g (x % 256) := by omega
    rw [e1, e2, ih]
theorem bm_ad {f g : Nat → Nat} : ∀ n x, bm_ f n x + bm_ g n x = bm_ (fun b => f b + g b) n x
  | 0, x => rfl
  | n + 1, x => by
    have ih := bm_ad (f := f) (g := g) n (x / 256)
    rw [bm_, bm_, bm_, ← ih]
    omega
theorem bm_le {f g : Nat → Nat} (h : ∀ b, b < 256 → g b ≤ f b) : ∀ n x, bm_ g n x ≤ bm_ f n x
  | 0, x => Nat.le_refl _
  | n + 1, x => by
    have ih := bm_le h n (x / 256)
    have := h (x % 256) (Nat.mod_lt _ (by decide))
    rw [bm_, bm_]
    omega
theorem bm_su {f g : Nat → Nat} (h : ∀ b, b < 256 → g b ≤ f b) : ∀ n x, bm_ f n x - bm_ g n x = bm_ (fun b => f b - g b) n x
  | 0, x => rfl
  | n + 1, x => by
    have ih := bm_su h n (x / 256)
    have hl := bm_le h n (x / 256)
    have := h (x % 256) (Nat.mod_lt _ (by decide))
    rw [bm_, bm_, bm_, ← ih]
    omega
theorem and_256 (a b : Nat) : a &&& b = 256 * ((a / 256) &&& (b / 256)) + ((a % 256) &&& (b % 256)) := by
  have h1 : (a &&& b) / 256 = (a / 256) &&& (b / 256) := by
    apply Nat.eq_of_testBit_eq
    intro i
    have e : (256 : Nat) = 2 ^ 8 := rfl
    rw [e, Nat.testBit_div_two_pow, Nat.testBit_and, Nat.testBit_and, Nat.testBit_div_two_pow, Nat.testBit_div_two_pow]
  have h2 : (a &&& b) % 256 = (a % 256) &&& (b % 256) := by
    apply Nat.eq_of_testBit_eq
    intro i
    have e : (256 : Nat) = 2 ^ 8 := rfl
    rw [e, Nat.testBit_mod_two_pow, Nat.testBit_and, Nat.testBit_and, Nat.testBit_mod_two_pow, Nat.testBit_mod_two_pow]
    cases decide (i < 8) <;> simp
  rw [← h1, ← h2]
  omega
theorem bm_sh {k m : Nat} (hk : k ≤ 8) (hm : m < 2 ^ (8 - k)) : ∀ n x, (x / 2 ^ k) &&& rp8 m n = bm_ (fun b => (b / 2 ^ k) &&& m) n x
  | 0, x => Nat.and_zero _
  | n + 1, x => by
    have ih := bm_sh hk hm n (x / 256)
    have hm2 : m < 256 := Nat.lt_of_lt_of_le hm (show 2 ^ (8 - k) ≤ 2 ^ 8 from Nat.pow_le_pow_right (by decide) (by omega))
    rw [and_256, rp8, bm_]
    have e1 : (256 * rp8 m n + m) / 256 = rp8 m n := by omega
    have e2 : (256 * rp8 m n + m) % 256 = m := by omega
    have e3 : x / 2 ^ k / 256 = x / 256 / 2 ^ k := by rw [Nat.div_div_eq_div_mul, Nat.div_div_eq_div_mul, Nat.mul_comm]
    rw [e1, e2, e3, ih]
    congr 1
    apply Nat.eq_of_testBit_eq
    intro j
    have e : (256 : Nat) = 2 ^ 8 := rfl
    rw [e, Nat.testBit_and, Nat.testBit_and, Nat.testBit_mod_two_pow, Nat.testBit_div_two_pow, Nat.testBit_div_two_pow, Nat.testBit_mod_two_pow]
    cases hmj : m.testBit j with
    | false => simp
    | true =>
      have hj := tb_lt hm hmj
      rw [decide_eq_true (show j < 8 by omega), decide_eq_true (show j + k < 8 by omega)]
/-- the third step: bytes whose halves are small -/
theorem bm_h3 : ∀ n x, (∀ i, x / 256 ^ i % 256 % 16 ≤ 4 ∧ x / 256 ^ i % 256 / 16 ≤ 4) → (x + x / 16) &&& rp8 15 n = bm_ (fun b => (b + b / 16) &&& 15) n x
  | 0, x, _ => Nat.and_zero _
  | n + 1, x, h => by
    have h0 := h 0
    have h1 := h 1
    rw [Nat.pow_zero, Nat.div_one] at h0
    rw [Nat.pow_one] at h1
    have ih := bm_h3 n (x / 256) (fun i => by
      have g := h (i + 1)
      rw [Nat.pow_succ, Nat.mul_comm, ← Nat.div_div_eq_div_mul] at g
      exact g)
    rw [and_256, rp8, bm_]
    have e1 : (256 * rp8 15 n + 15) / 256 = rp8 15 n := by omega
    have e2 : (256 * rp8 15 n + 15) % 256 = 15 := by omega
    have hr : x / 256 % 16 ≤ 4 := by
      have q := h1.1
      rw [Nat.mod_mod_of_dvd _ (by decide)] at q
      exact q
    have hh : x / 256 = 16 * (x / 256 / 16) + x / 256 % 16 := by omega
    have hq : x / 16 = 16 * (x / 256) + x % 256 / 16 := by omega
    have hl : x = 256 * (x / 256) + x % 256 := by omega
    have e3 : (x + x / 16) / 256 = x / 256 + x / 256 / 16 := by
      generalize x / 256 / 16 = A at hh ⊢
      generalize x / 256 % 16 = B at hh hr
      generalize x / 256 = C at hh hq hl h1 ⊢
      omega
    rw [e1, e2, e3, ih]
    congr 1
    rw [show (15 : Nat) = 2 ^ 4 - 1 from rfl, Nat.and_two_pow_sub_one_eq_mod, Nat.and_two_pow_sub_one_eq_mod]
    omega
def h1_ (b : Nat) : Nat := b - (b / 2 ^ 1 &&& 85)
def h2_ (b : Nat) : Nat := (b / 2 ^ 0 &&& 51) + (b / 2 ^ 2 &&& 51)
def h3_ (b : Nat) : Nat := (b + b / 16) &&& 15
theorem h_ok : ∀ b, b < 256 → (b / 2 ^ 1 &&& 85) ≤ b ∧ h1_ b < 256 ∧ h2_ (h1_ b) < 256 ∧ h2_ (h1_ b) % 16 ≤ 4 ∧ h2_ (h1_ b) / 16 ≤ 4 ∧ h3_ (h2_ (h1_ b)) = xpc b 8 ∧ h2_ b < 256 := by decide +kernel
theorem bm_by {f : Nat → Nat} (hf : ∀ b, b < 256 → f b < 256) : ∀ n x i, bm_ f n x / 256 ^ i % 256 = if i < n then f (x / 256 ^ i % 256) else 0
  | 0, x, i => by rw [bm_, Nat.zero_div]; rfl
  | n + 1, x, 0 => by
    have h := hf (x % 256) (Nat.mod_lt _ (by decide))
    rw [bm_, Nat.pow_zero, Nat.div_one, Nat.div_one, if_pos (by omega)]
    omega
  | n + 1, x, i + 1 => by
    have h := hf (x % 256) (Nat.mod_lt _ (by decide))
    have e : bm_ f (n + 1) x / 256 = bm_ f n (x / 256) := by rw [bm_]; omega
    rw [Nat.pow_succ, Nat.mul_comm, ← Nat.div_div_eq_div_mul, ← Nat.div_div_eq_div_mul, e, bm_by hf n (x / 256) i]
    by_cases q : i < n
    · rw [if_pos q, if_pos (by omega)]
    · rw [if_neg q, if_neg (by omega)]
theorem pop_3 {x : Nat} (hx : x < 2 ^ 64) : ((((x - (x / 2 ^ 1 &&& 6148914691236517205)) &&& 3689348814741910323) + ((x - (x / 2 ^ 1 &&& 6148914691236517205)) / 2 ^ 2 &&& 3689348814741910323)) + (((x - (x / 2 ^ 1 &&& 6148914691236517205)) &&& 3689348814741910323) + ((x - (x / 2 ^ 1 &&& 6148914691236517205)) / 2 ^ 2 &&& 3689348814741910323)) / 16) &&& 1085102592571150095 = bm_ (fun b => xpc b 8) 8 x := by
  have hx8 : x < 256 ^ 8 := hx
  have r1 : (6148914691236517205 : Nat) = rp8 85 8 := by decide
  have r2 : (3689348814741910323 : Nat) = rp8 51 8 := by decide
  have r3 : (1085102592571150095 : Nat) = rp8 15 8 := by decide
  have s1 : x - (x / 2 ^ 1 &&& rp8 85 8) = bm_ h1_ 8 x := by
    rw [bm_sh (by decide) (by decide)]
    have := bm_su (f := fun b => b) (g := fun b => (b / 2 ^ 1) &&& 85) (fun b hb => (h_ok b hb).1) 8 x
    rw [bm_id 8 x hx8] at this
    exact this
  have s2 : ∀ y, (y &&& rp8 51 8) + (y / 2 ^ 2 &&& rp8 51 8) = bm_ h2_ 8 y := fun y => by
    have a := bm_sh (k := 0) (m := 51) (by decide) (by decide) 8 y
    rw [Nat.pow_zero, Nat.div_one] at a
    rw [a, bm_sh (by decide) (by decide), bm_ad]
    rfl
  rw [r1, r2, r3, s1, s2, bm_co (fun b hb => (h_ok b hb).2.1)]
  rw [bm_h3 8 _ (fun i => by
    rw [bm_by (fun b hb => (h_ok b hb).2.2.1)]
    split
    · exact ⟨(h_ok _ (Nat.mod_lt _ (by decide))).2.2.2.1, (h_ok _ (Nat.mod_lt _ (by decide))).2.2.2.2.1⟩
    · exact ⟨by decide, by decide⟩)]
  rw [bm_co (fun b hb => (h_ok b hb).2.2.1)]
  exact bm_cg (fun b hb => (h_ok b hb).2.2.2.2.2.1) 8 x
theorem xpc_ad (x k : Nat) : ∀ n, xpc x (k + n) = xpc x k + xpc (x / 2 ^ k) n
  | 0 => rfl
  | n + 1 => by
    rw [← Nat.add_assoc, xpc_s, xpc_s, xpc_ad x k n, Nat.testBit_div_two_pow, Nat.add_comm n k]
    omega
theorem xpc_md (x k : Nat) : ∀ n, n ≤ k → xpc (x % 2 ^ k) n = xpc x n
  | 0, _ => rfl
  | n + 1, h => by
    rw [xpc_s, xpc_s, xpc_md x k n (by omega), Nat.testBit_mod_two_pow, decide_eq_true (show n < k by omega), Bool.true_and]
/-- the sum of the bytes -/
def sby : Nat → Nat → Nat
  | 0, _ => 0
  | n + 1, x => x % 256 + sby n (x / 256)
theorem sby_x : ∀ n x, sby n (bm_ (fun b => xpc b 8) n x) = xpc x (8 * n)
  | 0, x => rfl
  | n + 1, x => by
    have h : xpc (x % 256) 8 ≤ 8 := xpc_le _ _
    have e1 : bm_ (fun b => xpc b 8) (n + 1) x % 256 = xpc (x % 256) 8 := by rw [bm_]; omega
    have e2 : bm_ (fun b => xpc b 8) (n + 1) x / 256 = bm_ (fun b => xpc b 8) n (x / 256) := by rw [bm_]; omega
    rw [sby, e1, e2, sby_x n, show 8 * (n + 1) = 8 + 8 * n by omega, xpc_ad, show (256 : Nat) = 2 ^ 8 from rfl, xpc_md x 8 8 (Nat.le_refl _)]
theorem nc_ {a b m : Nat} (hm : 0 < m) (h : a % m + b % m < m) : (a + b) / m = a / m + b / m := by
  have e : a + b = (a % m + b % m) + m * (a / m + b / m) := by
    have h1 := Nat.div_add_mod a m
    have h2 := Nat.div_add_mod b m
    rw [Nat.mul_add]
    omega
  rw [e, Nat.add_mul_div_left _ _ hm, Nat.div_eq_of_lt h, Nat.zero_add]
theorem by_16 {X : Nat} (h0 : X % 256 ≤ 8) (h1 : X / 256 % 256 ≤ 8) : X % 65536 ≤ 2056 := by omega
theorem by_32 {X : Nat} (h0 : X % 256 ≤ 8) (h1 : X / 256 % 256 ≤ 8) (h2 : X / 65536 % 256 ≤ 8) (h3 : X / 16777216 % 256 ≤ 8) : X % 4294967296 ≤ 134744072 := by omega
theorem mod_ad {a b m : Nat} : (a + b) % m ≤ a % m + b % m := by
  rw [Nat.add_mod]
  exact Nat.mod_le _ _
theorem by_7 {X : Nat} (h : X % 256 ≤ 8) : X % 128 = X % 256 := by omega
theorem pop_4 {x : Nat} (h : ∀ i, x / 256 ^ i % 256 ≤ 8) : ((x + x / 2 ^ 8 + (x + x / 2 ^ 8) / 2 ^ 16) + (x + x / 2 ^ 8 + (x + x / 2 ^ 8) / 2 ^ 16) / 2 ^ 32) % 128 = x / 256 ^ 0 % 256 + x / 256 ^ 1 % 256 + x / 256 ^ 2 % 256 + x / 256 ^ 3 % 256 + x / 256 ^ 4 % 256 + x / 256 ^ 5 % 256 + x / 256 ^ 6 % 256 + x / 256 ^ 7 % 256 := by
  have dd : ∀ i j, x / 256 ^ i / 256 ^ j = x / 256 ^ (i + j) := fun i j => by rw [Nat.div_div_eq_div_mul, ← Nat.pow_add]
  have b16 : ∀ i, x / 256 ^ i % 65536 ≤ 2056 := fun i => by
    have a := h (i + 1)
    rw [← dd, Nat.pow_one] at a
    exact by_16 (h i) a
  have b32 : ∀ i, x / 256 ^ i % 4294967296 ≤ 134744072 := fun i => by
    have a := h (i + 1)
    have b := h (i + 2)
    have c := h (i + 3)
    rw [← dd] at a b c
    exact by_32 (h i) a b c
  have e8 : x / 2 ^ 8 = x / 256 ^ 1 := rfl
  have y16 : (x + x / 256 ^ 1) / 2 ^ 16 = x / 256 ^ 2 + x / 256 ^ 3 := by
    have q0 := b16 0
    rw [Nat.pow_zero, Nat.div_one] at q0
    have q1 := b16 1
    rw [nc_ (by decide) (show x % 2 ^ 16 + x / 256 ^ 1 % 2 ^ 16 < 2 ^ 16 by omega)]
    have a := dd 1 2
    rw [show x / 2 ^ 16 = x / 256 ^ 2 from rfl, show x / 256 ^ 1 / 2 ^ 16 = x / 256 ^ 1 / 256 ^ 2 from rfl, a]
  have z32 : (x + x / 256 ^ 1 + (x / 256 ^ 2 + x / 256 ^ 3)) / 2 ^ 32 = x / 256 ^ 4 + x / 256 ^ 5 + (x / 256 ^ 6 + x / 256 ^ 7) := by
    have q0 := b32 0
    rw [Nat.pow_zero, Nat.div_one] at q0
    have q1 := b32 1
    have q2 := b32 2
    have q3 := b32 3
    have m1 : (x + x / 256 ^ 1) % 2 ^ 32 ≤ 300000000 := Nat.le_trans mod_ad (by omega)
    have m2 : (x / 256 ^ 2 + x / 256 ^ 3) % 2 ^ 32 ≤ 300000000 := Nat.le_trans mod_ad (by omega)
    rw [nc_ (by decide) (show (x + x / 256 ^ 1) % 2 ^ 32 + (x / 256 ^ 2 + x / 256 ^ 3) % 2 ^ 32 < 2 ^ 32 by omega), nc_ (by decide) (show x % 2 ^ 32 + x / 256 ^ 1 % 2 ^ 32 < 2 ^ 32 by omega), nc_ (by decide) (show x / 256 ^ 2 % 2 ^ 32 + x / 256 ^ 3 % 2 ^ 32 < 2 ^ 32 by omega)]
    rw [show x / 2 ^ 32 = x / 256 ^ 4 from rfl, show x / 256 ^ 1 / 2 ^ 32 = x / 256 ^ 1 / 256 ^ 4 from rfl, show x / 256 ^ 2 / 2 ^ 32 = x / 256 ^ 2 / 256 ^ 4 from rfl, show x / 256 ^ 3 / 2 ^ 32 = x / 256 ^ 3 / 256 ^ 4 from rfl, dd 1 4, dd 2 4, dd 3 4]
  have c : ∀ i, x / 256 ^ i % 128 = x / 256 ^ i % 256 := fun i => by_7 (h i)
  have c0 := c 0
  rw [Nat.pow_zero, Nat.div_one] at c0 ⊢
  have c1 := c 1
  have c2 := c 2
  have c3 := c 3
  have c4 := c 4
  have c5 := c 5
  have c6 := c 6
  have c7 := c 7
  have g0 := h 0
  rw [Nat.pow_zero, Nat.div_one] at g0
  have g1 := h 1
  have g2 := h 2
  have g3 := h 3
  have g4 := h 4
  have g5 := h 5
  have g6 := h 6
  have g7 := h 7
  rw [e8, y16, z32]
  generalize x / 256 ^ 1 = X1 at *
  generalize x / 256 ^ 2 = X2 at *
  generalize x / 256 ^ 3 = X3 at *
  generalize x / 256 ^ 4 = X4 at *
  generalize x / 256 ^ 5 = X5 at *
  generalize x / 256 ^ 6 = X6 at *
  generalize x / 256 ^ 7 = X7 at *
  clear dd b16 b32 c y16 z32 e8 h
  omega
theorem sby_e (x : Nat) : sby 8 x = x / 256 ^ 0 % 256 + x / 256 ^ 1 % 256 + x / 256 ^ 2 % 256 + x / 256 ^ 3 % 256 + x / 256 ^ 4 % 256 + x / 256 ^ 5 % 256 + x / 256 ^ 6 % 256 + x / 256 ^ 7 % 256 := by
  have dd : ∀ i, x / 256 ^ i / 256 = x / 256 ^ (i + 1) := fun i => by rw [Nat.div_div_eq_div_mul, ← Nat.pow_succ]
  have d0 : x / 256 = x / 256 ^ 1 := rfl
  simp only [sby]
  rw [d0, dd 1, dd 2, dd 3, dd 4, dd 5, dd 6, Nat.pow_zero, Nat.div_one]
  omega
theorem lp_s_n {n : Nat} (h : n < 2 ^ 64) {k : Nat} (hk : k < 64) : lp_s (lN n) (nI k) = lN (n / 2 ^ k) := wb_shr h hk
theorem lN_ti (n : Nat) : (lN n).toInt32 = nI n := xi_inj (by
  show (BitVec.ofNat 64 n).signExtend 32 = BitVec.ofNat 32 n
  rw [BitVec.signExtend_eq_setWidth_of_le _ (by decide)]
  apply BitVec.eq_of_toNat_eq
  rw [BitVec.toNat_setWidth, BitVec.toNat_ofNat, BitVec.toNat_ofNat]
  omega)
theorem lp_pc {n : Nat} (h : n < 2 ^ 64) : lp_c (lN n) = nI (xpc n 64) := by
  have l1 : (n / 2 ^ 1 &&& 6148914691236517205) ≤ n := Nat.le_trans Nat.and_le_left (Nat.div_le_self _ _)
  have s1 : lp_1 (lN n) = lN (n - (n / 2 ^ 1 &&& 6148914691236517205)) := by
    unfold lp_1
    rw [show (1 : Int32) = nI 1 from rfl, lp_s_n h (by decide), show (6148914691236517205 : Int64) = lN 6148914691236517205 from rfl, xl_and, xl_sub l1]
  generalize ha : n - (n / 2 ^ 1 &&& 6148914691236517205) = a at s1
  have ha2 : a < 2 ^ 64 := by omega
  have s2 : lp_2 (lN a) = lN ((a &&& 3689348814741910323) + (a / 2 ^ 2 &&& 3689348814741910323)) := by
    unfold lp_2
    rw [show (2 : Int32) = nI 2 from rfl, lp_s_n ha2 (by decide), show (3689348814741910323 : Int64) = lN 3689348814741910323 from rfl, xl_and, xl_and, xl_add]
  have hb2 : (a &&& 3689348814741910323) + (a / 2 ^ 2 &&& 3689348814741910323) < 2 ^ 64 := by
    have u1 : a &&& 3689348814741910323 ≤ 3689348814741910323 := Nat.and_le_right
    have u2 : a / 2 ^ 2 &&& 3689348814741910323 ≤ 3689348814741910323 := Nat.and_le_right
    omega
  have p3 := pop_3 h
  rw [ha] at p3
  generalize hb : (a &&& 3689348814741910323) + (a / 2 ^ 2 &&& 3689348814741910323) = b at s2 hb2 p3
  have s3 : lp_3 (lN b) = lN (bm_ (fun b => xpc b 8) 8 n) := by
    unfold lp_3
    rw [show (4 : Int32) = nI 4 from rfl, lp_s_n hb2 (by decide), xl_add, show (1085102592571150095 : Int64) = lN 1085102592571150095 from rfl, xl_and]
    exact congrArg lN p3
  have hx8 : ∀ b, b < 256 → xpc b 8 < 256 := fun b _ => by have := xpc_le b 8; omega
  have hby : ∀ i, bm_ (fun b => xpc b 8) 8 n / 256 ^ i % 256 ≤ 8 := fun i => by
    rw [bm_by hx8]
    split
    · exact xpc_le _ _
    · exact Nat.zero_le _
  have hxl : bm_ (fun b => xpc b 8) 8 n < 2 ^ 60 := by
    have t := bm_le (f := fun _ => 8) (g := fun b => xpc b 8) (fun b _ => xpc_le b 8) 8 n
    have t2 : bm_ (fun _ => 8) 8 n ≤ 8 * 72340172838076673 := Nat.le_of_eq (by simp [bm_])
    omega
  generalize hx : bm_ (fun b => xpc b 8) 8 n = x at s3 hby hxl
  have s4 : ∀ {y k : Nat}, y < 2 ^ 64 → k < 64 → lp_4 (lN y) (nI k) = lN (y + y / 2 ^ k) := fun {y k} h1 h2 => by
    unfold lp_4
    rw [lp_s_n h1 h2, xl_add]
  have t1 : x / 2 ^ 8 ≤ x := Nat.div_le_self _ _
  have t2 : (x + x / 2 ^ 8) / 2 ^ 16 ≤ x + x / 2 ^ 8 := Nat.div_le_self _ _
  unfold lp_c
  rw [s1, s2, s3, show (8 : Int32) = nI 8 from rfl, s4 (by omega) (by decide), show (16 : Int32) = nI 16 from rfl, s4 (by omega) (by decide), show (32 : Int32) = nI 32 from rfl, s4 (by omega) (by decide), lN_ti, show (127 : Int32) = nI 127 from rfl, xi_and, show (127 : Nat) = 2 ^ 7 - 1 from rfl, Nat.and_two_pow_sub_one_eq_mod]
  have e := pop_4 hby
  rw [← sby_e, ← hx, sby_x] at e
  rw [← hx]
  exact congrArg nI e
