/-! the cut in math (7): the digits behind a piece -/
theorem o_xd {T x : Nat} (hx : sb_ x T) : o_ T = o_ x + o_ (xdf T x) := by
  have e : T = x ||| xdf T x := by
    apply Nat.eq_of_testBit_eq
    intro j
    rw [Nat.testBit_or, xdf_bit]
    cases ex : x.testBit j with
    | true => rw [hx j ex]; rfl
    | false => simp
  have z := congrArg o_ e
  rw [o_or (fun j hj => by rw [xdf_bit, hj]; simp)] at z
  exact z
theorem Pb_z {q : Nat → Option Nat} : ∀ L K T P z, T < 4096 → K + xpc T 12 ≤ 12 → Pb q L K T P z → z ≤ 11 * o_ T
  | [], K, T, P, z, h4, hk, ⟨h1, h2, h3⟩ => by rw [h3]; exact Nat.zero_le _
  | b :: L, K, T, P, z, h4, hk, ⟨h0, x, p, P2, z2, g1, g2, g3, g4, g5, g6⟩ => by
    obtain ⟨i, i1, i2, i3⟩ := ls_ex h0 h4
    have m := xpc_mo (xdf_sb (rs_ T) x) 12
    have r := rs_pc h0 h4
    have ih := Pb_z L (K + 1) _ _ _ (Nat.lt_of_le_of_lt (xdf_le _ _) (Nat.lt_trans (rs_lt h0 h4) h4)) (by omega) g4
    have k1 : K * o_ b ≤ 11 * o_ b := Nat.mul_le_mul_right _ (by omega)
    rw [g6, o_spl h4 i2 g1, ← i3, ← g2, Nat.mul_add]
    omega
theorem Cq_z {q : Nat → Option Nat} {gr : Nat → Nat} {K : Nat} : ∀ k T P n z, T < 4096 → K + xpc T 12 ≤ 12 → k ≤ K → Cq q gr K k T P n z → z ≤ 11 * o_ T
  | 0, T, P, n, z, h4, hk, _, ⟨L, h1, h2⟩ => Pb_z L K T P z h4 hk h2
  | k + 1, T, P, n, z, h4, hk, hkK, ⟨x, p, P2, n2, z2, g1, g2, g3, g4, g5, g6⟩ => by
    have m := xpc_mo (xdf_sb T x) 12
    have ih := Cq_z k _ _ _ _ (Nat.lt_of_le_of_lt (xdf_le _ _) h4) (by omega) (by omega) g3
    have k1 : k * o_ x ≤ 11 * o_ x := Nat.mul_le_mul_right _ (by omega)
    rw [g6, o_xd g1, Nat.mul_add]
    omega
theorem oo_lo {T p : Nat} (h : ∀ j, j ≤ p → T.testBit j = false) : ∀ k, k ≤ p + 1 → oo T k = 0
  | 0, _ => rfl
  | k + 1, hk => by rw [oo, oo_lo h k (by omega), h k (by omega)]; rfl
theorem oo_hi {T p : Nat} (h : ∀ j, j ≤ p → T.testBit j = false) : ∀ m, 11 * oo T (p + 1 + m) + 1 ≤ 12 ^ m
  | 0 => by rw [oo_lo h _ (Nat.le_refl _)]; exact Nat.le_refl _
  | m + 1 => by
    have ih := oo_hi h m
    have b : (T.testBit (p + 1 + m)).toNat ≤ 1 := Bool.toNat_le _
    rw [show p + 1 + (m + 1) = (p + 1 + m) + 1 from rfl, oo, Nat.pow_succ]
    omega
theorem o_hi {T p : Nat} (hp : p < 12) (h : ∀ j, j ≤ p → T.testBit j = false) : 11 * o_ T < 12 ^ (11 - p) := by
  have z := oo_hi h (11 - p)
  rw [show p + 1 + (11 - p) = 12 by omega] at z
  exact z
theorem o_pw : ∀ p, p < 12 → o_ (2 ^ p) = 12 ^ (11 - p) := by decide +kernel
