/-! the cut in math (6): so many boards at most; both orders agree -/
theorem Pb_n {q : Nat → Option Nat} : ∀ L K T P z, T < 4096 → Pb q L K T P z → L.length ≤ xpc T 12
  | [], K, T, P, z, h4, h => Nat.zero_le _
  | b :: L, K, T, P, z, h4, ⟨h0, x, p, P2, z2, g1, g2, g3, g4, g5, g6⟩ => by
    have i := Pb_n L (K + 1) _ _ _ (Nat.lt_of_le_of_lt (xdf_le _ _) (Nat.lt_trans (rs_lt h0 h4) h4)) g4
    have m := xpc_mo (xdf_sb (rs_ T) x) 12
    have r := rs_pc h0 h4
    rw [List.length_cons]
    omega
theorem Pt_n {q : Nat → Option Nat} {K T P n z : Nat} (h4 : T < 4096) (h : Pt q K T P n z) : n ≤ 12 := by
  obtain ⟨L, h1, h2⟩ := h
  have := Pb_n L K T P z h4 h2
  have := xpc_b T 12
  omega
theorem or_1 {P n P2 n2 : Nat} (h1 : n ≤ 12) (h2 : n2 ≤ 12) : 13 * P + n ≤ 13 * P2 + n2 ↔ 16 * P + n ≤ 16 * P2 + n2 := by
  by_cases a : P < P2
  · constructor <;> intro <;> omega
  · by_cases b : P = P2
    · subst b; constructor <;> intro <;> omega
    · constructor <;> intro <;> omega
