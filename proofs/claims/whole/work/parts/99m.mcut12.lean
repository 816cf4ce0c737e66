/-! the cut in math (12): the class's number and the model's best -/
theorem nm_A {a b z y : Nat} (hz : z < 743008370688) (hy : y < 743008370688) (h : a * 743008370688 + z ≤ b * 743008370688 + y) : a ≤ b := by omega
theorem v_best {q : Nat → Option Nat} {np v best Z : Nat} (hnp : np ≤ 12) (hv : Ln q (2 ^ np - 1) v) (hl : ∀ P n z, Pt q 0 (2 ^ np - 1) P n z → best ≤ 16 * P + n) (hZ : Zl q (fun _ => 0) 0 (2 ^ np - 1) best Z) : ∃ P n, n ≤ 12 ∧ best = 16 * P + n ∧ v = (13 * P + n) * 743008370688 + Z ∧ Z < 743008370688 := by
  have hle : 2 ^ np ≤ 2 ^ 12 := Nat.pow_le_pow_right (Nat.le_of_ble_eq_true rfl) hnp
  have h24 : (2 : Nat) ^ 12 = 4096 := by decide
  have p1 := Nat.one_le_two_pow (n := np)
  have h4 : 2 ^ np - 1 < 4096 := by omega
  obtain ⟨⟨P, n, z, k1, k2⟩, k3⟩ := hv
  obtain ⟨⟨P2, n2, j1, j2⟩, j3⟩ := hZ
  have j1' : Pt q 0 (2 ^ np - 1) P2 n2 Z := j1
  have n1 := Pt_n h4 k1
  have n2' := Pt_n h4 j1'
  have z1 := Pt_zA hnp k1
  have z2 := Pt_zA hnp j1'
  have a1 := k3 _ _ _ j1'
  rw [k2] at a1
  have a2 := nm_A z1 z2 a1
  have a3 := hl _ _ _ k1
  have a4 := (or_1 n1 n2').mp a2
  have e : 16 * P + n = 16 * P2 + n2 := by omega
  have eP : P = P2 := by omega
  have en : n = n2 := by omega
  subst eP en
  have ez := j3 z ⟨P, n, k1, j2⟩
  have ez2 : z = Z := by omega
  exact ⟨P, n, n1, j2.symm, by rw [k2, ez2], z2⟩
