/-! the cut in math (8): the first board that still comes to the best gives the least digits -/
def Zb (q : Nat → Option Nat) (gr : Nat → Nat) (k T best z : Nat) : Prop := ∃ P n, Cq q gr k k T P n z ∧ 16 * P + n = best
def Zl (q : Nat → Option Nat) (gr : Nat → Nat) (k T best m : Nat) : Prop := Zb q gr k T best m ∧ ∀ z, Zb q gr k T best z → m ≤ z
theorem gd_1 {q : Nat → Option Nat} {gr : Nat → Nat} {k T best m p g : Nat} (h4 : T < 4096) (h : ls_ T p) (hp : p < 12) (hk : k + xpc T 12 ≤ 12) (hm : Zl q gr k T best m) (hg : g ≤ k) (hn : ∀ j, j < g → ¬ ∃ z, Zb q (gu_ gr j p k) (gk_ k j) (rs_ T) best z) (hy : ∃ z, Zb q (gu_ gr g p k) (gk_ k g) (rs_ T) best z) : ∃ m2, m = g * 12 ^ (11 - p) + m2 ∧ Zl q (gu_ gr g p k) (gk_ k g) (rs_ T) best m2 := by
  have h0 : T ≠ 0 := fun e => by
    have := h.1
    rw [e, Nat.zero_testBit] at this
    cases this
  have r := rs_pc h0 h4
  have r4 : rs_ T < 4096 := Nat.lt_trans (rs_lt h0 h4) h4
  have kg : gk_ k g ≤ k + 1 := by unfold gk_; split <;> omega
  obtain ⟨⟨P, n, c1, c2⟩, hl⟩ := hm
  obtain ⟨g2, z2, d1, d2, d3⟩ := (Cq_st h4 h).mp c1
  rw [o_pw p hp] at d3
  have hge : g ≤ g2 := by
    by_cases e : g2 < g
    · exact absurd ⟨z2, P, n, d2, c2⟩ (hn g2 e)
    · omega
  have up : ∀ z, Zb q (gu_ gr g p k) (gk_ k g) (rs_ T) best z → m ≤ g * 12 ^ (11 - p) + z := fun z ⟨P3, n3, e1, e2⟩ => hl _ ⟨P3, n3, (Cq_st h4 h).mpr ⟨g, z, hg, e1, by rw [o_pw p hp]⟩, e2⟩
  obtain ⟨z3, P3, n3, e1, e2⟩ := hy
  have b := Cq_z _ _ _ _ _ r4 (by omega) (Nat.le_refl _) e1
  have w := o_hi (T := rs_ T) hp (fun j hj => by
    rw [rs_x h4 h, xdf_bit, b2]
    by_cases e : p = j
    · rw [decide_eq_true e]; simp
    · rw [h.2 j (by omega)]; rfl)
  have u := up z3 ⟨P3, n3, e1, e2⟩
  have eg : g2 = g := by
    by_cases e : g2 = g
    · exact e
    · have z := Nat.mul_le_mul_right (12 ^ (11 - p)) (show g + 1 ≤ g2 by omega)
      rw [Nat.add_mul, Nat.one_mul] at z
      omega
  subst eg
  exact ⟨z2, d3, ⟨P, n, d2, c2⟩, fun z hz => by have := up z hz; omega⟩
