/-! the cut in math (10): the greedy keeps its invariant -/
def gIV (q : Nat → Option Nat) (np best Z : Nat) (p k : Nat) (gr bo : Nat → Nat) : Prop := k ≤ p ∧ (∀ g, g < k → gr g < 2 ^ np) ∧ (∀ g j, g < k → (gr g).testBit j = decide (j < p ∧ bo j = g)) ∧ (∀ j, j < p → bo j < k) ∧ (∃ m, Zl q gr k (pcs np p) best m ∧ zs bo p + m = Z) ∧ ∀ P n z, Cq q gr k k (pcs np p) P n z → best ≤ 16 * P + n
theorem gIV_s {q : Nat → Option Nat} {f mn : Nat → Nat} {np Z p k : Nat} {gr bo : Nat → Nat} (hnp : np ≤ 12) (hmn : mn_k f mn (2 ^ np)) (hf : ∀ S, S < 2 ^ np → f S = f16 q S) (hb : mn (2 ^ np - 1) < 100000000) (hp : p < np) (h : gIV q np (mn (2 ^ np - 1)) Z p k gr bo) : ∃ g, ch_ f mn np (mn (2 ^ np - 1)) p k gr g ∧ gIV q np (mn (2 ^ np - 1)) Z (p + 1) (gk_ k g) (gu_ gr g p k) (bo_u bo p g) := by
  obtain ⟨h1, h2, h3, h5, ⟨m, h6, h7⟩, h8⟩ := h
  generalize mn (2 ^ np - 1) = best at *
  have t4 := pcs_lt hnp p
  have hls := pcs_ls hp
  have hrs := pcs_rs hnp hp
  have p1 := Nat.one_le_two_pow (n := np)
  have pl : pcs np (p + 1) < 2 ^ np := by
    have := xdf_le (2 ^ np - 1) (2 ^ (p + 1) - 1)
    unfold pcs; omega
  have p2 : 2 ^ p < 2 ^ np := Nat.pow_lt_pow_right (by decide) hp
  have gu_lt : ∀ j, j ≤ k → ∀ g, g < gk_ k j → gu_ gr j p k g < 2 ^ np := fun j hj g hg => by
    unfold gu_
    by_cases e : g = j
    · rw [if_pos e]
      refine Nat.or_lt_two_pow ?_ p2
      split
      · exact h2 j (by assumption)
      · omega
    · rw [if_neg e]
      refine h2 g ?_
      unfold gk_ at hg
      split at hg <;> omega
  have ge : ∀ j, j ≤ k → ∀ P n z, Cq q (gu_ gr j p k) (gk_ k j) (gk_ k j) (pcs np (p + 1)) P n z → best ≤ 16 * P + n := fun j hj P n z hc => h8 P n _ ((Cq_st t4 hls).mpr ⟨j, z, hj, by rw [hrs]; exact hc, rfl⟩)
  have iff : ∀ j, j ≤ k → (cp f mn (gu_ gr j p k) (gk_ k j) (rst np p) = best ↔ ∃ z, Zb q (gu_ gr j p k) (gk_ k j) (pcs np (p + 1)) best z) := fun j hj => by
    have M := cp_Cq (K := gk_ k j) hnp hmn hf (gk_ k j) (pcs np (p + 1)) pl (gu_lt j hj)
    rw [pcs_rst]
    constructor
    · intro e
      rw [e] at M
      rcases M.1 with M1 | ⟨P, n, ⟨z, M1⟩, M2⟩
      · omega
      · exact ⟨z, P, n, M1, M2.symm⟩
    · rintro ⟨z, P, n, e1, e2⟩
      have u := M.2.2 _ ⟨P, n, ⟨z, e1⟩, rfl⟩
      rcases M.1 with M1 | ⟨P2, n2, ⟨z2, M1⟩, M2⟩
      · omega
      · have := ge j hj P2 n2 z2 M1
        omega
  obtain ⟨g0, hg0, z0, hz0⟩ : ∃ g, g ≤ k ∧ ∃ z, Zb q (gu_ gr g p k) (gk_ k g) (pcs np (p + 1)) best z := by
    obtain ⟨⟨P, n, c1, c2⟩, -⟩ := h6
    obtain ⟨g, z, d1, d2, d3⟩ := (Cq_st t4 hls).mp c1
    rw [hrs] at d2
    exact ⟨g, d1, z, P, n, d2, c2⟩
  obtain ⟨g, hg, hy, hn⟩ : ∃ g, g ≤ k ∧ (∃ z, Zb q (gu_ gr g p k) (gk_ k g) (pcs np (p + 1)) best z) ∧ ∀ j, j < g → ¬ ∃ z, Zb q (gu_ gr j p k) (gk_ k j) (pcs np (p + 1)) best z := by
    clear ge iff gu_lt
    induction g0 using Nat.strongRecOn generalizing z0 with
    | ind g0 ih =>
      by_cases e : ∃ j, j < g0 ∧ ∃ z, Zb q (gu_ gr j p k) (gk_ k j) (pcs np (p + 1)) best z
      · obtain ⟨j, e1, z, e2⟩ := e
        exact ih j e1 (by omega) z e2
      · exact ⟨g0, hg0, ⟨z0, hz0⟩, fun j hj z => e ⟨j, hj, z⟩⟩
  refine ⟨g, ⟨hg, fun j hj z => hn j hj ((iff j (by omega)).mp z), (iff g hg).mpr hy⟩, ?_⟩
  have pc := pcs_pc (np := np) p (by omega)
  obtain ⟨m2, e1, e2⟩ := gd_1 t4 hls (by omega) (by omega) h6 hg (by rw [hrs]; exact hn) (by rw [hrs]; exact hy)
  rw [hrs] at e2
  have gk1 : k ≤ gk_ k g ∧ gk_ k g ≤ k + 1 ∧ g < gk_ k g := by unfold gk_; split <;> omega
  refine ⟨by omega, gu_lt g hg, fun g2 j hg2 => ?_, fun j hj => ?_, ⟨m2, e2, ?_⟩, ge g hg⟩
  · unfold gu_ bo_u
    by_cases e : g2 = g
    · subst e
      rw [if_pos rfl, Nat.testBit_or, b2]
      by_cases ej : j = p
      · subst ej; simp
      · rw [decide_eq_false (show ¬ p = j by omega), if_neg ej, Bool.or_false]
        by_cases gk : g2 < k
        · rw [if_pos gk, h3 g2 j gk]
          by_cases jp : j < p
          · simp [jp, show j < p + 1 by omega]
          · simp [jp, show ¬ j < p + 1 by omega]
        · rw [if_neg gk, Nat.zero_testBit]
          symm
          rw [decide_eq_false_iff_not]
          rintro ⟨z1, z2⟩
          have := h5 j (by omega)
          omega
    · rw [if_neg e]
      have gk : g2 < k := by unfold gk_ at hg2; split at hg2 <;> omega
      rw [h3 g2 j gk]
      by_cases ej : j = p
      · subst ej; simp; omega
      · rw [if_neg ej]
        by_cases jp : j < p
        · simp [jp, show j < p + 1 by omega]
        · simp [jp, show ¬ j < p + 1 by omega]
  · unfold bo_u
    by_cases ej : j = p
    · rw [if_pos ej]; exact gk1.2.2
    · rw [if_neg ej]
      have := h5 j (by omega)
      omega
  · rw [zs, zs_cg (bo := bo) p (fun j hj => by unfold bo_u; rw [if_neg (by omega)])]
    unfold bo_u
    rw [if_pos rfl]
    omega
