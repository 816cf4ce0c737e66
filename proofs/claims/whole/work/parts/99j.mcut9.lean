/-! the cut in math (9): the greedy's invariant -/
def pcs (np p : Nat) : Nat := xdf (2 ^ np - 1) (2 ^ p - 1)
theorem pcs_b (np p j : Nat) : (pcs np p).testBit j = (decide (j < np) && !decide (j < p)) := by
  rw [pcs, xdf_bit, Nat.testBit_two_pow_sub_one, Nat.testBit_two_pow_sub_one]
theorem pcs_lt {np : Nat} (h : np ≤ 12) (p : Nat) : pcs np p < 4096 := by
  have h1 := xdf_le (2 ^ np - 1) (2 ^ p - 1)
  have h2 : 2 ^ np ≤ 2 ^ 12 := Nat.pow_le_pow_right (Nat.le_of_ble_eq_true rfl) h
  have h3 : (2 : Nat) ^ 12 = 4096 := by decide
  have h4 := Nat.one_le_two_pow (n := np)
  unfold pcs
  omega
theorem pcs_ls {np p : Nat} (h : p < np) : ls_ (pcs np p) p := ⟨by rw [pcs_b]; simp [h], fun j hj => by rw [pcs_b]; simp [hj]⟩
theorem pcs_rs {np p : Nat} (hn : np ≤ 12) (h : p < np) : rs_ (pcs np p) = pcs np (p + 1) := by
  rw [rs_x (pcs_lt hn p) (pcs_ls h)]
  apply Nat.eq_of_testBit_eq
  intro j
  rw [xdf_bit, pcs_b, pcs_b, b2]
  by_cases e : p = j
  · subst e; simp
  · by_cases q : j < p
    · simp [e, q, show j < p + 1 by omega]
    · simp [e, q, show ¬ j < p + 1 by omega]
theorem pcs_rst (np p : Nat) : rst np p = pcs np (p + 1) := by
  rw [rst, pcs, Nat.pow_succ, Nat.mul_comm]
theorem pcs_pc {np : Nat} : ∀ p, p ≤ 12 → p + xpc (pcs np p) 12 ≤ 12 := fun p hp => by
  have key : ∀ k, xpc (pcs np p) k ≤ k - p := fun k => by
    induction k with
    | zero => exact Nat.zero_le _
    | succ k ih =>
      rw [xpc_s, pcs_b]
      by_cases q : k < p
      · simp [q]; omega
      · split <;> omega
  have := key 12
  omega
def zs (bo : Nat → Nat) : Nat → Nat
  | 0 => 0
  | p + 1 => zs bo p + bo p * 12 ^ (11 - p)
theorem zs_cg {bo b2 : Nat → Nat} : ∀ p, (∀ j, j < p → b2 j = bo j) → zs b2 p = zs bo p
  | 0, _ => rfl
  | p + 1, h => by rw [zs, zs, zs_cg p (fun j hj => h j (by omega)), h p (Nat.lt_succ_self _)]
theorem Zl_ex {q : Nat → Option Nat} {gr : Nat → Nat} {k T best : Nat} (h : ∃ z, Zb q gr k T best z) : ∃ m, Zl q gr k T best m := by
  obtain ⟨z, hz⟩ := h
  induction z using Nat.strongRecOn with
  | ind z ih =>
    by_cases e : ∃ y, y < z ∧ Zb q gr k T best y
    · obtain ⟨y, h1, h2⟩ := e
      exact ih y h1 h2
    · refine ⟨z, hz, fun y hy => ?_⟩
      by_cases q : y < z
      · exact absurd ⟨y, q, hy⟩ e
      · omega
