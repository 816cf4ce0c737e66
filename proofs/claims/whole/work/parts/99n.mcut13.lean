/-! the cut in math (13): what a board costs, in class and model -/
theorem ws_hi {sz : Nat → Nat} {lo T np : Nat} (h : T < 2 ^ np) : ∀ m, ws_ sz lo T (np + m) = ws_ sz lo T np
  | 0 => rfl
  | m + 1 => by
    rw [show np + (m + 1) = (np + m) + 1 from rfl, ws_, ws_hi h m, Nat.testBit_lt_two_pow (Nat.lt_of_lt_of_le h (Nat.pow_le_pow_right (Nat.le_of_ble_eq_true rfl) (by omega)))]
    simp
theorem ws_12 {sz : Nat → Nat} {lo T np : Nat} (hn : np ≤ 12) (h : T < 2 ^ np) : ws_ sz lo T 12 = ws_ sz lo T np := by
  have z := ws_hi (sz := sz) (lo := lo) h (12 - np)
  rw [show np + (12 - np) = 12 by omega] at z
  exact z
theorem ws_le {sz : Nat → Nat} {lo T np : Nat} (hs : ∀ p, p < np → sz p ≤ 200) (hl : lo ≤ 9) : ∀ k, k ≤ np → ws_ sz lo T k ≤ 209 * k
  | 0, _ => Nat.le_refl _
  | k + 1, hk => by
    have i := ws_le (T := T) hs hl k (by omega)
    have := hs k (by omega)
    rw [ws_]
    split <;> omega
theorem ws_ge {sz : Nat → Nat} {lo T np p : Nat} (h1 : ∀ p, p < np → 1 ≤ sz p) (hp : T.testBit p = true) : ∀ k, k ≤ np → p < k → lo + 1 ≤ ws_ sz lo T k
  | 0, _, h => absurd h (Nat.not_lt_zero _)
  | k + 1, hk, h => by
    rw [ws_]
    by_cases e : p = k
    · subst e
      rw [if_pos hp]
      have := h1 p (by omega)
      omega
    · have := ws_ge (lo := lo) h1 hp k (by omega) (by omega)
      omega
theorem ms_cs {I : xv_I} {x : Int32} (h3 : I 63 = I 130) (h4 : I 64 = I 131) (hx : 1 ≤ x.toInt) : ms_ I x = cs_ I x := by
  unfold ms_ cs_
  rw [h4]
  congr 1
  funext k
  unfold ms_R
  rw [h3]
  refine propext ⟨fun z => z.2, fun z => ⟨?_, z⟩⟩
  rw [xn_le] at z
  simp only [xn_lt, Int32.reduceToInt]
  omega
theorem nd_eq (a b : Int32) : a - b = -b + a := by
  apply Int32.toBitVec_inj.mp
  simp [BitVec.sub_eq_add_neg, BitVec.add_comm]
