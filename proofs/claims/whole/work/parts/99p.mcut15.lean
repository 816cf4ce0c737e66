/-! the cut in math (15): when it can be cut at all -/
theorem Pb_cov {q : Nat → Option Nat} : ∀ L K T P z, T < 4096 → Pb q L K T P z → ∀ j, T.testBit j = true → ∃ b, b.testBit j = true ∧ sb_ b T ∧ ∃ p, q b = some p
  | [], K, T, P, z, h4, ⟨h1, h2, h3⟩, j, hj => by rw [h1, Nat.zero_testBit] at hj; cases hj
  | b :: L, K, T, P, z, h4, ⟨h0, x, p, P2, z2, g1, g2, g3, g4, g5, g6⟩, j, hj => by
    obtain ⟨i, i1, i2, i3⟩ := ls_ex h0 h4
    have sb : sb_ b T := fun m hm => by
      rw [g2, Nat.testBit_or, Bool.or_eq_true] at hm
      rcases hm with hm | hm
      · exact lw_sb T m hm
      · exact rs_sb T m (g1 m hm)
    cases e : b.testBit j with
    | true => exact ⟨b, e, sb, p, g3⟩
    | false =>
      have hr : (xdf (rs_ T) x).testBit j = true := by
        rw [g2, Nat.testBit_or, Bool.or_eq_false_iff, i3] at e
        rw [xdf_bit, rs_x h4 i2, xdf_bit, hj, e.1, e.2]; rfl
      obtain ⟨c, c1, c2, c3⟩ := Pb_cov L (K + 1) _ _ _ (Nat.lt_of_le_of_lt (xdf_le _ _) (Nat.lt_trans (rs_lt h0 h4) h4)) g4 j hr
      exact ⟨c, c1, fun m hm => rs_sb T m (xdf_sb _ _ m (c2 m hm)), c3⟩
theorem Pb_P {q : Nat → Option Nat} (hq : ∀ b p, q b = some p → p ≤ 9999) : ∀ L K T P z, Pb q L K T P z → P ≤ 9999 * L.length
  | [], K, T, P, z, ⟨h1, h2, h3⟩ => by rw [h2]; exact Nat.zero_le _
  | b :: L, K, T, P, z, ⟨h0, x, p, P2, z2, g1, g2, g3, g4, g5, g6⟩ => by
    have i := Pb_P hq L (K + 1) _ _ _ g4
    have := hq _ _ g3
    rw [List.length_cons]
    omega
theorem fl_no {R : Nat → Prop} {W : Nat → Int32} : ∀ n, fl_ R W n = none → ∀ k, k < n → ¬ R k
  | 0, _, k, hk => absurd hk (Nat.not_lt_zero _)
  | n + 1, h, k, hk => by
    by_cases c : fl_c R W n (fl_ R W n)
    · rw [fl_y c] at h; cases h
    · rw [fl_n c] at h
      by_cases e : k = n
      · subst e
        intro r
        exact c ⟨r, fun j hj => by rw [h] at hj; cases hj⟩
      · exact fl_no n h k (by omega)
theorem ws_in {sz : Nat → Nat} {lo T p : Nat} (hp : T.testBit p = true) : ∀ k, p < k → sz p + lo ≤ ws_ sz lo T k
  | 0, h => absurd h (Nat.not_lt_zero _)
  | k + 1, h => by
    rw [ws_]
    by_cases e : p = k
    · subst e; rw [if_pos hp]; omega
    · have := ws_in (sz := sz) (lo := lo) hp k (by omega)
      omega
