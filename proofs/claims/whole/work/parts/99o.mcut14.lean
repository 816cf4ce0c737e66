/-! the cut in math (14): the price of a set -/
noncomputable def qf (I : xv_I) (sz : Nat → Nat) (lo np S : Nat) : Option Nat := if S = 0 then none else (ms_ I (-(nI lo) + nI (ws_ sz lo S np))).map (fun j => (I 131 j).toNatClampNeg)
theorem on_qf {I : xv_I} {sz : Nat → Nat} {lo np : Nat} (S : Nat) : onf I (fun j => (I 131 j).toNatClampNeg) sz lo np S = f16 (qf I sz lo np) S := by
  unfold onf f16 qf
  by_cases e : S = 0
  · rw [if_pos e, if_pos e]
  · rw [if_neg e, if_neg e]
    cases ms_ I (-(nI lo) + nI (ws_ sz lo S np)) <;> rfl
theorem nd_v {sz : Nat → Nat} {lo np T : Nat} (hn : np ≤ 12) (hs : ∀ p, p < np → 1 ≤ sz p ∧ sz p ≤ 200) (hl : lo ≤ 9) (h0 : T ≠ 0) (hT : T < 2 ^ np) : (nI (ws_ sz lo T np) - nI lo).toInt = (ws_ sz lo T np : Int) - lo ∧ lo + 1 ≤ ws_ sz lo T np := by
  have h4 : T < 4096 := Nat.lt_of_lt_of_le hT (show 2 ^ np ≤ 2 ^ 12 from Nat.pow_le_pow_right (Nat.le_of_ble_eq_true rfl) hn)
  obtain ⟨i, i1, i2, i3⟩ := ls_ex h0 h4
  have inp : i < np := by
    by_cases q : i < np
    · exact q
    · have := i2.1
      rw [Nat.testBit_lt_two_pow (Nat.lt_of_lt_of_le hT (Nat.pow_le_pow_right (Nat.le_of_ble_eq_true rfl) (by omega)))] at this
      cases this
  have a := ws_ge (lo := lo) (fun p hp => (hs p hp).1) i2.1 np (Nat.le_refl _) inp
  have b := ws_le (T := T) (fun p hp => (hs p hp).2) hl np (Nat.le_refl _)
  refine ⟨?_, a⟩
  rw [za_sub (by rw [nI_toInt (by omega), nI_toInt (by omega)]; omega) (by rw [nI_toInt (by omega), nI_toInt (by omega)]; omega), nI_toInt (by omega), nI_toInt (by omega)]
theorem qf_cs {I : xv_I} {sz : Nat → Nat} {lo np T : Nat} (hn : np ≤ 12) (hs : ∀ p, p < np → 1 ≤ sz p ∧ sz p ≤ 200) (hl : lo ≤ 9) (h3 : I 63 = I 130) (h4 : I 64 = I 131) (h0 : T ≠ 0) (hT : T < 2 ^ np) : ms_ I (-(nI lo) + nI (ws_ sz lo T np)) = cs_ I (nI (ws_ sz lo T 12) - nI lo) ∧ ms_ I (-(nI lo) + nI (ws_ sz lo T np)) = cs_ I (-(nI lo) + nI (ws_ sz lo T np)) := by
  obtain ⟨a, b⟩ := nd_v hn hs hl h0 hT
  rw [ws_12 hn hT, ← nd_eq, ms_cs h3 h4 (by omega)]
  exact ⟨rfl, rfl⟩
theorem pv_qf {I : xv_I} {sz : Nat → Nat} {lo np T : Nat} (hn : np ≤ 12) (hs : ∀ p, p < np → 1 ≤ sz p ∧ sz p ≤ 200) (hl : lo ≤ 9) (h3 : I 63 = I 130) (h4 : I 64 = I 131) (h0 : T ≠ 0) (hT : T < 2 ^ np) : pvf I sz lo T = (qf I sz lo np T).map (fun p => p * 13 + 1) := by
  rw [pvf, qf, if_neg h0, (qf_cs hn hs hl h3 h4 h0 hT).1, Option.map_map]
  rfl
