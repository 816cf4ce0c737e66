/-! the cut in math (1): sets cut into boards -/
theorem lwz_c : ∀ a, a < 64 → ∀ b, b < 64 → ∀ i, i < 12 → (64 * a + b) % 2 ^ (i + 1) = 2 ^ i → lw_ (64 * a + b) = 2 ^ i := by decide +kernel
theorem lwz_d : ∀ a, a < 64 → ∀ b, b < 64 → 64 * a + b ≠ 0 → ∃ i, i < 12 ∧ (64 * a + b) % 2 ^ (i + 1) = 2 ^ i := by decide +kernel
theorem lwy_c (T : Nat) (h : T < 4096) (i : Nat) (hi : i < 12) (e : T % 2 ^ (i + 1) = 2 ^ i) : lw_ T = 2 ^ i := by
  have z := lwz_c (T / 64) (by omega) (T % 64) (by omega) i hi
  rw [Nat.div_add_mod] at z
  exact z e
theorem lwy_d (T : Nat) (h : T < 4096) (h0 : T ≠ 0) : ∃ i, i < 12 ∧ T % 2 ^ (i + 1) = 2 ^ i := by
  have z := lwz_d (T / 64) (by omega) (T % 64) (by omega)
  rw [Nat.div_add_mod] at z
  exact z h0
/-- i is the least of T -/
def ls_ (T i : Nat) : Prop := T.testBit i = true ∧ ∀ j, j < i → T.testBit j = false
theorem lst_m {T i : Nat} : ls_ T i ↔ T % 2 ^ (i + 1) = 2 ^ i := by
  constructor
  · intro h
    apply Nat.eq_of_testBit_eq
    intro j
    rw [Nat.testBit_mod_two_pow, Nat.testBit_two_pow]
    by_cases e : i = j
    · subst e; rw [h.1]; simp
    · by_cases q : j < i
      · rw [h.2 j q]; simp [e]
      · rw [decide_eq_false (by omega), decide_eq_false e]; rfl
  · intro h
    have b : ∀ j, j ≤ i → T.testBit j = decide (i = j) := fun j hj => by
      have z := congrArg (fun x => Nat.testBit x j) h
      rw [Nat.testBit_mod_two_pow, Nat.testBit_two_pow, decide_eq_true (by omega), Bool.true_and] at z
      exact z
    exact ⟨by rw [b i (Nat.le_refl _)]; simp, fun j hj => by rw [b j (by omega)]; simp; omega⟩
theorem ls_ex {T : Nat} (h : T ≠ 0) (h4 : T < 4096) : ∃ i, i < 12 ∧ ls_ T i ∧ lw_ T = 2 ^ i := by
  obtain ⟨i, h1, h2⟩ := lwy_d T h4 h
  exact ⟨i, h1, lst_m.mpr h2, lwy_c T h4 i h1 h2⟩
theorem ls_lw {T i : Nat} (h4 : T < 4096) (h : ls_ T i) : lw_ T = 2 ^ i := by
  have i12 : i < 12 := by
    by_cases q : i < 12
    · exact q
    · have := h.1
      rw [Nat.testBit_lt_two_pow (Nat.lt_of_lt_of_le h4 (show 2 ^ 12 ≤ 2 ^ i from Nat.pow_le_pow_right (Nat.le_of_ble_eq_true rfl) (show 12 ≤ i by omega)))] at this
      cases this
  exact lwy_c T h4 i i12 (lst_m.mp h)
theorem rs_x {T i : Nat} (h4 : T < 4096) (h : ls_ T i) : rs_ T = xdf T (2 ^ i) := by
  rw [rs_, ls_lw h4 h]
  apply Nat.eq_of_testBit_eq
  intro j
  rw [xdf_bit, Nat.testBit_xor, b2]
  by_cases e : i = j
  · subst e; rw [h.1]; simp
  · simp [e]
/-- the weight of a set: a digit for each piece -/
def oo (x : Nat) : Nat → Nat
  | 0 => 0
  | k + 1 => oo x k * 12 + (x.testBit k).toNat
def o_ (x : Nat) : Nat := oo x 12
theorem oo_or {a b : Nat} (h : ∀ i, a.testBit i = true → b.testBit i = false) : ∀ k, oo (a ||| b) k = oo a k + oo b k
  | 0 => rfl
  | k + 1 => by
    rw [oo, oo, oo, oo_or h k, Nat.testBit_or]
    cases e : a.testBit k with
    | true => rw [h k e]; simp; omega
    | false => simp; omega
theorem o_or {a b : Nat} (h : ∀ i, a.testBit i = true → b.testBit i = false) : o_ (a ||| b) = o_ a + o_ b := oo_or h 12
/-- T cut into the boards of L, numbered from K on -/
def Pb (q : Nat → Option Nat) : List Nat → Nat → Nat → Nat → Nat → Prop
  | [], _, T, P, z => T = 0 ∧ P = 0 ∧ z = 0
  | b :: L, K, T, P, z => T ≠ 0 ∧ ∃ x p P2 z2, sb_ x (rs_ T) ∧ b = lw_ T ||| x ∧ q b = some p ∧ Pb q L (K + 1) (xdf (rs_ T) x) P2 z2 ∧ P = p + P2 ∧ z = K * o_ b + z2
def Pt (q : Nat → Option Nat) (K T P n z : Nat) : Prop := ∃ L, L.length = n ∧ Pb q L K T P z
theorem Pt_0 {q : Nat → Option Nat} {K P n z : Nat} : Pt q K 0 P n z ↔ P = 0 ∧ n = 0 ∧ z = 0 := by
  constructor
  · rintro ⟨L, h1, h2⟩
    cases L with
    | nil => exact ⟨h2.2.1, h1.symm, h2.2.2⟩
    | cons b L => exact absurd rfl h2.1
  · rintro ⟨h1, h2, h3⟩
    exact ⟨[], h2.symm, rfl, h1, h3⟩
theorem Pt_s {q : Nat → Option Nat} {K T P n z : Nat} (h : T ≠ 0) : Pt q K T P n z ↔ ∃ x p P2 n2 z2, sb_ x (rs_ T) ∧ q (lw_ T ||| x) = some p ∧ Pt q (K + 1) (xdf (rs_ T) x) P2 n2 z2 ∧ P = p + P2 ∧ n = n2 + 1 ∧ z = K * o_ (lw_ T ||| x) + z2 := by
  constructor
  · rintro ⟨L, h1, h2⟩
    cases L with
    | nil => exact absurd h2.1 h
    | cons b L =>
      obtain ⟨-, x, p, P2, z2, g1, g2, g3, g4, g5, g6⟩ := h2
      subst g2
      exact ⟨x, p, P2, L.length, z2, g1, g3, ⟨L, rfl, g4⟩, g5, h1.symm, g6⟩
  · rintro ⟨x, p, P2, n2, z2, g1, g2, ⟨L, g3, g4⟩, g5, g6, g7⟩
    exact ⟨(lw_ T ||| x) :: L, by rw [List.length_cons, g3, g6], h, x, p, P2, z2, g1, rfl, g2, g4, g5, g7⟩
