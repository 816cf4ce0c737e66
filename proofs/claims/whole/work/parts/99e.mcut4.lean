/-! the cut in math (4): the model's least costs -/
theorem mn_Pt {q : Nat → Option Nat} {f mn : Nat → Nat} {np : Nat} (hnp : np ≤ 12) (h : mn_k f mn (2 ^ np)) (hf : ∀ S, S < 2 ^ np → f S = f16 q S) : ∀ S, S < 2 ^ np → ∀ K, Mn (fun w => ∃ P n, (∃ z, Pt q K S P n z) ∧ w = 16 * P + n) (mn S) := by
  intro S
  induction S using Nat.strongRecOn with
  | ind S ih =>
    intro hS K
    have h4 : S < 4096 := Nat.lt_of_lt_of_le hS (show 2 ^ np ≤ 2 ^ 12 from Nat.pow_le_pow_right (Nat.le_of_ble_eq_true rfl) hnp)
    by_cases e : S = 0
    · subst e
      rw [h.1]
      refine ⟨Or.inr ⟨0, 0, ⟨0, Pt_0.mpr ⟨rfl, rfl, rfl⟩⟩, rfl⟩, Nat.zero_le _, fun w _ => Nat.zero_le _⟩
    · have hm := h.2 S (by omega) hS
      have rl := rs_lt e h4
      have lt2 : ∀ x, sb_ x (rs_ S) → x ||| lw_ S < 2 ^ np := fun x hx => Nat.or_lt_two_pow (Nat.lt_of_le_of_lt (sb_le hx) (by omega)) (Nat.lt_of_le_of_lt (sb_le (lw_sb S)) hS)
      refine Mn_step (q := q) (f := fun x => f (x ||| lw_ S)) (c := fun x => mn (xdf (rs_ S) x)) (g := fun x => lw_ S ||| x) (r := rs_ S) (A := fun x P n => ∃ z, Pt q (K + 1) (xdf (rs_ S) x) P n z) (B := fun P n => ∃ z, Pt q K S P n z) (fun x hx => ?_) (fun x hx => ?_) (fun P n => ?_) hm
      · skip
        rw [hf _ (lt2 x hx), Nat.or_comm]
      · have := xdf_le (rs_ S) x
        exact ih (xdf (rs_ S) x) (by omega) (by omega) (K + 1)
      · constructor
        · rintro ⟨z, hz⟩
          obtain ⟨x, p, P2, n2, z2, g1, g2, g3, g4, g5, g6⟩ := (Pt_s e).mp hz
          exact ⟨x, p, P2, n2, g1, g2, ⟨z2, g3⟩, g4, g5⟩
        · rintro ⟨x, p, P2, n2, g1, g2, ⟨z2, g3⟩, g4, g5⟩
          exact ⟨_, (Pt_s e).mpr ⟨x, p, P2, n2, z2, g1, g2, g3, g4, g5, rfl⟩⟩
theorem cp_Cq {q : Nat → Option Nat} {f mn gr : Nat → Nat} {np K : Nat} (hnp : np ≤ 12) (h : mn_k f mn (2 ^ np)) (hf : ∀ S, S < 2 ^ np → f S = f16 q S) : ∀ k T, T < 2 ^ np → (∀ g, g < k → gr g < 2 ^ np) → Mn (fun w => ∃ P n, (∃ z, Cq q gr K k T P n z) ∧ w = 16 * P + n) (cp f mn gr k T)
  | 0, T, hT, _ => mn_Pt hnp h hf T hT K
  | k + 1, T, hT, hg => by
    rw [cp]
    refine Mn_step (q := q) (f := fun x => f (gr k ||| x)) (c := fun x => cp f mn gr k (xdf T x)) (g := fun x => gr k ||| x) (r := T) (A := fun x P n => ∃ z, Cq q gr K k (xdf T x) P n z) (B := fun P n => ∃ z, Cq q gr K (k + 1) T P n z) (fun x hx => ?_) (fun x hx => ?_) (fun P n => ?_) (mnv_Mn _)
    · skip
      rw [hf _ (Nat.or_lt_two_pow (hg k (Nat.lt_succ_self _)) (Nat.lt_of_le_of_lt (sb_le hx) hT))]
    · exact cp_Cq hnp h hf k _ (Nat.lt_of_le_of_lt (xdf_le _ _) hT) (fun g hg2 => hg g (by omega))
    · constructor
      · rintro ⟨z, x, p, P2, n2, z2, g1, g2, g3, g4, g5, g6⟩
        exact ⟨x, p, P2, n2, g1, g2, ⟨z2, g3⟩, g4, g5⟩
      · rintro ⟨x, p, P2, n2, g1, g2, ⟨z2, g3⟩, g4, g5⟩
        exact ⟨_, x, p, P2, n2, z2, g1, g2, g3, g4, g5, rfl⟩
/-- a set's weight, by one board and the rest -/
theorem o_spl {T i x : Nat} (h4 : T < 4096) (h : ls_ T i) (hx : sb_ x (rs_ T)) : o_ T = o_ (2 ^ i ||| x) + o_ (xdf (rs_ T) x) := by
  have e : T = (2 ^ i ||| x) ||| xdf (rs_ T) x := by
    apply Nat.eq_of_testBit_eq
    intro j
    rw [Nat.testBit_or, Nat.testBit_or, xdf_bit, rs_x h4 h, xdf_bit, b2]
    have hj := hx j
    rw [rs_x h4 h, xdf_bit, b2] at hj
    by_cases e : i = j
    · subst e; rw [h.1]; simp
    · rw [decide_eq_false e] at hj ⊢
      cases ex : x.testBit j with
      | true => rw [ex] at hj; have := hj rfl; simp at this; simp [this]
      | false => simp
  have z := congrArg o_ e
  rw [o_or (fun j hj => by
    rw [xdf_bit]
    rw [Nat.testBit_or, Bool.or_eq_true] at hj
    rcases hj with hj | hj
    · rw [b2] at hj
      have e : i = j := of_decide_eq_true hj
      rw [← e, rs_x h4 h, xd_i]; rfl
    · rw [hj]; simp)] at z
  exact z
theorem Pb_up {q : Nat → Option Nat} : ∀ L K T P z, T < 4096 → Pb q L K T P z → Pb q L (K + 1) T P (z + o_ T)
  | [], K, T, P, z, h4, ⟨h1, h2, h3⟩ => ⟨h1, h2, by rw [h1, h3]; rfl⟩
  | b :: L, K, T, P, z, h4, ⟨h0, x, p, P2, z2, g1, g2, g3, g4, g5, g6⟩ => by
    obtain ⟨i, i1, i2, i3⟩ := ls_ex h0 h4
    refine ⟨h0, x, p, P2, z2 + o_ (xdf (rs_ T) x), g1, g2, g3, Pb_up L (K + 1) _ _ _ (Nat.lt_of_le_of_lt (xdf_le _ _) (Nat.lt_trans (rs_lt h0 h4) h4)) g4, g5, ?_⟩
    rw [g6, o_spl h4 i2 g1, g2, i3, Nat.add_mul, Nat.one_mul]
    omega
theorem Pb_dn {q : Nat → Option Nat} : ∀ L K T P z, T < 4096 → Pb q L (K + 1) T P z → ∃ z0, z = z0 + o_ T ∧ Pb q L K T P z0
  | [], K, T, P, z, h4, ⟨h1, h2, h3⟩ => ⟨0, by rw [h1, h3]; rfl, h1, h2, rfl⟩
  | b :: L, K, T, P, z, h4, ⟨h0, x, p, P2, z2, g1, g2, g3, g4, g5, g6⟩ => by
    obtain ⟨i, i1, i2, i3⟩ := ls_ex h0 h4
    obtain ⟨z3, k1, k2⟩ := Pb_dn L (K + 1) _ _ _ (Nat.lt_of_le_of_lt (xdf_le _ _) (Nat.lt_trans (rs_lt h0 h4) h4)) g4
    refine ⟨K * o_ b + z3, ?_, h0, x, p, P2, z3, g1, g2, g3, k2, g5, rfl⟩
    rw [g6, o_spl h4 i2 g1, k1, g2, i3, Nat.add_mul, Nat.one_mul]
    omega
theorem Pt_sh {q : Nat → Option Nat} {K T P n z : Nat} (h4 : T < 4096) : Pt q (K + 1) T P n z ↔ ∃ z0, z = z0 + o_ T ∧ Pt q K T P n z0 := by
  constructor
  · rintro ⟨L, h1, h2⟩
    obtain ⟨z0, k1, k2⟩ := Pb_dn L K T P z h4 h2
    exact ⟨z0, k1, L, h1, k2⟩
  · rintro ⟨z0, rfl, L, h1, h2⟩
    exact ⟨L, h1, Pb_up L K T P z0 h4 h2⟩
