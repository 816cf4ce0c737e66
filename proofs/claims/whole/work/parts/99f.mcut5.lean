/-! the cut in math (5): the class's least number -/
theorem oe_oo {S : Nat} (h : S % 2 = 0) : ∀ k, oo S (k + 1) = oe_ S k
  | 0 => by
    rw [oo, oo, oe_, Nat.toNat_testBit, Nat.pow_zero, Nat.div_one, h]
  | k + 1 => by rw [oo, oe_oo h k, oe_, Nat.toNat_testBit]
theorem sb_ev {x S : Nat} (h : S % 2 = 0) (hx : sb_ x S) : x % 2 = 0 := by
  have := sb_par hx
  omega
theorem xr_xdf {R x : Nat} (hx : sb_ x R) : R ^^^ x = xdf R x := by
  apply Nat.eq_of_testBit_eq
  intro j
  rw [Nat.testBit_xor, xdf_bit]
  cases e : x.testBit j with
  | true => rw [hx j e]; rfl
  | false => simp
theorem num_eq (A p P n z o : Nat) : (13 * (p + P) + (n + 1)) * A + (z + o) = (p * 13 + 1) * A + ((13 * P + n) * A + z + o) := by
  have e : 13 * (p + P) + (n + 1) = (p * 13 + 1) + (13 * P + n) := by omega
  rw [e, Nat.add_mul]; omega
/-- v is the least number of S -/
def Ln (q : Nat → Option Nat) (S v : Nat) : Prop := (∃ P n z, Pt q 0 S P n z ∧ v = (13 * P + n) * 743008370688 + z) ∧ ∀ P n z, Pt q 0 S P n z → v ≤ (13 * P + n) * 743008370688 + z
theorem Lm_Ln {q pv : Nat → Option Nat} {bh : Nat → Nat} {t S v : Nat} (hd : bh 0 = 0 ∧ ∀ R, R % 2 = 0 → R ≠ 0 → R < t → ∃ w, Ln q R w ∧ bh R = w + oe_ R 11) (hpv : ∀ T, T ≠ 0 → T ≤ S → pv T = (q T).map (fun p => p * 13 + 1)) (h0 : S ≠ 0) (h4 : S < 4096) (hev : rs_ S % 2 = 0) (ht : S ≤ t) (hv : Lm pv bh S v) : Ln q S v := by
  obtain ⟨i, i1, i2, i3⟩ := ls_ex h0 h4
  have rl := rs_lt h0 h4
  have hb : ∀ x, sb_ x (rs_ S) → pv (lw_ S ||| x) = (q (lw_ S ||| x)).map (fun p => p * 13 + 1) := fun x hx => by
    refine hpv _ (fun e => ?_) (sb_le (fun j hj => ?_))
    · have z := congrArg (fun y => Nat.testBit y i) e
      rw [Nat.testBit_or, i3, b2, Nat.zero_testBit] at z
      simp at z
    · rw [Nat.testBit_or, Bool.or_eq_true] at hj
      rcases hj with hj | hj
      · exact lw_sb S j hj
      · exact rs_sb S j (hx j hj)
  have hR : ∀ x, sb_ x (rs_ S) → ∃ w, Ln q (xdf (rs_ S) x) w ∧ bh (rs_ S ^^^ x) = w + o_ (xdf (rs_ S) x) := fun x hx => by
    rw [xr_xdf hx]
    have le := xdf_le (rs_ S) x
    have ev : xdf (rs_ S) x % 2 = 0 := sb_ev hev (xdf_sb _ _)
    by_cases e : xdf (rs_ S) x = 0
    · rw [e, hd.1]
      refine ⟨0, ⟨⟨0, 0, 0, Pt_0.mpr ⟨rfl, rfl, rfl⟩, rfl⟩, fun P n z _ => Nat.zero_le _⟩, rfl⟩
    · obtain ⟨w, k1, k2⟩ := hd.2 _ ev e (by omega)
      exact ⟨w, k1, by rw [k2, ← oe_oo ev 11]; rfl⟩
  have hlt : ∀ x, xdf (rs_ S) x < 4096 := fun x => Nat.lt_of_le_of_lt (xdf_le _ _) (Nat.lt_trans rl h4)
  refine ⟨?_, fun P n z hP => ?_⟩
  · obtain ⟨⟨x, p, g1, g2, g3⟩, -⟩ := hv
    rw [hb x g1] at g2
    obtain ⟨w, ⟨⟨P, n, z, k1, k2⟩, -⟩, k3⟩ := hR x g1
    cases e : q (lw_ S ||| x) with
    | none => rw [e] at g2; cases g2
    | some p2 =>
      rw [e] at g2
      cases g2
      refine ⟨p2 + P, n + 1, z + o_ (xdf (rs_ S) x), (Pt_s h0).mpr ⟨x, p2, P, n, _, g1, e, (Pt_sh (hlt x)).mpr ⟨z, rfl, k1⟩, rfl, rfl, by omega⟩, ?_⟩
      rw [g3, k3, k2]
      exact (num_eq _ _ _ _ _ _).symm
  · obtain ⟨x, p, P2, n2, z2, g1, g2, g3, g4, g5, g6⟩ := (Pt_s h0).mp hP
    obtain ⟨z0, e1, e2⟩ := (Pt_sh (hlt x)).mp g3
    obtain ⟨w, ⟨-, k2⟩, k3⟩ := hR x g1
    have a1 := k2 _ _ _ e2
    have a2 := hv.2 _ ⟨x, p * 13 + 1, g1, by rw [hb x g1, g2]; rfl, rfl⟩
    rw [k3] at a2
    rw [g4, g5, g6, e1, Nat.zero_mul, Nat.zero_add, num_eq]
    exact Nat.le_trans a2 (Nat.add_le_add_left (Nat.add_le_add_right a1 _) _)
theorem dp_Ln {q pv : Nat → Option Nat} {bh : Nat → Nat} {t : Nat} (h4 : t ≤ 4096) (hd : dp_k pv bh t) (hpv : ∀ T, T ≠ 0 → T < t → pv T = (q T).map (fun p => p * 13 + 1)) : ∀ R, R % 2 = 0 → R ≠ 0 → R < t → ∃ w, Ln q R w ∧ bh R = w + oe_ R 11 := by
  intro R
  induction R using Nat.strongRecOn with
  | ind R ih =>
    intro h2 h0 ht
    obtain ⟨⟨v, k1, k2⟩, -⟩ := hd.2 R h2 h0 ht
    exact ⟨v, Lm_Ln (t := R) ⟨hd.1, fun R2 g1 g2 g3 => ih R2 g3 g1 g2 (by omega)⟩ (fun T g1 g2 => hpv T g1 (by omega)) h0 (by omega) (sb_ev h2 (rs_sb R)) (Nat.le_refl _) k1, k2⟩
/-- the class's number of all np pieces -/
theorem ct_Ln {q pv : Nat → Option Nat} {np v : Nat} (hnp : np ≤ 12) (hpv : ∀ T, T ≠ 0 → T < 2 ^ np → pv T = (q T).map (fun p => p * 13 + 1)) (h : ct_v pv np v) : Ln q (2 ^ np - 1) v := by
  have hle : 2 ^ np ≤ 2 ^ 12 := Nat.pow_le_pow_right (Nat.le_of_ble_eq_true rfl) hnp
  have h24 : (2 : Nat) ^ 12 = 4096 := by decide
  have hp := Nat.one_le_two_pow (n := np)
  rcases h with ⟨h1, h2⟩ | ⟨h1, bh, h2, h3⟩
  · subst h1 h2
    exact ⟨⟨0, 0, 0, Pt_0.mpr ⟨rfl, rfl, rfl⟩, rfl⟩, fun P n z _ => Nat.zero_le _⟩
  · have h0 : 2 ^ np - 1 ≠ 0 := by
      have : 2 ^ 1 ≤ 2 ^ np := Nat.pow_le_pow_right (Nat.le_of_ble_eq_true rfl) h1
      omega
    exact Lm_Ln (t := 2 ^ np - 1) ⟨h2.1, dp_Ln (by omega) h2 (fun T g1 g2 => hpv T g1 (by omega))⟩ (fun T g1 g2 => hpv T g1 (by omega)) h0 (by omega) (rs_all hnp h0) (Nat.le_refl _) h3
