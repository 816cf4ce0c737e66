/-! the cut in math (11): both ends -/
theorem pcs_0 (np : Nat) : pcs np 0 = 2 ^ np - 1 := by
  apply Nat.eq_of_testBit_eq
  intro j
  rw [pcs_b, Nat.testBit_two_pow_sub_one]; simp
theorem gIV_0 {q : Nat → Option Nat} {f mn : Nat → Nat} {np : Nat} (hnp : np ≤ 12) (hmn : mn_k f mn (2 ^ np)) (hf : ∀ S, S < 2 ^ np → f S = f16 q S) (hb : mn (2 ^ np - 1) < 100000000) : ∃ Z, Zl q (fun _ => 0) 0 (2 ^ np - 1) (mn (2 ^ np - 1)) Z ∧ ∀ gr bo, gIV q np (mn (2 ^ np - 1)) Z 0 0 gr bo := by
  have p1 := Nat.one_le_two_pow (n := np)
  have M := mn_Pt hnp hmn hf (2 ^ np - 1) (by omega) 0
  have hz : ∃ z, Zb q (fun _ => 0) 0 (2 ^ np - 1) (mn (2 ^ np - 1)) z := by
    rcases M.1 with M1 | ⟨P, n, ⟨z, M1⟩, M2⟩
    · omega
    · exact ⟨z, P, n, M1, M2.symm⟩
  obtain ⟨Z, hZ⟩ := Zl_ex hz
  refine ⟨Z, hZ, fun gr bo => ⟨Nat.le_refl _, fun g hg => absurd hg (Nat.not_lt_zero _), fun g j hg => absurd hg (Nat.not_lt_zero _), fun j hj => absurd hj (Nat.not_lt_zero _), ⟨Z, ?_, Nat.zero_add _⟩, fun P n z h => ?_⟩⟩
  · rw [pcs_0]; exact hZ
  · rw [pcs_0] at h
    exact M.2.2 _ ⟨P, n, ⟨z, h⟩, rfl⟩
theorem Pt_zA {q : Nat → Option Nat} {np P n z : Nat} (hnp : np ≤ 12) (h : Pt q 0 (2 ^ np - 1) P n z) : z < 743008370688 := by
  have hle : 2 ^ np ≤ 2 ^ 12 := Nat.pow_le_pow_right (Nat.le_of_ble_eq_true rfl) hnp
  have h24 : (2 : Nat) ^ 12 = 4096 := by decide
  have p1 := Nat.one_le_two_pow (n := np)
  by_cases e : 2 ^ np - 1 = 0
  · rw [e] at h
    have := (Pt_0.mp h).2.2
    omega
  · have h4 : 2 ^ np - 1 < 4096 := by omega
    obtain ⟨x, p, P2, n2, z2, g1, g2, ⟨L, g3, g7⟩, g4, g5, g6⟩ := (Pt_s e).mp h
    have r := rs_pc e h4
    have b := xpc_b (2 ^ np - 1) 12
    have m := xpc_mo (xdf_sb (rs_ (2 ^ np - 1)) x) 12
    have zb := Pb_z L 1 _ _ _ (Nat.lt_of_le_of_lt (xdf_le _ _) (Nat.lt_trans (rs_lt e h4) h4)) (by omega) g7
    have ev := rs_all hnp e
    have ev2 := sb_ev ev (xdf_sb _ x)
    have w := o_hi (T := xdf (rs_ (2 ^ np - 1)) x) (p := 0) (by decide) (fun j hj => by
      have j0 : j = 0 := by omega
      subst j0
      rw [Nat.testBit_zero, ev2]; rfl)
    have c : (12 : Nat) ^ (11 - 0) = 743008370688 := by decide
    rw [c] at w
    rw [g6, Nat.zero_mul]
    omega
