/-! the cut in math (16): the end of the greedy -/
theorem Cq_00 {q : Nat → Option Nat} {gr : Nat → Nat} {K : Nat} : ∀ k P n z, Cq q gr K k 0 P n z → n = k ∧ z = 0 ∧ ∀ g, g < k → ∃ p, q (gr g) = some p
  | 0, P, n, z, h => by
    obtain ⟨h1, h2, h3⟩ := Pt_0.mp h
    exact ⟨h2, h3, fun g hg => absurd hg (Nat.not_lt_zero _)⟩
  | k + 1, P, n, z, ⟨x, p, P2, n2, z2, g1, g2, g3, g4, g5, g6⟩ => by
    have x0 : x = 0 := Nat.le_zero.mp (sb_le g1)
    subst x0
    have e : xdf 0 0 = 0 := Nat.le_zero.mp (xdf_le 0 0)
    rw [e] at g3
    obtain ⟨i1, i2, i3⟩ := Cq_00 k _ _ _ g3
    have o0 : o_ 0 = 0 := by decide
    rw [Nat.or_zero] at g2
    refine ⟨by omega, by rw [g6, o0, i2, Nat.mul_zero], fun g hg => ?_⟩
    by_cases eg : g = k
    · subst eg; exact ⟨p, g2⟩
    · exact i3 g (by omega)
theorem pcs_np (np : Nat) : pcs np np = 0 := by
  apply Nat.eq_of_testBit_eq
  intro j
  rw [pcs_b, Nat.zero_testBit]
  by_cases h : j < np <;> simp [h]
def hz_ (bo : Nat → Nat) : Nat → Nat
  | 0 => 0
  | p + 1 => hz_ bo p * 12 + bo p
theorem zs_hz {bo : Nat → Nat} : ∀ p, p ≤ 12 → zs bo p = hz_ bo p * 12 ^ (12 - p)
  | 0, _ => by rw [zs, hz_, Nat.zero_mul]
  | p + 1, h => by
    rw [zs, hz_, zs_hz p (by omega), show 12 - p = (11 - p) + 1 by omega, show 12 - (p + 1) = 11 - p by omega, Nat.pow_succ, Nat.add_mul, Nat.mul_assoc, Nat.mul_comm 12 (12 ^ (11 - p))]
theorem hz_d {bo : Nat → Nat} : ∀ p, (∀ j, j < p → bo j < 12) → ∀ j, j < p → hz_ bo p / 12 ^ (p - 1 - j) % 12 = bo j
  | 0, _, j, hj => absurd hj (Nat.not_lt_zero _)
  | p + 1, hb, j, hj => by
    have b := hb p (Nat.lt_succ_self _)
    by_cases e : j = p
    · subst e
      rw [show j + 1 - 1 - j = 0 by omega, hz_, Nat.pow_zero, Nat.div_one]
      omega
    · have i := hz_d p (fun j hj => hb j (by omega)) j (by omega)
      rw [show p + 1 - 1 - j = (p - 1 - j) + 1 by omega, hz_, Nat.pow_succ, Nat.mul_comm (12 ^ (p - 1 - j)) 12, ← Nat.div_div_eq_div_mul, show (hz_ bo p * 12 + bo p) / 12 = hz_ bo p by omega]
      exact i
theorem zs_d {bo : Nat → Nat} {p j : Nat} (hp : p ≤ 12) (hb : ∀ j, j < p → bo j < 12) (hj : j < p) : zs bo p / 12 ^ (11 - j) % 12 = bo j := by
  rw [zs_hz p hp, show 11 - j = (12 - p) + (p - 1 - j) by omega, Nat.pow_add, ← Nat.div_div_eq_div_mul, Nat.mul_div_cancel _ (Nat.pow_pos (by decide))]
  exact hz_d p hb j hj
theorem dl_ws {fr sz : Nat → Nat} {lo b S : Nat} : ∀ k, (∀ j, j < k → S.testBit j = decide (fr j = b)) → dl_ fr sz lo b k = ws_ sz lo S k
  | 0, _ => rfl
  | k + 1, h => by
    rw [dl_, ws_, dl_ws k (fun j hj => h j (by omega)), h k (Nat.lt_succ_self _)]
    by_cases e : fr k = b
    · rw [if_pos e, if_pos (decide_eq_true e)]
    · rw [if_neg e, if_neg (by rw [decide_eq_false e]; decide)]
theorem vA_m {a Z : Nat} (h : Z < 743008370688) : (a * 743008370688 + Z) % 743008370688 = Z := by
  rw [Nat.add_comm, Nat.add_mul_mod_self_right, Nat.mod_eq_of_lt h]
theorem vA_d {a Z : Nat} (h : Z < 743008370688) : (a * 743008370688 + Z) / 743008370688 = a := by
  rw [Nat.add_comm, Nat.add_mul_div_right _ _ (by decide), Nat.div_eq_of_lt h, Nat.zero_add]
/-- class and model agree at the end -/
theorem cu_v {q : Nat → Option Nat} {f mn : Nat → Nat} {np v : Nat} (hnp : np ≤ 12) (hmn : mn_k f mn (2 ^ np)) (hf : ∀ S, S < 2 ^ np → f S = f16 q S) (hb : mn (2 ^ np - 1) < 100000000) (hv : Ln q (2 ^ np - 1) v) : v / 743008370688 / 13 = mn (2 ^ np - 1) / 16 ∧ v / 743008370688 % 13 = mn (2 ^ np - 1) % 16 ∧ ∀ Z, Zl q (fun _ => 0) 0 (2 ^ np - 1) (mn (2 ^ np - 1)) Z → v % 743008370688 = Z := by
  have p1 := Nat.one_le_two_pow (n := np)
  have M := mn_Pt hnp hmn hf (2 ^ np - 1) (by omega) 0
  have key : ∀ Z, Zl q (fun _ => 0) 0 (2 ^ np - 1) (mn (2 ^ np - 1)) Z → v / 743008370688 / 13 = mn (2 ^ np - 1) / 16 ∧ v / 743008370688 % 13 = mn (2 ^ np - 1) % 16 ∧ v % 743008370688 = Z := fun Z hZ => by
    obtain ⟨P, n, h1, h2, h3, h4⟩ := v_best hnp hv (fun P n z h => M.2.2 _ ⟨P, n, ⟨z, h⟩, rfl⟩) hZ
    rw [h3, vA_d h4, vA_m h4, h2]
    refine ⟨by omega, by omega, rfl⟩
  obtain ⟨Z, hZ, -⟩ := gIV_0 hnp hmn hf hb
  have k := key Z hZ
  exact ⟨k.1, k.2.1, fun Z hZ => (key Z hZ).2.2⟩
theorem cu_e {q : Nat → Option Nat} {f mn sz : Nat → Nat} {np v k Z lo : Nat} {gr bo : Nat → Nat} (hnp : np ≤ 12) (hmn : mn_k f mn (2 ^ np)) (hf : ∀ S, S < 2 ^ np → f S = f16 q S) (hb : mn (2 ^ np - 1) < 100000000) (hv : Ln q (2 ^ np - 1) v) (hZ : Zl q (fun _ => 0) 0 (2 ^ np - 1) (mn (2 ^ np - 1)) Z) (h : gIV q np (mn (2 ^ np - 1)) Z np k gr bo) : v / 743008370688 % 13 = k ∧ (∀ j, j < np → dg_ v j = bo j) ∧ ∀ g, g < k → gr g < 2 ^ np ∧ (∃ p, q (gr g) = some p) ∧ dl_ (dg_ v) sz lo g np = ws_ sz lo (gr g) np := by
  obtain ⟨e1, e2, e3⟩ := cu_v hnp hmn hf hb hv
  obtain ⟨h1, h2, h3, h5, ⟨m, h6, h7⟩, h8⟩ := h
  rw [pcs_np] at h6
  obtain ⟨⟨P, n, c1, c2⟩, -⟩ := h6
  obtain ⟨d1, d2, d3⟩ := Cq_00 _ _ _ _ c1
  have hd : ∀ j, j < np → dg_ v j = bo j := fun j hj => by
    rw [dg_, e3 Z hZ, ← h7, d2, Nat.add_zero]
    exact zs_d hnp (fun j hj => by have := h5 j hj; omega) hj
  refine ⟨by omega, hd, fun g hg => ⟨h2 g hg, d3 g hg, dl_ws np (fun j hj => ?_)⟩⟩
  rw [h3 g j hg, hd j hj]
  simp [hj]
theorem fl_cg {R R2 : Nat → Prop} {W W2 : Nat → Int32} : ∀ n, (∀ k, k < n → (R k ↔ R2 k) ∧ W k = W2 k) → fl_ R W n = fl_ R2 W2 n
  | 0, _ => rfl
  | n + 1, h => by
    have i := fl_cg n (fun k hk => h k (by omega))
    have c : fl_c R W n (fl_ R W n) ↔ fl_c R2 W2 n (fl_ R2 W2 n) := by
      unfold fl_c
      rw [i, (h n (Nat.lt_succ_self _)).1, (h n (Nat.lt_succ_self _)).2]
      refine and_congr_right (fun _ => ⟨fun z j hj => ?_, fun z j hj => ?_⟩)
      · rw [← (h j (by have := (fl_lt hj).1; omega)).2]; exact z j hj
      · rw [(h j (by have := (fl_lt hj).1; omega)).2]; exact z j hj
    by_cases e : fl_c R W n (fl_ R W n)
    · rw [fl_y e, fl_y (c.mp e)]
    · rw [fl_n e, fl_n (fun z => e (c.mpr z)), i]
