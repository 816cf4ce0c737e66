/-! terms in math (6): all the terms; which is in force; what it says -/
def hv_ (val : Nat → Int64) (vl : Int32 → Int64) : Prop := ∀ c v, c < 256 → lt_ c = some v → vl (sb8 c) = val v
theorem hv_5 {val : Nat → Int64} {vl : Int32 → Int64} (h0 : vl 97 = val 0) (h1 : vl 100 = val 1) (h2 : vl 111 = val 2) (h3 : vl 109 = val 3) (h4 : vl 119 = val 4) : hv_ val vl := fun c v _ h => by
  rcases lt_g h with e | e | e | e | e
  · subst e; have z : v = 0 := by cases h; rfl
    rw [z]; exact h0
  · subst e; have z : v = 1 := by cases h; rfl
    rw [z]; exact h1
  · subst e; have z : v = 2 := by cases h; rfl
    rw [z]; exact h2
  · subst e; have z : v = 3 := by cases h; rfl
    rw [z]; exact h3
  · subst e; have z : v = 4 := by cases h; rfl
    rw [z]; exact h4
theorem one_t {row : Nat → Int32} {b : Nat → Nat} {n : Nat} (hn : n ≤ 60) (hx : tx_ row b n) (hz : ∀ i, i < n → b i ≠ 0) {val : Nat → Int64} {vl : Int32 → Int64} (hv : hv_ val vl) : rs_r row vl 0 n (rd_ b n val 62 0 [] [] 0 true) (tm_wr row 0 n n 0).1 :=
  (sim (dg := 0) hx hz hv 62 0 (0, none, none) [] 0 (Nat.zero_le _) (by omega)).1 rfl (fun _ => ⟨rfl, ⟨Nat.zero_testBit 0, (show (1 : Nat).testBit 0 = true by decide), Nat.zero_testBit 0, True.intro⟩, fun j _ => Nat.zero_testBit j⟩)
/-- the values as the class asks for them -/
def vl5 (val : Nat → Int64) (c : Int32) : Int64 := if c = 97 then val 0 else if c = 100 then val 1 else if c = 111 then val 2 else if c = 109 then val 3 else val 4
theorem vl5_ok (val : Nat → Int64) : hv_ val (vl5 val) := hv_5 rfl rfl rfl rfl rfl
def rT_p (I : xv_I) (nt : Nat) (bf : Nat → Nat → Nat) (szf dgf : Nat → Nat) (rf : Nat → Option Nat) (vf : (Nat → Int64) → Nat → Bool) : Prop :=
  (∀ t, t < nt → (I (300 + 2 * t) 1 = nI (szf t) ∧ szf t ≤ 60) ∧ (I (300 + 2 * t) 5 = nI (dgf t) ∧ dgf t ≤ 6) ∧ I 91 t = nI (szf t) ∧ (∀ i, i < szf t → I 92 (60 * t + i) = nI (bf t i) ∧ bf t i < 256 ∧ bf t i ≠ 0) ∧ tx_ (I (300 + 2 * t + 1)) (bf t) (szf t) ∧ (I (300 + 2 * t) 0 = I 90 t ∧ 0 ≤ (I 90 t).toInt)) ∧ rd_k nt bf szf rf vf ∧ (∀ t z, rf t = some z → z < 2 ^ 31) ∧ vx_ vf ∧ (∀ t, t < nt → I (300 + 2 * t) 2 = ob_ (-900009) (rf t)) ∧ (∀ t, t < nt → rf t = none → vs_wf (I (300 + 2 * t + 1)) (szf t) ∧ ∀ val vl, hv_ val vl → (vd_is (vs_st (I (300 + 2 * t + 1)) vl (szf t) (szf t)) ↔ vf val t = true))
theorem rT_pk {I : xv_I} {nt : Nat} (hT : rT I nt) : ∃ bf szf dgf rf vf, rT_p I nt bf szf dgf rf vf := by
  have hc : ∀ t, ∃ x : Nat × (Nat → Nat) × Nat, t < nt → (x.1 ≤ 60 ∧ x.2.2 ≤ 6 ∧ (I (300 + 2 * t) 0 = I 90 t ∧ 0 ≤ (I 90 t).toInt ∧ (I 90 t).toInt ≤ 599) ∧ (I (300 + 2 * t) 1 = nI x.1 ∧ I 91 t = nI x.1) ∧ I (300 + 2 * t) 5 = nI x.2.2 ∧ (∀ i, i < x.1 → I 92 (60 * t + i) = nI (x.2.1 i) ∧ x.2.1 i < 256 ∧ x.2.1 i ≠ 0 ∧ I (300 + 2 * t + 1) i = sb8 (x.2.1 i)) ∧ I (300 + 2 * t) 2 = (tm_wr (fun i => sb8 (x.2.1 i)) 0 x.1 x.1 0).1) := fun t => by
    by_cases h : t < nt
    · obtain ⟨n, b, dg, g⟩ := hT.2.2.1 t h
      exact ⟨(n, b, dg), fun _ => g⟩
    · exact ⟨(0, fun _ => 0, 0), fun z => absurd z h⟩
  obtain ⟨X, hX⟩ : ∃ X : Nat → Nat × (Nat → Nat) × Nat, ∀ t, t < nt → ((X t).1 ≤ 60 ∧ (X t).2.2 ≤ 6 ∧ (I (300 + 2 * t) 0 = I 90 t ∧ 0 ≤ (I 90 t).toInt ∧ (I 90 t).toInt ≤ 599) ∧ (I (300 + 2 * t) 1 = nI (X t).1 ∧ I 91 t = nI (X t).1) ∧ I (300 + 2 * t) 5 = nI (X t).2.2 ∧ (∀ i, i < (X t).1 → I 92 (60 * t + i) = nI ((X t).2.1 i) ∧ (X t).2.1 i < 256 ∧ (X t).2.1 i ≠ 0 ∧ I (300 + 2 * t + 1) i = sb8 ((X t).2.1 i)) ∧ I (300 + 2 * t) 2 = (tm_wr (fun i => sb8 ((X t).2.1 i)) 0 (X t).1 (X t).1 0).1) := ⟨fun t => Classical.choose (hc t), fun t => Classical.choose_spec (hc t)⟩
  clear hc
  let bf : Nat → Nat → Nat := fun t => (X t).2.1
  let szf : Nat → Nat := fun t => (X t).1
  let dgf : Nat → Nat := fun t => (X t).2.2
  let rf : Nat → Option Nat := fun t => if t < nt then (match rd_ (bf t) (szf t) (fun _ => 0) 62 0 [] [] 0 true with
    | some (r, _) => r
    | none => none) else none
  let vf : (Nat → Int64) → Nat → Bool := fun val t => match rd_ (bf t) (szf t) val 62 0 [] [] 0 true with
    | some (_, v :: _) => v
    | _ => false
  have htx : ∀ t, t < nt → tx_ (I (300 + 2 * t + 1)) (bf t) (szf t) := fun t ht i hi => ⟨((hX t ht).2.2.2.2.2.1 i hi).2.2.2, ((hX t ht).2.2.2.2.2.1 i hi).2.1⟩
  have hone : ∀ t, t < nt → ∀ val vl, hv_ val vl → rs_r (I (300 + 2 * t + 1)) vl 0 (szf t) (rd_ (bf t) (szf t) val 62 0 [] [] 0 true) (I (300 + 2 * t) 2) := fun t ht val vl hv => by
    have z := one_t (hX t ht).1 (htx t ht) (fun i hi => ((hX t ht).2.2.2.2.2.1 i hi).2.2.1) hv
    rw [(hX t ht).2.2.2.2.2.2, ← wr_cg (dg := 0) (dg2 := 0) (t := I (300 + 2 * t + 1)) (fun i hi => (htx t ht i hi).1) (X t).1 0 (Nat.zero_add _)]
    exact z
  have key : ∀ t, t < nt → (∃ q, rf t = some q ∧ q ≤ 60 ∧ I (300 + 2 * t) 2 = nI q ∧ ∀ val, ∃ ts, rd_ (bf t) (szf t) val 62 0 [] [] 0 true = some (some q, ts)) ∨ (rf t = none ∧ I (300 + 2 * t) 2 = -900009 ∧ ∀ val, rd_ (bf t) (szf t) val 62 0 [] [] 0 true = some (none, [vf val t])) := fun t ht => by
    have h60 : szf t ≤ 60 := (hX t ht).1
    have er : rf t = (match rd_ (bf t) (szf t) (fun _ => 0) 62 0 [] [] 0 true with
      | some (r, _) => r
      | none => none) := if_pos ht
    rcases hone t ht (fun _ => 0) _ (vl5_ok _) with ⟨q, ts, k1, k2, k3⟩ | ⟨v, k1, k2, k3⟩
    · refine Or.inl ⟨q, by rw [er, k1], by omega, k3, fun val => ?_⟩
      rcases hone t ht val _ (vl5_ok _) with ⟨q2, ts2, m1, m2, m3⟩ | ⟨v, m1, m2, m3⟩
      · have e : q2 = q := (nI_eq (by omega) (by omega)).mp (m3.symm.trans k3)
        exact ⟨ts2, by rw [m1, e]⟩
      · exact absurd (k3.symm.trans m2) (nI_nNONE (by omega))
    · refine Or.inr ⟨by rw [er, k1], k2, fun val => ?_⟩
      rcases hone t ht val _ (vl5_ok _) with ⟨q2, ts2, m1, m2, m3⟩ | ⟨v, m1, m2, m3⟩
      · exact absurd (m3.symm.trans k2) (nI_nNONE (by omega))
      · have ev : vf val t = v := by
          show (match rd_ (bf t) (szf t) val 62 0 [] [] 0 true with
            | some (_, v :: _) => v
            | _ => false) = v
          rw [m1]
        rw [m1, ev]
  refine ⟨bf, szf, dgf, rf, vf, fun t ht => ?_, fun val t ht => ?_, fun t z h => ?_, fun v w t h => ?_, fun t ht => ?_, fun t ht h => ?_⟩
  · have g := hX t ht
    exact ⟨⟨g.2.2.2.1.1, g.1⟩, ⟨g.2.2.2.2.1, g.2.1⟩, g.2.2.2.1.2, fun i hi => ⟨(g.2.2.2.2.2.1 i hi).1, (g.2.2.2.2.2.1 i hi).2.1, (g.2.2.2.2.2.1 i hi).2.2.1⟩, htx t ht, g.2.2.1.1, g.2.2.1.2.1⟩
  · rcases key t ht with ⟨q, k1, k2, k3, k4⟩ | ⟨k1, k2, k3⟩
    · exact ⟨fun q2 e => (by rw [k1] at e; cases e; exact k4 val), fun e => (by rw [k1] at e; cases e)⟩
    · exact ⟨fun q2 e => (by rw [k1] at e; cases e), fun _ => k3 val⟩
  · by_cases ht : t < nt
    · rcases key t ht with ⟨q, k1, k2, k3, k4⟩ | ⟨k1, k2, k3⟩
      · rw [k1] at h; cases h; omega
      · rw [k1] at h; cases h
    · have e : rf t = none := if_neg ht
      rw [e] at h; cases h
  · show (match rd_ (bf t) (szf t) v 62 0 [] [] 0 true with
      | some (_, v :: _) => v
      | _ => false) = _
    rw [rd_cg h]
  · rcases key t ht with ⟨q, k1, k2, k3, k4⟩ | ⟨k1, k2, k3⟩
    · rw [k1]; exact k3
    · rw [k1]; exact k2
  · rcases key t ht with ⟨q, k1, k2, k3, k4⟩ | ⟨k1, k2, k3⟩
    · rw [k1] at h; cases h
    · have h60 : szf t ≤ 60 := (hX t ht).1
      have hf : FW (I (300 + 2 * t + 1)) 0 (szf t) 0 = -900009 := by
        rw [FW, Nat.sub_zero, wr_cg (dg := 0) (dg2 := 0) (t2 := fun i => sb8 ((X t).2.1 i)) (fun i hi => (htx t ht i hi).1) (szf t) 0 (Nat.zero_add _)]
        exact (hX t ht).2.2.2.2.2.2.symm.trans k2
      have ff := FW_ff (t := I (300 + 2 * t + 1)) (dg := 0) h60 (szf t) 0 (Nat.zero_add _) (show ¬ (0 : Nat) = 5 by decide) hf
      have ff2 : ∀ j, j ≤ szf t → (tm_st (I (300 + 2 * t + 1)) 0 j).1 ≠ 5 := fun j hj => ff j (Nat.zero_le _) hj
      refine ⟨wf_of h60 ff2, fun val vl hv => ?_⟩
      rcases hone t ht val vl hv with ⟨q2, ts2, m1, m2, m3⟩ | ⟨v, m1, m2, m3⟩
      · exact absurd (m3.symm.trans k2) (nI_nNONE (by omega))
      · rw [k3 val] at m1
        cases m1
        exact m3 ff2
theorem ob_n {z : Option Nat} (h : ∀ q, z = some q → q < 2 ^ 31) : ob_ (-900009) z = -900009 ↔ z = none := by
  cases z with
  | none => exact ⟨fun _ => rfl, fun _ => rfl⟩
  | some q => exact ⟨fun e => absurd e (nI_nNONE (h q rfl)), fun e => by cases e⟩
/-- the term in force -/
theorem ti_fi {I : xv_I} {nt : Nat} {rf : Nat → Option Nat} (h : ∀ t, t < nt → I (300 + 2 * t) 0 = I 90 t ∧ 0 ≤ (I 90 t).toInt) (h2 : ∀ t, t < nt → (I (300 + 2 * t) 2 = -900009 ↔ rf t = none)) {x : Int32} : ∀ k, k ≤ nt → (fi_ (I 90) rf x k = none → ti_st I x k = (-900009, 0)) ∧ ∀ j, fi_ (I 90) rf x k = some j → ti_st I x k = (nI j, I 90 j)
  | 0, _ => ⟨fun _ => rfl, fun j e => by cases e⟩
  | k + 1, hk => by
    obtain ⟨i1, i2⟩ := ti_fi h h2 (x := x) k (by omega)
    have hc : ti_c I x k (ti_st I x k).2 ↔ ((I 90 k ≤ x ∧ ∀ q, fi_ (I 90) rf x k = some q → I 90 q ≤ I 90 k) ∧ rf k = none) := by
      unfold ti_c
      rw [(h k (by omega)).1, h2 k (by omega)]
      cases e : fi_ (I 90) rf x k with
      | none =>
        rw [i1 e]
        constructor
        · intro z; exact ⟨⟨z.2.1, fun q hq => by cases hq⟩, z.1⟩
        · intro z; exact ⟨z.2, z.1.1, by rw [xn_le]; exact (h k (by omega)).2⟩
      | some j =>
        rw [i2 j e]
        constructor
        · intro z; exact ⟨⟨z.2.1, fun q hq => by cases hq; exact z.2.2⟩, z.1⟩
        · intro z; exact ⟨z.2, z.1.1, z.1.2 j rfl⟩
    rw [fi_, ti_st]
    by_cases q : ti_c I x k (ti_st I x k).2
    · rw [if_pos q, if_pos (hc.mp q), (h k (by omega)).1]
      exact ⟨fun e => (by cases e), fun j e => (by cases e; rfl)⟩
    · rw [if_neg q, if_neg (fun z => q (hc.mpr z))]
      exact ⟨i1, i2⟩
theorem al_sy {I : xv_I} {nt : Nat} {bf : Nat → Nat → Nat} {szf dgf : Nat → Nat} {rf : Nat → Option Nat} {vf : (Nat → Int64) → Nat → Bool} (hp : rT_p I nt bf szf dgf rf vf) (ht4 : nt ≤ 4) {o d : Int64} {i : Nat} {x : Int32} : al_P I nt szf o d (I 81 i) (I 83 i) x (I 82 i) ↔ sy_ I nt rf vf o d i x := by
  obtain ⟨h1, h2, h3, h4, h5, h6⟩ := hp
  obtain ⟨t1, t2⟩ := ti_fi (fun t ht => (h1 t ht).2.2.2.2.2) (fun t ht => by rw [h5 t ht]; exact ob_n (h3 t)) (x := x) nt (Nat.le_refl _)
  have hv : hv_ (mv_ o d (I 81 i) x (I 82 i) (I 83 i)) (vl_ o d (I 81 i) (I 83 i) (x - I 82 i)) := hv_5 rfl rfl rfl rfl rfl
  unfold al_P sy_
  constructor
  · rintro ⟨t, a1, a2, a3⟩
    cases e : fi_ (I 90) rf x nt with
    | none => rw [t1 e] at a2; exact absurd a2.symm (nI_nNONE (by omega))
    | some j =>
      obtain ⟨l1, l2⟩ := fi_lt e
      rw [t2 j e] at a2
      have ej : j = t := (nI_eq (by omega) (by omega)).mp a2
      subst ej
      exact ⟨j, rfl, ((h6 j l1 l2).2 _ _ hv).mp a3⟩
  · rintro ⟨t, a1, a2⟩
    obtain ⟨l1, l2⟩ := fi_lt a1
    exact ⟨t, l1, by rw [t2 t a1], ((h6 t l1 l2).2 _ _ hv).mpr a2⟩
theorem R_fr {G : xv_Gr} {I I2 : xv_I} {J J2 : xv_J} (hR : R_ G I J) (hI : ∀ b, b ∉ [40, 95, 97, 175, 176] → I2 b = I b) (h4 : ∀ j, j ∉ [43, 44, 46] → I2 40 j = I 40 j) (hJ : ∀ b, b ∉ [40, 98, 175, 176] → J2 b = J b) : R_ G I2 J2 := by
  obtain ⟨np, nm, nl, nt, mo, on, sz, hG, hD, hP, hL, hC, hK, hRr, hN, hT⟩ := hR
  have hb : ∀ {L : List Nat} {b : Nat}, b ∈ L → (∀ a ∈ L, a ∉ [40, 95, 97, 175, 176]) → I2 b = I b := fun h g => hI _ (g _ h)
  have hj : ∀ {L : List Nat} {j : Nat}, j ∈ L → (∀ a ∈ L, a ∉ [43, 44, 46]) → I2 40 j = I 40 j := fun h g => h4 _ (g _ h)
  have hjj : ∀ {L : List Nat} {b : Nat}, b ∈ L → (∀ a ∈ L, a ∉ [40, 98, 175, 176]) → J2 b = J b := fun h g => hJ _ (g _ h)
  exact ⟨np, nm, nl, nt, mo, on, sz, hG, hD, rP_fr hP (fun b h => hb h (by decide)) (fun j h => hj h (by decide)), rL_fr hL (hI _ (by decide)) (hI _ (by decide)), rC_fr hC (fun b h => hb h (by decide)) (h4 _ (by decide)) (hJ _ (by decide)), rK_fr hK (fun b h => hb h (by decide)), rR_fr hRr (fun b h => hb h (by decide)) (fun j h => hj h (by decide)) (fun b h => hjj h (by decide)), rN_fr hN (fun j h => by rw [hI 6 (by decide)]) (fun j h => hj h (by decide)) (fun b h => hb h (by decide)) (fun b h1 h2 => hI b (by simp only [List.mem_cons, List.not_mem_nil, or_false]; omega)) (fun b h => hjj h (by decide)) (fun b h1 h2 => hJ b (by simp only [List.mem_cons, List.not_mem_nil, or_false]; omega)), rT_fr hT (by rw [hI 6 (by decide)]) (h4 _ (by decide)) (fun b h => hb h (by decide)) (fun b h1 h2 => hI b (by simp only [List.mem_cons, List.not_mem_nil, or_false]; omega))⟩
