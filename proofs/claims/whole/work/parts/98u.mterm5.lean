/-! terms in math (5): what a good text keeps; the walk and its bytes -/
theorem nx_op (c : Int32) (s : Nat × Nat × Nat) (h40 : ¬ c = 40) (h41 : ¬ c = 41) : (tm_nx c s).2.1 = s.2.1 := by
  obtain ⟨w, op, g⟩ := s
  unfold tm_nx
  dsimp only
  by_cases h : c = 32
  · rw [if_pos h]
  · rw [if_neg h]
    split <;> (repeat' split) <;> first | rfl | (exfalso; simp_all; done) | (rename_i z; exact absurd z.1 h41)
theorem nx_40 {c : Int32} {s : Nat × Nat × Nat} (h : c = 40) (h5 : (tm_nx c s).1 ≠ 5) : (tm_nx c s).2.1 = s.2.1 + 1 := by
  obtain ⟨w, op, g⟩ := s
  subst h
  unfold tm_nx at h5 ⊢
  dsimp only at h5 ⊢
  rw [if_neg (by decide)] at h5 ⊢
  split at h5
  · rw [if_neg (by decide), if_pos rfl]
  · rw [if_neg (by decide)] at h5; exact absurd rfl h5
  · rw [if_neg (by unfold tm_dig; decide)] at h5; exact absurd rfl h5
  · rw [if_neg (by unfold tm_dig; decide), if_neg (by decide), if_neg (fun z => absurd z.1 (by decide))] at h5; exact absurd rfl h5
  · rw [if_neg (by decide), if_neg (fun z => absurd z.1 (by decide))] at h5; exact absurd rfl h5
theorem nx_41 {c : Int32} {s : Nat × Nat × Nat} (h : c = 41) (h5 : (tm_nx c s).1 ≠ 5) : 0 < s.2.1 ∧ (tm_nx c s).2.1 = s.2.1 - 1 := by
  obtain ⟨w, op, g⟩ := s
  subst h
  unfold tm_nx at h5 ⊢
  dsimp only at h5 ⊢
  rw [if_neg (by decide)] at h5 ⊢
  split at h5
  · rw [if_neg (by decide), if_neg (by decide), if_neg (by unfold tm_let; decide)] at h5; exact absurd rfl h5
  · rw [if_neg (by decide)] at h5; exact absurd rfl h5
  · rw [if_neg (by unfold tm_dig; decide)] at h5; exact absurd rfl h5
  · rw [if_neg (by unfold tm_dig; decide), if_neg (by decide)] at h5 ⊢
    by_cases q : 0 < op
    · rw [if_pos ⟨rfl, q⟩]; exact ⟨q, rfl⟩
    · rw [if_neg (fun z => q z.2)] at h5; exact absurd rfl h5
  · rename_i a1 a2 a3 a4
    rw [if_neg (by decide)] at h5
    by_cases q : 0 < op
    · refine ⟨q, ?_⟩
      have b1 : w ≠ 0 := a1
      have b2 : w ≠ 1 := a2
      have b3 : w ≠ 2 := a3
      have b4 : w ≠ 3 := a4
      obtain ⟨k, rfl⟩ : ∃ k, w = k + 4 := ⟨w - 4, by omega⟩
      change (@ite (Nat × Nat × Nat) ((41 : Int32) = 38 ∨ (41 : Int32) = 124) (Classical.propDecidable _) (0, op, g) (@ite _ ((41 : Int32) = 41 ∧ 0 < op) (Classical.propDecidable _) (4, op - 1, g) (5, op, g))).2.1 = op - 1
      rw [if_neg (by decide), if_pos ⟨rfl, q⟩]
    · rw [if_neg (fun z => q z.2)] at h5; exact absurd rfl h5
theorem p62 {d : Nat} (h : d < 62) : 2 ^ d < 2 ^ 62 := Nat.pow_lt_pow_right (by decide) h
theorem ok_tak {v : Prop} {s : Nat × Nat × Nat × Nat} (h : vd_ok s) : vd_ok (vd_tak v s) := by
  obtain ⟨A, L, N, d⟩ := s
  obtain ⟨h1, h2, h3, h4⟩ := h
  refine ⟨h1, ?_, Nat.lt_of_le_of_lt (xdf_le _ _) h3, h4⟩
  show @ite Nat _ (Classical.propDecidable _) _ _ < 2 ^ 62
  split
  · exact Nat.lt_of_le_of_lt (xdf_le _ _) h2
  · exact h2
theorem wf_ff {t : Nat → Int32} {dg n : Nat} (hn : n ≤ 60) (ff : ∀ j, j ≤ n → (tm_st t dg j).1 ≠ 5) (val : Int32 → Int64) : ∀ i, i ≤ n → vd_ok (vs_st t val n i) ∧ (vs_st t val n i).2.2.2 = (tm_st t dg i).2.1
  | 0, _ => ⟨show vd_ok (0, 1, 0, 0) from ⟨by decide, by decide, by decide, by decide⟩, rfl⟩
  | i + 1, hi => by
    obtain ⟨h1, h2⟩ := wf_ff hn ff val i (by omega)
    have h5 := ff (i + 1) hi
    have hb := (tm_st_b (t := t) (dg := dg) (i + 1)).2.1
    rw [tm_st] at h5 hb
    rw [vs_st, vs_s, tm_st]
    generalize vs_st t val n i = s at *
    generalize tm_st t dg i = m at *
    obtain ⟨A, L, N, d⟩ := s
    obtain ⟨b1, b2, b3, b4⟩ := h1
    dsimp only at b1 b2 b3 b4 h2
    by_cases q33 : t i = 33
    · rw [if_pos q33, nx_op _ _ (by rw [q33]; decide) (by rw [q33]; decide)]
      exact ⟨⟨b1, b2, Nat.xor_lt_two_pow b3 (p62 b4), b4⟩, h2⟩
    · rw [if_neg q33]
      by_cases q124 : t i = 124
      · rw [if_pos q124, nx_op _ _ (by rw [q124]; decide) (by rw [q124]; decide)]
        exact ⟨⟨Nat.or_lt_two_pow b1 (Nat.and_lt_two_pow _ (p62 b4)), Nat.or_lt_two_pow b2 (p62 b4), b3, b4⟩, h2⟩
      · rw [if_neg q124]
        by_cases q40 : t i = 40
        · have e := nx_40 q40 h5
          rw [if_pos q40]
          rw [e] at hb ⊢
          have d1 : d + 1 < 62 := by omega
          exact ⟨⟨Nat.lt_of_le_of_lt (xdf_le _ _) b1, Nat.or_lt_two_pow b2 (p62 d1), b3, d1⟩, by show d + 1 = _; omega⟩
        · rw [if_neg q40]
          by_cases q41 : t i = 41
          · have e := nx_41 q41 h5
            rw [if_pos q41, e.2]
            refine ⟨ok_tak (s := (A, L, N, d - 1)) ⟨b1, b2, b3, by show d - 1 < 62; omega⟩, ?_⟩
            show d - 1 = _
            omega
          · rw [if_neg q41, nx_op _ _ q40 q41]
            by_cases ql : tm_let (t i)
            · rw [if_pos ql]
              exact ⟨ok_tak ⟨b1, b2, b3, b4⟩, h2⟩
            · rw [if_neg ql]
              exact ⟨⟨b1, b2, b3, b4⟩, h2⟩
theorem wf_of {t : Nat → Int32} {dg n : Nat} (hn : n ≤ 60) (ff : ∀ j, j ≤ n → (tm_st t dg j).1 ≠ 5) : vs_wf t n := fun val => ⟨fun i hi => (wf_ff hn ff val i hi).1, fun i hi h => by
  rw [(wf_ff hn ff val i (by omega)).2]
  have h5 := ff (i + 1) hi
  rw [tm_st] at h5
  exact (nx_41 h h5).1⟩
/-- the digits that stood before matter nothing -/
def sm_ (s u : Nat × Nat × Nat) : Prop := s.1 = u.1 ∧ s.2.1 = u.2.1 ∧ (s.1 = 3 → s.2.2 = u.2.2)
theorem sm_nx {c : Int32} {s u : Nat × Nat × Nat} (h : sm_ s u) : sm_ (tm_nx c s) (tm_nx c u) := by
  obtain ⟨w, op, g⟩ := s
  obtain ⟨w2, op2, g2⟩ := u
  obtain ⟨h1, h2, h3⟩ := h
  dsimp only at h1 h2 h3
  subst h1 h2
  unfold tm_nx
  dsimp only
  by_cases h : c = 32
  · rw [if_pos h, if_pos h]
    refine ⟨rfl, rfl, fun z => ?_⟩
    dsimp only at z ⊢
    split at z
    · cases z
    · exact absurd z (by assumption)
  · rw [if_neg h, if_neg h]
    split
    · split
      · exact ⟨rfl, rfl, fun z => by cases z⟩
      · split
        · exact ⟨rfl, rfl, fun z => by cases z⟩
        · split
          · exact ⟨rfl, rfl, fun z => by cases z⟩
          · exact ⟨rfl, rfl, fun z => by cases z⟩
    · split
      · exact ⟨rfl, rfl, fun z => by cases z⟩
      · exact ⟨rfl, rfl, fun z => by cases z⟩
    · split
      · exact ⟨rfl, rfl, fun _ => rfl⟩
      · exact ⟨rfl, rfl, fun _ => rfl⟩
    · rw [h3 rfl]
      exact ⟨rfl, rfl, fun _ => rfl⟩
    · split
      · exact ⟨rfl, rfl, fun z => by cases z⟩
      · split
        · exact ⟨rfl, rfl, fun z => by cases z⟩
        · exact ⟨rfl, rfl, fun z => by cases z⟩
theorem sm_st {t t2 : Nat → Int32} {dg dg2 n : Nat} (h : ∀ i, i < n → t i = t2 i) : ∀ i, i ≤ n → sm_ (tm_st t dg i) (tm_st t2 dg2 i)
  | 0, _ => ⟨rfl, rfl, fun z => by cases z⟩
  | i + 1, hi => by
    rw [tm_st, tm_st, h i hi]
    exact sm_nx (sm_st h i (by omega))
theorem wr_cg {t t2 : Nat → Int32} {dg dg2 n : Nat} (h : ∀ i, i < n → t i = t2 i) : ∀ k i, i + k = n → (tm_wr t dg n k i).1 = (tm_wr t2 dg2 n k i).1
  | 0, i, _ => by
    have e := sm_st (dg := dg) (dg2 := dg2) h n (Nat.le_refl _)
    rw [tm_wr, tm_wr, e.1, e.2.1]
  | k + 1, i, hk => by
    have e := sm_st (dg := dg) (dg2 := dg2) h (i + 1) (by omega)
    rw [tm_wr, tm_wr, e.1]
    split
    · rfl
    · exact wr_cg h k (i + 1) (by omega)
theorem dg6 {t : Nat → Int32} {dg : Nat} (hd : dg ≤ 6) : ∀ i, (tm_st t dg i).2.2 ≤ 6 ∧ ((tm_st t dg i).1 = 3 → (tm_st t dg i).2.2 ≤ 5)
  | 0 => ⟨hd, fun z => by cases z⟩
  | i + 1 => by
    have ih := dg6 (t := t) hd i
    rw [tm_st]
    generalize tm_st t dg i = s at *
    obtain ⟨w, op, g⟩ := s
    obtain ⟨i1, i2⟩ := ih
    dsimp only at i1 i2
    unfold tm_nx
    dsimp only
    by_cases h : t i = 32
    · rw [if_pos h]
      refine ⟨i1, fun z => ?_⟩
      dsimp only at z ⊢
      split at z
      · cases z
      · exact i2 z
    · rw [if_neg h]
      split
      · split
        · exact ⟨i1, fun z => by cases z⟩
        · split
          · exact ⟨i1, fun z => by cases z⟩
          · split
            · exact ⟨i1, fun z => by cases z⟩
            · exact ⟨i1, fun z => by cases z⟩
      · split
        · exact ⟨i1, fun z => by cases z⟩
        · exact ⟨i1, fun z => by cases z⟩
      · split
        · exact ⟨Nat.le_of_ble_eq_true rfl, fun _ => Nat.le_of_ble_eq_true rfl⟩
        · exact ⟨Nat.le_of_ble_eq_true rfl, fun _ => Nat.le_of_ble_eq_true rfl⟩
      · have i3 := i2 rfl
        split
        · refine ⟨by dsimp only; omega, fun z => ?_⟩
          dsimp only at z ⊢
          split at z
          · cases z
          · omega
        · split
          · exact ⟨i1, fun z => by cases z⟩
          · split
            · exact ⟨i1, fun z => by cases z⟩
            · exact ⟨i1, fun z => by cases z⟩
      · split
        · exact ⟨i1, fun z => by cases z⟩
        · split
          · exact ⟨i1, fun z => by cases z⟩
          · exact ⟨i1, fun z => by cases z⟩
/-- the reading asks only for the five values -/
theorem rd_cg {b : Nat → Nat} {n : Nat} {v w : Nat → Int64} (h : ∀ k, k < 5 → v k = w k) : ∀ f a ops trs dep wt, rd_ b n v f a ops trs dep wt = rd_ b n w f a ops trs dep wt
  | 0, a, ops, trs, dep, wt => rfl
  | f + 1, a, ops, trs, dep, wt => by
    have ih := rd_cg (b := b) (n := n) h f
    have ht : ∀ p, tk_ b n v p = tk_ b n w p := fun p => by
      unfold tk_
      cases e : lt_ (pc_ b n p) with
      | none => rfl
      | some k => dsimp only; rw [h k (lt_n e).2]
    cases wt with
    | true =>
      rw [rd_T, rd_T, ih, ht]
      simp only [ih]
    | false =>
      rw [rd_F, rd_F]
      simp only [ih]
