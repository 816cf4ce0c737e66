/-! terms in math (2): the class's walk over a text, beside the model's -/
theorem sb_e0 : ∀ c, c < 256 → ((sb8 c = 32 ↔ c = 32) ∧ (sb8 c = 33 ↔ c = 33) ∧ (sb8 c = 40 ↔ c = 40) ∧ (sb8 c = 41 ↔ c = 41) ∧ (sb8 c = 124 ↔ c = 124)) := by decide +kernel
theorem sb_e1 : ∀ c, c < 256 → ((sb8 c = 38 ∨ sb8 c = 124) ↔ (c = 38 ∨ c = 124)) := by decide +kernel
theorem sb_e2 : ∀ c, c < 256 → ((sb8 c = 60 ∨ sb8 c = 61 ∨ sb8 c = 62) ↔ (60 ≤ c ∧ c ≤ 62)) := by decide +kernel
theorem sb_e3 : ∀ c, c < 256 → ((48 ≤ sb8 c ∧ sb8 c ≤ 57) ↔ (48 ≤ c ∧ c ≤ 57)) := by decide +kernel
theorem sb_e4 : ∀ c, c < 256 → ((sb8 c = 97 ∨ sb8 c = 100 ∨ sb8 c = 111 ∨ sb8 c = 109 ∨ sb8 c = 119) ↔ (lt_ c).isSome = true) := by decide +kernel
theorem sb_e5 : ∀ c, c < 256 → ((sb8 c = 38 ∨ sb8 c = 124 ∨ sb8 c = 41) ↔ (c = 38 ∨ c = 124 ∨ c = 41)) := by decide +kernel
theorem sb_e6 : ∀ c, c < 256 → (c < 128 → sb8 c = nI c) := by decide +kernel
theorem sb_e (c : Nat) (h : c < 256) : ((sb8 c = 32 ↔ c = 32) ∧ (sb8 c = 33 ↔ c = 33) ∧ (sb8 c = 40 ↔ c = 40) ∧ (sb8 c = 41 ↔ c = 41) ∧ (sb8 c = 124 ↔ c = 124)) ∧ ((sb8 c = 38 ∨ sb8 c = 124) ↔ (c = 38 ∨ c = 124)) ∧ ((sb8 c = 60 ∨ sb8 c = 61 ∨ sb8 c = 62) ↔ (60 ≤ c ∧ c ≤ 62)) ∧ ((48 ≤ sb8 c ∧ sb8 c ≤ 57) ↔ (48 ≤ c ∧ c ≤ 57)) ∧ ((sb8 c = 97 ∨ sb8 c = 100 ∨ sb8 c = 111 ∨ sb8 c = 109 ∨ sb8 c = 119) ↔ (lt_ c).isSome = true) ∧ ((sb8 c = 38 ∨ sb8 c = 124 ∨ sb8 c = 41) ↔ (c = 38 ∨ c = 124 ∨ c = 41)) ∧ (c < 128 → sb8 c = nI c) := ⟨sb_e0 c h, sb_e1 c h, sb_e2 c h, sb_e3 c h, sb_e4 c h, sb_e5 c h, sb_e6 c h⟩
/-- the fault's place from a on -/
noncomputable def FW (t : Nat → Int32) (dg n a : Nat) : Int32 := (tm_wr t dg n (n - a) a).1
theorem FW_s {t : Nat → Int32} {dg n a : Nat} (h : a < n) (h5 : ¬ (tm_st t dg (a + 1)).1 = 5) : FW t dg n a = FW t dg n (a + 1) := by
  rw [FW, show n - a = (n - (a + 1)) + 1 by omega, tm_wr, if_neg h5, FW]
theorem FW_e {t : Nat → Int32} {dg n a : Nat} (h : a < n) (h5 : (tm_st t dg (a + 1)).1 = 5) : FW t dg n a = nI a := by
  rw [FW, show n - a = (n - (a + 1)) + 1 by omega, tm_wr, if_pos h5]
theorem FW_n {t : Nat → Int32} {dg n : Nat} : FW t dg n n = @ite _ ((tm_st t dg n).2.1 = 0 ∧ ((tm_st t dg n).1 = 3 ∨ (tm_st t dg n).1 = 4)) (Classical.propDecidable _) (-900009) (nI n) := by
  rw [FW, Nat.sub_self, tm_wr]
theorem FW_ff {t : Nat → Int32} {dg n : Nat} (hn : n ≤ 60) : ∀ k a, a + k = n → (tm_st t dg a).1 ≠ 5 → FW t dg n a = -900009 → ∀ j, a ≤ j → j ≤ n → (tm_st t dg j).1 ≠ 5
  | 0, a, e, h5, h, j, h1, h2 => by
    rw [show j = a by omega]; exact h5
  | k + 1, a, e, h5, h, j, h1, h2 => by
    by_cases q : (tm_st t dg (a + 1)).1 = 5
    · rw [FW_e (by omega) q] at h
      exact absurd h (nI_nNONE (by omega))
    · rw [FW_s (by omega) q] at h
      by_cases z : j = a
      · rw [z]; exact h5
      · exact FW_ff hn k (a + 1) (by omega) q h j (by omega) h2
theorem nx_sp {c : Int32} {w op g : Nat} (h : c = 32) : tm_nx c (w, op, g) = (if w = 3 then 4 else w, op, g) := by rw [tm_nx, if_pos h]
theorem nx_0 {c : Int32} {op g : Nat} (h : ¬ c = 32) : tm_nx c (0, op, g) = @ite _ (c = 33) (Classical.propDecidable _) (0, op, g) (@ite _ (c = 40) (Classical.propDecidable _) (0, op + 1, g) (@ite _ (tm_let c) (Classical.propDecidable _) (1, op, g) (5, op, g))) := by
  rw [tm_nx, if_neg h]
  rfl
theorem nx_1 {c : Int32} {op g : Nat} (h : ¬ c = 32) : tm_nx c (1, op, g) = @ite _ (c = 60 ∨ c = 61 ∨ c = 62) (Classical.propDecidable _) (2, op, g) (5, op, g) := by
  rw [tm_nx, if_neg h]
  rfl
theorem nx_2 {c : Int32} {op g : Nat} (h : ¬ c = 32) : tm_nx c (2, op, g) = @ite _ (tm_dig c) (Classical.propDecidable _) (3, op, 1) (5, op, 0) := by
  rw [tm_nx, if_neg h]
  rfl
theorem nx_3 {c : Int32} {op g : Nat} (h : ¬ c = 32) : tm_nx c (3, op, g) = @ite _ (tm_dig c) (Classical.propDecidable _) (if 5 < g + 1 then 5 else 3, op, g + 1) (@ite _ (c = 38 ∨ c = 124) (Classical.propDecidable _) (0, op, g) (@ite _ (c = 41 ∧ 0 < op) (Classical.propDecidable _) (4, op - 1, g) (5, op, g))) := by
  rw [tm_nx, if_neg h]
  rfl
theorem nx_4 {c : Int32} {op g : Nat} (h : ¬ c = 32) : tm_nx c (4, op, g) = @ite _ (c = 38 ∨ c = 124) (Classical.propDecidable _) (0, op, g) (@ite _ (c = 41 ∧ 0 < op) (Classical.propDecidable _) (4, op - 1, g) (5, op, g)) := by
  rw [tm_nx, if_neg h]
  rfl
/-- the text as the class has it -/
def tx_ (t : Nat → Int32) (b : Nat → Nat) (n : Nat) : Prop := ∀ i, i < n → t i = sb8 (b i) ∧ b i < 256
theorem vs_id {t : Nat → Int32} {val : Int32 → Int64} {sz i : Nat} (h1 : ¬ t i = 33) (h2 : ¬ t i = 124) (h3 : ¬ t i = 40) (h4 : ¬ t i = 41) (h5 : ¬ tm_let (t i)) : vs_st t val sz (i + 1) = vs_st t val sz i := by
  rw [vs_st, vs_s, if_neg h1, if_neg h2, if_neg h3, if_neg h4, if_neg h5]
theorem vs_dg {t : Nat → Int32} {b : Nat → Nat} {n i : Nat} (hx : tx_ t b n) (hi : i < n) (h : b i = 32 ∨ (48 ≤ b i ∧ b i ≤ 62)) {val : Int32 → Int64} {sz : Nat} : vs_st t val sz (i + 1) = vs_st t val sz i := by
  obtain ⟨e, h2⟩ := hx i hi
  obtain ⟨⟨q1, q2, q3, q4, q5⟩, q6, q7, q8, q9, q10, q11⟩ := sb_e (b i) h2
  refine vs_id ?_ ?_ ?_ ?_ ?_
  · rw [e, q2]; omega
  · rw [e, q5]; omega
  · rw [e, q3]; omega
  · rw [e, q4]; omega
  · unfold tm_let
    rw [e, q9]
    unfold lt_
    rw [if_neg (by omega), if_neg (by omega), if_neg (by omega), if_neg (by omega), if_neg (by omega)]
    simp
theorem cp_e {t : Nat → Int32} {n i : Nat} (hi : i < n) (h : ¬ tm_end (t i)) (s : Int32 × Int32) : cp_r t (n - i) i s = cp_r t (n - (i + 1)) (i + 1) (cp_s (t i) s) := by
  rw [show n - i = (n - (i + 1)) + 1 by omega, cp_r, if_neg h]
/-- a run of blanks -/
theorem blk {t : Nat → Int32} {b : Nat → Nat} {dg n : Nat} (hx : tx_ t b n) : ∀ (k a w op g : Nat), n - a = k → tm_st t dg a = (w, op, g) → w ≠ 3 → w ≠ 5 → tm_st t dg (sp_ b n a) = (w, op, g) ∧ FW t dg n a = FW t dg n (sp_ b n a) ∧ (∀ val sz, vs_st t val sz (sp_ b n a) = vs_st t val sz a) ∧ ∀ s, cp_r t (n - a) a s = cp_r t (n - sp_ b n a) (sp_ b n a) s
  | k, a, w, op, g, hk, hs, h3, h5 => by
    by_cases q : a < n ∧ b a = 32
    · obtain ⟨e, h2⟩ := hx a q.1
      have ec : t a = 32 := by rw [e, q.2]; rfl
      have es : tm_st t dg (a + 1) = (w, op, g) := by rw [tm_st, hs, nx_sp ec, if_neg h3]
      cases k with
      | zero => omega
      | succ k =>
        obtain ⟨i1, i2, i3, i4⟩ := blk hx k (a + 1) w op g (by omega) es h3 h5
        rw [sp_y q.1 q.2]
        refine ⟨i1, (FW_s q.1 (by rw [es]; exact h5)).trans i2, fun val sz => (i3 val sz).trans (vs_dg hx q.1 (Or.inl q.2)), fun s => ?_⟩
        rw [cp_e q.1 (by unfold tm_end; rw [ec]; decide), ← i4, cp_s, if_neg (by unfold tm_dig; rw [ec]; decide), if_pos ec]
    · rw [sp_n q]
      exact ⟨hs, rfl, fun _ _ => rfl, fun _ => rfl⟩
/-- blanks behind a whole asking or group -/
theorem blk3 {t : Nat → Int32} {b : Nat → Nat} {dg n : Nat} (hx : tx_ t b n) {a w op g : Nat} (hs : tm_st t dg a = (w, op, g)) (hw : w = 3 ∨ w = 4) : ∃ w2, (w2 = 4 ∨ (w2 = w ∧ sp_ b n a = a)) ∧ tm_st t dg (sp_ b n a) = (w2, op, g) ∧ FW t dg n a = FW t dg n (sp_ b n a) ∧ (∀ val sz, vs_st t val sz (sp_ b n a) = vs_st t val sz a) ∧ ∀ s, cp_r t (n - a) a s = cp_r t (n - sp_ b n a) (sp_ b n a) s := by
  by_cases q : a < n ∧ b a = 32
  · obtain ⟨e, h2⟩ := hx a q.1
    have ec : t a = 32 := by rw [e, q.2]; rfl
    have es : tm_st t dg (a + 1) = (4, op, g) := by
      rw [tm_st, hs, nx_sp ec]
      rcases hw with rfl | rfl <;> rfl
    obtain ⟨i1, i2, i3, i4⟩ := blk hx _ (a + 1) 4 op g rfl es (by decide) (by decide)
    rw [sp_y q.1 q.2]
    refine ⟨4, Or.inl rfl, i1, (FW_s q.1 (by rw [es]; exact (show ¬ (4 : Nat) = 5 by decide))).trans i2, fun val sz => (i3 val sz).trans (vs_dg hx q.1 (Or.inl q.2)), fun s => ?_⟩
    rw [cp_e q.1 (by unfold tm_end; rw [ec]; decide), ← i4, cp_s, if_neg (by unfold tm_dig; rw [ec]; decide), if_pos ec]
  · rw [sp_n q]
    exact ⟨w, Or.inr ⟨rfl, rfl⟩, hs, rfl, fun _ _ => rfl, fun _ => rfl⟩
theorem nI_dg {m c : Nat} (hm : m ≤ 9999) (h1 : 48 ≤ c) (h2 : c ≤ 57) : nI m * 10 + nI c - 48 = nI (10 * m + c - 48) := by
  have e1 : (nI m * 10).toInt = 10 * (m : Int) := by
    rw [Int32.toInt_mul, nI_toInt (by omega), show (10 : Int32).toInt = 10 from rfl, za_32 (by omega) (by omega)]; omega
  have e2 : (nI m * 10 + nI c).toInt = 10 * (m : Int) + c := by
    rw [za_add (by rw [e1, nI_toInt (by omega)]; omega) (by rw [e1, nI_toInt (by omega)]; omega), e1, nI_toInt (by omega)]
  rw [xn_eq, za_sub (by rw [e2, show (48 : Int32).toInt = 48 from rfl]; omega) (by rw [e2, show (48 : Int32).toInt = 48 from rfl]; omega), e2, nI_toInt (by omega), show (48 : Int32).toInt = 48 from rfl]
  omega
/-- a run of digits -/
theorem dgs {t : Nat → Int32} {b : Nat → Nat} {dg n : Nat} (hx : tx_ t b n) {op : Nat} {sg : Int32} : ∀ (f m p : Nat), f ≤ 4 → p ≤ n → (m + 1) * 10 ^ f ≤ 100000 → tm_st t dg p = (3, op, 5 - f) → ∃ g, tm_st t dg (dg_s b n f m p).2 = (3, op, g) ∧ (g = 5 ∨ ¬ ((dg_s b n f m p).2 < n ∧ 48 ≤ b (dg_s b n f m p).2 ∧ b (dg_s b n f m p).2 ≤ 57)) ∧ g ≤ 5 ∧ FW t dg n p = FW t dg n (dg_s b n f m p).2 ∧ (∀ val sz, vs_st t val sz (dg_s b n f m p).2 = vs_st t val sz p) ∧ cp_r t (n - p) p (sg, nI m) = cp_r t (n - (dg_s b n f m p).2) (dg_s b n f m p).2 (sg, nI (dg_s b n f m p).1)
  | 0, m, p, hf, hp, hm, hs => ⟨5, hs, Or.inl rfl, Nat.le_refl _, rfl, fun _ _ => rfl, rfl⟩
  | f + 1, m, p, hf, hp, hm, hs => by
    rw [dg_s]
    by_cases q : p < n ∧ 48 ≤ b p ∧ b p ≤ 57
    · rw [if_pos q]
      obtain ⟨e, h2⟩ := hx p q.1
      obtain ⟨⟨q1, q2, q3, q4, q5⟩, q6, q7, q8, q9, q10, q11⟩ := sb_e (b p) h2
      have hd : tm_dig (t p) := by unfold tm_dig; rw [e]; exact q8.mpr q.2
      have es : tm_st t dg (p + 1) = (3, op, 5 - f) := by
        rw [tm_st, hs, nx_3 (by rw [e, q1]; omega), if_pos hd, if_neg (by omega), show 5 - (f + 1) + 1 = 5 - f by omega]
      have hm2 : (10 * m + b p - 48 + 1) * 10 ^ f ≤ 100000 := by
        refine Nat.le_trans (Nat.mul_le_mul_right _ (show 10 * m + b p - 48 + 1 ≤ (m + 1) * 10 by omega)) ?_
        rw [Nat.mul_assoc, ← Nat.pow_succ']
        exact hm
      obtain ⟨g, i1, i2, i3, i4, i5, i6⟩ := dgs (dg := dg) hx (sg := sg) f (10 * m + b p - 48) (p + 1) (by omega) q.1 hm2 es
      refine ⟨g, i1, i2, i3, (FW_s q.1 (by rw [es]; exact (show ¬ (3 : Nat) = 5 by decide))).trans i4, fun val sz => (i5 val sz).trans (vs_dg hx q.1 (Or.inr ⟨q.2.1, by omega⟩)), ?_⟩
      have m9 : m ≤ 9999 := by
        have z : (m + 1) * 10 ≤ (m + 1) * 10 ^ (f + 1) := Nat.mul_le_mul_left _ (by rw [Nat.pow_succ]; have := Nat.pow_pos (n := f) (show 0 < 10 by decide); omega)
        omega
      rw [cp_e q.1 (by unfold tm_end; rw [e, q10]; omega), ← i6, cp_s, if_pos hd, e, q11 (by omega)]
      rw [← nI_dg m9 q.2.1 q.2.2]
    · rw [if_neg q]
      exact ⟨5 - (f + 1), hs, Or.inr q, by omega, rfl, fun _ _ => rfl, rfl⟩
/-- behind the number only blanks and an end come -/
theorem cp_end {t : Nat → Int32} {b : Nat → Nat} {dg n : Nat} (hx : tx_ t b n) (ff : ∀ j, j ≤ n → (tm_st t dg j).1 ≠ 5) {q op g : Nat} (hq : q ≤ n) (hs : tm_st t dg q = (3, op, g)) (hg : g = 5 ∨ ¬ (q < n ∧ 48 ≤ b q ∧ b q ≤ 57)) (s : Int32 × Int32) : cp_r t (n - q) q s = s := by
  obtain ⟨w2, hw, i1, i2, i3, i4⟩ := blk3 (dg := dg) hx hs (Or.inl rfl)
  rw [i4]
  by_cases z : sp_ b n q < n
  · have hns := sp_ns (b := b) _ q (rfl : n - q = n - q)
    obtain ⟨e, h2⟩ := hx _ z
    obtain ⟨⟨q1, q2, q3, q4, q5⟩, q6, q7, q8, q9, q10, q11⟩ := sb_e _ h2
    have n32 : ¬ t (sp_ b n q) = 32 := by rw [e, q1]; exact fun y => hns ⟨z, y⟩
    have f5 := ff (sp_ b n q + 1) z
    rw [show n - sp_ b n q = (n - (sp_ b n q + 1)) + 1 by omega, cp_r]
    by_cases y : tm_end (t (sp_ b n q))
    · rw [if_pos y]
    · exfalso
      apply f5
      unfold tm_end at y
      have one : ∀ w3, (@ite (Nat × Nat × Nat) (t (sp_ b n q) = 38 ∨ t (sp_ b n q) = 124) (Classical.propDecidable _) (0, op, g) (@ite _ (t (sp_ b n q) = 41 ∧ 0 < op) (Classical.propDecidable _) (4, op - 1, g) (w3, op, g))) = (w3, op, g) := fun w3 => by
        rw [if_neg (fun u => y (by rcases u with u | u <;> simp [u])), if_neg (fun u => y (by simp [u.1]))]
      rw [tm_st, i1]
      rcases hw with rfl | ⟨rfl, e2⟩
      · rw [nx_4 n32, one]
      · rw [nx_3 n32]
        by_cases d : tm_dig (t (sp_ b n q))
        · rw [if_pos d]
          have d2 := d
          unfold tm_dig at d2
          rw [e, q8, e2] at d2
          have : g = 5 := by
            rcases hg with hg | hg
            · exact hg
            · exact absurd ⟨by omega, d2.1, d2.2⟩ hg
          rw [if_pos (by omega)]
        · rw [if_neg d, one]
  · have := sp_le (b := b) hq
    rw [show n - sp_ b n q = 0 by omega, cp_r]
