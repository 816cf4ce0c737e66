/-! terms in math (3): an asking; both readings beside each other -/
theorem lt_g {c v : Nat} (h : lt_ c = some v) : c = 97 ∨ c = 100 ∨ c = 111 ∨ c = 109 ∨ c = 119 := by
  unfold lt_ at h
  by_cases h1 : c = 97
  · omega
  · by_cases h2 : c = 100
    · omega
    · by_cases h3 : c = 111
      · omega
      · by_cases h4 : c = 109
        · omega
        · by_cases h5 : c = 119
          · omega
          · rw [if_neg h1, if_neg h2, if_neg h3, if_neg h4, if_neg h5] at h
            cases h
theorem fz {t : Nat → Int32} {dg n p w op g : Nat} (hp : p ≤ n) (hs : tm_st t dg p = (w, op, g)) (hw : w ≠ 3 ∧ w ≠ 4) (h : p < n → (tm_nx (t p) (w, op, g)).1 = 5) : FW t dg n p = nI p := by
  by_cases q : p < n
  · exact FW_e q (by rw [tm_st, hs]; exact h q)
  · have e : p = n := by omega
    subst e
    rw [FW_n, hs, if_neg (fun z => by rcases z.2 with z | z; exact hw.1 z; exact hw.2 z)]
theorem ask {t : Nat → Int32} {b : Nat → Nat} {dg n : Nat} (hx : tx_ t b n) {val : Nat → Int64} {vl : Int32 → Int64} (hv : ∀ c v, c < 256 → lt_ c = some v → vl (sb8 c) = val v) {p op g v : Nat} (hp : p < n) (hl : lt_ (b p) = some v) (hs : tm_st t dg p = (0, op, g)) : (∃ q, tk_ b n val p = (none, q) ∧ q ≤ n ∧ FW t dg n p = nI q) ∨ (∃ cv q g2, tk_ b n val p = (some cv, q) ∧ p < q ∧ q ≤ n ∧ FW t dg n p = FW t dg n q ∧ tm_st t dg q = (3, op, g2) ∧ (g2 = 5 ∨ ¬ (q < n ∧ 48 ≤ b q ∧ b q ≤ 57)) ∧ ((∀ j, j ≤ n → (tm_st t dg j).1 ≠ 5) → ∃ P : Prop, (P ↔ cv = true) ∧ vs_st t vl n q = vd_tak P (vs_st t vl n p))) := by
  have hc := lt_g hl
  have pcp : pc_ b n p = b p := if_pos hp
  obtain ⟨e, h2⟩ := hx p hp
  obtain ⟨⟨q1, q2, q3, q4, q5⟩, q6, q7, q8, q9, q10, q11⟩ := sb_e _ h2
  have hlet : tm_let (t p) := by unfold tm_let; rw [e, q9, hl]; rfl
  have es1 : tm_st t dg (p + 1) = (1, op, g) := by
    rw [tm_st, hs, nx_0 (by rw [e, q1]; omega), if_neg (by rw [e, q2]; omega), if_neg (by rw [e, q3]; omega), if_pos hlet]
  have f1 : FW t dg n p = FW t dg n (p + 1) := FW_s hp (by rw [es1]; exact (show ¬ (1 : Nat) = 5 by decide))
  have v1 : vs_st t vl n (p + 1) = vd_tak (cp_v (vl (t p)) (cp_r t (n - (p + 1)) (p + 1) (0, 0))) (vs_st t vl n p) := by
    rw [vs_st, vs_s, if_neg (by rw [e, q2]; omega), if_neg (by rw [e, q5]; omega), if_neg (by rw [e, q3]; omega), if_neg (by rw [e, q4]; omega), if_pos hlet]
  obtain ⟨a1, a2, a3, a4⟩ := blk (dg := dg) hx _ (p + 1) 1 op g rfl es1 (by decide) (by decide)
  have n1 := sp_ns (b := b) _ (p + 1) (rfl : n - (p + 1) = n - (p + 1))
  have l1 := sp_le (b := b) (show p + 1 ≤ n by omega)
  have g1 := sp_gi b n (p + 1)
  rw [show tk_ b n val p = (if 60 ≤ pc_ b n (sp_ b n (p + 1)) ∧ pc_ b n (sp_ b n (p + 1)) ≤ 62 then (if 48 ≤ pc_ b n (sp_ b n (sp_ b n (p + 1) + 1)) ∧ pc_ b n (sp_ b n (sp_ b n (p + 1) + 1)) ≤ 57 then (some (cm_ (pc_ b n (sp_ b n (p + 1))) (val v) (dg_s b n 5 0 (sp_ b n (sp_ b n (p + 1) + 1))).1), (dg_s b n 5 0 (sp_ b n (sp_ b n (p + 1) + 1))).2) else (none, sp_ b n (sp_ b n (p + 1) + 1))) else (none, sp_ b n (p + 1))) by rw [tk_, pcp, hl]]
  generalize sp_ b n (p + 1) = p1 at *
  by_cases qs : 60 ≤ pc_ b n p1 ∧ pc_ b n p1 ≤ 62
  · rw [if_pos qs]
    have i1 := pc_in (show pc_ b n p1 ≠ 0 by omega)
    have pc1 : pc_ b n p1 = b p1 := if_pos i1
    rw [pc1] at qs ⊢
    obtain ⟨e1, h21⟩ := hx p1 i1
    obtain ⟨⟨u1, u2, u3, u4, u5⟩, u6, u7, u8, u9, u10, u11⟩ := sb_e _ h21
    have es2 : tm_st t dg (p1 + 1) = (2, op, g) := by
      rw [tm_st, a1, nx_1 (by rw [e1, u1]; omega), if_pos (by rw [e1]; exact u7.mpr qs)]
    have f2 : FW t dg n p1 = FW t dg n (p1 + 1) := FW_s i1 (by rw [es2]; exact (show ¬ (2 : Nat) = 5 by decide))
    have v2 : vs_st t vl n (p1 + 1) = vs_st t vl n p1 := vs_dg hx i1 (Or.inr ⟨by omega, qs.2⟩)
    have c2 : cp_r t (n - p1) p1 (0, 0) = cp_r t (n - (p1 + 1)) (p1 + 1) (t p1, 0) := by
      rw [cp_e i1 (by unfold tm_end; rw [e1, u10]; omega), cp_s, if_neg (by unfold tm_dig; rw [e1, u8]; omega), if_neg (by rw [e1, u1]; omega)]
    obtain ⟨b1, b2', b3, b4⟩ := blk (dg := dg) hx _ (p1 + 1) 2 op g rfl es2 (by decide) (by decide)
    have n2 := sp_ns (b := b) _ (p1 + 1) (rfl : n - (p1 + 1) = n - (p1 + 1))
    have l2 := sp_le (b := b) (show p1 + 1 ≤ n by omega)
    have g2 := sp_gi b n (p1 + 1)
    generalize sp_ b n (p1 + 1) = p2 at *
    by_cases qd : 48 ≤ pc_ b n p2 ∧ pc_ b n p2 ≤ 57
    · rw [if_pos qd]
      have i2 := pc_in (show pc_ b n p2 ≠ 0 by omega)
      have pc2 : pc_ b n p2 = b p2 := if_pos i2
      rw [pc2] at qd
      obtain ⟨e2, h22⟩ := hx p2 i2
      obtain ⟨⟨w1, w2, w3, w4, w5⟩, w6, w7, w8, w9, w10, w11⟩ := sb_e _ h22
      have hd : tm_dig (t p2) := by unfold tm_dig; rw [e2]; exact w8.mpr qd
      have es3 : tm_st t dg (p2 + 1) = (3, op, 5 - 4) := by
        rw [tm_st, b1, nx_2 (by rw [e2, w1]; omega), if_pos hd]
      have f3 : FW t dg n p2 = FW t dg n (p2 + 1) := FW_s i2 (by rw [es3]; exact (show ¬ (3 : Nat) = 5 by decide))
      have v3 : vs_st t vl n (p2 + 1) = vs_st t vl n p2 := vs_dg hx i2 (Or.inr ⟨qd.1, by omega⟩)
      have c3 : cp_r t (n - p2) p2 (t p1, 0) = cp_r t (n - (p2 + 1)) (p2 + 1) (t p1, nI (10 * 0 + b p2 - 48)) := by
        rw [cp_e i2 (by unfold tm_end; rw [e2, w10]; omega), cp_s, if_pos hd, ← nI_dg (by omega) qd.1 qd.2, e2, w11 (by omega)]
        rfl
      rw [show dg_s b n 5 0 p2 = dg_s b n 4 (10 * 0 + b p2 - 48) (p2 + 1) by rw [dg_s, if_pos ⟨i2, qd⟩]]
      have hb := dg_b (b := b) (n := n) 4 (10 * 0 + b p2 - 48) (p2 + 1) (by omega)
      have hm := dg_m (b := b) (n := n) 4 (10 * 0 + b p2 - 48) (p2 + 1)
      have hm4 : (10 * 0 + b p2 - 48 + 1) * 10 ^ 4 ≤ 100000 := by
        rw [show 10 ^ 4 = 10000 from rfl]; omega
      obtain ⟨g3, d1, d2, d3, d4, d5, d6⟩ := dgs (dg := dg) hx (op := op) (sg := t p1) 4 (10 * 0 + b p2 - 48) (p2 + 1) (by omega) (by omega) hm4 es3
      generalize dg_s b n 4 (10 * 0 + b p2 - 48) (p2 + 1) = dq at *
      refine Or.inr ⟨_, dq.2, g3, rfl, by omega, hb.1, f1.trans (a2.trans (f2.trans (b2'.trans (f3.trans d4)))), d1, d2, fun ff => ?_⟩
      refine ⟨_, ?_, (d5 vl n).trans (v3.trans ((b3 vl n).trans (v2.trans ((a3 vl n).trans v1))))⟩
      rw [a4, c2, b4, c3, d6, cp_end hx ff hb.1 d1 d2, e, hv _ _ h2 hl, e1]
      unfold cp_v cm_
      have eM : (nI dq.1).toInt64 = lN dq.1 := xl_i (by omega)
      dsimp only
      rw [eM]
      rcases (show b p1 = 60 ∨ b p1 = 61 ∨ b p1 = 62 by omega) with z | z | z
      · rw [z, if_pos (show sb8 60 = 60 by decide), if_pos rfl, decide_eq_true_iff]
      · rw [z, if_neg (by decide), if_neg (by decide), if_neg (by decide), if_pos rfl, decide_eq_true_iff]
      · rw [z, if_neg (by decide), if_pos (show sb8 62 = 62 by decide), if_neg (by decide), if_neg (by decide), decide_eq_true_iff]
    · rw [if_neg qd]
      refine Or.inl ⟨p2, rfl, l2, f1.trans (a2.trans (f2.trans (b2'.trans (fz l2 b1 (by decide) (fun i2 => ?_)))))⟩
      have pc2 : pc_ b n p2 = b p2 := if_pos i2
      rw [pc2] at qd
      obtain ⟨e2, h22⟩ := hx p2 i2
      obtain ⟨⟨w1, w2, w3, w4, w5⟩, w6, w7, w8, w9, w10, w11⟩ := sb_e _ h22
      rw [nx_2 (by rw [e2, w1]; exact fun y => n2 ⟨i2, y⟩), if_neg (by unfold tm_dig; rw [e2, w8]; exact qd)]
  · rw [if_neg qs]
    refine Or.inl ⟨p1, rfl, l1, f1.trans (a2.trans (fz l1 a1 (by decide) (fun i1 => ?_)))⟩
    have pc1 : pc_ b n p1 = b p1 := if_pos i1
    rw [pc1] at qs
    obtain ⟨e1, h21⟩ := hx p1 i1
    obtain ⟨⟨u1, u2, u3, u4, u5⟩, u6, u7, u8, u9, u10, u11⟩ := sb_e _ h21
    rw [nx_1 (by rw [e1, u1]; exact fun y => n1 ⟨i1, y⟩), if_neg (by rw [e1, u7]; exact qs)]
