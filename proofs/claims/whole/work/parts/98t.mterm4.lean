/-! terms in math (4): both readings beside each other -/
/-- what the reading from some place on gives -/
def rs_r (t : Nat → Int32) (vl : Int32 → Int64) (dg n : Nat) (R : Option (Option Nat × List Bool)) (fw : Int32) : Prop := (∃ q ts, R = some (some q, ts) ∧ q ≤ n ∧ fw = nI q) ∨ (∃ v, R = some (none, [v]) ∧ fw = -900009 ∧ ((∀ j, j ≤ n → (tm_st t dg j).1 ≠ 5) → (vd_is (vs_st t vl n n) ↔ v = true)))
theorem rd_T {b : Nat → Nat} {n : Nat} {val : Nat → Int64} {f a : Nat} {ops : List Nat} {trs : List Bool} {dep : Nat} : rd_ b n val (f + 1) a ops trs dep true = if pc_ b n (sp_ b n a) = 33 ∨ pc_ b n (sp_ b n a) = 40 then rd_ b n val f (sp_ b n a + 1) (pc_ b n (sp_ b n a) :: ops) trs (if pc_ b n (sp_ b n a) = 40 then dep + 1 else dep) true else (match tk_ b n val (sp_ b n a) with
        | (none, q) => some (some q, trs)
        | (some v, q) => rd_ b n val f q ops (v :: trs) dep false) := by
  rw [rd_]
  rfl
theorem rd_F {b : Nat → Nat} {n : Nat} {val : Nat → Int64} {f a : Nat} {ops : List Nat} {trs : List Bool} {dep : Nat} : rd_ b n val (f + 1) a ops trs dep false = if pc_ b n (sp_ b n a) = 0 then
      if 0 < dep then some (some (sp_ b n a), trs) else (match cl_o 1 ops trs with
        | none => none
        | some r => some (none, r.2))
    else if pc_ b n (sp_ b n a) = 41 ∧ 0 < dep then (match cl_o 1 ops trs with
        | none => none
        | some ([], _) => none
        | some (_ :: os, ts) => rd_ b n val f (sp_ b n a + 1) os ts (dep - 1) false)
    else if pc_ b n (sp_ b n a) = 38 ∨ pc_ b n (sp_ b n a) = 124 then (match cl_o (bi_ (pc_ b n (sp_ b n a))) ops trs with
        | none => none
        | some r => rd_ b n val f (sp_ b n a + 1) (pc_ b n (sp_ b n a) :: r.1) r.2 dep true)
    else some (some (sp_ b n a), trs) := by
  rw [rd_]
  rfl
theorem sim {t : Nat → Int32} {b : Nat → Nat} {dg n : Nat} (hx : tx_ t b n) (hz : ∀ i, i < n → b i ≠ 0) {val : Nat → Int64} {vl : Int32 → Int64} (hv : ∀ c v, c < 256 → lt_ c = some v → vl (sb8 c) = val v) : ∀ (f a : Nat) (x : Nat × Option Bool × Option Bool) (r : List (Nat × Option Bool × Option Bool)) (g : Nat), a ≤ n → n - a < f → (tm_st t dg a = (0, r.length, g) → ((∀ j, j ≤ n → (tm_st t dg j).1 ≠ 5) → Vr (vs_st t vl n a) (lv_c x :: r.map lv_c)) → rs_r t vl dg n (rd_ b n val f a (Lo x r) (Lt x r) r.length true) (FW t dg n a)) ∧ (∀ tt w, ((w = 3 ∧ (g = 5 ∨ ¬ (a < n ∧ 48 ≤ b a ∧ b a ≤ 57))) ∨ w = 4) → tm_st t dg a = (w, r.length, g) → ((∀ j, j ≤ n → (tm_st t dg j).1 ≠ 5) → Vr (vs_st t vl n a) (lv_d x tt :: r.map lv_c)) → rs_r t vl dg n (rd_ b n val f a (Lo x r) (tt :: Lt x r) r.length false) (FW t dg n a))
  | 0, a, x, r, g, ha, hf => absurd hf (by omega)
  | f + 1, a, x, r, g, ha, hf => by
    refine ⟨fun hs hV => ?_, fun tt w hw hs hV => ?_⟩
    · obtain ⟨a1, a2, a3, _⟩ := blk (dg := dg) hx _ a 0 r.length g rfl hs (by decide) (by decide)
      have ns := sp_ns (b := b) _ a (rfl : n - a = n - a)
      have le := sp_le (b := b) ha
      have ge := sp_gi b n a
      rw [rd_T, a2]
      generalize sp_ b n a = p at *
      by_cases q : pc_ b n p = 33 ∨ pc_ b n p = 40
      · rw [if_pos q]
        have ip := pc_in (show pc_ b n p ≠ 0 by omega)
        have pcp : pc_ b n p = b p := if_pos ip
        rw [pcp] at q ⊢
        obtain ⟨e, h2⟩ := hx p ip
        obtain ⟨⟨q1, q2, q3, q4, q5⟩, q6, q7, q8, q9, q10, q11⟩ := sb_e _ h2
        rcases q with q | q
        · have es : tm_st t dg (p + 1) = (0, r.length, g) := by
            rw [tm_st, a1, nx_0 (by rw [e, q1]; omega), if_pos (by rw [e, q2]; exact q)]
          have fw : FW t dg n p = FW t dg n (p + 1) := FW_s ip (by rw [es]; exact (show ¬ (0 : Nat) = 5 by decide))
          rw [fw, if_neg (by omega), q]
          have eo : 33 :: Lo x r = Lo (x.1 + 1, x.2) r ∧ Lt x r = Lt (x.1 + 1, x.2) r := by
            rw [(Lo_e x r).1, (Lo_e _ r).1, (Lo_e x r).2.1, (Lo_e _ r).2.1]
            exact ⟨by simp [lv_o, List.replicate_succ], rfl⟩
          rw [eo.1, eo.2]
          refine (sim hx hz hv f (p + 1) (x.1 + 1, x.2) r g ip (by omega)).1 es (fun ff => ?_)
          rw [vs_st, vs_s, if_pos (by rw [e, q2]; exact q), a3]
          exact Vr_neg (hV ff)
        · have es : tm_st t dg (p + 1) = (0, (x :: r).length, g) := by
            rw [tm_st, a1, nx_0 (by rw [e, q1]; omega), if_neg (by rw [e, q2]; omega), if_pos (by rw [e, q3]; exact q)]
            rfl
          have fw : FW t dg n p = FW t dg n (p + 1) := FW_s ip (by rw [es]; exact (show ¬ (0 : Nat) = 5 by decide))
          rw [fw, if_pos q, q]
          refine (sim hx hz hv f (p + 1) (0, none, none) (x :: r) g ip (by omega)).1 es (fun ff => ?_)
          rw [vs_st, vs_s, if_neg (by rw [e, q2]; omega), if_neg (by rw [e, q5]; omega), if_pos (by rw [e, q3]; exact q), a3]
          exact Vr_ent (hV ff)
      · rw [if_neg q]
        cases hl : lt_ (pc_ b n p) with
        | none =>
          have ht : tk_ b n val p = (none, p) := by rw [tk_, hl]
          rw [ht]
          refine Or.inl ⟨p, _, rfl, le, fz le a1 (by decide) (fun ip => ?_)⟩
          have pcp : pc_ b n p = b p := if_pos ip
          rw [pcp] at q hl
          obtain ⟨e, h2⟩ := hx p ip
          obtain ⟨⟨q1, q2, q3, q4, q5⟩, q6, q7, q8, q9, q10, q11⟩ := sb_e _ h2
          rw [nx_0 (by rw [e, q1]; exact fun y => ns ⟨ip, y⟩), if_neg (by rw [e, q2]; omega), if_neg (by rw [e, q3]; omega), if_neg (by unfold tm_let; rw [e, q9, hl]; simp)]
        | some v =>
          have ip := pc_in (lt_n hl).1
          have pcp : pc_ b n p = b p := if_pos ip
          rw [pcp] at hl
          rcases ask (dg := dg) hx hv ip hl a1 with ⟨q, k1, k2, k3⟩ | ⟨cv, q, g2, k1, k2, k3, k4, k5, k6, k7⟩
          · rw [k1]
            exact Or.inl ⟨q, _, rfl, k2, k3⟩
          · rw [k1, k4]
            refine (sim hx hz hv f q x r g2 k3 (by omega)).2 cv 3 (Or.inl ⟨rfl, k6⟩) k5 (fun ff => ?_)
            obtain ⟨P, m1, m2⟩ := k7 ff
            rw [m2, a3]
            exact Vr_tak m1 (hV ff)
    · obtain ⟨w2, c1, a1, a2, a3, _⟩ := blk3 (dg := dg) hx hs (show w = 3 ∨ w = 4 by rcases hw with hw | hw; exact Or.inl hw.1; exact Or.inr hw)
      have hw3 : w2 = 4 ∨ (w2 = 3 ∧ (g = 5 ∨ ¬ (sp_ b n a < n ∧ 48 ≤ b (sp_ b n a) ∧ b (sp_ b n a) ≤ 57))) := by
        rcases c1 with c1 | ⟨c1, c2⟩
        · exact Or.inl c1
        · rcases hw with hw | hw
          · rw [c2]; exact Or.inr ⟨c1.trans hw.1, hw.2⟩
          · exact Or.inl (c1.trans hw)
      have ns := sp_ns (b := b) _ a (rfl : n - a = n - a)
      have le := sp_le (b := b) ha
      have ge := sp_gi b n a
      obtain ⟨lo1, lo2, lo3⟩ := Lo_e x r
      rw [rd_F, a2]
      clear c1 hw hs a2
      generalize sp_ b n a = p at *
      by_cases z0 : pc_ b n p = 0
      · rw [if_pos z0]
        have en : p = n := by
          by_cases ip : p < n
          · exact absurd ((if_pos ip).symm.trans z0) (hz p ip)
          · omega
        subst en
        by_cases hr : 0 < r.length
        · rw [if_pos hr]
          refine Or.inl ⟨p, _, rfl, le, ?_⟩
          rw [FW_n, a1, if_neg (fun y => by have y1 : r.length = 0 := y.1; omega)]
        · rw [if_neg hr]
          have er : r = [] := by cases r with
            | nil => rfl
            | cons _ _ => exact absurd (Nat.succ_pos _) hr
          subst er
          rw [lo1, lo2, cl_1 lo3]
          refine Or.inr ⟨_, rfl, ?_, fun ff => ?_⟩
          · rw [FW_n, a1, if_pos ⟨rfl, by rcases hw3 with h | h; exact Or.inr h; exact Or.inl h.1⟩]
          · rw [a3]
            exact Vr_is (hV ff)
      · rw [if_neg z0]
        have ip := pc_in z0
        have pcp : pc_ b n p = b p := if_pos ip
        rw [pcp] at z0 ⊢
        obtain ⟨e, h2⟩ := hx p ip
        obtain ⟨⟨q1, q2, q3, q4, q5⟩, q6, q7, q8, q9, q10, q11⟩ := sb_e _ h2
        have n32 : ¬ t p = 32 := by rw [e, q1]; exact fun y => ns ⟨ip, y⟩
        have nx : ¬ (48 ≤ b p ∧ b p ≤ 57) → tm_st t dg (p + 1) = @ite (Nat × Nat × Nat) (t p = 38 ∨ t p = 124) (Classical.propDecidable _) (0, r.length, g) (@ite _ (t p = 41 ∧ 0 < r.length) (Classical.propDecidable _) (4, r.length - 1, g) (5, r.length, g)) := fun nd => by
          rw [tm_st, a1]
          rcases hw3 with h | ⟨h, _⟩
          · rw [h, nx_4 n32]
          · rw [h, nx_3 n32, if_neg (by unfold tm_dig; rw [e, q8]; exact nd)]
        by_cases z1 : b p = 41 ∧ 0 < r.length
        · rw [if_pos z1]
          cases r with
          | nil => exact absurd z1.2 (Nat.lt_irrefl 0)
          | cons y r =>
            have es : tm_st t dg (p + 1) = (4, r.length, g) := by
              rw [nx (by omega), if_neg (by rw [e, q6]; omega), if_pos ⟨by rw [e, q4]; exact z1.1, z1.2⟩]
              rfl
            have fw : FW t dg n p = FW t dg n (p + 1) := FW_s ip (by rw [es]; exact (show ¬ (4 : Nat) = 5 by decide))
            rw [lo1, lo2, cl_1 lo3, fw]
            refine (sim hx hz hv f (p + 1) y r g ip (by omega)).2 _ 4 (Or.inr rfl) es (fun ff => ?_)
            rw [vs_st, vs_s, if_neg (by rw [e, q2]; omega), if_neg (by rw [e, q5]; omega), if_neg (by rw [e, q3]; omega), if_pos (by rw [e, q4]; exact z1.1), a3]
            exact Vr_lea (hV ff)
        · rw [if_neg z1]
          by_cases z2 : b p = 38 ∨ b p = 124
          · rw [if_pos z2]
            have es : tm_st t dg (p + 1) = (0, r.length, g) := by
              rw [nx (by omega), if_pos (by rw [e, q6]; exact z2)]
            have fw : FW t dg n p = FW t dg n (p + 1) := FW_s ip (by rw [es]; exact (show ¬ (0 : Nat) = 5 by decide))
            rw [fw]
            rcases z2 with z2 | z2
            · rw [z2, show bi_ 38 = 2 from rfl, lo1, lo2, cl_2 lo3]
              have eo : 38 :: (lv_o (0, none, x.2.2) ++ Lx r) = Lo (0, some (lv_n x tt), x.2.2) r ∧ lv_n x tt :: (x.2.2.toList ++ Ly r) = Lt (0, some (lv_n x tt), x.2.2) r := by
                rw [(Lo_e _ r).1, (Lo_e _ r).2.1]
                exact ⟨by simp [lv_o], by simp [lv_t]⟩
              dsimp only
              rw [eo.1, eo.2]
              refine (sim hx hz hv f (p + 1) (0, some (lv_n x tt), x.2.2) r g ip (by omega)).1 es (fun ff => ?_)
              rw [vs_id (by rw [e, q2]; omega) (by rw [e, q5]; omega) (by rw [e, q3]; omega) (by rw [e, q4]; omega) (by unfold tm_let; rw [e, q9, z2]; decide), a3]
              exact hV ff
            · rw [z2, show bi_ 124 = 1 from rfl, lo1, lo2, cl_1 lo3]
              have eo : 124 :: Lx r = Lo (0, none, some (x.2.2.getD false || lv_n x tt)) r ∧ (x.2.2.getD false || lv_n x tt) :: Ly r = Lt (0, none, some (x.2.2.getD false || lv_n x tt)) r := by
                rw [(Lo_e _ r).1, (Lo_e _ r).2.1]
                exact ⟨by simp [lv_o], by simp [lv_t]⟩
              dsimp only
              rw [eo.1, eo.2]
              refine (sim hx hz hv f (p + 1) (0, none, some (x.2.2.getD false || lv_n x tt)) r g ip (by omega)).1 es (fun ff => ?_)
              rw [vs_st, vs_s, if_neg (by rw [e, q2]; omega), if_pos (by rw [e, q5]; exact z2), a3]
              exact Vr_all (hV ff)
          · rw [if_neg z2]
            refine Or.inl ⟨p, _, rfl, le, FW_e ip ?_⟩
            by_cases nd : 48 ≤ b p ∧ b p ≤ 57
            · rcases hw3 with h | ⟨h, hg⟩
              · rw [tm_st, a1, h, nx_4 n32, if_neg (by rw [e, q6]; exact z2), if_neg (by rw [e, q4]; exact z1)]
              · have g5 : g = 5 := by
                  rcases hg with hg | hg
                  · exact hg
                  · exact absurd ⟨ip, nd⟩ hg
                rw [tm_st, a1, h, nx_3 n32, if_pos (by unfold tm_dig; rw [e, q8]; exact nd), g5]
                rfl
            · rw [nx nd, if_neg (by rw [e, q6]; exact z2), if_neg (by rw [e, q4]; exact z1)]
