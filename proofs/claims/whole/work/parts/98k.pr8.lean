/-! pairs of calls: causes, cause -/
/-- what the class finds and what the model finds -/
theorem few_eq {I I2 : xv_I} {J : xv_J} {n su bd : Nat} {hs hv : Nat → Nat} (n40 : n ≤ 40) (su1 : su ≤ 100) (h51 : I 5 1 = nI su) (hvb : ∀ c, c < 16 → J 166 c = lN (hv c) ∧ ∀ r, (hv c).testBit r = true ↔ (r < n ∧ (hs r).testBit c = true)) (hbd : J 5 5 = lN bd ∧ ∀ r, bd.testBit r = true ↔ (r < n ∧ ¬ I 76 r = 0)) (hw : few (cv_ I J hv bd) bd I2) : (bst (bc_C I hs n (ml_ (lk_P I hs n su) 16)) 65536 = none ∧ I2 5 3 = -900009) ∨ ∃ S w m, bst (bc_C I hs n (ml_ (lk_P I hs n su) 16)) 65536 = some S ∧ S < 65536 ∧ m ≤ 16 ∧ xpc S 16 = m ∧ I2 5 3 = nI m ∧ els S w ∧ w.length = m ∧ ∀ j, j < m → I2 164 j = nI (w.getD j 0) := by
  have hlk : ∀ c, c < 16 → (su_P I J c ↔ lk_P I hs n su c) := fun c hc => rr_lk n40 su1 h51 hvb hbd hc
  have hcv : ∀ c, c < 16 → ∀ r, ((cv_ I J hv bd c).testBit r = true ↔ (lk_P I hs n su c ∧ r < n ∧ (hs r).testBit c = true ∧ ¬ I 76 r = 0)) := fun c hc r => by
    unfold cv_
    by_cases q : su_P I J c
    · rw [if_pos q, Nat.testBit_and, Bool.and_eq_true, (hvb c hc).2, hbd.2]
      exact ⟨fun ⟨⟨a, b⟩, _, d⟩ => ⟨(hlk c hc).mp q, a, b, d⟩, fun ⟨_, a, b, d⟩ => ⟨⟨a, b⟩, a, d⟩⟩
    · rw [if_neg q, Nat.zero_testBit]
      exact ⟨fun z => absurd z (by decide), fun z => absurd ((hlk c hc).mpr z.1) q⟩
  have hmm : ∀ T, T < 65536 → (xdf T (ml_ (lk_P I hs n su) 16) = 0 ↔ ∀ c, T.testBit c = true → lk_P I hs n su c) := fun T hT => by
    constructor
    · intro h c hc
      exact ((ml_b 16).mp (sb_df h c hc)).2
    · intro h
      apply Nat.eq_of_testBit_eq
      intro c
      rw [xdf_bit, Nat.zero_testBit]
      cases e : T.testBit c with
      | false => rfl
      | true =>
        rw [(ml_b 16).mpr ⟨tb_lt (n := 16) hT e, h c e⟩]
        rfl
  have hea : ∀ T, T < 65536 → (∀ c, T.testBit c = true → lk_P I hs n su c) → (ea_P I hs T n ↔ orc (cv_ I J hv bd) T 16 = bd) := fun T hT hl => by
    constructor
    · intro h
      apply Nat.eq_of_testBit_eq
      intro r
      rw [Bool.eq_iff_iff, orc_b, hbd.2]
      constructor
      · rintro ⟨i, i1, i2, i3⟩
        have := (hcv i i1 r).mp i3
        exact ⟨this.2.1, this.2.2.2⟩
      · rintro ⟨r1, r2⟩
        obtain ⟨c, c1, -⟩ := sb_ex (sb_z (hs r &&& T)) (h r r1 r2)
        rw [Nat.testBit_and, Bool.and_eq_true] at c1
        have c16 := tb_lt (n := 16) hT c1.2
        exact ⟨c, c16, c1.2, (hcv c c16 r).mpr ⟨hl c c1.2, r1, c1.1, r2⟩⟩
    · intro h r r1 r2 z
      have q := (hbd.2 r).mpr ⟨r1, r2⟩
      rw [← h, orc_b] at q
      obtain ⟨i, i1, i2, i3⟩ := q
      have g := ((hcv i i1 r).mp i3).2.2.1
      have : (hs r &&& T).testBit i = true := by rw [Nat.testBit_and, g, i2]; rfl
      rw [z, Nat.zero_testBit] at this
      cases this
  have hB := bst_rep (I := I) (hs := hs) (n := n) (mm := ml_ (lk_P I hs n su) 16) 65536 (Nat.le_refl _)
  have mk : ∀ T, T < 65536 → (xdf T (ml_ (lk_P I hs n su) 16) = 0 ∧ ea_P I hs T n) → cvr (cv_ I J hv bd) bd (xpc T 16) 0 0 T := fun T hT h => ⟨hT, fun i hi => absurd hi (by omega), rfl, by rw [Nat.zero_or]; exact (hea T hT ((hmm T hT).mp h.1)).mp h.2⟩
  rcases hw with ⟨h1, h2⟩ | ⟨m, w, m16, h1, h2, h3, h4⟩
  · left
    refine ⟨bsR_un hB (Or.inl ⟨rfl, fun T hT hF => ?_⟩), h2⟩
    exact (fs_sp (xpc T 16) 0 0).1 (h1 _ (xpc_le _ _)) T (mk T hT hF)
  · right
    obtain ⟨l1, S, s1, s2, s3⟩ := (fs_sp m 0 0).2 w h2
    have hor := s1.2.2.2
    rw [Nat.zero_or] at hor
    have hlS : ∀ c, S.testBit c = true → lk_P I hs n su c := fun c hc => by
      apply Classical.byContradiction
      intro q
      have c16 := tb_lt (n := 16) s1.1 hc
      have hn : (xdf S (2 ^ c)).testBit c = false := by rw [xdf_bit, Nat.testBit_two_pow]; simp
      have hS : S = xdf S (2 ^ c) ||| 2 ^ c := Nat.eq_of_testBit_eq fun i => by
        rw [Nat.testBit_or, xdf_bit, Nat.testBit_two_pow]
        by_cases e : c = i
        · subst e; rw [hc]; simp
        · simp [e]
      have hx := xpc_or hn 16
      rw [← hS, if_pos c16, s1.2.2.1] at hx
      have h0 : cv_ I J hv bd c = 0 := Nat.eq_of_testBit_eq fun r => by
        rw [Nat.zero_testBit]
        cases e : (cv_ I J hv bd c).testBit r with
        | false => rfl
        | true => exact absurd ((hcv c c16 r).mp e).1 q
      have ho := orc_or (cv := cv_ I J hv bd) (S := xdf S (2 ^ c)) c16
      rw [← hS, hor, h0, Nat.zero_or] at ho
      exact (fs_sp (xpc (xdf S (2 ^ c)) 16) 0 0).1 (h1 _ (by omega)) _ ⟨Nat.lt_of_le_of_lt (xdf_le _ _) s1.1, fun i hi => absurd hi (by omega), rfl, by rw [Nat.zero_or]; exact ho.symm⟩
    have hFS : xdf S (ml_ (lk_P I hs n su) 16) = 0 ∧ ea_P I hs S n := ⟨(hmm S s1.1).mpr hlS, (hea S s1.1 hlS).mpr hor⟩
    refine ⟨S, w, m, bsR_un hB (Or.inr ⟨S, rfl, s1.1, hFS, fun T hT hF => ?_⟩), s1.1, m16, s1.2.2.1, h3, s2, l1, h4⟩
    have c := mk T hT hF
    dsimp only
    rw [s1.2.2.1]
    rcases Nat.lt_trichotomy (xpc T 16) m with q | q | q
    · exact absurd c ((fs_sp (xpc T 16) 0 0).1 (h1 _ q) T)
    · refine Or.inr ⟨q.symm, ?_⟩
      rw [q] at c
      rcases s3 T c with y | y
      · exact Or.inl y.symm
      · exact Or.inr y
    · exact Or.inl q
theorem cz_at {S j : Nat} (hS : S < 65536) {w : List Nat} (hw : els S w) (hl : w.length = xpc S 16) (hj : j < xpc S 16) : xfst (cz_P S j) (fun c => nI c) (-900009) 16 0 = nI (w.getD j 0) := by
  have ex : ∀ k, k ≤ 16 → j < xpc S k → ∃ c, c < k ∧ cz_P S j c := fun k => by
    induction k with
    | zero => intro _ h; exact absurd h (by rw [xpc]; omega)
    | succ k ih =>
      intro hk h
      rw [xpc_s] at h
      by_cases q : j < xpc S k
      · obtain ⟨c, c1, c2⟩ := ih (by omega) q
        exact ⟨c, by omega, c2⟩
      · cases e : S.testBit k with
        | true =>
          rw [e] at h
          simp only [if_true] at h
          exact ⟨k, by omega, e, by omega⟩
        | false =>
          rw [e] at h
          simp only [Bool.false_eq_true, if_false] at h
          omega
  obtain ⟨c, c1, c2⟩ := ex 16 (Nat.le_refl _) hj
  have gen : ∀ n i, i + n = 16 → (∃ c, i ≤ c ∧ c < 16 ∧ cz_P S j c) → ∃ c, cz_P S j c ∧ xfst (cz_P S j) (fun c => nI c) (-900009) n i = nI c := fun n => by
    induction n with
    | zero => rintro i hi ⟨c, h1, h2, -⟩; omega
    | succ n ih =>
      rintro i hi ⟨c, h1, h2, h3⟩
      by_cases q : cz_P S j i
      · exact ⟨i, q, xfst_y q⟩
      · rw [xfst_n q]
        have : ¬ c = i := fun e => q (e ▸ h3)
        exact ih (i + 1) (by omega) ⟨c, by omega, h2, h3⟩
  obtain ⟨c3, d1, d2⟩ := gen 16 0 (by omega) ⟨c, by omega, c1, c2⟩
  rw [d2]
  have g := hw c3 d1.1
  rw [d1.2] at g
  rw [List.getD_eq_getElem?_getD, g]
  rfl
theorem cz_no {S j : Nat} (hj : xpc S 16 ≤ j) : xfst (cz_P S j) (fun c => nI c) (-900009) 16 0 = -900009 := by
  have gen : ∀ n i, i + n = 16 → xfst (cz_P S j) (fun c => nI c) (-900009) n i = -900009 := fun n => by
    induction n with
    | zero => intro i _; rfl
    | succ n ih =>
      intro i hi
      have q : ¬ cz_P S j i := fun z => by
        have a := xpc_ad S (i + 1) n
        rw [show i + 1 + n = 16 by omega] at a
        have b := xpc_s S i
        rw [z.1, z.2] at b
        simp only [if_true] at b
        omega
      rw [xfst_n q]
      exact ih (i + 1) (by omega)
  exact gen 16 0 (by omega)
theorem rk_26 {l : Launch} {D : va_G} : ∀ (G : xv_Gr) (I : xv_I) (J : xv_J), R_ G I J → PrI R_ l D mX10_causes mX11_causes [some (.ref 0)] [some (.ref 40), none] G I J := by
  intro G I J  hR Q1 hQ
  obtain ⟨np, nm, nl, nt, mo, on, sz, hG, hD, hP, hL, hC, hK, hRr, hN, hT⟩ := hR
  obtain ⟨n, su, bd, hs, hv, n40, su1, hc, hh, hvb, hbd, h168, hfw⟩ := hRr
  have hR : R_ G I J := ⟨np, nm, nl, nt, mo, on, sz, hG, hD, hP, hL, hC, hK, ⟨n, su, bd, hs, hv, n40, su1, hc, hh, hvb, hbd, h168, hfw⟩, hN, hT⟩
  have hb4 : bd < 2 ^ 40 := rr_lt hbd.2 n40
  refine s10_causes (d := 80) hG (hv := hv) (bd := bd) (fun i hi => (hvb i hi).1) hbd.1 hb4 h168 hfw (fun I2 J2 g1 g2 g3 g4 g5 hw => ?_)
  have e51 : I2 5 1 = I 5 1 := g2 1 (by decide) (by decide)
  have e166 : J2 166 = J 166 := g4 166 (by decide) (by decide)
  have e5 : J2 5 = J 5 := g4 5 (by decide) (by decide)
  have hR2 : rR I2 J2 := ⟨n, su, bd, hs, hv, n40, su1, ⟨(g2 0 (by decide) (by decide)).trans hc.1, (congrFun (g1 40 (by decide) (by decide)) 24).trans hc.2.1, e51.trans hc.2.2.1, (congrFun (g1 40 (by decide) (by decide)) 27).trans hc.2.2.2⟩, by rw [g1 75 (by decide) (by decide)]; exact hh, by rw [e166]; exact hvb, by rw [e5, g1 76 (by decide) (by decide)]; exact hbd, g5, fun _ => by rw [cv_cg e51 e166 e5]; exact hw⟩
  have hRn : R_ G I2 J2 := ⟨np, nm, nl, nt, mo, on, sz, hG, hD, (rP_fr hP (fun b hb => by rw [g1 b (mne hb (by decide)) (mne hb (by decide))]) (fun j hj => by rw [g1 40 (by decide) (by decide)])), (rL_fr hL (by rw [g1 120 (by decide) (by decide)]) (by rw [g1 61 (by decide) (by decide)])), (rC_fr hC (fun b hb => by rw [g1 b (mne hb (by decide)) (mne hb (by decide))]) (by rw [g1 40 (by decide) (by decide)]) (by rw [g4 141 (by decide) (by decide)])), (rK_fr hK (fun b hb => by rw [g1 b (mne hb (by decide)) (mne hb (by decide))])), hR2, (rN_fr hN (fun j hj => by rw [g1 6 (by decide) (by decide)]) (fun j hj => by rw [g1 40 (by decide) (by decide)]) (fun b hb => by rw [g1 b (mne hb (by decide)) (mne hb (by decide))]) (fun b h1 h2 => by rw [g1 b (by omega) (by omega)]) (fun b hb => by rw [g4 b (mne hb (by decide)) (mne hb (by decide))]) (fun b h1 h2 => by rw [g4 b (by omega) (by omega)])), (rT_fr hT (by rw [g1 6 (by decide) (by decide)]) (by rw [g1 40 (by decide) (by decide)]) (fun b hb => by rw [g1 b (mne hb (by decide)) (mne hb (by decide))]) (fun b h1 h2 => by rw [g1 b (by omega) (by omega)]))⟩
  have hB := few_eq n40 su1 hc.2.2.1 hvb hbd hw
  have eb : bc_C I2 hs n (ml_ (lk_P I2 hs n su) 16) = bc_C I hs n (ml_ (lk_P I hs n su) 16) := by
    have e76 : I2 76 = I 76 := g1 76 (by decide) (by decide)
    have x1 : ex_P I2 hs = ex_P I hs := by funext c f r; unfold ex_P; rw [e76]
    have x2 : lk_P I2 hs n su = lk_P I hs n su := by funext c; unfold lk_P; rw [x1]
    have x3 : ea_P I2 hs = ea_P I hs := by funext S i; unfold ea_P; rw [e76]
    funext k b
    unfold bc_C
    rw [x2, x3]
  have m1 : I2 40 24 = nI n := (congrFun (g1 40 (by decide) (by decide)) 24).trans hc.2.1
  have m2 : ∀ r, r < n → I2 75 r = nI (hs r) ∧ hs r < 65536 := by rw [g1 75 (by decide) (by decide)]; exact hh
  have m3 : I2 40 27 = nI su := (congrFun (g1 40 (by decide) (by decide)) 27).trans hc.2.2.2
  refine hQ _ G I2 J2 hG (fun Q2 hQ2 => s11_causes (d := 96) hG m1 n40 m2 m3 su1 (fun e => ?_) (fun b e => ?_))
  · rw [eb] at e
    rcases hB with ⟨k1, k2⟩ | ⟨S, w, m, k1, k2⟩
    · rw [k2] at hQ2
      exact hQ2 G I2 J2 hRn
    · rw [e] at k1; cases k1
  · rw [eb] at e
    rcases hB with ⟨k1, k2⟩ | ⟨S, w, m, k1, k2, k3, k4, k5, k6⟩
    · rw [e] at k1; cases k1
    · rw [e] at k1
      cases k1
      rw [k5] at hQ2
      rw [k4]
      exact hQ2 G I2 J2 hRn

theorem rk_27 {l : Launch} {D : va_G} : ∀ (G : xv_Gr) (I : xv_I) (J : xv_J) (x : Int32), R_ G I J → PrI R_ l D mX10_cause mX11_cause [some (.ref 0), some (.int x)] [some (.ref 40), some (.int x), none, none, none] G I J := by
  intro G I J x hR Q1 hQ
  obtain ⟨np, nm, nl, nt, mo, on, sz, hG, hD, hP, hL, hC, hK, hRr, hN, hT⟩ := hR
  obtain ⟨n, su, bd, hs, hv, n40, su1, hc, hh, hvb, hbd, h168, hfw⟩ := hRr
  have hR : R_ G I J := ⟨np, nm, nl, nt, mo, on, sz, hG, hD, hP, hL, hC, hK, ⟨n, su, bd, hs, hv, n40, su1, hc, hh, hvb, hbd, h168, hfw⟩, hN, hT⟩
  have hb4 : bd < 2 ^ 40 := rr_lt hbd.2 n40
  refine s10_cause (d := 80) hG (hv := hv) (bd := bd) (fun i hi => (hvb i hi).1) hbd.1 hb4 h168 (x := x) hfw (fun I2 J2 g1 g2 g3 g4 g5 hw => ?_)
  have e51 : I2 5 1 = I 5 1 := g2 1 (by decide) (by decide)
  have e166 : J2 166 = J 166 := g4 166 (by decide) (by decide)
  have e5 : J2 5 = J 5 := g4 5 (by decide) (by decide)
  have hR2 : rR I2 J2 := ⟨n, su, bd, hs, hv, n40, su1, ⟨(g2 0 (by decide) (by decide)).trans hc.1, (congrFun (g1 40 (by decide) (by decide)) 24).trans hc.2.1, e51.trans hc.2.2.1, (congrFun (g1 40 (by decide) (by decide)) 27).trans hc.2.2.2⟩, by rw [g1 75 (by decide) (by decide)]; exact hh, by rw [e166]; exact hvb, by rw [e5, g1 76 (by decide) (by decide)]; exact hbd, g5, fun _ => by rw [cv_cg e51 e166 e5]; exact hw⟩
  have hRn : R_ G I2 J2 := ⟨np, nm, nl, nt, mo, on, sz, hG, hD, (rP_fr hP (fun b hb => by rw [g1 b (mne hb (by decide)) (mne hb (by decide))]) (fun j hj => by rw [g1 40 (by decide) (by decide)])), (rL_fr hL (by rw [g1 120 (by decide) (by decide)]) (by rw [g1 61 (by decide) (by decide)])), (rC_fr hC (fun b hb => by rw [g1 b (mne hb (by decide)) (mne hb (by decide))]) (by rw [g1 40 (by decide) (by decide)]) (by rw [g4 141 (by decide) (by decide)])), (rK_fr hK (fun b hb => by rw [g1 b (mne hb (by decide)) (mne hb (by decide))])), hR2, (rN_fr hN (fun j hj => by rw [g1 6 (by decide) (by decide)]) (fun j hj => by rw [g1 40 (by decide) (by decide)]) (fun b hb => by rw [g1 b (mne hb (by decide)) (mne hb (by decide))]) (fun b h1 h2 => by rw [g1 b (by omega) (by omega)]) (fun b hb => by rw [g4 b (mne hb (by decide)) (mne hb (by decide))]) (fun b h1 h2 => by rw [g4 b (by omega) (by omega)])), (rT_fr hT (by rw [g1 6 (by decide) (by decide)]) (by rw [g1 40 (by decide) (by decide)]) (fun b hb => by rw [g1 b (mne hb (by decide)) (mne hb (by decide))]) (fun b h1 h2 => by rw [g1 b (by omega) (by omega)]))⟩
  have hB := few_eq n40 su1 hc.2.2.1 hvb hbd hw
  have eb : bc_C I2 hs n (ml_ (lk_P I2 hs n su) 16) = bc_C I hs n (ml_ (lk_P I hs n su) 16) := by
    have e76 : I2 76 = I 76 := g1 76 (by decide) (by decide)
    have x1 : ex_P I2 hs = ex_P I hs := by funext c f r; unfold ex_P; rw [e76]
    have x2 : lk_P I2 hs n su = lk_P I hs n su := by funext c; unfold lk_P; rw [x1]
    have x3 : ea_P I2 hs = ea_P I hs := by funext S i; unfold ea_P; rw [e76]
    funext k b
    unfold bc_C
    rw [x2, x3]
  have m1 : I2 40 24 = nI n := (congrFun (g1 40 (by decide) (by decide)) 24).trans hc.2.1
  have m2 : ∀ r, r < n → I2 75 r = nI (hs r) ∧ hs r < 65536 := by rw [g1 75 (by decide) (by decide)]; exact hh
  have m3 : I2 40 27 = nI su := (congrFun (g1 40 (by decide) (by decide)) 27).trans hc.2.2.2
  refine ⟨fun hx => ?_, fun j hj hx hlt => ?_⟩
  · refine hQ _ G I2 J2 hG (fun Q2 hQ2 => s11_cause (d := 96) hG m1 n40 m2 m3 su1 (fun e => hQ2 G I2 J2 hRn) (fun b e h0 => hQ2 G I2 J2 hRn) (fun S e j hj hxj => ?_))
    rw [eb] at e
    rcases hB with ⟨k1, k2⟩ | ⟨S2, w, m, k1, k2, k3, k4, k5, k6⟩
    · rw [e] at k1; cases k1
    · rw [e] at k1
      cases k1
      rw [cz_no (by
        rw [k4]
        rw [hxj, k5] at hx
        rcases Nat.lt_or_ge j m with q | q
        · exact absurd ⟨nI_pos' hj, (nI_ltI hj (by omega)).mpr q⟩ hx
        · exact q)]
      exact hQ2 G I2 J2 hRn
  · refine hQ _ G I2 J2 hG (fun Q2 hQ2 => s11_cause (d := 96) hG m1 n40 m2 m3 su1 (fun e => ?_) (fun b e h0 => ?_) (fun S e i hi hxi => ?_))
    · rw [eb] at e
      rcases hB with ⟨k1, k2⟩ | ⟨S, w, m, k1, k2⟩
      · rw [hx, k2] at hlt
        exact absurd hlt (by rw [xn_lt, nI_toInt (by omega)]; have z : ((-900009 : Int32)).toInt = -900009 := by decide
                             rw [z]; omega)
      · rw [e] at k1; cases k1
    · rw [hx] at h0
      exact absurd h0 (nI_pos (by omega))
    · rw [eb] at e
      rcases hB with ⟨k1, k2⟩ | ⟨S2, w, m, k1, k2, k3, k4, k5, k6, k7, k8⟩
      · rw [e] at k1; cases k1
      · rw [e] at k1
        cases k1
        have ei : i = j := (nI_eq hi (by omega)).mp (hxi.symm.trans hx)
        subst ei
        rw [hx, k5] at hlt
        have hm := (nI_ltI hi (by omega)).mp hlt
        rw [cz_at k2 k6 (by rw [k7, k4]) (by rw [k4]; exact hm), ← k8 i hm]
        exact hQ2 G I2 J2 hRn
