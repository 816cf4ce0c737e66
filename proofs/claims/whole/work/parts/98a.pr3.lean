/-! pairs of calls: plans (3): mirror, stretch, why -/
/-- the numbers of a piece -/
theorem rP_n {I : xv_I} {np nm : Nat} {sz : Nat → Nat} (hP : rP I np nm sz) {p : Nat} (hp : p < np) : (0 ≤ (I 103 p).toInt ∧ (I 103 p).toInt ≤ 400) ∧ ((I 104 p).toInt = sz p ∧ 1 ≤ sz p ∧ sz p ≤ 200) ∧ (I 103 p + I 104 p).toInt = (I 103 p).toInt + sz p := by
  obtain ⟨⟨a, b⟩, c, d, e⟩ := hP.2.2.2.2.1 p hp
  have h : (I 104 p).toInt = sz p := by rw [c]; exact nI_toInt (by omega)
  refine ⟨⟨a, b⟩, ⟨h, d, e⟩, ?_⟩
  rw [za_add (by omega) (by omega), h]
theorem pl_thn_eq {I : xv_I} {np nm : Nat} {sz : Nat → Nat} (hP : rP I np nm sz) {p : Nat} (hp : p < np) {e : Int32} (he : e = 0 ∨ e = 1) (n b : Int32) : pl_thn (I 103) (I 104) p e n b = pl_aft (I 103) (I 104) p e n b := by
  obtain ⟨h1, h2, h3⟩ := rP_n hP hp
  rcases he with rfl | rfl
  · unfold pl_thn pl_aft
    rw [pl_end0]
    by_cases q : n ≤ I 103 p
    · rw [if_pos (Or.inl q), if_pos (Or.inl ⟨rfl, q⟩)]
    · rw [if_neg (fun z => z.elim q (fun y => absurd y.1 (by decide))), if_neg (fun z => z.elim (fun y => q y.2) (fun y => y.1 rfl))]
  · unfold pl_thn pl_aft
    rw [pl_end1]
    by_cases q : n < I 103 p + I 104 p
    · have c : n ≤ I 103 p ∨ ((1 : Int32) = 1 ∧ I 103 p < n ∧ n < I 103 p + I 104 p) := by
        by_cases q2 : n ≤ I 103 p
        · exact Or.inl q2
        · refine Or.inr ⟨rfl, ?_, q⟩
          simp only [xn_lt, xn_le] at q2 ⊢
          omega
      rw [if_pos c, if_pos (Or.inr ⟨by decide, q⟩)]
    · have c : ¬ (n ≤ I 103 p ∨ ((1 : Int32) = 1 ∧ I 103 p < n ∧ n < I 103 p + I 104 p)) := by
        rintro (z | ⟨-, -, z⟩)
        · simp only [xn_lt, xn_le, h3] at q z
          omega
        · exact q z
      rw [if_neg c, if_neg (fun z => z.elim (fun y => absurd y.1 (by decide)) (fun y => q y.2))]
theorem pm_cg {I I2 : xv_I} (h0 : I2 40 0 = I 40 0) (h52 : I2 52 = I 52) (h53 : I2 53 = I 53) (h55 : I2 55 = I 55) (h57 : I2 57 = I 57) (h58 : I2 58 = I 58) (h59 : I2 59 = I 59) (h60 : I2 60 = I 60) (np nm : Nat) (n b : Int32) : pm_w1 I2 np nm n b = pm_w1 I np nm n b := by
  have e1 : pm_fxa I2 n = pm_fxa I n := by funext p; unfold pm_fxa; rw [h55, h52, h53]
  have e2 : pm_brk I2 n b = pm_brk I n b := by funext k; unfold pm_brk pm_hld; rw [h52, h53, h57, h58, h59, h60]
  have e3 : pm_may I2 np n b = pm_may I np n b := by unfold pm_may pm_fit; rw [h0, h52, h53]
  unfold pm_w1 pm_w2 pm_w3
  rw [e1, e2, e3]
def bb_ (n b : Int32) : Prop := (0 ≤ n.toInt ∧ n.toInt ≤ 400) ∧ (1 ≤ b.toInt ∧ b.toInt ≤ 100)
theorem bb_of {n b : Int32} (h : (0 ≤ n ∧ n ≤ 400) ∧ (1 ≤ b ∧ b ≤ 100)) : bb_ n b := by
  simp only [xn_le, Int32.reduceToInt] at h
  exact h
/-- the numbers of a piece behind the stretch -/
theorem rP_s {I : xv_I} {np nm : Nat} {sz : Nat → Nat} (hP : rP I np nm sz) {p : Nat} (hp : p < np) {n b : Int32} (hb : bb_ n b) : (I 103 p + b).toInt = (I 103 p).toInt + b.toInt ∧ (I 104 p + b).toInt = sz p + b.toInt ∧ (I 103 p + I 104 p + b).toInt = (I 103 p).toInt + sz p + b.toInt ∧ pl_thn (I 103) (I 104) p 0 n b = (if n ≤ I 103 p then I 103 p + b else I 103 p) ∧ pl_thn (I 103) (I 104) p 1 n b = (if n < I 103 p + I 104 p then I 103 p + I 104 p + b else I 103 p + I 104 p) := by
  obtain ⟨h1, h2, h3⟩ := rP_n hP hp
  obtain ⟨hb1, hb2⟩ := hb
  refine ⟨by rw [za_add (by omega) (by omega)], by rw [za_add (by omega) (by omega), h2.1], by rw [za_add (by omega) (by omega), h3], ?_, ?_⟩
  · unfold pl_thn
    rw [pl_end0]
    by_cases q : n ≤ I 103 p
    · rw [if_pos (Or.inl q), if_pos q]
    · rw [if_neg (fun z => z.elim q (fun y => absurd y.1 (by decide))), if_neg q]
  · rw [pl_thn_eq hP hp (Or.inr rfl)]
    unfold pl_aft
    rw [pl_end1]
    by_cases q : n < I 103 p + I 104 p
    · rw [if_pos (Or.inr ⟨by decide, q⟩), if_pos q]
    · rw [if_neg (fun z => z.elim (fun y => absurd y.1 (by decide)) (fun y => q y.2)), if_neg q]
theorem pl_fit_eq {I : xv_I} {np nm : Nat} {sz : Nat → Nat} (hP : rP I np nm sz) {p : Nat} (hp : p < np) {n b : Int32} (hb : bb_ n b) : pm_fit I n b p ↔ ¬ pl_big I n b p := by
  obtain ⟨h1, h2, h3⟩ := rP_n hP hp
  obtain ⟨g1, g2, g3, g4, g5⟩ := rP_s hP hp hb
  have g6 := pl_thn_eq hP hp (e := 0) (Or.inl rfl) n b
  obtain ⟨e1, e2, -⟩ := hP.2.2.1
  unfold pm_fit pl_big
  rw [e1, e2, ← g6, g4, g5]
  obtain ⟨hb1, hb2⟩ := hb
  have z2 : (200 : Int32).toInt = 200 := by decide
  have z4 : (400 : Int32).toInt = 400 := by decide
  by_cases q : n ≤ I 103 p
  · have q2 : n < I 103 p + I 104 p := by simp only [xn_lt, xn_le, h3] at q ⊢; omega
    rw [if_pos q, if_pos q2]
    have s1 : (I 103 p + I 104 p + b - (I 103 p + b)).toInt = sz p := by rw [za_sub (by omega) (by omega), g3, g1]; omega
    simp only [xn_lt, xn_le, h3, g1, g2, s1, z2, z4] at q q2 ⊢
    omega
  · by_cases q2 : n < I 103 p + I 104 p
    · rw [if_neg q, if_pos q2]
      have s1 : (I 103 p + I 104 p + b - I 103 p).toInt = sz p + b.toInt := by rw [za_sub (by omega) (by omega), g3]; omega
      simp only [xn_lt, xn_le, h3, g1, g2, s1, z2, z4] at q q2 ⊢
      omega
    · rw [if_neg q, if_neg q2]
      have s1 : (I 103 p + I 104 p - I 103 p).toInt = sz p := by rw [za_sub (by omega) (by omega), h3]; omega
      simp only [xn_lt, xn_le, h3, g1, g2, s1, z2, z4] at q q2 ⊢
      omega
theorem pl_w_eq {I : xv_I} {np nm : Nat} {sz : Nat → Nat} (hP : rP I np nm sz) {n b : Int32} (hb : bb_ n b) : pm_w1 I np nm n b = pl_w1 I np nm n b := by
  obtain ⟨e1, e2, e3, e4, e5, e6, e7, e8⟩ := hP.2.2.1
  have h3 : pm_w3 I np n b = pl_w3 I np n b := by
    have e : pm_may I np n b ↔ ¬ pl_tm I np n b := by
      unfold pm_may pl_tm
      rw [hP.2.1.2.2.2.2]
      have hs := hP.2.2.2.1
      have hsb : (I 1 0 + b).toInt = (I 1 0).toInt + b.toInt := za_add (by have := hb.2; omega) (by have := hb.2; omega)
      have z4 : (400 : Int32).toInt = 400 := by decide
      have a1 : (I 1 0 < n ∨ I 1 0 + b ≤ 400) ↔ ¬ (n ≤ I 1 0 ∧ 400 < I 1 0 + b) := by
        simp only [xn_lt, xn_le, hsb, z4]
        omega
      have a2 : (∀ p, p < np → pm_fit I n b p) ↔ ¬ ∃ p, p < np ∧ pl_big I n b p :=
        ⟨fun h ⟨p, h1, h2⟩ => (pl_fit_eq hP h1 hb).mp (h p h1) h2, fun h p h1 => (pl_fit_eq hP h1 hb).mpr (fun h2 => h ⟨p, h1, h2⟩)⟩
      rw [a1, a2]
      constructor
      · rintro ⟨x1, x2⟩ (y | y)
        · exact x2 y
        · exact x1 y
      · intro h
        exact ⟨fun y => h (Or.inr y), fun y => h (Or.inl y)⟩
    unfold pm_w3 pl_w3
    by_cases q : pl_tm I np n b
    · rw [if_pos q, if_neg (fun z => e.mp z q)]
    · rw [if_neg q, if_pos (e.mpr q)]
  have h2 : pm_w2 I np nm n b = pl_w2 I np nm n b := by
    unfold pm_w2 pl_w2
    refine xfst_cong h3 nm 0 (fun k h4 h5 => ⟨?_, rfl⟩)
    obtain ⟨a, c, ha, hc, ea, ec, ee1, ee2⟩ := hP.2.2.2.2.2 k (by omega)
    have h12 := hP.1.1
    unfold pm_brk pl_brk pm_hld pl_hld
    rw [e1, e2, e5, e6, e7, e8, ea, ec, nI_clamp (by omega), nI_clamp (by omega), pl_thn_eq hP ha ee1, pl_thn_eq hP hc ee2]
  unfold pm_w1 pl_w1
  refine xfst_cong h2 np 0 (fun k h4 h5 => ⟨?_, rfl⟩)
  unfold pm_fxa pl_fxa
  rw [e1, e2, e4]
theorem xfst_nz {P : Nat → Prop} {f : Nat → Int32} {z : Int32} : ∀ (n i : Nat), (∀ k, i ≤ k → k < i + n → ¬ f k = 0) → xfst P f z n i = 0 → z = 0
  | 0, i, _, h => h
  | n + 1, i, hf, h => by
    by_cases hp : P i
    · rw [xfst_y hp] at h
      exact absurd h (hf i (by omega) (by omega))
    · rw [xfst_n hp] at h
      exact xfst_nz n (i + 1) (fun k h1 h2 => hf k (by omega) (by omega)) h
theorem nI_off {c : Int32} {k : Nat} (hc : 0 < c.toInt ∧ c.toInt < 1000) (hk : k < 100) : ¬ c + nI k = 0 := fun e => by
  have h := congrArg Int32.toInt e
  have hk2 : (nI k).toInt = (k : Int) := nI_toInt (by omega)
  rw [za_add (by omega) (by omega), hk2] at h
  have z : (0 : Int32).toInt = 0 := by decide
  rw [z] at h
  omega
theorem pl_w0 {I : xv_I} {np nm : Nat} {sz : Nat → Nat} (hP : rP I np nm sz) {n b : Int32} (h : pl_w1 I np nm n b = 0) : ¬ pl_tm I np n b := by
  have h12 := hP.1
  have h2 := xfst_nz np 0 (fun k _ hk => nI_off (by decide) (by omega)) h
  have h3 := xfst_nz nm 0 (fun k _ hk => nI_off (by decide) (by omega)) h2
  intro q
  unfold pl_w3 at h3
  rw [if_pos q] at h3
  exact absurd h3 (by decide)
theorem rk_7 {l : Launch} {D : va_G} : ∀ (G : xv_Gr) (I : xv_I) (J : xv_J) (x : Int32) (y : Int32), R_ G I J → PrI R_ l D mX10_why mX11_why [some (.ref 0), some (.int x), some (.int y)] [some (.ref 40), some (.int x), some (.int y)] G I J := by
  intro G I J x y hR Q1 hQ
  obtain ⟨np, nm, nl, nt, mo, on, sz, hG, hD, hP, hL, hC, hK, hRr, hN, hT⟩ := hR
  refine s10_why (d := 95) hG hP.2.1.1 hP.1.1 hP.2.1.2.2.1 hP.1.2 (fun k hk => by obtain ⟨a, b, h1, h2, h3, h4, -⟩ := hP.2.2.2.2.2 k hk; rw [h3, h4]; exact ⟨vp_in_nI (by have := hP.1.1; omega) (by decide), vp_in_nI (by have := hP.1.1; omega) (by decide)⟩) (fun h => ?_) (fun h => ?_)
  · exact hQ _ G I J hG (fun Q2 hQ2 => s11_why (d := 95) hG hP.2.1.2.1 hP.1.1 hP.2.1.2.2.2.1 hP.1.2 (fun k hk => by obtain ⟨a, b, h1, h2, h3, h4, -⟩ := hP.2.2.2.2.2 k hk; rw [hP.2.2.1.2.2.2.2.1, hP.2.2.1.2.2.2.2.2.2.1, h3, h4]; exact ⟨vp_in_nI (by have := hP.1.1; omega) (by decide), vp_in_nI (by have := hP.1.1; omega) (by decide)⟩) (fun _ => hQ2 G I J ⟨np, nm, nl, nt, mo, on, sz, hG, hD, hP, hL, hC, hK, hRr, hN, hT⟩) (fun g => absurd g h))
  · refine hQ _ G I J hG (fun Q2 hQ2 => s11_why (d := 95) hG hP.2.1.2.1 hP.1.1 hP.2.1.2.2.2.1 hP.1.2 (fun k hk => by obtain ⟨a, b, h1, h2, h3, h4, -⟩ := hP.2.2.2.2.2 k hk; rw [hP.2.2.1.2.2.2.2.1, hP.2.2.1.2.2.2.2.2.2.1, h3, h4]; exact ⟨vp_in_nI (by have := hP.1.1; omega) (by decide), vp_in_nI (by have := hP.1.1; omega) (by decide)⟩) (fun g => absurd h g) (fun _ => ?_))
    rw [pl_w_eq hP (bb_of h)]
    exact hQ2 G I J ⟨np, nm, nl, nt, mo, on, sz, hG, hD, hP, hL, hC, hK, hRr, hN, hT⟩

theorem xfl_at (I : xv_I) (a : Nat) (f : Nat → Int32) (i k : Nat) : xfl I a f i a k = if k < i then f k else I a k := by
  simp [xfl]
theorem one_sub {x : Int32} (h : x = 0 ∨ x = 1) : 1 - x = 0 ∨ 1 - x = 1 := by rcases h with rfl | rfl <;> decide
theorem rk_5 {l : Launch} {D : va_G} : ∀ (G : xv_Gr) (I : xv_I) (J : xv_J), R_ G I J → PrI R_ l D mX10_mirror mX11_mirror [some (.ref 0)] [some (.ref 40), none, none, none] G I J := by
  intro G I J  hR Q1 hQ
  obtain ⟨np, nm, nl, nt, mo, on, sz, hG, hD, hP, hL, hC, hK, hRr, hN, hT⟩ := hR
  have h12 := hP.1.1
  have hR : R_ G I J := ⟨np, nm, nl, nt, mo, on, sz, hG, hD, hP, hL, hC, hK, hRr, hN, hT⟩
  obtain ⟨e1, e2, e3, e4, e5, e6, e7, e8⟩ := hP.2.2.1
  have e0 := hP.2.1.2.2.2.2
  have hs := hP.2.2.2.1
  have key : (∀ p, p < np → ¬ (I 1 0 - (I 103 p + I 104 p) < 0)) ↔ (∀ p, p < np → I 52 p + I 53 p ≤ I 40 0) := by
    refine forall_congr' fun p => forall_congr' fun hp => ?_
    obtain ⟨n1, n2, n3⟩ := rP_n hP hp
    have s1 : (I 1 0 - (I 103 p + I 104 p)).toInt = (I 1 0).toInt - ((I 103 p).toInt + sz p) := by rw [za_sub (by omega) (by omega), n3]
    rw [e1, e2, e0]
    simp only [xn_lt, xn_le, s1, n3, Int32.reduceToInt]
    omega
  refine s10_mirror (d := 97) hG hP.2.1.1 h12 hP.2.1.2.2.1 hP.1.2 (fun h => ?_) (fun h => ?_)
  rotate_left
  · exact hQ _ G I J hG (fun Q2 hQ2 => s11_mirror (d := 98) hG hP.2.1.2.1 h12 hP.2.1.2.2.2.1 hP.1.2 (fun g => absurd (key.mpr g) h) (fun _ => hQ2 G I J hR))
  · have etr : pm_trn (xfl (xfl (xfl I 103 (pl_trn I) np) 108 (fun k => 1 - I 108 k) nm) 110 (fun k => 1 - I 110 k) nm) = pl_trn I := by
      funext p
      show I 40 0 - (I 52 p + I 53 p) = I 1 0 - (I 103 p + I 104 p)
      rw [e0, e1, e2]
    have ecn : (fun p => ¬ pm_trn (xfl (xfl (xfl I 103 (pl_trn I) np) 108 (fun k => 1 - I 108 k) nm) 110 (fun k => 1 - I 110 k) nm) p = (xfl (xfl (xfl I 103 (pl_trn I) np) 108 (fun k => 1 - I 108 k) nm) 110 (fun k => 1 - I 110 k) nm) 52 p) = (fun p => ¬ pl_trn I p = I 103 p) := by
      funext p
      rw [etr]
      show (¬ pl_trn I p = I 52 p) = _
      rw [e1]
    refine hQ _ G (xfl (xfl (xfl I 103 (pl_trn I) np) 108 (fun k => 1 - I 108 k) nm) 110 (fun k => 1 - I 110 k) nm) J hG (fun Q2 hQ2 => s11_mirror (d := 98) hG (I := (xfl (xfl (xfl I 103 (pl_trn I) np) 108 (fun k => 1 - I 108 k) nm) 110 (fun k => 1 - I 110 k) nm)) hP.2.1.2.1 h12 hP.2.1.2.2.2.1 hP.1.2 (fun _ => ?_) (fun g => absurd (key.mp h) g))
    rw [ecn]
    have hP2 : rP (xfl (xfl (xfl (xfl (xfl (xfl I 103 (pl_trn I) np) 108 (fun k => 1 - I 108 k) nm) 110 (fun k => 1 - I 110 k) nm) 52 (pm_trn (xfl (xfl (xfl I 103 (pl_trn I) np) 108 (fun k => 1 - I 108 k) nm) 110 (fun k => 1 - I 110 k) nm)) np) 58 (fun k => 1 - (xfl (xfl (xfl I 103 (pl_trn I) np) 108 (fun k => 1 - I 108 k) nm) 110 (fun k => 1 - I 110 k) nm) 58 k) nm) 60 (fun k => 1 - (xfl (xfl (xfl I 103 (pl_trn I) np) 108 (fun k => 1 - I 108 k) nm) 110 (fun k => 1 - I 110 k) nm) 60 k) nm) np nm sz := by
      refine ⟨hP.1, ⟨hP.2.1.1, hP.2.1.2.1, hP.2.1.2.2.1, hP.2.1.2.2.2.1, e0⟩, ⟨?_, e2, e3, e4, e5, ?_, e7, ?_⟩, hs, fun p hp => ?_, fun k hk => ?_⟩
      · funext k
        show xfl _ 52 (pm_trn (xfl (xfl (xfl I 103 (pl_trn I) np) 108 (fun k => 1 - I 108 k) nm) 110 (fun k => 1 - I 110 k) nm)) np 52 k = xfl I 103 (pl_trn I) np 103 k
        rw [xfl_at, xfl_at, etr]
        show (if k < np then _ else I 52 k) = _
        rw [e1]
      · funext k
        simp [xfl, e6]
      · funext k
        simp [xfl, e8]
      · obtain ⟨n1, n2, n3⟩ := rP_n hP hp
        have g := hP.2.2.2.2.1 p hp
        have q := h p hp
        have s1 : (I 1 0 - (I 103 p + I 104 p)).toInt = (I 1 0).toInt - ((I 103 p).toInt + sz p) := by rw [za_sub (by omega) (by omega), n3]
        simp only [xn_lt, s1, Int32.reduceToInt] at q
        refine ⟨?_, g.2⟩
        have e : (xfl (xfl (xfl (xfl (xfl (xfl I 103 (pl_trn I) np) 108 (fun k => 1 - I 108 k) nm) 110 (fun k => 1 - I 110 k) nm) 52 (pm_trn (xfl (xfl (xfl I 103 (pl_trn I) np) 108 (fun k => 1 - I 108 k) nm) 110 (fun k => 1 - I 110 k) nm)) np) 58 (fun k => 1 - (xfl (xfl (xfl I 103 (pl_trn I) np) 108 (fun k => 1 - I 108 k) nm) 110 (fun k => 1 - I 110 k) nm) 58 k) nm) 60 (fun k => 1 - (xfl (xfl (xfl I 103 (pl_trn I) np) 108 (fun k => 1 - I 108 k) nm) 110 (fun k => 1 - I 110 k) nm) 60 k) nm) 103 p = I 1 0 - (I 103 p + I 104 p) := by
          show xfl I 103 (pl_trn I) np 103 p = _
          rw [xfl_at, if_pos hp]
          rfl
        rw [e, s1]
        omega
      · obtain ⟨a, b, g1, g2, g3, g4, g5, g6⟩ := hP.2.2.2.2.2 k hk
        refine ⟨a, b, g1, g2, g3, g4, ?_, ?_⟩
        · have e : (xfl (xfl (xfl (xfl (xfl (xfl I 103 (pl_trn I) np) 108 (fun k => 1 - I 108 k) nm) 110 (fun k => 1 - I 110 k) nm) 52 (pm_trn (xfl (xfl (xfl I 103 (pl_trn I) np) 108 (fun k => 1 - I 108 k) nm) 110 (fun k => 1 - I 110 k) nm)) np) 58 (fun k => 1 - (xfl (xfl (xfl I 103 (pl_trn I) np) 108 (fun k => 1 - I 108 k) nm) 110 (fun k => 1 - I 110 k) nm) 58 k) nm) 60 (fun k => 1 - (xfl (xfl (xfl I 103 (pl_trn I) np) 108 (fun k => 1 - I 108 k) nm) 110 (fun k => 1 - I 110 k) nm) 60 k) nm) 108 k = 1 - I 108 k := by simp [xfl, hk]
          rw [e]; exact one_sub g5
        · have e : (xfl (xfl (xfl (xfl (xfl (xfl I 103 (pl_trn I) np) 108 (fun k => 1 - I 108 k) nm) 110 (fun k => 1 - I 110 k) nm) 52 (pm_trn (xfl (xfl (xfl I 103 (pl_trn I) np) 108 (fun k => 1 - I 108 k) nm) 110 (fun k => 1 - I 110 k) nm)) np) 58 (fun k => 1 - (xfl (xfl (xfl I 103 (pl_trn I) np) 108 (fun k => 1 - I 108 k) nm) 110 (fun k => 1 - I 110 k) nm) 58 k) nm) 60 (fun k => 1 - (xfl (xfl (xfl I 103 (pl_trn I) np) 108 (fun k => 1 - I 108 k) nm) 110 (fun k => 1 - I 110 k) nm) 60 k) nm) 110 k = 1 - I 110 k := by simp [xfl, hk]
          rw [e]; exact one_sub g6
    exact hQ2 _ _ _ ⟨np, nm, nl, nt, mo, on, sz, hG, hD, hP2, (rL_fr hL (by rw [xfl_ne (by decide), xfl_ne (by decide), xfl_ne (by decide), xfl_ne (by decide), xfl_ne (by decide), xfl_ne (by decide)]) (by rw [xfl_ne (by decide), xfl_ne (by decide), xfl_ne (by decide), xfl_ne (by decide), xfl_ne (by decide), xfl_ne (by decide)])), (rC_fr hC (fun b hb => by rw [xfl_ne (mne hb (by decide)), xfl_ne (mne hb (by decide)), xfl_ne (mne hb (by decide)), xfl_ne (mne hb (by decide)), xfl_ne (mne hb (by decide)), xfl_ne (mne hb (by decide))]) (by rw [xfl_ne (by decide), xfl_ne (by decide), xfl_ne (by decide), xfl_ne (by decide), xfl_ne (by decide), xfl_ne (by decide)]) rfl), (rK_fr hK (fun b hb => by rw [xfl_ne (mne hb (by decide)), xfl_ne (mne hb (by decide)), xfl_ne (mne hb (by decide)), xfl_ne (mne hb (by decide)), xfl_ne (mne hb (by decide)), xfl_ne (mne hb (by decide))])), (rR_fr hRr (fun b hb => by rw [xfl_ne (mne hb (by decide)), xfl_ne (mne hb (by decide)), xfl_ne (mne hb (by decide)), xfl_ne (mne hb (by decide)), xfl_ne (mne hb (by decide)), xfl_ne (mne hb (by decide))]) (fun j hj => by rw [xfl_ne (by decide), xfl_ne (by decide), xfl_ne (by decide), xfl_ne (by decide), xfl_ne (by decide), xfl_ne (by decide)]) (fun b hb => rfl)), (rN_fr hN (fun j hj => by rw [xfl_ne (by decide), xfl_ne (by decide), xfl_ne (by decide), xfl_ne (by decide), xfl_ne (by decide), xfl_ne (by decide)]) (fun j hj => by rw [xfl_ne (by decide), xfl_ne (by decide), xfl_ne (by decide), xfl_ne (by decide), xfl_ne (by decide), xfl_ne (by decide)]) (fun b hb => by rw [xfl_ne (mne hb (by decide)), xfl_ne (mne hb (by decide)), xfl_ne (mne hb (by decide)), xfl_ne (mne hb (by decide)), xfl_ne (mne hb (by decide)), xfl_ne (mne hb (by decide))]) (fun b h1 h2 => by rw [xfl_ne (by omega), xfl_ne (by omega), xfl_ne (by omega), xfl_ne (by omega), xfl_ne (by omega), xfl_ne (by omega)]) (fun b hb => rfl) (fun b h1 h2 => rfl)), (rT_fr hT (by rw [xfl_ne (by decide), xfl_ne (by decide), xfl_ne (by decide), xfl_ne (by decide), xfl_ne (by decide), xfl_ne (by decide)]) (by rw [xfl_ne (by decide), xfl_ne (by decide), xfl_ne (by decide), xfl_ne (by decide), xfl_ne (by decide), xfl_ne (by decide)]) (fun b hb => by rw [xfl_ne (mne hb (by decide)), xfl_ne (mne hb (by decide)), xfl_ne (mne hb (by decide)), xfl_ne (mne hb (by decide)), xfl_ne (mne hb (by decide)), xfl_ne (mne hb (by decide))]) (fun b h1 h2 => by rw [xfl_ne (by omega), xfl_ne (by omega), xfl_ne (by omega), xfl_ne (by omega), xfl_ne (by omega), xfl_ne (by omega)]))⟩
