/-! pairs of calls: stretch; sort, saw, car, sure -/
def acr (I : xv_I) (n : Int32) (p : Nat) : Prop := I 103 p < n ∧ n < I 103 p + I 104 p
theorem pl_ps {I : xv_I} {np nm : Nat} {sz : Nat → Nat} (hP : rP I np nm sz) {p : Nat} (hp : p < np) {n b : Int32} (hb : bb_ n b) : pl_thn (I 103) (I 104) p 0 n b = pl_plf I n b p ∧ pl_thn (I 103) (I 104) p 1 n b - pl_thn (I 103) (I 104) p 0 n b = pl_psz I n b p ∧ (I 104 p < pl_psz I n b p ↔ acr I n p) := by
  obtain ⟨h1, h2, h3⟩ := rP_n hP hp
  obtain ⟨g1, g2, g3, g4, g5⟩ := rP_s hP hp hb
  obtain ⟨hb1, hb2⟩ := hb
  have sub : ∀ {x y z : Int32}, x.toInt - y.toInt = z.toInt → x - y = z := fun {x y z} h => by
    rw [xn_eq, za_sub (by have := z.le_toInt; omega) (by have := z.toInt_lt; omega)]
    exact h
  rw [g4, g5]
  unfold pl_plf pl_psz acr
  by_cases q : n ≤ I 103 p
  · have q2 : n < I 103 p + I 104 p := by simp only [xn_lt, xn_le, h3] at q ⊢; omega
    have q3 : ¬ (I 103 p < n ∧ n < I 103 p + I 104 p) := fun z => by
      have z1 := z.1
      simp only [xn_lt, xn_le] at q z1
      omega
    rw [if_pos q, if_pos q2, if_pos ⟨q3, q⟩, if_neg q3]
    refine ⟨rfl, sub (by rw [g3, g1, h2.1]; omega), ?_⟩
    constructor
    · intro z; exact absurd z (by simp only [xn_lt]; omega)
    · intro z; exact absurd z q3
  · have qn : ¬ (¬ (I 103 p < n ∧ n < I 103 p + I 104 p) ∧ n ≤ I 103 p) := fun z => q z.2
    by_cases q2 : n < I 103 p + I 104 p
    · have q3 : I 103 p < n ∧ n < I 103 p + I 104 p := ⟨by simp only [xn_lt, xn_le] at q ⊢; omega, q2⟩
      rw [if_neg q, if_pos q2, if_neg qn, if_pos q3]
      refine ⟨rfl, sub (by rw [g3, g2]; omega), ?_⟩
      constructor
      · intro _; exact q3
      · intro _; simp only [xn_lt, g2, h2.1]; omega
    · have q3 : ¬ (I 103 p < n ∧ n < I 103 p + I 104 p) := fun z => q2 z.2
      rw [if_neg q, if_neg q2, if_neg qn, if_neg q3]
      refine ⟨rfl, sub (by rw [h3, h2.1]; omega), ?_⟩
      constructor
      · intro z; exact absurd z (by simp only [xn_lt]; omega)
      · intro z; exact absurd z q3
theorem xfl_cg {I I2 : xv_I} {a a2 : Nat} {f f2 : Nat → Int32} {n : Nat} (h : I a = I2 a2) (hf : ∀ k, k < n → f k = f2 k) : xfl I a f n a = xfl I2 a2 f2 n a2 := by
  funext k
  rw [xfl_at, xfl_at, h]
  by_cases q : k < n
  · rw [if_pos q, if_pos q, hf k q]
  · rw [if_neg q, if_neg q]
theorem rk_6 {l : Launch} {D : va_G} : ∀ (G : xv_Gr) (I : xv_I) (J : xv_J) (x : Int32) (y : Int32), R_ G I J → PrI R_ l D mX10_stretch mX11_stretch [some (.ref 0), some (.int x), some (.int y)] [some (.ref 40), some (.int x), some (.int y), none, none, none, none] G I J := by
  intro G I J x y hR Q1 hQ
  obtain ⟨np, nm, nl, nt, mo, on, sz, hG, hD, hP, hL, hC, hK, hRr, hN, hT⟩ := hR
  have h12 := hP.1.1
  have hR : R_ G I J := ⟨np, nm, nl, nt, mo, on, sz, hG, hD, hP, hL, hC, hK, hRr, hN, hT⟩
  refine s10_stretch (d := 95) hG hP.2.1.1 h12 hP.2.1.2.2.1 hP.1.2 (fun k hk => by obtain ⟨a, b, h1, h2, h3, h4, -⟩ := hP.2.2.2.2.2 k hk; rw [h3, h4]; exact ⟨vp_in_nI (by have := hP.1.1; omega) (by decide), vp_in_nI (by have := hP.1.1; omega) (by decide)⟩) (fun h => ?_) (fun h h2 => ?_) (fun h h2 => ?_)
  · exact hQ _ G I J hG (fun Q2 hQ2 => s11_stretch (d := 95) hG hP.2.1.2.1 h12 hP.2.1.2.2.2.1 hP.1.2 (fun k hk => by obtain ⟨a, b, h1, h2, h3, h4, -⟩ := hP.2.2.2.2.2 k hk; rw [hP.2.2.1.2.2.2.2.1, hP.2.2.1.2.2.2.2.2.2.1, h3, h4]; exact ⟨vp_in_nI (by have := hP.1.1; omega) (by decide), vp_in_nI (by have := hP.1.1; omega) (by decide)⟩) (fun _ => hQ2 G I J hR) (fun g _ => absurd g h) (fun g _ => absurd g h))
  · exact hQ _ G I J hG (fun Q2 hQ2 => s11_stretch (d := 95) hG hP.2.1.2.1 h12 hP.2.1.2.2.2.1 hP.1.2 (fun k hk => by obtain ⟨a, b, h1, h2, h3, h4, -⟩ := hP.2.2.2.2.2 k hk; rw [hP.2.2.1.2.2.2.2.1, hP.2.2.1.2.2.2.2.2.2.1, h3, h4]; exact ⟨vp_in_nI (by have := hP.1.1; omega) (by decide), vp_in_nI (by have := hP.1.1; omega) (by decide)⟩) (fun g => absurd h g) (fun _ _ => hQ2 G I J hR) (fun _ g => absurd ((pl_w_eq hP (bb_of h)).symm.trans g) h2))
  · have hb := bb_of h
    obtain ⟨e1, e2, e3, e4, e5, e6, e7, e8⟩ := hP.2.2.1
    have e0 := hP.2.1.2.2.2.2
    have hw : pm_w1 (xv_ui (xfl (xfl (xv_ui (xv_ui I 3 3 1) 4 1 1) 104 (pl_psz I x y) np) 103 (pl_plf I x y) np) 1 0 (pl_psp I x y)) np nm x y = 0 := (pm_cg rfl rfl rfl rfl rfl rfl rfl rfl np nm x y).trans ((pl_w_eq hP hb).trans h2)
    have hps : ∀ p, p < np → pm_plf (xv_ui (xfl (xfl (xv_ui (xv_ui I 3 3 1) 4 1 1) 104 (pl_psz I x y) np) 103 (pl_plf I x y) np) 1 0 (pl_psp I x y)) x y p = pl_plf I x y p ∧ pm_psz (xv_ui (xfl (xfl (xv_ui (xv_ui I 3 3 1) 4 1 1) 104 (pl_psz I x y) np) 103 (pl_plf I x y) np) 1 0 (pl_psp I x y)) x y p = pl_psz I x y p ∧ ((xv_ui (xfl (xfl (xv_ui (xv_ui I 3 3 1) 4 1 1) 104 (pl_psz I x y) np) 103 (pl_plf I x y) np) 1 0 (pl_psp I x y)) 53 p < pm_psz (xv_ui (xfl (xfl (xv_ui (xv_ui I 3 3 1) 4 1 1) 104 (pl_psz I x y) np) 103 (pl_plf I x y) np) 1 0 (pl_psp I x y)) x y p ↔ acr I x p) := fun p hp => by
      have g := pl_ps hP hp hb
      have f1 : pm_plf (xv_ui (xfl (xfl (xv_ui (xv_ui I 3 3 1) 4 1 1) 104 (pl_psz I x y) np) 103 (pl_plf I x y) np) 1 0 (pl_psp I x y)) x y p = pl_plf I x y p := by
        show pl_thn (I 52) (I 53) p 0 x y = _
        rw [e1, e2]; exact g.1
      have f2 : pm_psz (xv_ui (xfl (xfl (xv_ui (xv_ui I 3 3 1) 4 1 1) 104 (pl_psz I x y) np) 103 (pl_plf I x y) np) 1 0 (pl_psp I x y)) x y p = pl_psz I x y p := by
        show pl_thn (I 52) (I 53) p 1 x y - pl_thn (I 52) (I 53) p 0 x y = _
        rw [e1, e2]; exact g.2.1
      refine ⟨f1, f2, ?_⟩
      rw [f2]
      show (I 53 p < _) ↔ _
      rw [e2]
      exact g.2.2
    refine hQ _ G (xv_ui (xfl (xfl (xv_ui (xv_ui I 3 3 1) 4 1 1) 104 (pl_psz I x y) np) 103 (pl_plf I x y) np) 1 0 (pl_psp I x y)) J hG (fun Q2 hQ2 => s11_stretch (d := 95) hG (I := (xv_ui (xfl (xfl (xv_ui (xv_ui I 3 3 1) 4 1 1) 104 (pl_psz I x y) np) 103 (pl_plf I x y) np) 1 0 (pl_psp I x y))) hP.2.1.2.1 h12 hP.2.1.2.2.2.1 hP.1.2 (fun k hk => by obtain ⟨a, b, h1, h2, h3, h4, -⟩ := hP.2.2.2.2.2 k hk; show vp_in (I 57 k) 12 ∧ vp_in (I 59 k) 12; rw [hP.2.2.1.2.2.2.2.1, hP.2.2.1.2.2.2.2.2.2.1, h3, h4]; exact ⟨vp_in_nI (by have := hP.1.1; omega) (by decide), vp_in_nI (by have := hP.1.1; omega) (by decide)⟩) (fun g => absurd h g) (fun _ g => absurd hw g) (fun _ _ => ?_))
    rw [xcn_cong (P := fun p => (xv_ui (xfl (xfl (xv_ui (xv_ui I 3 3 1) 4 1 1) 104 (pl_psz I x y) np) 103 (pl_plf I x y) np) 1 0 (pl_psp I x y)) 53 p < pm_psz (xv_ui (xfl (xfl (xv_ui (xv_ui I 3 3 1) 4 1 1) 104 (pl_psz I x y) np) 103 (pl_plf I x y) np) 1 0 (pl_psp I x y)) x y p) (P2 := fun p => I 103 p < x ∧ x < I 103 p + I 104 p) np (fun k hk => (hps k hk).2.2)]
    have hnt := pl_w0 hP h2
    have hs := hP.2.2.2.1
    obtain ⟨hb1, hb2⟩ := hb
    have hsb : (I 1 0 + y).toInt = (I 1 0).toInt + y.toInt := za_add (by omega) (by omega)
    have esp : pm_psp (xv_ui (xfl (xfl (xv_ui (xv_ui I 3 3 1) 4 1 1) 104 (pl_psz I x y) np) 103 (pl_plf I x y) np) 1 0 (pl_psp I x y)) x y = pl_psp I x y := by
      show I 40 0 + @ite Int32 (x ≤ I 40 0) (Classical.propDecidable _) y 0 = _
      rw [e0]
      unfold pl_psp
      by_cases q : x ≤ I 1 0
      · rw [if_pos q, if_pos q]
      · rw [if_neg q, if_neg q, Int32.add_zero]
    obtain ⟨y1, y2⟩ := nI_cl (x := y) (by omega)
    have hP2 : rP (xv_ui (xfl (xfl (xv_ui (xfl (xfl (xv_ui (xv_ui I 3 3 1) 4 1 1) 104 (pl_psz I x y) np) 103 (pl_plf I x y) np) 1 0 (pl_psp I x y)) 52 (pm_plf (xv_ui (xfl (xfl (xv_ui (xv_ui I 3 3 1) 4 1 1) 104 (pl_psz I x y) np) 103 (pl_plf I x y) np) 1 0 (pl_psp I x y)) x y) np) 53 (pm_psz (xv_ui (xfl (xfl (xv_ui (xv_ui I 3 3 1) 4 1 1) 104 (pl_psz I x y) np) 103 (pl_plf I x y) np) 1 0 (pl_psp I x y)) x y) np) 40 0 (pm_psp (xv_ui (xfl (xfl (xv_ui (xv_ui I 3 3 1) 4 1 1) 104 (pl_psz I x y) np) 103 (pl_plf I x y) np) 1 0 (pl_psp I x y)) x y)) np nm (fun p => @ite Nat (acr I x p) (Classical.propDecidable _) (sz p + y.toNatClampNeg) (sz p)) := by
      refine ⟨hP.1, ⟨hP.2.1.1, hP.2.1.2.1, hP.2.1.2.2.1, hP.2.1.2.2.2.1, esp⟩, ⟨?_, ?_, e3, e4, e5, e6, e7, e8⟩, ?_, fun p hp => ?_, hP.2.2.2.2.2⟩
      · show xfl (xv_ui (xfl (xfl (xv_ui (xv_ui I 3 3 1) 4 1 1) 104 (pl_psz I x y) np) 103 (pl_plf I x y) np) 1 0 (pl_psp I x y)) 52 (pm_plf (xv_ui (xfl (xfl (xv_ui (xv_ui I 3 3 1) 4 1 1) 104 (pl_psz I x y) np) 103 (pl_plf I x y) np) 1 0 (pl_psp I x y)) x y) np 52 = xfl (xfl (xv_ui (xv_ui I 3 3 1) 4 1 1) 104 (pl_psz I x y) np) 103 (pl_plf I x y) np 103
        exact xfl_cg e1 (fun k hk => (hps k hk).1)
      · show xfl (xfl (xv_ui (xfl (xfl (xv_ui (xv_ui I 3 3 1) 4 1 1) 104 (pl_psz I x y) np) 103 (pl_plf I x y) np) 1 0 (pl_psp I x y)) 52 (pm_plf (xv_ui (xfl (xfl (xv_ui (xv_ui I 3 3 1) 4 1 1) 104 (pl_psz I x y) np) 103 (pl_plf I x y) np) 1 0 (pl_psp I x y)) x y) np) 53 (pm_psz (xv_ui (xfl (xfl (xv_ui (xv_ui I 3 3 1) 4 1 1) 104 (pl_psz I x y) np) 103 (pl_plf I x y) np) 1 0 (pl_psp I x y)) x y) np 53 = xfl (xv_ui (xv_ui I 3 3 1) 4 1 1) 104 (pl_psz I x y) np 104
        exact xfl_cg e2 (fun k hk => (hps k hk).2.1)
      · show 1 ≤ (pl_psp I x y).toInt ∧ (pl_psp I x y).toInt ≤ 400
        unfold pl_psp
        by_cases q : x ≤ I 1 0
        · rw [if_pos q, hsb]
          have g : ¬ 400 < I 1 0 + y := fun z => hnt (Or.inr ⟨q, z⟩)
          simp only [xn_lt, hsb, Int32.reduceToInt] at g
          omega
        · rw [if_neg q]; exact hs
      · obtain ⟨n1, n2, n3⟩ := rP_n hP hp
        obtain ⟨g1, g2, g3, g4, g5⟩ := rP_s hP hp ⟨hb1, hb2⟩
        have gb : ¬ pl_big I x y p := fun z => hnt (Or.inl ⟨p, hp, z⟩)
        have gr := (pl_ps hP hp ⟨hb1, hb2⟩).1
        have f3 : (xv_ui (xfl (xfl (xv_ui (xfl (xfl (xv_ui (xv_ui I 3 3 1) 4 1 1) 104 (pl_psz I x y) np) 103 (pl_plf I x y) np) 1 0 (pl_psp I x y)) 52 (pm_plf (xv_ui (xfl (xfl (xv_ui (xv_ui I 3 3 1) 4 1 1) 104 (pl_psz I x y) np) 103 (pl_plf I x y) np) 1 0 (pl_psp I x y)) x y) np) 53 (pm_psz (xv_ui (xfl (xfl (xv_ui (xv_ui I 3 3 1) 4 1 1) 104 (pl_psz I x y) np) 103 (pl_plf I x y) np) 1 0 (pl_psp I x y)) x y) np) 40 0 (pm_psp (xv_ui (xfl (xfl (xv_ui (xv_ui I 3 3 1) 4 1 1) 104 (pl_psz I x y) np) 103 (pl_plf I x y) np) 1 0 (pl_psp I x y)) x y)) 103 p = pl_plf I x y p := by
          show xfl (xfl (xv_ui (xv_ui I 3 3 1) 4 1 1) 104 (pl_psz I x y) np) 103 (pl_plf I x y) np 103 p = _
          rw [xfl_at, if_pos hp]
        have f4 : (xv_ui (xfl (xfl (xv_ui (xfl (xfl (xv_ui (xv_ui I 3 3 1) 4 1 1) 104 (pl_psz I x y) np) 103 (pl_plf I x y) np) 1 0 (pl_psp I x y)) 52 (pm_plf (xv_ui (xfl (xfl (xv_ui (xv_ui I 3 3 1) 4 1 1) 104 (pl_psz I x y) np) 103 (pl_plf I x y) np) 1 0 (pl_psp I x y)) x y) np) 53 (pm_psz (xv_ui (xfl (xfl (xv_ui (xv_ui I 3 3 1) 4 1 1) 104 (pl_psz I x y) np) 103 (pl_plf I x y) np) 1 0 (pl_psp I x y)) x y) np) 40 0 (pm_psp (xv_ui (xfl (xfl (xv_ui (xv_ui I 3 3 1) 4 1 1) 104 (pl_psz I x y) np) 103 (pl_plf I x y) np) 1 0 (pl_psp I x y)) x y)) 104 p = pl_psz I x y p := by
          show xfl (xv_ui (xv_ui I 3 3 1) 4 1 1) 104 (pl_psz I x y) np 104 p = _
          rw [xfl_at, if_pos hp]
        rw [f3, f4]
        refine ⟨?_, ?_⟩
        · have gl : ¬ 400 < pl_aft (I 103) (I 104) p 0 x y := fun z => gb (Or.inr z)
          rw [← pl_thn_eq hP hp (Or.inl rfl), gr] at gl
          have gl2 : (pl_plf I x y p).toInt ≤ 400 := by
            simp only [xn_lt, Int32.reduceToInt] at gl
            omega
          refine ⟨?_, gl2⟩
          rw [← gr, g4]
          split
          · rw [g1]; omega
          · exact n1.1
        · unfold pl_psz
          by_cases q : I 103 p < x ∧ x < I 103 p + I 104 p
          · have q' : acr I x p := q
            have gc : ¬ 200 < I 104 p + y := fun z => gb (Or.inl ⟨q, z⟩)
            simp only [xn_lt, g2, Int32.reduceToInt] at gc
            rw [if_pos q]
            simp only [if_pos q']
            refine ⟨?_, by omega, by omega⟩
            rw [(hP.2.2.2.2.1 p hp).2.1]
            conv => lhs; rw [y1]
            rw [nI_add]
          · have q' : ¬ acr I x p := q
            rw [if_neg q]
            simp only [if_neg q']
            exact (hP.2.2.2.2.1 p hp).2
    have hC2 : rC (xv_ui (xfl (xfl (xv_ui (xfl (xfl (xv_ui (xv_ui I 3 3 1) 4 1 1) 104 (pl_psz I x y) np) 103 (pl_plf I x y) np) 1 0 (pl_psp I x y)) 52 (pm_plf (xv_ui (xfl (xfl (xv_ui (xv_ui I 3 3 1) 4 1 1) 104 (pl_psz I x y) np) 103 (pl_plf I x y) np) 1 0 (pl_psp I x y)) x y) np) 53 (pm_psz (xv_ui (xfl (xfl (xv_ui (xv_ui I 3 3 1) 4 1 1) 104 (pl_psz I x y) np) 103 (pl_plf I x y) np) 1 0 (pl_psp I x y)) x y) np) 40 0 (pm_psp (xv_ui (xfl (xfl (xv_ui (xv_ui I 3 3 1) 4 1 1) 104 (pl_psz I x y) np) 103 (pl_plf I x y) np) 1 0 (pl_psp I x y)) x y)) J np (fun p => @ite Nat (acr I x p) (Classical.propDecidable _) (sz p + y.toNatClampNeg) (sz p)) := rC_st hC (fun j hj => by rw [xv_ui_a (by decide), xfl_ne (by decide), xfl_ne (by decide), xv_ui_a (by decide), xfl_ne (by decide), xfl_ne (by decide), xv_ui_a (by decide), xv_ui_o hj]) rfl (fun b hb => by rw [xv_ui_ne (mne hb (by decide)), xfl_ne (mne hb (by decide)), xfl_ne (mne hb (by decide)), xv_ui_ne (mne hb (by decide)), xfl_ne (mne hb (by decide)), xfl_ne (mne hb (by decide)), xv_ui_ne (mne hb (by decide)), xv_ui_ne (mne hb (by decide))]) rfl rfl
    have hK2 : rK (xv_ui (xfl (xfl (xv_ui (xfl (xfl (xv_ui (xv_ui I 3 3 1) 4 1 1) 104 (pl_psz I x y) np) 103 (pl_plf I x y) np) 1 0 (pl_psp I x y)) 52 (pm_plf (xv_ui (xfl (xfl (xv_ui (xv_ui I 3 3 1) 4 1 1) 104 (pl_psz I x y) np) 103 (pl_plf I x y) np) 1 0 (pl_psp I x y)) x y) np) 53 (pm_psz (xv_ui (xfl (xfl (xv_ui (xv_ui I 3 3 1) 4 1 1) 104 (pl_psz I x y) np) 103 (pl_plf I x y) np) 1 0 (pl_psp I x y)) x y) np) 40 0 (pm_psp (xv_ui (xfl (xfl (xv_ui (xv_ui I 3 3 1) 4 1 1) 104 (pl_psz I x y) np) 103 (pl_plf I x y) np) 1 0 (pl_psp I x y)) x y)) np on (fun p => @ite Nat (acr I x p) (Classical.propDecidable _) (sz p + y.toNatClampNeg) (sz p)) := rK_st hK rfl (fun b hb => by rw [xv_ui_ne (mne hb (by decide)), xfl_ne (mne hb (by decide)), xfl_ne (mne hb (by decide)), xv_ui_ne (mne hb (by decide)), xfl_ne (mne hb (by decide)), xfl_ne (mne hb (by decide)), xv_ui_ne (mne hb (by decide)), xv_ui_ne (mne hb (by decide))])
    exact hQ2 _ _ _ ⟨np, nm, nl, nt, mo, on, (fun p => @ite Nat (acr I x p) (Classical.propDecidable _) (sz p + y.toNatClampNeg) (sz p)), hG, hD, hP2, (rL_fr hL (by rw [xv_ui_ne (by decide), xfl_ne (by decide), xfl_ne (by decide), xv_ui_ne (by decide), xfl_ne (by decide), xfl_ne (by decide), xv_ui_ne (by decide), xv_ui_ne (by decide)]) (by rw [xv_ui_ne (by decide), xfl_ne (by decide), xfl_ne (by decide), xv_ui_ne (by decide), xfl_ne (by decide), xfl_ne (by decide), xv_ui_ne (by decide), xv_ui_ne (by decide)])), hC2, hK2, (rR_fr hRr (fun b hb => by rw [xv_ui_ne (mne hb (by decide)), xfl_ne (mne hb (by decide)), xfl_ne (mne hb (by decide)), xv_ui_ne (mne hb (by decide)), xfl_ne (mne hb (by decide)), xfl_ne (mne hb (by decide)), xv_ui_ne (mne hb (by decide)), xv_ui_ne (mne hb (by decide))]) (fun j hj => by rw [xv_ui_o (mne hj (by decide)), xfl_ne (by decide), xfl_ne (by decide), xv_ui_a (by decide), xfl_ne (by decide), xfl_ne (by decide), xv_ui_a (by decide), xv_ui_a (by decide)]) (fun b hb => rfl)), (rN_fr hN (fun j hj => by rw [xv_ui_a (by decide), xfl_ne (by decide), xfl_ne (by decide), xv_ui_a (by decide), xfl_ne (by decide), xfl_ne (by decide), xv_ui_a (by decide), xv_ui_a (by decide)]) (fun j hj => by rw [xv_ui_o (mne hj (by decide)), xfl_ne (by decide), xfl_ne (by decide), xv_ui_a (by decide), xfl_ne (by decide), xfl_ne (by decide), xv_ui_a (by decide), xv_ui_a (by decide)]) (fun b hb => by rw [xv_ui_ne (mne hb (by decide)), xfl_ne (mne hb (by decide)), xfl_ne (mne hb (by decide)), xv_ui_ne (mne hb (by decide)), xfl_ne (mne hb (by decide)), xfl_ne (mne hb (by decide)), xv_ui_ne (mne hb (by decide)), xv_ui_ne (mne hb (by decide))]) (fun b h1 h2 => by rw [xv_ui_ne (by omega), xfl_ne (by omega), xfl_ne (by omega), xv_ui_ne (by omega), xfl_ne (by omega), xfl_ne (by omega), xv_ui_ne (by omega), xv_ui_ne (by omega)]) (fun b hb => rfl) (fun b h1 h2 => rfl)), (rT_fr hT (by rw [xv_ui_a (by decide), xfl_ne (by decide), xfl_ne (by decide), xv_ui_a (by decide), xfl_ne (by decide), xfl_ne (by decide), xv_ui_a (by decide), xv_ui_a (by decide)]) (by rw [xv_ui_o (by decide), xfl_ne (by decide), xfl_ne (by decide), xv_ui_a (by decide), xfl_ne (by decide), xfl_ne (by decide), xv_ui_a (by decide), xv_ui_a (by decide)]) (fun b hb => by rw [xv_ui_ne (mne hb (by decide)), xfl_ne (mne hb (by decide)), xfl_ne (mne hb (by decide)), xv_ui_ne (mne hb (by decide)), xfl_ne (mne hb (by decide)), xfl_ne (mne hb (by decide)), xv_ui_ne (mne hb (by decide)), xv_ui_ne (mne hb (by decide))]) (fun b h1 h2 => by rw [xv_ui_ne (by omega), xfl_ne (by omega), xfl_ne (by omega), xv_ui_ne (by omega), xfl_ne (by omega), xfl_ne (by omega), xv_ui_ne (by omega), xv_ui_ne (by omega)]))⟩

theorem rk_11 {l : Launch} {D : va_G} : ∀ (G : xv_Gr) (I : xv_I) (J : xv_J) (x : Int32) (y : Int32) (z : Int32), R_ G I J → PrI R_ l D mX10_sort mX11_sort [some (.ref 0), some (.int x), some (.int y), some (.int z), none] [some (.ref 40), some (.int x), some (.int y), some (.int z), none] G I J := by
  intro G I J x y z hR Q1 hQ
  obtain ⟨np, nm, nl, nt, mo, on, sz, hG, hD, hP, hL, hC, hK, hRr, hN, hT⟩ := hR
  have hR : R_ G I J := ⟨np, nm, nl, nt, mo, on, sz, hG, hD, hP, hL, hC, hK, hRr, hN, hT⟩
  refine s10_sort (d := 98) hG (fun h => ?_) (fun h h2 => ?_) (fun j hj hx h => ?_)
  · exact hQ _ G I J hG (fun Q2 hQ2 => s11_sort (d := 98) hG (fun _ => hQ2 G I J hR) (fun g _ => absurd g h) (fun j h1 h2 _ => absurd (by rw [h2]; exact ⟨nI_pos' (by omega), (nI_leI (by omega) (b := 3) (by omega)).mpr (by omega)⟩) h))
  · exact hQ _ G I J hG (fun Q2 hQ2 => s11_sort (d := 98) hG (fun g => absurd h g) (fun _ _ => hQ2 G I J hR) (fun j h1 _ g => absurd g h2))
  · obtain ⟨lo, c1, c2, c3, c4, c5, c6, c7, c8, c9⟩ := hC
    refine hQ _ G (xv_ui (xv_ui (xv_ui I 130 j y) 131 j z) 3 3 1) J hG (fun Q2 hQ2 => s11_sort (d := 98) hG (fun g => absurd (by rw [hx]; exact ⟨nI_pos' (by omega), (nI_leI (by omega) (b := 3) (by omega)).mpr (by omega)⟩) g) (fun _ g => absurd h g) (fun i h1 h2 _ => ?_))
    have e : i = j := (nI_eq (by omega) (by omega)).mp (h2.symm.trans hx)
    subst e
    rw [show (xv_ui (xv_ui (xv_ui I 130 i y) 131 i z) 3 3 1) 63 i = I 130 i from congrFun c4 i]
    have hC2 : rC (xv_ui (xv_ui (xv_ui (xv_ui (xv_ui I 130 i y) 131 i z) 3 3 1) 63 i y) 64 i z) J np sz := by
      refine ⟨lo, c1, c2, c3, ?_, ?_, fun k hk => ?_, c7, c8, fun q => absurd (show (1 : Int32) = 0 from q) (by decide)⟩
      · funext k; simp [xv_ui_ap, c4]
      · funext k; simp [xv_ui_ap, c5]
      · by_cases e : k = i
        · subst e
          obtain ⟨⟨a1, a2⟩, b1, b2⟩ := h
          simp only [xn_le, Int32.reduceToInt] at a1 a2 b1 b2
          obtain ⟨q1, q2⟩ := nI_cl (x := y) a1
          obtain ⟨q3, q4⟩ := nI_cl (x := z) b1
          refine ⟨y.toNatClampNeg, z.toNatClampNeg, by omega, by omega, ?_, ?_⟩
          · simp [xv_ui_ap]; exact q1
          · simp [xv_ui_ap]; exact q3
        · obtain ⟨s, p, d1, d2, d3, d4⟩ := c6 k hk
          refine ⟨s, p, d1, d2, ?_, ?_⟩
          · simp [xv_ui_ap, e]; exact d3
          · simp [xv_ui_ap, e]; exact d4
    exact hQ2 _ _ _ ⟨np, nm, nl, nt, mo, on, sz, hG, hD, (rP_fr hP (fun b hb => by rw [xv_ui_ne (mne hb (by decide)), xv_ui_ne (mne hb (by decide)), xv_ui_ne (mne hb (by decide)), xv_ui_ne (mne hb (by decide)), xv_ui_ne (mne hb (by decide))]) (fun j hj => by rw [xv_ui_a (by decide), xv_ui_a (by decide), xv_ui_a (by decide), xv_ui_a (by decide), xv_ui_a (by decide)])), (rL_fr hL (by rw [xv_ui_ne (by decide), xv_ui_ne (by decide), xv_ui_ne (by decide), xv_ui_ne (by decide), xv_ui_ne (by decide)]) (by rw [xv_ui_ne (by decide), xv_ui_ne (by decide), xv_ui_ne (by decide), xv_ui_ne (by decide), xv_ui_ne (by decide)])), hC2, (rK_fr hK (fun b hb => by rw [xv_ui_ne (mne hb (by decide)), xv_ui_ne (mne hb (by decide)), xv_ui_ne (mne hb (by decide)), xv_ui_ne (mne hb (by decide)), xv_ui_ne (mne hb (by decide))])), (rR_fr hRr (fun b hb => by rw [xv_ui_ne (mne hb (by decide)), xv_ui_ne (mne hb (by decide)), xv_ui_ne (mne hb (by decide)), xv_ui_ne (mne hb (by decide)), xv_ui_ne (mne hb (by decide))]) (fun j hj => by rw [xv_ui_a (by decide), xv_ui_a (by decide), xv_ui_a (by decide), xv_ui_a (by decide), xv_ui_a (by decide)]) (fun b hb => rfl)), (rN_fr hN (fun j hj => by rw [xv_ui_a (by decide), xv_ui_a (by decide), xv_ui_a (by decide), xv_ui_a (by decide), xv_ui_a (by decide)]) (fun j hj => by rw [xv_ui_a (by decide), xv_ui_a (by decide), xv_ui_a (by decide), xv_ui_a (by decide), xv_ui_a (by decide)]) (fun b hb => by rw [xv_ui_ne (mne hb (by decide)), xv_ui_ne (mne hb (by decide)), xv_ui_ne (mne hb (by decide)), xv_ui_ne (mne hb (by decide)), xv_ui_ne (mne hb (by decide))]) (fun b h1 h2 => by rw [xv_ui_ne (by omega), xv_ui_ne (by omega), xv_ui_ne (by omega), xv_ui_ne (by omega), xv_ui_ne (by omega)]) (fun b hb => rfl) (fun b h1 h2 => rfl)), (rT_fr hT (by rw [xv_ui_a (by decide), xv_ui_a (by decide), xv_ui_a (by decide), xv_ui_a (by decide), xv_ui_a (by decide)]) (by rw [xv_ui_a (by decide), xv_ui_a (by decide), xv_ui_a (by decide), xv_ui_a (by decide), xv_ui_a (by decide)]) (fun b hb => by rw [xv_ui_ne (mne hb (by decide)), xv_ui_ne (mne hb (by decide)), xv_ui_ne (mne hb (by decide)), xv_ui_ne (mne hb (by decide)), xv_ui_ne (mne hb (by decide))]) (fun b h1 h2 => by rw [xv_ui_ne (by omega), xv_ui_ne (by omega), xv_ui_ne (by omega), xv_ui_ne (by omega), xv_ui_ne (by omega)]))⟩

theorem rk_12 {l : Launch} {D : va_G} : ∀ (G : xv_Gr) (I : xv_I) (J : xv_J) (x : Int32), R_ G I J → PrI R_ l D mX10_saw mX11_saw [some (.ref 0), some (.int x), none] [some (.ref 40), some (.int x), none] G I J := by
  intro G I J x hR Q1 hQ
  obtain ⟨np, nm, nl, nt, mo, on, sz, hG, hD, hP, hL, hC, hK, hRr, hN, hT⟩ := hR
  have hR : R_ G I J := ⟨np, nm, nl, nt, mo, on, sz, hG, hD, hP, hL, hC, hK, hRr, hN, hT⟩
  refine s10_saw (d := 98) hG (fun h => ?_) (fun h => ?_)
  · exact hQ _ G I J hG (fun Q2 hQ2 => s11_saw (d := 98) hG (fun _ => hQ2 G I J hR) (fun g => absurd g h))
  · obtain ⟨lo, c1, c2, c3, c4, c5, c6, c7, c8, c9⟩ := hC
    refine hQ _ G (xv_ui (xv_ui I 3 2 x) 3 3 1) J hG (fun Q2 hQ2 => s11_saw (d := 98) hG (fun g => absurd h g) (fun _ => ?_))
    rw [show (xv_ui (xv_ui I 3 2 x) 3 3 1) 40 15 = I 3 2 from c3.trans c2.symm]
    simp only [xn_le, Int32.reduceToInt] at h
    obtain ⟨q1, q2⟩ := nI_cl (x := x) h.1
    have hC2 : rC (xv_ui (xv_ui (xv_ui I 3 2 x) 3 3 1) 40 15 x) J np sz := ⟨x.toNatClampNeg, by omega, q1, q1, c4, c5, c6, c7, c8, fun q => absurd (show (1 : Int32) = 0 from q) (by decide)⟩
    exact hQ2 _ _ _ ⟨np, nm, nl, nt, mo, on, sz, hG, hD, (rP_fr hP (fun b hb => by rw [xv_ui_ne (mne hb (by decide)), xv_ui_ne (mne hb (by decide)), xv_ui_ne (mne hb (by decide))]) (fun j hj => by rw [xv_ui_o (mne hj (by decide)), xv_ui_a (by decide), xv_ui_a (by decide)])), (rL_fr hL (by rw [xv_ui_ne (by decide), xv_ui_ne (by decide), xv_ui_ne (by decide)]) (by rw [xv_ui_ne (by decide), xv_ui_ne (by decide), xv_ui_ne (by decide)])), hC2, (rK_fr hK (fun b hb => by rw [xv_ui_ne (mne hb (by decide)), xv_ui_ne (mne hb (by decide)), xv_ui_ne (mne hb (by decide))])), (rR_fr hRr (fun b hb => by rw [xv_ui_ne (mne hb (by decide)), xv_ui_ne (mne hb (by decide)), xv_ui_ne (mne hb (by decide))]) (fun j hj => by rw [xv_ui_o (mne hj (by decide)), xv_ui_a (by decide), xv_ui_a (by decide)]) (fun b hb => rfl)), (rN_fr hN (fun j hj => by rw [xv_ui_a (by decide), xv_ui_a (by decide), xv_ui_a (by decide)]) (fun j hj => by rw [xv_ui_o (mne hj (by decide)), xv_ui_a (by decide), xv_ui_a (by decide)]) (fun b hb => by rw [xv_ui_ne (mne hb (by decide)), xv_ui_ne (mne hb (by decide)), xv_ui_ne (mne hb (by decide))]) (fun b h1 h2 => by rw [xv_ui_ne (by omega), xv_ui_ne (by omega), xv_ui_ne (by omega)]) (fun b hb => rfl) (fun b h1 h2 => rfl)), (rT_fr hT (by rw [xv_ui_a (by decide), xv_ui_a (by decide), xv_ui_a (by decide)]) (by rw [xv_ui_o (by decide), xv_ui_a (by decide), xv_ui_a (by decide)]) (fun b hb => by rw [xv_ui_ne (mne hb (by decide)), xv_ui_ne (mne hb (by decide)), xv_ui_ne (mne hb (by decide))]) (fun b h1 h2 => by rw [xv_ui_ne (by omega), xv_ui_ne (by omega), xv_ui_ne (by omega)]))⟩

theorem rk_18 {l : Launch} {D : va_G} : ∀ (G : xv_Gr) (I : xv_I) (J : xv_J) (x : Int32) (y : Int32), R_ G I J → PrI R_ l D mX10_car mX11_car [some (.ref 0), some (.int x), some (.int y), none] [some (.ref 40), some (.int x), some (.int y), none] G I J := by
  intro G I J x y hR Q1 hQ
  obtain ⟨np, nm, nl, nt, mo, on, sz, hG, hD, hP, hL, hC, hK, hRr, hN, hT⟩ := hR
  have hR : R_ G I J := ⟨np, nm, nl, nt, mo, on, sz, hG, hD, hP, hL, hC, hK, hRr, hN, hT⟩
  refine s10_car (d := 98) hG (fun h => ?_) (fun h h2 => ?_) (fun j hj hx h => ?_)
  · exact hQ _ G I J hG (fun Q2 hQ2 => s11_car (d := 98) hG (fun _ => hQ2 G I J hR) (fun g _ => absurd g h) (fun j h1 h2 _ => absurd (by rw [h2]; exact ⟨nI_pos' (by omega), (nI_leI (by omega) (b := 1) (by omega)).mpr (by omega)⟩) h))
  · exact hQ _ G I J hG (fun Q2 hQ2 => s11_car (d := 98) hG (fun g => absurd h g) (fun _ _ => hQ2 G I J hR) (fun j h1 _ g => absurd g h2))
  · obtain ⟨rm, c1, c2, c3⟩ := hK
    refine hQ _ G (xv_ui (xv_ui I 150 j y) 4 1 1) J hG (fun Q2 hQ2 => s11_car (d := 98) hG (fun g => absurd (by rw [hx]; exact ⟨nI_pos' (by omega), (nI_leI (by omega) (b := 1) (by omega)).mpr (by omega)⟩) g) (fun _ g => absurd h g) (fun i h1 h2 _ => ?_))
    have e : i = j := (nI_eq (by omega) (by omega)).mp (h2.symm.trans hx)
    subst e
    rw [show (xv_ui (xv_ui I 150 i y) 4 1 1) 73 i = I 150 i from c2 i h1]
    have hK2 : rK (xv_ui (xv_ui (xv_ui I 150 i y) 4 1 1) 73 i y) np on sz := by
      simp only [xn_le, Int32.reduceToInt] at h
      obtain ⟨q1, q2⟩ := nI_cl (x := y) (by omega)
      refine ⟨fun c => if c = i then y.toNatClampNeg else rm c, fun c hc => ?_, fun c hc => ?_, fun q => absurd (show (1 : Int32) = 0 from q) (by decide)⟩
      · by_cases e : c = i
        · subst e
          simp [xv_ui_ap]
          exact ⟨q1, by omega⟩
        · simp [xv_ui_ap, e]
          exact c1 c hc
      · by_cases e : c = i
        · subst e; simp [xv_ui_ap]
        · simp [xv_ui_ap, e]; exact c2 c hc
    exact hQ2 _ _ _ ⟨np, nm, nl, nt, mo, on, sz, hG, hD, (rP_fr hP (fun b hb => by rw [xv_ui_ne (mne hb (by decide)), xv_ui_ne (mne hb (by decide)), xv_ui_ne (mne hb (by decide))]) (fun j hj => by rw [xv_ui_a (by decide), xv_ui_a (by decide), xv_ui_a (by decide)])), (rL_fr hL (by rw [xv_ui_ne (by decide), xv_ui_ne (by decide), xv_ui_ne (by decide)]) (by rw [xv_ui_ne (by decide), xv_ui_ne (by decide), xv_ui_ne (by decide)])), (rC_fr hC (fun b hb => by rw [xv_ui_ne (mne hb (by decide)), xv_ui_ne (mne hb (by decide)), xv_ui_ne (mne hb (by decide))]) (by rw [xv_ui_a (by decide), xv_ui_a (by decide), xv_ui_a (by decide)]) rfl), hK2, (rR_fr hRr (fun b hb => by rw [xv_ui_ne (mne hb (by decide)), xv_ui_ne (mne hb (by decide)), xv_ui_ne (mne hb (by decide))]) (fun j hj => by rw [xv_ui_a (by decide), xv_ui_a (by decide), xv_ui_a (by decide)]) (fun b hb => rfl)), (rN_fr hN (fun j hj => by rw [xv_ui_a (by decide), xv_ui_a (by decide), xv_ui_a (by decide)]) (fun j hj => by rw [xv_ui_a (by decide), xv_ui_a (by decide), xv_ui_a (by decide)]) (fun b hb => by rw [xv_ui_ne (mne hb (by decide)), xv_ui_ne (mne hb (by decide)), xv_ui_ne (mne hb (by decide))]) (fun b h1 h2 => by rw [xv_ui_ne (by omega), xv_ui_ne (by omega), xv_ui_ne (by omega)]) (fun b hb => rfl) (fun b h1 h2 => rfl)), (rT_fr hT (by rw [xv_ui_a (by decide), xv_ui_a (by decide), xv_ui_a (by decide)]) (by rw [xv_ui_a (by decide), xv_ui_a (by decide), xv_ui_a (by decide)]) (fun b hb => by rw [xv_ui_ne (mne hb (by decide)), xv_ui_ne (mne hb (by decide)), xv_ui_ne (mne hb (by decide))]) (fun b h1 h2 => by rw [xv_ui_ne (by omega), xv_ui_ne (by omega), xv_ui_ne (by omega)]))⟩

theorem rk_23 {l : Launch} {D : va_G} : ∀ (G : xv_Gr) (I : xv_I) (J : xv_J) (x : Int32), R_ G I J → PrI R_ l D mX10_sure mX11_sure [some (.ref 0), some (.int x), none] [some (.ref 40), some (.int x), none] G I J := by
  intro G I J x hR Q1 hQ
  obtain ⟨np, nm, nl, nt, mo, on, sz, hG, hD, hP, hL, hC, hK, hRr, hN, hT⟩ := hR
  have hR : R_ G I J := ⟨np, nm, nl, nt, mo, on, sz, hG, hD, hP, hL, hC, hK, hRr, hN, hT⟩
  refine s10_sure (d := 98) hG (fun h => ?_) (fun h => ?_)
  · exact hQ _ G I J hG (fun Q2 hQ2 => s11_sure (d := 98) hG (fun _ => hQ2 G I J hR) (fun g => absurd g h))
  · obtain ⟨n, su, bd, hs, hv, c1, c2, c3, c4, c5, c6, c7, c8⟩ := hRr
    refine hQ _ G (xv_ui (xv_ui I 5 1 x) 5 2 1) J hG (fun Q2 hQ2 => s11_sure (d := 98) hG (fun g => absurd h g) (fun _ => ?_))
    rw [show (xv_ui (xv_ui I 5 1 x) 5 2 1) 40 27 = I 5 1 from c3.2.2.2.trans c3.2.2.1.symm]
    simp only [xn_le, Int32.reduceToInt] at h
    obtain ⟨q1, q2⟩ := nI_cl (x := x) h.1
    have hR2 : rR (xv_ui (xv_ui (xv_ui I 5 1 x) 5 2 1) 40 27 x) J := ⟨n, x.toNatClampNeg, bd, hs, hv, c1, by omega, ⟨c3.1, c3.2.1, q1, q1⟩, c4, c5, c6, c7, fun q => absurd (show (1 : Int32) = 0 from q) (by decide)⟩
    exact hQ2 _ _ _ ⟨np, nm, nl, nt, mo, on, sz, hG, hD, (rP_fr hP (fun b hb => by rw [xv_ui_ne (mne hb (by decide)), xv_ui_ne (mne hb (by decide)), xv_ui_ne (mne hb (by decide))]) (fun j hj => by rw [xv_ui_o (mne hj (by decide)), xv_ui_a (by decide), xv_ui_a (by decide)])), (rL_fr hL (by rw [xv_ui_ne (by decide), xv_ui_ne (by decide), xv_ui_ne (by decide)]) (by rw [xv_ui_ne (by decide), xv_ui_ne (by decide), xv_ui_ne (by decide)])), (rC_fr hC (fun b hb => by rw [xv_ui_ne (mne hb (by decide)), xv_ui_ne (mne hb (by decide)), xv_ui_ne (mne hb (by decide))]) (by rw [xv_ui_o (by decide), xv_ui_a (by decide), xv_ui_a (by decide)]) rfl), (rK_fr hK (fun b hb => by rw [xv_ui_ne (mne hb (by decide)), xv_ui_ne (mne hb (by decide)), xv_ui_ne (mne hb (by decide))])), hR2, (rN_fr hN (fun j hj => by rw [xv_ui_a (by decide), xv_ui_a (by decide), xv_ui_a (by decide)]) (fun j hj => by rw [xv_ui_o (mne hj (by decide)), xv_ui_a (by decide), xv_ui_a (by decide)]) (fun b hb => by rw [xv_ui_ne (mne hb (by decide)), xv_ui_ne (mne hb (by decide)), xv_ui_ne (mne hb (by decide))]) (fun b h1 h2 => by rw [xv_ui_ne (by omega), xv_ui_ne (by omega), xv_ui_ne (by omega)]) (fun b hb => rfl) (fun b h1 h2 => rfl)), (rT_fr hT (by rw [xv_ui_a (by decide), xv_ui_a (by decide), xv_ui_a (by decide)]) (by rw [xv_ui_o (by decide), xv_ui_a (by decide), xv_ui_a (by decide)]) (fun b hb => by rw [xv_ui_ne (mne hb (by decide)), xv_ui_ne (mne hb (by decide)), xv_ui_ne (mne hb (by decide))]) (fun b h1 h2 => by rw [xv_ui_ne (by omega), xv_ui_ne (by omega), xv_ui_ne (by omega)]))⟩
