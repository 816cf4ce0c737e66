/-! pairs of calls: plans (2): piece, meet -/
theorem nI_cl {x : Int32} (h : 0 ≤ x.toInt) : x = nI x.toNatClampNeg ∧ (x.toNatClampNeg : Int) = x.toInt := by
  obtain ⟨j, hj, e⟩ := nI_of (x := x) (by rw [xn_lt]; have z : (0 : Int32).toInt = 0 := by decide
                                          rw [z]; omega)
  rw [e, nI_clamp hj]
  exact ⟨rfl, (nI_toInt hj).symm⟩
theorem bz_v {z : Int32} (h : z = 0 ∨ z = 1) : vp_nar .boolean z = z := by rcases h with rfl | rfl <;> rfl
theorem bz_n {z : Int32} (h : z = 0 ∨ z = 1) : narrow .boolean (.int z) = .int z ∧ fits .boolean (.int z) = true := by rcases h with rfl | rfl <;> exact ⟨rfl, rfl⟩
theorem rC_st {I I2 : xv_I} {J J2 : xv_J} {np np2 : Nat} {sz sz2 : Nat → Nat} (h : rC I J np sz) (h3 : ∀ j, j ≠ 3 → I2 3 j = I 3 j) (hs : I2 3 3 = 1) (hr : ∀ b, b ∈ [130, 131, 63, 64, 140] → I2 b = I b) (h4 : I2 40 15 = I 40 15) (hj : J2 141 = J 141) : rC I2 J2 np2 sz2 := by
  obtain ⟨lo, h1, h2, h5, h6, h7, h8, h9, h10, h11⟩ := h
  refine ⟨lo, h1, (h3 2 (by decide)).trans h2, h4.trans h5, by rw [hr 63 (by decide), hr 130 (by decide)]; exact h6, by rw [hr 64 (by decide), hr 131 (by decide)]; exact h7, by rw [hr 130 (by decide), hr 131 (by decide)]; exact h8, by rw [hr 140 (by decide)]; exact h9, by rw [hj]; exact h10, fun q => ?_⟩
  rw [hs] at q
  exact absurd q (by decide)
theorem rK_st {I I2 : xv_I} {np np2 : Nat} {on sz on2 sz2 : Nat → Nat} (h : rK I np on sz) (hs : I2 4 1 = 1) (hr : ∀ b, b ∈ [150, 73] → I2 b = I b) : rK I2 np2 on2 sz2 := by
  obtain ⟨rm, h1, h2, h3⟩ := h
  refine ⟨rm, by rw [hr 150 (by decide)]; exact h1, by rw [hr 150 (by decide), hr 73 (by decide)]; exact h2, fun q => ?_⟩
  rw [hs] at q
  exact absurd q (by decide)
theorem rk_1 {l : Launch} {D : va_G} : ∀ (G : xv_Gr) (I : xv_I) (J : xv_J) (x : Int32) (y : Int32) (z : Int32) (w : Int32), R_ G I J → (w = 0 ∨ w = 1) → PrI R_ l D mX10_piece mX11_piece [some (.ref 0), some (.int x), some (.int y), some (.int z), some (.int w)] [some (.ref 40), some (.int x), some (.int y), some (.int z), some (.int w)] G I J := by
  intro G I J x y z w hR hzw Q1 hQ
  obtain ⟨np, nm, nl, nt, mo, on, sz, hG, hD, hP, hL, hC, hK, hRr, hN, hT⟩ := hR
  have h12 := hP.1.1
  have hR : R_ G I J := ⟨np, nm, nl, nt, mo, on, sz, hG, hD, hP, hL, hC, hK, hRr, hN, hT⟩
  refine s10_piece (d := 98) hG hP.2.1.1 h12 (bz_v hzw) (fun h => ?_) (fun h h2 => ?_) (fun h h2 => ?_)
  · exact hQ _ G I J hG (fun Q2 hQ2 => s11_piece (d := 98) hG hP.2.1.2.1 h12 (bz_v hzw) (fun _ => hQ2 G I J hR) (fun g _ => absurd g h) (fun g _ => absurd g h))
  · exact hQ _ G I J hG (fun Q2 hQ2 => s11_piece (d := 98) hG hP.2.1.2.1 h12 (bz_v hzw) (fun g => absurd h g) (fun _ _ => hQ2 G I J hR) (fun _ g => absurd g (by omega)))
  · refine hQ _ G (xv_ui (xv_ui (xv_ui (xv_ui (xv_ui (xv_ui (xv_ui I 3 3 1) 4 1 1) 103 np x) 104 np y) 105 np z) 106 np w) 1 1 (nI (np + 1))) J hG (fun Q2 hQ2 => s11_piece (d := 98) hG (I := (xv_ui (xv_ui (xv_ui (xv_ui (xv_ui (xv_ui (xv_ui I 3 3 1) 4 1 1) 103 np x) 104 np y) 105 np z) 106 np w) 1 1 (nI (np + 1)))) hP.2.1.2.1 h12 (bz_v hzw) (fun g => absurd h g) (fun _ g => absurd g (by omega)) (fun _ _ => ?_))
    obtain ⟨⟨ha, hb⟩, ⟨hc, hd⟩, he, hf⟩ := h
    simp only [xn_le, Int32.reduceToInt] at ha hb hc hd
    obtain ⟨q1, q2⟩ := nI_cl (x := y) (by omega)
    obtain ⟨e1, e2, e3, e4, e5, e6, e7, e8⟩ := hP.2.2.1
    have hP2 : rP (xv_ui (xv_ui (xv_ui (xv_ui (xv_ui (xv_ui (xv_ui (xv_ui (xv_ui (xv_ui (xv_ui (xv_ui I 3 3 1) 4 1 1) 103 np x) 104 np y) 105 np z) 106 np w) 1 1 (nI (np + 1))) 52 np x) 53 np y) 54 np z) 55 np w) 40 1 (nI (np + 1))) (np + 1) nm (fun p => if p = np then y.toNatClampNeg else sz p) := by
      refine ⟨⟨by omega, hP.1.2⟩, ⟨rfl, rfl, hP.2.1.2.2.1, hP.2.1.2.2.2.1, hP.2.1.2.2.2.2⟩, ⟨?_, ?_, ?_, ?_, e5, e6, e7, e8⟩, hP.2.2.2.1, fun p hp => ?_, fun k hk => ?_⟩
      · funext j; simp [xv_ui_ap, e1]
      · funext j; simp [xv_ui_ap, e2]
      · funext j; simp [xv_ui_ap, e3]
      · funext j; simp [xv_ui_ap, e4]
      · by_cases e : p = np
        · subst e
          simp only [xv_ui_ap, if_true]
          simp
          exact ⟨⟨ha, hb⟩, q1, by omega, by omega⟩
        · have g := hP.2.2.2.2.1 p (by omega)
          simp only [xv_ui_ap]
          simp [e]
          exact g
      · obtain ⟨a, b, g1, g2, g3⟩ := hP.2.2.2.2.2 k hk
        exact ⟨a, b, by omega, by omega, g3⟩
    have hL2 : rL (xv_ui (xv_ui (xv_ui (xv_ui (xv_ui (xv_ui (xv_ui (xv_ui (xv_ui (xv_ui (xv_ui (xv_ui I 3 3 1) 4 1 1) 103 np x) 104 np y) 105 np z) 106 np w) 1 1 (nI (np + 1))) 52 np x) 53 np y) 54 np z) 55 np w) 40 1 (nI (np + 1))) (np + 1) on := by
      obtain ⟨g1, g2, g3, g4, g5⟩ := hL
      refine ⟨g1, g2, fun p hp => ?_, fun p hp => g4 p (by omega), g5⟩
      have hpw : 2 ^ np < 2 ^ (np + 1) := Nat.pow_lt_pow_right (by decide) (by omega)
      by_cases e : p < np
      · have := g3 p e; omega
      · rw [g4 p (by omega)]; exact Nat.two_pow_pos _
    have hC2 : rC (xv_ui (xv_ui (xv_ui (xv_ui (xv_ui (xv_ui (xv_ui (xv_ui (xv_ui (xv_ui (xv_ui (xv_ui I 3 3 1) 4 1 1) 103 np x) 104 np y) 105 np z) 106 np w) 1 1 (nI (np + 1))) 52 np x) 53 np y) 54 np z) 55 np w) 40 1 (nI (np + 1))) J (np + 1) (fun p => if p = np then y.toNatClampNeg else sz p) := rC_st hC (fun j hj => by simp [xv_ui_ap, hj]) rfl (fun b hb => by rw [xv_ui_ne (mne hb (by decide)), xv_ui_ne (mne hb (by decide)), xv_ui_ne (mne hb (by decide)), xv_ui_ne (mne hb (by decide)), xv_ui_ne (mne hb (by decide)), xv_ui_ne (mne hb (by decide)), xv_ui_ne (mne hb (by decide)), xv_ui_ne (mne hb (by decide)), xv_ui_ne (mne hb (by decide)), xv_ui_ne (mne hb (by decide)), xv_ui_ne (mne hb (by decide)), xv_ui_ne (mne hb (by decide))]) rfl rfl
    have hK2 : rK (xv_ui (xv_ui (xv_ui (xv_ui (xv_ui (xv_ui (xv_ui (xv_ui (xv_ui (xv_ui (xv_ui (xv_ui I 3 3 1) 4 1 1) 103 np x) 104 np y) 105 np z) 106 np w) 1 1 (nI (np + 1))) 52 np x) 53 np y) 54 np z) 55 np w) 40 1 (nI (np + 1))) (np + 1) on (fun p => if p = np then y.toNatClampNeg else sz p) := rK_st hK rfl (fun b hb => by rw [xv_ui_ne (mne hb (by decide)), xv_ui_ne (mne hb (by decide)), xv_ui_ne (mne hb (by decide)), xv_ui_ne (mne hb (by decide)), xv_ui_ne (mne hb (by decide)), xv_ui_ne (mne hb (by decide)), xv_ui_ne (mne hb (by decide)), xv_ui_ne (mne hb (by decide)), xv_ui_ne (mne hb (by decide)), xv_ui_ne (mne hb (by decide)), xv_ui_ne (mne hb (by decide)), xv_ui_ne (mne hb (by decide))])
    exact hQ2 _ _ _ ⟨(np + 1), nm, nl, nt, mo, on, (fun p => if p = np then y.toNatClampNeg else sz p), hG, hD, hP2, hL2, hC2, hK2, (rR_fr hRr (fun b hb => by rw [xv_ui_ne (mne hb (by decide)), xv_ui_ne (mne hb (by decide)), xv_ui_ne (mne hb (by decide)), xv_ui_ne (mne hb (by decide)), xv_ui_ne (mne hb (by decide)), xv_ui_ne (mne hb (by decide)), xv_ui_ne (mne hb (by decide)), xv_ui_ne (mne hb (by decide)), xv_ui_ne (mne hb (by decide)), xv_ui_ne (mne hb (by decide)), xv_ui_ne (mne hb (by decide)), xv_ui_ne (mne hb (by decide))]) (fun j hj => by rw [xv_ui_o (mne hj (by decide)), xv_ui_a (by decide), xv_ui_a (by decide), xv_ui_a (by decide), xv_ui_a (by decide), xv_ui_a (by decide), xv_ui_a (by decide), xv_ui_a (by decide), xv_ui_a (by decide), xv_ui_a (by decide), xv_ui_a (by decide), xv_ui_a (by decide)]) (fun b hb => rfl)), (rN_fr hN (fun j hj => by rw [xv_ui_a (by decide), xv_ui_a (by decide), xv_ui_a (by decide), xv_ui_a (by decide), xv_ui_a (by decide), xv_ui_a (by decide), xv_ui_a (by decide), xv_ui_a (by decide), xv_ui_a (by decide), xv_ui_a (by decide), xv_ui_a (by decide), xv_ui_a (by decide)]) (fun j hj => by rw [xv_ui_o (mne hj (by decide)), xv_ui_a (by decide), xv_ui_a (by decide), xv_ui_a (by decide), xv_ui_a (by decide), xv_ui_a (by decide), xv_ui_a (by decide), xv_ui_a (by decide), xv_ui_a (by decide), xv_ui_a (by decide), xv_ui_a (by decide), xv_ui_a (by decide)]) (fun b hb => by rw [xv_ui_ne (mne hb (by decide)), xv_ui_ne (mne hb (by decide)), xv_ui_ne (mne hb (by decide)), xv_ui_ne (mne hb (by decide)), xv_ui_ne (mne hb (by decide)), xv_ui_ne (mne hb (by decide)), xv_ui_ne (mne hb (by decide)), xv_ui_ne (mne hb (by decide)), xv_ui_ne (mne hb (by decide)), xv_ui_ne (mne hb (by decide)), xv_ui_ne (mne hb (by decide)), xv_ui_ne (mne hb (by decide))]) (fun b h1 h2 => by rw [xv_ui_ne (by omega), xv_ui_ne (by omega), xv_ui_ne (by omega), xv_ui_ne (by omega), xv_ui_ne (by omega), xv_ui_ne (by omega), xv_ui_ne (by omega), xv_ui_ne (by omega), xv_ui_ne (by omega), xv_ui_ne (by omega), xv_ui_ne (by omega), xv_ui_ne (by omega)]) (fun b hb => rfl) (fun b h1 h2 => rfl)), (rT_fr hT (by rw [xv_ui_a (by decide), xv_ui_a (by decide), xv_ui_a (by decide), xv_ui_a (by decide), xv_ui_a (by decide), xv_ui_a (by decide), xv_ui_a (by decide), xv_ui_a (by decide), xv_ui_a (by decide), xv_ui_a (by decide), xv_ui_a (by decide), xv_ui_a (by decide)]) (by rw [xv_ui_o (by decide), xv_ui_a (by decide), xv_ui_a (by decide), xv_ui_a (by decide), xv_ui_a (by decide), xv_ui_a (by decide), xv_ui_a (by decide), xv_ui_a (by decide), xv_ui_a (by decide), xv_ui_a (by decide), xv_ui_a (by decide), xv_ui_a (by decide)]) (fun b hb => by rw [xv_ui_ne (mne hb (by decide)), xv_ui_ne (mne hb (by decide)), xv_ui_ne (mne hb (by decide)), xv_ui_ne (mne hb (by decide)), xv_ui_ne (mne hb (by decide)), xv_ui_ne (mne hb (by decide)), xv_ui_ne (mne hb (by decide)), xv_ui_ne (mne hb (by decide)), xv_ui_ne (mne hb (by decide)), xv_ui_ne (mne hb (by decide)), xv_ui_ne (mne hb (by decide)), xv_ui_ne (mne hb (by decide))]) (fun b h1 h2 => by rw [xv_ui_ne (by omega), xv_ui_ne (by omega), xv_ui_ne (by omega), xv_ui_ne (by omega), xv_ui_ne (by omega), xv_ui_ne (by omega), xv_ui_ne (by omega), xv_ui_ne (by omega), xv_ui_ne (by omega), xv_ui_ne (by omega), xv_ui_ne (by omega), xv_ui_ne (by omega)]))⟩

theorem rk_3 {l : Launch} {D : va_G} : ∀ (G : xv_Gr) (I : xv_I) (J : xv_J) (x : Int32) (y : Int32) (z : Int32) (w : Int32), R_ G I J → PrI R_ l D mX10_meet mX11_meet [some (.ref 0), some (.int x), some (.int y), some (.int z), some (.int w)] [some (.ref 40), some (.int x), some (.int y), some (.int z), some (.int w)] G I J := by
  intro G I J x y z w hR Q1 hQ
  obtain ⟨np, nm, nl, nt, mo, on, sz, hG, hD, hP, hL, hC, hK, hRr, hN, hT⟩ := hR
  have h12 := hP.1.1
  have h20 := hP.1.2
  have hR : R_ G I J := ⟨np, nm, nl, nt, mo, on, sz, hG, hD, hP, hL, hC, hK, hRr, hN, hT⟩
  have c1 := hP.2.1.1
  have c2 := hP.2.1.2.2.1
  have m1 := hP.2.1.2.1
  have m2 := hP.2.1.2.2.2.1
  refine s10_meet (d := 98) hG c1 h12 c2 h20 (fun h => ?_) (fun h h2 => ?_) (fun h h2 h3 => ?_) (fun h h2 h3 h4 => ?_) (fun h h2 h3 h4 => ?_)
  · exact hQ _ G I J hG (fun Q2 hQ2 => s11_meet (d := 97) hG m1 h12 m2 h20 (fun _ => hQ2 G I J hR) (fun g _ => absurd g h) (fun g _ _ => absurd g h) (fun g _ _ _ => absurd g h) (fun g _ _ _ => absurd g h))
  · exact hQ _ G I J hG (fun Q2 hQ2 => s11_meet (d := 97) hG m1 h12 m2 h20 (fun g => absurd h g) (fun _ _ => hQ2 G I J hR) (fun _ g _ => absurd g h2) (fun _ g _ _ => absurd g h2) (fun _ g _ _ => absurd g h2))
  · exact hQ _ G I J hG (fun Q2 hQ2 => s11_meet (d := 97) hG m1 h12 m2 h20 (fun g => absurd h g) (fun _ g => absurd h2 g) (fun _ _ _ => hQ2 G I J hR) (fun _ _ g _ => absurd h3 g) (fun _ _ g _ => absurd h3 g))
  · exact hQ _ G I J hG (fun Q2 hQ2 => s11_meet (d := 97) hG m1 h12 m2 h20 (fun g => absurd h g) (fun _ g => absurd h2 g) (fun _ _ g => absurd g h3) (fun _ _ _ _ => hQ2 G I J hR) (fun _ _ _ g => absurd g (by omega)))
  · refine hQ _ G (xv_ui (xv_ui (xv_ui (xv_ui (xv_ui I 107 nm x) 108 nm y) 109 nm z) 110 nm w) 1 2 (nI (nm + 1))) J hG (fun Q2 hQ2 => s11_meet (d := 97) hG (I := (xv_ui (xv_ui (xv_ui (xv_ui (xv_ui I 107 nm x) 108 nm y) 109 nm z) 110 nm w) 1 2 (nI (nm + 1)))) m1 h12 m2 h20 (fun g => absurd h g) (fun _ g => absurd h2 g) (fun _ _ g => absurd g h3) (fun _ _ _ g => absurd g (by omega)) (fun _ _ _ _ => ?_))
    have hnt : (nI np).toInt = (np : Int) := nI_toInt (by omega)
    obtain ⟨⟨a1, a2⟩, b1, b2⟩ := h
    obtain ⟨⟨y1, y2⟩, w1, w2⟩ := h2
    simp only [xn_le, xn_lt, hnt, Int32.reduceToInt] at a1 a2 b1 b2 y1 y2 w1 w2
    obtain ⟨a, ha, ea⟩ := xn_nat (x := x) (n := np) a1 a2 (by omega)
    obtain ⟨b, hb, eb⟩ := xn_nat (x := z) (n := np) b1 b2 (by omega)
    have hy : y = 0 ∨ y = 1 := by
      rw [xn_eq, xn_eq]
      have z0 : (0 : Int32).toInt = 0 := by decide
      have z1 : (1 : Int32).toInt = 1 := by decide
      rw [z0, z1]; omega
    have hw : w = 0 ∨ w = 1 := by
      rw [xn_eq, xn_eq]
      have z0 : (0 : Int32).toInt = 0 := by decide
      have z1 : (1 : Int32).toInt = 1 := by decide
      rw [z0, z1]; omega
    obtain ⟨e1, e2, e3, e4, e5, e6, e7, e8⟩ := hP.2.2.1
    have hP2 : rP (xv_ui (xv_ui (xv_ui (xv_ui (xv_ui (xv_ui (xv_ui (xv_ui (xv_ui (xv_ui I 107 nm x) 108 nm y) 109 nm z) 110 nm w) 1 2 (nI (nm + 1))) 57 nm x) 58 nm y) 59 nm z) 60 nm w) 40 6 (nI (nm + 1))) np (nm + 1) sz := by
      refine ⟨⟨h12, by omega⟩, ⟨c1, m1, rfl, rfl, hP.2.1.2.2.2.2⟩, ⟨e1, e2, e3, e4, ?_, ?_, ?_, ?_⟩, hP.2.2.2.1, hP.2.2.2.2.1, fun k hk => ?_⟩
      · funext j; simp [xv_ui_ap, e5]
      · funext j; simp [xv_ui_ap, e6]
      · funext j; simp [xv_ui_ap, e7]
      · funext j; simp [xv_ui_ap, e8]
      · by_cases e : k = nm
        · subst e
          refine ⟨a, b, ha, hb, ?_⟩
          simp only [xv_ui_ap]
          simp
          exact ⟨ea, eb, hy, hw⟩
        · obtain ⟨a', b', g⟩ := hP.2.2.2.2.2 k (by omega)
          refine ⟨a', b', ?_⟩
          simp only [xv_ui_ap]
          simp [e]
          exact g
    exact hQ2 _ _ _ ⟨np, (nm + 1), nl, nt, mo, on, sz, hG, hD, hP2, (rL_fr hL (by rw [xv_ui_ne (by decide), xv_ui_ne (by decide), xv_ui_ne (by decide), xv_ui_ne (by decide), xv_ui_ne (by decide), xv_ui_ne (by decide), xv_ui_ne (by decide), xv_ui_ne (by decide), xv_ui_ne (by decide), xv_ui_ne (by decide)]) (by rw [xv_ui_ne (by decide), xv_ui_ne (by decide), xv_ui_ne (by decide), xv_ui_ne (by decide), xv_ui_ne (by decide), xv_ui_ne (by decide), xv_ui_ne (by decide), xv_ui_ne (by decide), xv_ui_ne (by decide), xv_ui_ne (by decide)])), (rC_fr hC (fun b hb => by rw [xv_ui_ne (mne hb (by decide)), xv_ui_ne (mne hb (by decide)), xv_ui_ne (mne hb (by decide)), xv_ui_ne (mne hb (by decide)), xv_ui_ne (mne hb (by decide)), xv_ui_ne (mne hb (by decide)), xv_ui_ne (mne hb (by decide)), xv_ui_ne (mne hb (by decide)), xv_ui_ne (mne hb (by decide)), xv_ui_ne (mne hb (by decide))]) (by rw [xv_ui_o (by decide), xv_ui_a (by decide), xv_ui_a (by decide), xv_ui_a (by decide), xv_ui_a (by decide), xv_ui_a (by decide), xv_ui_a (by decide), xv_ui_a (by decide), xv_ui_a (by decide), xv_ui_a (by decide)]) rfl), (rK_fr hK (fun b hb => by rw [xv_ui_ne (mne hb (by decide)), xv_ui_ne (mne hb (by decide)), xv_ui_ne (mne hb (by decide)), xv_ui_ne (mne hb (by decide)), xv_ui_ne (mne hb (by decide)), xv_ui_ne (mne hb (by decide)), xv_ui_ne (mne hb (by decide)), xv_ui_ne (mne hb (by decide)), xv_ui_ne (mne hb (by decide)), xv_ui_ne (mne hb (by decide))])), (rR_fr hRr (fun b hb => by rw [xv_ui_ne (mne hb (by decide)), xv_ui_ne (mne hb (by decide)), xv_ui_ne (mne hb (by decide)), xv_ui_ne (mne hb (by decide)), xv_ui_ne (mne hb (by decide)), xv_ui_ne (mne hb (by decide)), xv_ui_ne (mne hb (by decide)), xv_ui_ne (mne hb (by decide)), xv_ui_ne (mne hb (by decide)), xv_ui_ne (mne hb (by decide))]) (fun j hj => by rw [xv_ui_o (mne hj (by decide)), xv_ui_a (by decide), xv_ui_a (by decide), xv_ui_a (by decide), xv_ui_a (by decide), xv_ui_a (by decide), xv_ui_a (by decide), xv_ui_a (by decide), xv_ui_a (by decide), xv_ui_a (by decide)]) (fun b hb => rfl)), (rN_fr hN (fun j hj => by rw [xv_ui_a (by decide), xv_ui_a (by decide), xv_ui_a (by decide), xv_ui_a (by decide), xv_ui_a (by decide), xv_ui_a (by decide), xv_ui_a (by decide), xv_ui_a (by decide), xv_ui_a (by decide), xv_ui_a (by decide)]) (fun j hj => by rw [xv_ui_o (mne hj (by decide)), xv_ui_a (by decide), xv_ui_a (by decide), xv_ui_a (by decide), xv_ui_a (by decide), xv_ui_a (by decide), xv_ui_a (by decide), xv_ui_a (by decide), xv_ui_a (by decide), xv_ui_a (by decide)]) (fun b hb => by rw [xv_ui_ne (mne hb (by decide)), xv_ui_ne (mne hb (by decide)), xv_ui_ne (mne hb (by decide)), xv_ui_ne (mne hb (by decide)), xv_ui_ne (mne hb (by decide)), xv_ui_ne (mne hb (by decide)), xv_ui_ne (mne hb (by decide)), xv_ui_ne (mne hb (by decide)), xv_ui_ne (mne hb (by decide)), xv_ui_ne (mne hb (by decide))]) (fun b h1 h2 => by rw [xv_ui_ne (by omega), xv_ui_ne (by omega), xv_ui_ne (by omega), xv_ui_ne (by omega), xv_ui_ne (by omega), xv_ui_ne (by omega), xv_ui_ne (by omega), xv_ui_ne (by omega), xv_ui_ne (by omega), xv_ui_ne (by omega)]) (fun b hb => rfl) (fun b h1 h2 => rfl)), (rT_fr hT (by rw [xv_ui_a (by decide), xv_ui_a (by decide), xv_ui_a (by decide), xv_ui_a (by decide), xv_ui_a (by decide), xv_ui_a (by decide), xv_ui_a (by decide), xv_ui_a (by decide), xv_ui_a (by decide), xv_ui_a (by decide)]) (by rw [xv_ui_o (by decide), xv_ui_a (by decide), xv_ui_a (by decide), xv_ui_a (by decide), xv_ui_a (by decide), xv_ui_a (by decide), xv_ui_a (by decide), xv_ui_a (by decide), xv_ui_a (by decide), xv_ui_a (by decide)]) (fun b hb => by rw [xv_ui_ne (mne hb (by decide)), xv_ui_ne (mne hb (by decide)), xv_ui_ne (mne hb (by decide)), xv_ui_ne (mne hb (by decide)), xv_ui_ne (mne hb (by decide)), xv_ui_ne (mne hb (by decide)), xv_ui_ne (mne hb (by decide)), xv_ui_ne (mne hb (by decide)), xv_ui_ne (mne hb (by decide)), xv_ui_ne (mne hb (by decide))]) (fun b h1 h2 => by rw [xv_ui_ne (by omega), xv_ui_ne (by omega), xv_ui_ne (by omega), xv_ui_ne (by omega), xv_ui_ne (by omega), xv_ui_ne (by omega), xv_ui_ne (by omega), xv_ui_ne (by omega), xv_ui_ne (by omega), xv_ui_ne (by omega)]))⟩
