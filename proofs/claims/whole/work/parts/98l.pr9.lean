/-! pairs of calls: loans (1): work, arrears, as, count -/
theorem R_ln {G2 : xv_Gr} {I I2 : xv_I} {J J2 : xv_J} {np nm nl nt mo : Nat} {on sz : Nat → Nat} (hP : rP I np nm sz) (hL : rL I np on) (hC : rC I J np sz) (hK : rK I np on sz) (hRr : rR I J) (hT : rT I nt) (hG : xg_ok G2) (hD : xg_dy G2 nl nt) (hN : rN I2 J2 nl mo) (hI : ∀ b, ¬ (200 ≤ b ∧ b < 232) → b ∉ [6, 40, 80, 81, 82, 83, 86] → I2 b = I b) (h6 : I2 6 2 = I 6 2) (h4 : ∀ j, j ∉ [28, 29] → I2 40 j = I 40 j) (hJ : ∀ b, b ∈ [5, 141, 166, 168] → J2 b = J b) : R_ G2 I2 J2 := by
  have hb : ∀ {L : List Nat} {b : Nat}, b ∈ L → (∀ a ∈ L, ¬ (200 ≤ a ∧ a < 232) ∧ a ∉ [6, 40, 80, 81, 82, 83, 86]) → I2 b = I b := fun h g => hI _ (g _ h).1 (g _ h).2
  have hj : ∀ {L : List Nat} {j : Nat}, j ∈ L → (∀ a ∈ L, a ∉ [28, 29]) → I2 40 j = I 40 j := fun h g => h4 _ (g _ h)
  exact ⟨np, nm, nl, nt, mo, on, sz, hG, hD, rP_fr hP (fun b h => hb h (by decide)) (fun j h => hj h (by decide)), rL_fr hL (hI _ (by decide) (by decide)) (hI _ (by decide) (by decide)), rC_fr hC (fun b h => hb h (by decide)) (h4 _ (by decide)) (hJ _ (by decide)), rK_fr hK (fun b h => hb h (by decide)), rR_fr hRr (fun b h => hb h (by decide)) (fun j h => hj h (by decide)) (fun b h => hJ b (by simp only [List.mem_cons, List.not_mem_nil, or_false] at h ⊢; omega)), hN, rT_fr hT h6 (h4 _ (by decide)) (fun b h => hb h (by decide)) (fun b h1 h2 => hI b (by omega) (by simp only [List.mem_cons, List.not_mem_nil, or_false]; omega))⟩
theorem ix_in {i n : Nat} (h : i < n) (hn : n ≤ 600) : 0 ≤ nI i ∧ nI i < nI n := by
  simp only [xn_lt, xn_le, nI_toInt (show i < 2 ^ 31 by omega), nI_toInt (show n < 2 ^ 31 by omega), Int32.reduceToInt]
  omega
theorem ix_eq {i j n : Nat} (h : i < n) (h2 : j < n) (hn : n ≤ 600) (e : nI i = nI j) : i = j := (nI_eq (by omega) (by omega)).mp e
/-- what of a loan a step may leave -/
theorem rN1_fr {I I2 : xv_I} {J J2 : xv_J} {mo i : Nat} (h : rN1 I J mo i) (h0 : I2 (200 + 4 * i) = I (200 + 4 * i)) (h1 : I2 (200 + 4 * i + 1) = I (200 + 4 * i + 1)) (j1 : J2 (200 + 4 * i + 1) = J (200 + 4 * i + 1)) (j2 : J2 (200 + 4 * i + 2) = J (200 + 4 * i + 2)) (j3 : J2 (200 + 4 * i + 3) = J (200 + 4 * i + 3)) (e80 : I2 80 i = I 80 i) (e81 : I2 81 i = I 81 i) (e82 : I2 82 i = I 82 i) (e83 : I2 83 i = I 83 i) (e : ∀ m, m ≤ mo → J2 84 (600 * i + m) = J 84 (600 * i + m) ∧ J2 85 (600 * i + m) = J 85 (600 * i + m) ∧ I2 86 (600 * i + m) = I 86 (600 * i + m)) : rN1 I2 J2 mo i := by
  obtain ⟨si, ci, a1, a2, a3, a4, a5, a6, a7⟩ := h
  refine ⟨si, ci, by rw [h0, e82]; exact a1, by rw [h0]; exact a2, by rw [h1, e80, e81, e83]; exact a3, by rw [e80, e81]; exact a4, by rw [j1, (e mo (Nat.le_refl _)).1, (e mo (Nat.le_refl _)).2.1]; exact a5, by rw [h0, j1]; exact a6, fun m hm => ?_⟩
  rw [(e m hm).1, (e m hm).2.1, (e m hm).2.2, h0, j2, j3]
  exact a7 m hm
theorem rk_33 {l : Launch} {D : va_G} : ∀ (G : xv_Gr) (I : xv_I) (J : xv_J) (x : Int32), R_ G I J → PrI R_ l D mX10_arrears mX11_arrears [some (.ref 0), some (.int x), none] [some (.ref 40), some (.int x)] G I J := by
  intro G I J x hR Q1 hQ
  obtain ⟨np, nm, nl, nt, mo, on, sz, hG, hD, hP, hL, hC, hK, hRr, hN, hT⟩ := hR
  have hR : R_ G I J := ⟨np, nm, nl, nt, mo, on, sz, hG, hD, hP, hL, hC, hK, hRr, hN, hT⟩
  have h8 := hN.1.1
  have hp : ∀ i, i < nl → 0 < I (200 + 4 * i + 1) 3 ∧ 0 < I 81 i := fun i hi => by
    obtain ⟨si, ci, a1, a2, a3, a4, a5, a6, a7⟩ := hN.2.2.1 i hi
    rw [a3.2.1]
    simp only [xn_lt, Int32.reduceToInt]
    omega
  refine s10_arrears (d := 98) hG hD hN.2.1.1 hN.1.1 (fun i hi => (hp i hi).1) (fun h => ?_) (fun i hi hx => ?_)
  · exact hQ _ G I J hG (fun Q2 hQ2 => s11_arrears (d := 97) hG hN.2.1.2.1 hN.1.1 hN.2.1.2.2.2 hN.1.2 (fun i hi => (hp i hi).2) (fun _ => hQ2 G I J hR) (fun i hi e => absurd (by rw [e]; exact ix_in hi (by omega)) h))
  · refine hQ _ G I J hG (fun Q2 hQ2 => s11_arrears (d := 97) hG hN.2.1.2.1 hN.1.1 hN.2.1.2.2.2 hN.1.2 (fun i hi => (hp i hi).2) (fun h => absurd (by rw [hx]; exact ix_in hi (by omega)) h) (fun j hj e => ?_))
    have e := ix_eq hi hj (by omega) (hx.symm.trans e)
    subst e
    obtain ⟨si, ci, a1, a2, a3, a4, a5, a6, a7⟩ := hN.2.2.1 i hi
    rw [← a5.2, ← a3.2.1]
    exact hQ2 G I J hR

theorem rk_41 {l : Launch} {D : va_G} : ∀ (G : xv_Gr) (I : xv_I) (J : xv_J) (x : Int32), R_ G I J → PrI R_ l D mX10_count mX11_count [some (.ref 0), some (.int x)] [some (.ref 40), some (.int x), none, none] G I J := by
  intro G I J x hR Q1 hQ
  obtain ⟨np, nm, nl, nt, mo, on, sz, hG, hD, hP, hL, hC, hK, hRr, hN, hT⟩ := hR
  have hR : R_ G I J := ⟨np, nm, nl, nt, mo, on, sz, hG, hD, hP, hL, hC, hK, hRr, hN, hT⟩
  have hRe : I 5 0 = I 40 24 := by
    obtain ⟨n, su, bd, hs, hv, q1, q2, q3, q4⟩ := hRr
    exact q3.1.trans q3.2.1.symm
  have hop : nI (xcn (fun i => I (200 + 4 * i) 2 = 1) nl) = nI (xcn (fun i => I 86 (600 * i + mo) = 1) nl) := by
    refine congrArg nI (xcn_cong nl (fun i hi => ?_))
    obtain ⟨si, ci, a1, a2, a3, a4, a5, a6, a7⟩ := hN.2.2.1 i hi
    have g := ((a7 mo (Nat.le_refl _)).2 a1.2.2).2.2
    rw [g]
    have m5 := hN.1.2
    rcases a2.2 with ⟨z1, z2⟩ | ⟨z1, z2, z3⟩
    · rw [z1]
      by_cases q : mo < ci
      · rw [if_pos q]
      · rw [if_neg q]
    · rw [if_neg (by omega)]
  refine s10_count (d := 97) hG hD hN.2.1.1 hN.1.1 (fun h => ?_) (fun h => ?_) (fun h => ?_) (fun h => ?_) (fun h => ?_) (fun h => ?_) (fun h => ?_) (fun h => ?_) (fun h => ?_)
  · exact hQ _ G I J hG (fun Q2 hQ2 => by have e := hP.2.1.1.trans hP.2.1.2.1.symm; exact s11_count (d := 98) hG hN.2.1.2.1 hN.1.1 hN.2.1.2.2.2 hN.1.2 (fun _ => by rw [← e]; exact hQ2 G I J hR) (fun g => absurd (h.symm.trans g) (by decide)) (fun g => absurd (h.symm.trans g) (by decide)) (fun g => absurd (h.symm.trans g) (by decide)) (fun g => absurd (h.symm.trans g) (by decide)) (fun g => absurd (h.symm.trans g) (by decide)) (fun g => absurd (h.symm.trans g) (by decide)) (fun g => absurd (h.symm.trans g) (by decide)) (fun g => absurd (by rw [h]; decide) g))
  · exact hQ _ G I J hG (fun Q2 hQ2 => by have e := hP.2.1.2.2.1.trans hP.2.1.2.2.2.1.symm; exact s11_count (d := 98) hG hN.2.1.2.1 hN.1.1 hN.2.1.2.2.2 hN.1.2 (fun g => absurd (h.symm.trans g) (by decide)) (fun _ => by rw [← e]; exact hQ2 G I J hR) (fun g => absurd (h.symm.trans g) (by decide)) (fun g => absurd (h.symm.trans g) (by decide)) (fun g => absurd (h.symm.trans g) (by decide)) (fun g => absurd (h.symm.trans g) (by decide)) (fun g => absurd (h.symm.trans g) (by decide)) (fun g => absurd (h.symm.trans g) (by decide)) (fun g => absurd (by rw [h]; decide) g))
  · exact hQ _ G I J hG (fun Q2 hQ2 => by have e := hRe; exact s11_count (d := 98) hG hN.2.1.2.1 hN.1.1 hN.2.1.2.2.2 hN.1.2 (fun g => absurd (h.symm.trans g) (by decide)) (fun g => absurd (h.symm.trans g) (by decide)) (fun _ => by rw [← e]; exact hQ2 G I J hR) (fun g => absurd (h.symm.trans g) (by decide)) (fun g => absurd (h.symm.trans g) (by decide)) (fun g => absurd (h.symm.trans g) (by decide)) (fun g => absurd (h.symm.trans g) (by decide)) (fun g => absurd (h.symm.trans g) (by decide)) (fun g => absurd (by rw [h]; decide) g))
  · exact hQ _ G I J hG (fun Q2 hQ2 => by have e := hN.2.1.1.trans hN.2.1.2.1.symm; exact s11_count (d := 98) hG hN.2.1.2.1 hN.1.1 hN.2.1.2.2.2 hN.1.2 (fun g => absurd (h.symm.trans g) (by decide)) (fun g => absurd (h.symm.trans g) (by decide)) (fun g => absurd (h.symm.trans g) (by decide)) (fun _ => by rw [← e]; exact hQ2 G I J hR) (fun g => absurd (h.symm.trans g) (by decide)) (fun g => absurd (h.symm.trans g) (by decide)) (fun g => absurd (h.symm.trans g) (by decide)) (fun g => absurd (h.symm.trans g) (by decide)) (fun g => absurd (by rw [h]; decide) g))
  · exact hQ _ G I J hG (fun Q2 hQ2 => by have e := hop; exact s11_count (d := 98) hG hN.2.1.2.1 hN.1.1 hN.2.1.2.2.2 hN.1.2 (fun g => absurd (h.symm.trans g) (by decide)) (fun g => absurd (h.symm.trans g) (by decide)) (fun g => absurd (h.symm.trans g) (by decide)) (fun g => absurd (h.symm.trans g) (by decide)) (fun _ => by rw [← e]; exact hQ2 G I J hR) (fun g => absurd (h.symm.trans g) (by decide)) (fun g => absurd (h.symm.trans g) (by decide)) (fun g => absurd (h.symm.trans g) (by decide)) (fun g => absurd (by rw [h]; decide) g))
  · exact hQ _ G I J hG (fun Q2 hQ2 => by have e := hT.2.1.1.trans hT.2.1.2.symm; exact s11_count (d := 98) hG hN.2.1.2.1 hN.1.1 hN.2.1.2.2.2 hN.1.2 (fun g => absurd (h.symm.trans g) (by decide)) (fun g => absurd (h.symm.trans g) (by decide)) (fun g => absurd (h.symm.trans g) (by decide)) (fun g => absurd (h.symm.trans g) (by decide)) (fun g => absurd (h.symm.trans g) (by decide)) (fun _ => by rw [← e]; exact hQ2 G I J hR) (fun g => absurd (h.symm.trans g) (by decide)) (fun g => absurd (h.symm.trans g) (by decide)) (fun g => absurd (by rw [h]; decide) g))
  · exact hQ _ G I J hG (fun Q2 hQ2 => by have e := hN.2.1.2.2.1.trans hN.2.1.2.2.2.symm; exact s11_count (d := 98) hG hN.2.1.2.1 hN.1.1 hN.2.1.2.2.2 hN.1.2 (fun g => absurd (h.symm.trans g) (by decide)) (fun g => absurd (h.symm.trans g) (by decide)) (fun g => absurd (h.symm.trans g) (by decide)) (fun g => absurd (h.symm.trans g) (by decide)) (fun g => absurd (h.symm.trans g) (by decide)) (fun g => absurd (h.symm.trans g) (by decide)) (fun _ => by rw [← e]; exact hQ2 G I J hR) (fun g => absurd (h.symm.trans g) (by decide)) (fun g => absurd (by rw [h]; decide) g))
  · exact hQ _ G I J hG (fun Q2 hQ2 => by have e := hP.2.1.2.2.2.2.symm; exact s11_count (d := 98) hG hN.2.1.2.1 hN.1.1 hN.2.1.2.2.2 hN.1.2 (fun g => absurd (h.symm.trans g) (by decide)) (fun g => absurd (h.symm.trans g) (by decide)) (fun g => absurd (h.symm.trans g) (by decide)) (fun g => absurd (h.symm.trans g) (by decide)) (fun g => absurd (h.symm.trans g) (by decide)) (fun g => absurd (h.symm.trans g) (by decide)) (fun g => absurd (h.symm.trans g) (by decide)) (fun _ => by rw [← e]; exact hQ2 G I J hR) (fun g => absurd (by rw [h]; decide) g))
  · exact hQ _ G I J hG (fun Q2 hQ2 => by exact s11_count (d := 98) hG hN.2.1.2.1 hN.1.1 hN.2.1.2.2.2 hN.1.2 (fun g => absurd (by rw [g]; decide) h) (fun g => absurd (by rw [g]; decide) h) (fun g => absurd (by rw [g]; decide) h) (fun g => absurd (by rw [g]; decide) h) (fun g => absurd (by rw [g]; decide) h) (fun g => absurd (by rw [g]; decide) h) (fun g => absurd (by rw [g]; decide) h) (fun g => absurd (by rw [g]; decide) h) (fun _ => hQ2 G I J hR))

theorem rk_31 {l : Launch} {D : va_G} : ∀ (G : xv_Gr) (I : xv_I) (J : xv_J) (x : Int32) (y : Int32), R_ G I J → (y = 0 ∨ y = 1) → PrI R_ l D mX10_work mX11_work [some (.ref 0), some (.int x), some (.int y), none, none] [some (.ref 40), some (.int x), some (.int y), none] G I J := by
  intro G I J x y hR hzy Q1 hQ
  obtain ⟨np, nm, nl, nt, mo, on, sz, hG, hD, hP, hL, hC, hK, hRr, hN, hT⟩ := hR
  have hR : R_ G I J := ⟨np, nm, nl, nt, mo, on, sz, hG, hD, hP, hL, hC, hK, hRr, hN, hT⟩
  have h8 := hN.1.1
  refine s10_work (d := 98) hG hD hN.2.1.1 hN.1.1 (bz_n hzy) (fun h => ?_) (fun i hi hx => ?_)
  · exact hQ _ G I J hG (fun Q2 hQ2 => s11_work (d := 97) hG hN.2.1.2.1 hN.1.1 (bz_v hzy) (fun _ => hQ2 G I J hR) (fun i hi e => absurd (by rw [e]; exact ix_in hi (by omega)) h))
  · refine hQ _ G (xv_ui I (200 + 4 * i + 1) 4 y) J hG (fun Q2 hQ2 => s11_work (d := 97) hG (I := (xv_ui I (200 + 4 * i + 1) 4 y)) (nl := nl) ((xv_ui_a (by omega)).trans hN.2.1.2.1) hN.1.1 (bz_v hzy) (fun h => absurd (by rw [hx]; exact ix_in hi (by omega)) h) (fun j hj e => ?_))
    have e := ix_eq hi hj (by omega) (hx.symm.trans e)
    subst e
    have hn := hN.2.2.1 i hi
    have e4 : I (200 + 4 * i + 1) 4 = I 83 i := by
      obtain ⟨si, ci, a1, a2, a3, a4, a5, a6, a7⟩ := hn
      exact a3.2.2.1
    rw [xv_ui_a (show 83 ≠ 200 + 4 * i + 1 by omega), ← e4]
    refine hQ2 _ _ _ (R_ln hP hL hC hK hRr hT hG hD ⟨hN.1, ?_, fun j hj => ?_, ?_⟩ (fun b h1 h2 => ?_) ?_ (fun j h => ?_) (fun b h => rfl))
    · rw [xv_ui_ne (by omega), xv_ui_ne (by omega), xv_ui_ne (by omega), xv_ui_ne (by omega)]
      exact hN.2.1
    · by_cases e : j = i
      · subst e
        obtain ⟨si, ci, a1, a2, a3, a4, a5, a6, a7⟩ := hn
        refine ⟨si, ci, ?_, ?_, ?_, ?_, a5, ?_, ?_⟩
        · rw [xv_ui_ne (by omega), xv_ui_ne (by omega), xv_ui_ne (by decide), xv_ui_ne (by omega)]; exact a1
        · rw [xv_ui_ne (by omega), xv_ui_ne (by omega)]; exact a2
        · rw [xv_ui_ne (show 200 + 4 * j + 1 ≠ 83 by omega), xv_ui_s, xv_ui_s, xv_ui_o (by decide), xv_ui_o (by decide), xv_ui_ne (show 80 ≠ 83 by decide), xv_ui_ne (show 81 ≠ 83 by decide), xv_ui_ne (by omega), xv_ui_ne (by omega)]
          exact ⟨a3.1, a3.2.1, rfl, hzy⟩
        · rw [xv_ui_ne (show 80 ≠ 83 by decide), xv_ui_ne (show 81 ≠ 83 by decide), xv_ui_ne (by omega), xv_ui_ne (by omega)]; exact a4
        · rw [xv_ui_ne (show 200 + 4 * j ≠ 83 by omega), xv_ui_ne (by omega)]; exact a6
        · rw [xv_ui_ne (show 200 + 4 * j ≠ 83 by omega), xv_ui_ne (show 200 + 4 * j ≠ 200 + 4 * j + 1 by omega), xv_ui_ne (show 86 ≠ 83 by decide), xv_ui_ne (by omega)]; exact a7
      · exact rN1_fr (hN.2.2.1 j hj) (by rw [xv_ui_ne (by omega), xv_ui_ne (by omega)]) (by rw [xv_ui_ne (by omega), xv_ui_ne (by omega)]) rfl rfl rfl (by rw [xv_ui_ne (by omega), xv_ui_ne (by omega)]) (by rw [xv_ui_ne (by omega), xv_ui_ne (by omega)]) (by rw [xv_ui_ne (by omega), xv_ui_ne (by omega)]) (by rw [xv_ui_o e, xv_ui_ne (by omega)]) (fun m hm => ⟨rfl, rfl, by rw [xv_ui_ne (by omega), xv_ui_ne (by omega)]⟩)
    · rw [xv_ui_ne (show 86 ≠ 83 by decide), xv_ui_ne (by omega)]; exact hN.2.2.2
    · rw [xv_ui_ne (fun e => h2 (by rw [e]; decide)), xv_ui_ne (by omega)]
    · rw [xv_ui_ne (show 6 ≠ 83 by decide), xv_ui_ne (by omega)]
    · rw [xv_ui_ne (show 40 ≠ 83 by decide), xv_ui_ne (by omega)]

theorem rk_32 {l : Launch} {D : va_G} : ∀ (G : xv_Gr) (I : xv_I) (J : xv_J) (x : Int32) (y : Int32) (z : Int32), R_ G I J → PrL R_ l D mX10_as mX11_as [some (.ref 0), some (.int x), some (.int y), some (.int z), none] [some (.ref 40), some (.int x), some (.int y), some (.int z), none] G I J := by
  intro G I J x y z hR Q1 hQ
  obtain ⟨np, nm, nl, nt, mo, on, sz, hG, hD, hP, hL, hC, hK, hRr, hN, hT⟩ := hR
  have hR : R_ G I J := ⟨np, nm, nl, nt, mo, on, sz, hG, hD, hP, hL, hC, hK, hRr, hN, hT⟩
  have h8 := hN.1.1
  have h5 := hN.1.2
  have hm : ∀ {j : Nat}, j ≤ mo → 0 ≤ nI j ∧ nI j ≤ nI mo := fun h => ⟨nI_pos' (by omega), by rw [xn_le, nI_toInt (by omega), nI_toInt (by omega)]; omega⟩
  have hy : (0 ≤ y ∧ y ≤ nI mo) → ∃ j, j ≤ mo ∧ y = nI j := fun h => by
    simp only [xn_le, Int32.reduceToInt, nI_toInt (show mo < 2 ^ 31 by omega)] at h
    obtain ⟨j, q1, q2⟩ := xn_nat (x := y) (n := mo + 1) (by omega) (by omega) (by omega)
    exact ⟨j, by omega, q2⟩
  let kf : Nat → Nat := fun i => (if I (200 + 4 * i) 3 < y then I (200 + 4 * i) 3 else y).toNatClampNeg
  have hin : ∀ {i j : Nat}, i < nl → j ≤ mo → y = nI j → rN1 I J mo i → ∃ si ci : Nat, si ≤ mo ∧ ci ≤ 599 ∧ I (200 + 4 * i) 0 = nI si ∧ I (200 + 4 * i) 3 = nI ci ∧ (if I (200 + 4 * i) 3 < y then I (200 + 4 * i) 3 else y) = nI (if ci < j then ci else j) ∧ (y < I (200 + 4 * i) 0 ↔ j < si) ∧ (y < I (200 + 4 * i) 3 ↔ j < ci) ∧ (j < si → J 84 (600 * i + j) = 0 ∧ J 85 (600 * i + j) = 0 ∧ I 86 (600 * i + j) = 0) ∧ (si ≤ j → J 84 (600 * i + j) = J (200 + 4 * i + 2) (if ci < j then ci else j) ∧ J 85 (600 * i + j) = J (200 + 4 * i + 3) (if ci < j then ci else j) ∧ I 86 (600 * i + j) = if j < ci then 1 else I (200 + 4 * i) 2) := fun {i j} hi hj e hn => by
    obtain ⟨si, ci, a1, a2, a3, a4, a5, a6, a7⟩ := hn
    have c5 : ci ≤ 599 := by rcases a2.2 with ⟨_, z⟩ | ⟨_, _, z⟩ <;> omega
    have s5 := a1.2.2
    have t1 : ∀ {p q : Nat}, p ≤ 599 → q ≤ 599 → (nI p < nI q ↔ p < q) := fun z1 z2 => by rw [xn_lt, nI_toInt (by omega), nI_toInt (by omega)]; omega
    refine ⟨si, ci, s5, c5, a1.1, a2.1, ?_, ?_, ?_, (a7 j hj).1, (a7 j hj).2⟩
    · rw [a2.1, e]
      by_cases q : ci < j
      · rw [if_pos ((t1 (by omega) (by omega)).mpr q), if_pos q]
      · rw [if_neg (fun z => q ((t1 (by omega) (by omega)).mp z)), if_neg q]
    · rw [a1.1, e]; exact t1 (by omega) (by omega)
    · rw [a2.1, e]; exact t1 (by omega) (by omega)
  have hk : ∀ i, i < nl → (0 ≤ y ∧ y ≤ nI mo) → xv_ix (if I (200 + 4 * i) 3 < y then I (200 + 4 * i) 3 else y) 600 (kf i) := fun i hi hv => by
    obtain ⟨j, hj, e⟩ := hy hv
    obtain ⟨si, ci, b1, b2, b3, b4, b5, b6⟩ := hin hi hj e (hN.2.2.1 i hi)
    show xv_ix _ 600 (if I (200 + 4 * i) 3 < y then I (200 + 4 * i) 3 else y).toNatClampNeg
    rw [b5]
    have z : (if ci < j then ci else j) < 600 := by split <;> omega
    rw [nI_clamp (by omega)]
    exact xv_ixn z (by decide)
  have kfe : ∀ {i j : Nat}, i < nl → j ≤ mo → y = nI j → ∃ si ci : Nat, (y < I (200 + 4 * i) 0 ↔ j < si) ∧ (y < I (200 + 4 * i) 3 ↔ j < ci) ∧ (j < si → J 84 (600 * i + j) = 0 ∧ J 85 (600 * i + j) = 0 ∧ I 86 (600 * i + j) = 0) ∧ (si ≤ j → J 84 (600 * i + j) = J (200 + 4 * i + 2) (kf i) ∧ J 85 (600 * i + j) = J (200 + 4 * i + 3) (kf i) ∧ I 86 (600 * i + j) = if j < ci then 1 else I (200 + 4 * i) 2) := fun {i j} hi hj e => by
    obtain ⟨si, ci, b1, b2, b3, b4, b5, b6, b7, b8, b9⟩ := hin hi hj e (hN.2.2.1 i hi)
    have z : (if ci < j then ci else j) < 600 := by split <;> omega
    have ek : kf i = if ci < j then ci else j := by
      show (if I (200 + 4 * i) 3 < y then I (200 + 4 * i) 3 else y).toNatClampNeg = _
      rw [b5, nI_clamp (by omega)]
    rw [ek]
    exact ⟨si, ci, b6, b7, b8, b9⟩
  refine s10_as (d := 98) hG hD hN.2.1.1 hN.1.1 hN.2.1.2.2.1 hN.1.2 (kf := kf) hk (fun h => ?_) (fun i hi hx h => ?_) (fun i hi hx h hw c => ?_) (fun i hi hx h hw c => ?_) (fun i hi hx h hw c => ?_) (fun i hi hx h hw c => ?_) (fun i hi hx h hw c => ?_) (fun i hi hx h hw c c2 => ?_) (fun i hi hx h hw c c2 => ?_) (fun i hi hx h hw => ?_)
  · exact hQ _ G I J hG (fun Q2 hQ2 => s11_as (d := 97) hG hN.2.1.2.1 hN.1.1 hN.2.1.2.2.2 hN.1.2 (fun _ => hQ2 G I J hR) (fun i hi e _ => absurd (by rw [e]; exact ix_in hi (by omega)) h) (fun i hi e _ _ _ _ => absurd (by rw [e]; exact ix_in hi (by omega)) h) (fun i hi e _ _ _ _ => absurd (by rw [e]; exact ix_in hi (by omega)) h) (fun i hi e _ _ _ _ => absurd (by rw [e]; exact ix_in hi (by omega)) h))
  · exact hQ _ G I J hG (fun Q2 hQ2 => s11_as (d := 97) hG hN.2.1.2.1 hN.1.1 hN.2.1.2.2.2 hN.1.2 (fun h => absurd (by rw [hx]; exact ix_in hi (by omega)) h) (fun _ _ _ _ => hQ2 G I J hR) (fun _ _ _ j hj e _ => absurd (by rw [e]; exact hm hj) h) (fun _ _ _ j hj e _ => absurd (by rw [e]; exact hm hj) h) (fun _ _ _ j hj e _ => absurd (by rw [e]; exact hm hj) h))
  · refine hQ _ G I J hG (fun Q2 hQ2 => s11_as (d := 97) hG hN.2.1.2.1 hN.1.1 hN.2.1.2.2.2 hN.1.2 (fun h => absurd (by rw [hx]; exact ix_in hi (by omega)) h) (fun _ _ _ g => absurd ⟨h, by rw [hw]; decide⟩ g) (fun i2 hi2 hx2 j hj e _ => ?_) (fun _ _ _ _ _ _ g => absurd (hw.symm.trans g) (by decide)) (fun _ _ _ _ _ _ g => absurd (hw.symm.trans g) (by decide)))
    have ei := ix_eq hi hi2 (by omega) (hx.symm.trans hx2)
    subst ei
    obtain ⟨si, ci, b6, b7, b8, b9⟩ := kfe hi hj e
    rw [(b8 (b6.mp c)).1]
    exact hQ2 G I J hR
  · refine hQ _ G I J hG (fun Q2 hQ2 => s11_as (d := 97) hG hN.2.1.2.1 hN.1.1 hN.2.1.2.2.2 hN.1.2 (fun h => absurd (by rw [hx]; exact ix_in hi (by omega)) h) (fun _ _ _ g => absurd ⟨h, by rw [hw]; decide⟩ g) (fun i2 hi2 hx2 j hj e _ => ?_) (fun _ _ _ _ _ _ g => absurd (hw.symm.trans g) (by decide)) (fun _ _ _ _ _ _ g => absurd (hw.symm.trans g) (by decide)))
    have ei := ix_eq hi hi2 (by omega) (hx.symm.trans hx2)
    subst ei
    obtain ⟨si, ci, b6, b7, b8, b9⟩ := kfe hi hj e
    rw [(b9 (by have z := mt b6.mpr c; omega)).1]
    exact hQ2 G I J hR
  · refine hQ _ G I J hG (fun Q2 hQ2 => s11_as (d := 97) hG hN.2.1.2.1 hN.1.1 hN.2.1.2.2.2 hN.1.2 (fun h => absurd (by rw [hx]; exact ix_in hi (by omega)) h) (fun _ _ _ g => absurd ⟨h, by rw [hw]; decide⟩ g) (fun _ _ _ _ _ _ g => absurd (hw.symm.trans g) (by decide)) (fun i2 hi2 hx2 j hj e _ => ?_) (fun _ _ _ _ _ _ g => absurd (hw.symm.trans g) (by decide)))
    have ei := ix_eq hi hi2 (by omega) (hx.symm.trans hx2)
    subst ei
    obtain ⟨si, ci, b6, b7, b8, b9⟩ := kfe hi hj e
    rw [(b8 (b6.mp c)).2.1]
    exact hQ2 G I J hR
  · refine hQ _ G I J hG (fun Q2 hQ2 => s11_as (d := 97) hG hN.2.1.2.1 hN.1.1 hN.2.1.2.2.2 hN.1.2 (fun h => absurd (by rw [hx]; exact ix_in hi (by omega)) h) (fun _ _ _ g => absurd ⟨h, by rw [hw]; decide⟩ g) (fun _ _ _ _ _ _ g => absurd (hw.symm.trans g) (by decide)) (fun i2 hi2 hx2 j hj e _ => ?_) (fun _ _ _ _ _ _ g => absurd (hw.symm.trans g) (by decide)))
    have ei := ix_eq hi hi2 (by omega) (hx.symm.trans hx2)
    subst ei
    obtain ⟨si, ci, b6, b7, b8, b9⟩ := kfe hi hj e
    rw [(b9 (by have z := mt b6.mpr c; omega)).2.1]
    exact hQ2 G I J hR
  · refine hQ _ G I J hG (fun Q2 hQ2 => s11_as (d := 97) hG hN.2.1.2.1 hN.1.1 hN.2.1.2.2.2 hN.1.2 (fun h => absurd (by rw [hx]; exact ix_in hi (by omega)) h) (fun _ _ _ g => absurd ⟨h, by rw [hw]; decide⟩ g) (fun _ _ _ _ _ _ g => absurd (hw.symm.trans g) (by decide)) (fun _ _ _ _ _ _ g => absurd (hw.symm.trans g) (by decide)) (fun i2 hi2 hx2 j hj e _ => ?_))
    have ei := ix_eq hi hi2 (by omega) (hx.symm.trans hx2)
    subst ei
    obtain ⟨si, ci, b6, b7, b8, b9⟩ := kfe hi hj e
    rw [(b8 (b6.mp c)).2.2]
    exact hQ2 G I J hR
  · refine hQ _ G I J hG (fun Q2 hQ2 => s11_as (d := 97) hG hN.2.1.2.1 hN.1.1 hN.2.1.2.2.2 hN.1.2 (fun h => absurd (by rw [hx]; exact ix_in hi (by omega)) h) (fun _ _ _ g => absurd ⟨h, by rw [hw]; decide⟩ g) (fun _ _ _ _ _ _ g => absurd (hw.symm.trans g) (by decide)) (fun _ _ _ _ _ _ g => absurd (hw.symm.trans g) (by decide)) (fun i2 hi2 hx2 j hj e _ => ?_))
    have ei := ix_eq hi hi2 (by omega) (hx.symm.trans hx2)
    subst ei
    obtain ⟨si, ci, b6, b7, b8, b9⟩ := kfe hi hj e
    rw [(b9 (by have z := mt b6.mpr c; omega)).2.2, if_pos (b7.mp c2)]
    exact hQ2 G I J hR
  · refine hQ _ G I J hG (fun Q2 hQ2 => s11_as (d := 97) hG hN.2.1.2.1 hN.1.1 hN.2.1.2.2.2 hN.1.2 (fun h => absurd (by rw [hx]; exact ix_in hi (by omega)) h) (fun _ _ _ g => absurd ⟨h, by rw [hw]; decide⟩ g) (fun _ _ _ _ _ _ g => absurd (hw.symm.trans g) (by decide)) (fun _ _ _ _ _ _ g => absurd (hw.symm.trans g) (by decide)) (fun i2 hi2 hx2 j hj e _ => ?_))
    have ei := ix_eq hi hi2 (by omega) (hx.symm.trans hx2)
    subst ei
    obtain ⟨si, ci, b6, b7, b8, b9⟩ := kfe hi hj e
    rw [(b9 (by have z := mt b6.mpr c; omega)).2.2, if_neg (mt b7.mpr c2)]
    exact hQ2 G I J hR
  · exact hQ _ G I J hG (fun Q2 hQ2 => s11_as (d := 97) hG hN.2.1.2.1 hN.1.1 hN.2.1.2.2.2 hN.1.2 (fun h => absurd (by rw [hx]; exact ix_in hi (by omega)) h) (fun _ _ _ _ => hQ2 G I J hR) (fun _ _ _ j hj e g => absurd (by rw [g]; decide) hw) (fun _ _ _ j hj e g => absurd (by rw [g]; decide) hw) (fun _ _ _ j hj e g => absurd (by rw [g]; decide) hw))

