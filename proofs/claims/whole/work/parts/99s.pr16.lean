/-! pairs of calls: price, boards, board, ofBoard, other -/
theorem lk_lc {I I2 : xv_I} {f mn : Nat → Nat} {np : Nat} (h : lc_o I I2 f mn np) : lk_f I I2 := ⟨fun b h1 h2 _ _ _ _ _ => h.1 b h1 h2, fun j _ => by rw [h.1 40 (by decide) (by decide)]⟩
theorem ct_lf {I I2 : xv_I} {J J2 : xv_J} {np lo : Nat} {sz : Nat → Nat} (h : cH I sz lo np) (hf : ct_g I I2 J J2) (hk : ct_ok I I2 np sz lo) : cH I2 sz lo np ∧ I2 40 = I 40 ∧ I2 53 = I 53 ∧ ct_ok I2 I2 np sz lo ∧ (ct_P I2 sz np ↔ ct_P I sz np) ∧ (∀ v, ct_v (pvf I sz lo) np v → ct_v (pvf I2 sz lo) np v) ∧ ∀ v, ct_r I I2 np sz lo v → ct_r I2 I2 np sz lo v := by
  have e : ∀ b, b ∉ [3, 137, 138, 139, 140] → I2 b = I b := fun b hb => by
    simp only [List.mem_cons, List.not_mem_nil, or_false, not_or] at hb
    exact hf.1 b hb.1 hb.2.1 hb.2.2.1 hb.2.2.2.1 hb.2.2.2.2
  have e130 := e 130 (by decide)
  have e131 := e 131 (by decide)
  refine ⟨?_, e 40 (by decide), e 53 (by decide), ct_ok_cg hk e130 e131 (fun _ _ _ => rfl) rfl rfl rfl, ?_, ?_, ?_⟩
  · unfold cH
    rw [e130, e131, e 63 (by decide), e 64 (by decide)]
    exact h
  · unfold ct_P
    simp only [cs_cg e130 e131]
  · intro v hv
    rw [pvf_cg e130 e131]
    exact hv
  · intro v hr
    unfold ct_r at hr ⊢
    simp only [cs_cg e130 e131, rv_cg e130 e131]
    exact hr
theorem R_ct {G : xv_Gr} {I I2 I3 : xv_I} {J J2 : xv_J} {np nm nl nt mo lo : Nat} {on sz : Nat → Nat} (hG : xg_ok G) (hD : xg_dy G nl nt) (hP : rP I np nm sz) (hL : rL I np on) (hK : rK I np on sz) (hRr : rR I J) (hN : rN I J nl mo) (hT : rT I nt) (c1 : lo ≤ 9) (c2 : I 3 2 = nI lo) (c3 : I 40 15 = nI lo) (c4 : I 63 = I 130) (c5 : I 64 = I 131) (c6 : ∀ j, j < 4 → ∃ s p, s ≤ 400 ∧ p ≤ 9999 ∧ I 130 j = nI s ∧ I 131 j = nI p) (hf : ct_g I I2 J J2) (hk : ct_ok I I2 np sz lo) (hl : lk_f I2 I3) : R_ G I3 J2 := by
  have e1 : ∀ b, b ∉ [3, 137, 138, 139, 140, 66, 67, 68, 69, 70, 72, 40] → I3 b = I b := fun b hb => by
    simp only [List.mem_cons, List.not_mem_nil, or_false, not_or] at hb
    rw [hl.1 b (by omega) (by omega) (by omega) (by omega) (by omega) (by omega) (by omega)]
    exact hf.1 b (by omega) (by omega) (by omega) (by omega) (by omega)
  have e4 : ∀ j, j ∉ [21] → I3 40 j = I 40 j := fun j hj => by
    rw [hl.2 j (fun e => hj (by rw [e]; decide)), hf.1 40 (by decide) (by decide) (by decide) (by decide) (by decide)]
  have eJ : ∀ b, b ∉ [141] → J2 b = J b := fun b hb => hf.2.2.2.2.1 b (fun e => hb (by rw [e]; decide))
  have e3 : I3 3 = I2 3 := hl.1 3 (by decide) (by decide) (by decide) (by decide) (by decide) (by decide) (by decide)
  have hb : ∀ {L : List Nat} {b : Nat}, b ∈ L → (∀ a ∈ L, a ∉ [3, 137, 138, 139, 140, 66, 67, 68, 69, 70, 72, 40]) → I3 b = I b := fun h g => e1 _ (g _ h)
  have hj : ∀ {L : List Nat} {j : Nat}, j ∈ L → (∀ a ∈ L, a ∉ [21]) → I3 40 j = I 40 j := fun h g => e4 _ (g _ h)
  have hjj : ∀ {L : List Nat} {b : Nat}, b ∈ L → (∀ a ∈ L, a ∉ [141]) → J2 b = J b := fun h g => eJ _ (g _ h)
  have hC : rC I3 J2 np sz := ⟨lo, c1, by rw [e3, hf.2.1 2 (by decide) (by decide) (by decide) (by decide)]; exact c2, by rw [e4 15 (by decide)]; exact c3, by rw [e1 63 (by decide), e1 130 (by decide)]; exact c4, by rw [e1 64 (by decide), e1 131 (by decide)]; exact c5, by rw [e1 130 (by decide), e1 131 (by decide)]; exact c6, by rw [hl.1 140 (by decide) (by decide) (by decide) (by decide) (by decide) (by decide) (by decide)]; exact hf.2.2.2.1, hf.2.2.2.2.2, fun _ => ct_ok_cg hk (e1 130 (by decide)) (e1 131 (by decide)) (fun j _ _ => by rw [e3]) (hl.1 137 (by decide) (by decide) (by decide) (by decide) (by decide) (by decide) (by decide)) (hl.1 138 (by decide) (by decide) (by decide) (by decide) (by decide) (by decide) (by decide)) (hl.1 139 (by decide) (by decide) (by decide) (by decide) (by decide) (by decide) (by decide))⟩
  exact ⟨np, nm, nl, nt, mo, on, sz, hG, hD, rP_fr hP (fun b h => hb h (by decide)) (fun j h => hj h (by decide)), rL_fr hL (e1 _ (by decide)) (e1 _ (by decide)), hC, rK_fr hK (fun b h => hb h (by decide)), rR_fr hRr (fun b h => hb h (by decide)) (fun j h => hj h (by decide)) (fun b h => hjj h (by decide)), rN_fr hN (fun j h => by rw [e1 6 (by decide)]) (fun j h => hj h (by decide)) (fun b h => hb h (by decide)) (fun b h1 h2 => e1 b (by simp only [List.mem_cons, List.not_mem_nil, or_false]; omega)) (fun b h => hjj h (by decide)) (fun b h1 h2 => eJ b (by simp only [List.mem_cons, List.not_mem_nil, or_false]; omega)), rT_fr hT (by rw [e1 6 (by decide)]) (e4 _ (by decide)) (fun b h => hb h (by decide)) (fun b h1 h2 => e1 b (by simp only [List.mem_cons, List.not_mem_nil, or_false]; omega))⟩
theorem rk_13 {l : Launch} {D : va_G} : ∀ (G : xv_Gr) (I : xv_I) (J : xv_J), R_ G I J → PrI R_ l D mX10_price mX11_price [some (.ref 0)] [some (.ref 40), none] G I J := by
  intro G I J hR Q1 hQ
  obtain ⟨np, nm, nl, nt, mo, on, sz, hG, hD, hP, hL, hC, hK, hRr, hN, hT⟩ := hR
  have hR : R_ G I J := ⟨np, nm, nl, nt, mo, on, sz, hG, hD, hP, hL, hC, hK, hRr, hN, hT⟩
  have h12 := hP.1.1
  obtain ⟨lo, c1, c2, c3, c4, c5, c6, c7, c8, c9⟩ := hC
  have hsz : ∀ p, p < np → I 104 p = nI (sz p) := fun p hp => (hP.2.2.2.2.1 p hp).2.1
  have hpr : ∀ j, j < 4 → ∃ p, p ≤ 9999 ∧ I 131 j = nI p := fun j hj => by
    obtain ⟨s, p, h1, h2, h3, h4⟩ := c6 j hj
    exact ⟨p, h2, h4⟩
  have hcH : cH I sz lo np := ⟨h12, fun p hp => (hP.2.2.2.2.1 p hp).2.2, c1, c4, c5, c6⟩
  have fin : ∀ {I2 J2 I3}, ct_g I I2 J J2 → ct_ok I I2 np sz lo → lk_f I2 I3 → R_ G I3 J2 := fun hf hk hl => R_ct hG hD hP hL hK hRr hN hT c1 c2 c3 c4 c5 c6 hf hk hl
  have inj : ∀ {a b : Nat}, a < 13 → b < 13 → nI a = nI b → a = b := fun {a b} h1 h2 h3 => (nI_eq (by omega) (by omega)).mp h3
  have out : ∀ {v : Int32} {j n : Nat}, j < n → n ≤ 13 → v = nI j → (0 ≤ v ∧ v < nI n) := fun {v j n} h1 h3 h2 => by rw [h2]; exact ⟨nI_pos' (by omega), (nI_ltI (by omega) (by omega)).mpr h1⟩
  refine s10_price (d := 94) hG hP.2.1.1 h12 hsz c2 hpr c7 c8 c9 (fun hn I2 J2 hf hk => ?_) (fun hy I2 J2 hf hk v hv6 hv hr => ?_)
  · have ⟨H, a40, a53, ok, hPP, hvv, hrr⟩ := ct_lf hcH hf hk
    have hex : ct_P I2 sz np → ∃ v, ct_v (pvf I2 sz lo) np v := fun g => by
      obtain ⟨v, _, hv, _⟩ := ok.2 g
      exact ⟨v, hv⟩
    have m1 : I2 40 1 = nI np := by rw [a40]; exact hP.2.1.2.1
    have m2 : ∀ p, p < np → I2 53 p = nI (sz p) := by rw [a53, hP.2.2.1.2.1]; exact hsz
    have m3 : I2 40 15 = nI lo := by rw [a40]; exact c3
    have hn2 : ¬ ct_P I2 sz np := fun z => hn (hPP.mp z)
    exact hQ _ G I2 J2 hG (fun Q2 hQ2 => s11_price (d := 96) hG m1 h12 m2 m3 (cH_pr H) (fun I3 mn ho hb => hQ2 _ _ _ (fin hf hk (lk_lc ho))) (fun I3 mn ho hb => absurd ((cH_P H ho.2.2.2 hex).mp hb) hn2))
  · have ⟨H, a40, a53, ok, hPP, hvv, hrr⟩ := ct_lf hcH hf hk
    have hex : ct_P I2 sz np → ∃ v, ct_v (pvf I2 sz lo) np v := fun g => by
      obtain ⟨v, _, hv, _⟩ := ok.2 g
      exact ⟨v, hv⟩
    have m1 : I2 40 1 = nI np := by rw [a40]; exact hP.2.1.2.1
    have m2 : ∀ p, p < np → I2 53 p = nI (sz p) := by rw [a53, hP.2.2.1.2.1]; exact hsz
    have m3 : I2 40 15 = nI lo := by rw [a40]; exact c3
    have hv2 := hvv v hv
    have hr2 := hrr v hr
    have hy2 := hPP.mpr hy
    exact hQ _ G I2 J2 hG (fun Q2 hQ2 => s11_price (d := 96) hG m1 h12 m2 m3 (cH_pr H) (fun I3 mn ho hb => absurd ((cH_P H ho.2.2.2 hex).mpr hy2) hb) (fun I3 mn ho hb => by
      rw [← (cu_v h12 ho.2.2.2 cH_f hb (cH_Ln H hv2)).1]
      exact hQ2 _ _ _ (fin hf hk (lk_lc ho))))
theorem rk_14 {l : Launch} {D : va_G} : ∀ (G : xv_Gr) (I : xv_I) (J : xv_J), R_ G I J → PrI R_ l D mX10_boards mX11_boards [some (.ref 0)] [some (.ref 40), none] G I J := by
  intro G I J hR Q1 hQ
  obtain ⟨np, nm, nl, nt, mo, on, sz, hG, hD, hP, hL, hC, hK, hRr, hN, hT⟩ := hR
  have hR : R_ G I J := ⟨np, nm, nl, nt, mo, on, sz, hG, hD, hP, hL, hC, hK, hRr, hN, hT⟩
  have h12 := hP.1.1
  obtain ⟨lo, c1, c2, c3, c4, c5, c6, c7, c8, c9⟩ := hC
  have hsz : ∀ p, p < np → I 104 p = nI (sz p) := fun p hp => (hP.2.2.2.2.1 p hp).2.1
  have hpr : ∀ j, j < 4 → ∃ p, p ≤ 9999 ∧ I 131 j = nI p := fun j hj => by
    obtain ⟨s, p, h1, h2, h3, h4⟩ := c6 j hj
    exact ⟨p, h2, h4⟩
  have hcH : cH I sz lo np := ⟨h12, fun p hp => (hP.2.2.2.2.1 p hp).2.2, c1, c4, c5, c6⟩
  have fin : ∀ {I2 J2 I3}, ct_g I I2 J J2 → ct_ok I I2 np sz lo → lk_f I2 I3 → R_ G I3 J2 := fun hf hk hl => R_ct hG hD hP hL hK hRr hN hT c1 c2 c3 c4 c5 c6 hf hk hl
  have inj : ∀ {a b : Nat}, a < 13 → b < 13 → nI a = nI b → a = b := fun {a b} h1 h2 h3 => (nI_eq (by omega) (by omega)).mp h3
  have out : ∀ {v : Int32} {j n : Nat}, j < n → n ≤ 13 → v = nI j → (0 ≤ v ∧ v < nI n) := fun {v j n} h1 h3 h2 => by rw [h2]; exact ⟨nI_pos' (by omega), (nI_ltI (by omega) (by omega)).mpr h1⟩
  refine s10_boards (d := 94) hG hP.2.1.1 h12 hsz c2 hpr c7 c8 c9 (fun hn I2 J2 hf hk => ?_) (fun hy I2 J2 hf hk v hv6 hv hr => ?_)
  · have ⟨H, a40, a53, ok, hPP, hvv, hrr⟩ := ct_lf hcH hf hk
    have hex : ct_P I2 sz np → ∃ v, ct_v (pvf I2 sz lo) np v := fun g => by
      obtain ⟨v, _, hv, _⟩ := ok.2 g
      exact ⟨v, hv⟩
    have m1 : I2 40 1 = nI np := by rw [a40]; exact hP.2.1.2.1
    have m2 : ∀ p, p < np → I2 53 p = nI (sz p) := by rw [a53, hP.2.2.1.2.1]; exact hsz
    have m3 : I2 40 15 = nI lo := by rw [a40]; exact c3
    have hn2 : ¬ ct_P I2 sz np := fun z => hn (hPP.mp z)
    exact hQ _ G I2 J2 hG (fun Q2 hQ2 => s11_boards (d := 96) hG m1 h12 m2 m3 (cH_pr H) (fun I3 mn ho hb => hQ2 _ _ _ (fin hf hk (lk_lc ho))) (fun I3 mn ho hb => absurd ((cH_P H ho.2.2.2 hex).mp hb) hn2))
  · have ⟨H, a40, a53, ok, hPP, hvv, hrr⟩ := ct_lf hcH hf hk
    have hex : ct_P I2 sz np → ∃ v, ct_v (pvf I2 sz lo) np v := fun g => by
      obtain ⟨v, _, hv, _⟩ := ok.2 g
      exact ⟨v, hv⟩
    have m1 : I2 40 1 = nI np := by rw [a40]; exact hP.2.1.2.1
    have m2 : ∀ p, p < np → I2 53 p = nI (sz p) := by rw [a53, hP.2.2.1.2.1]; exact hsz
    have m3 : I2 40 15 = nI lo := by rw [a40]; exact c3
    have hv2 := hvv v hv
    have hr2 := hrr v hr
    have hy2 := hPP.mpr hy
    exact hQ _ G I2 J2 hG (fun Q2 hQ2 => s11_boards (d := 96) hG m1 h12 m2 m3 (cH_pr H) (fun I3 mn ho hb => absurd ((cH_P H ho.2.2.2 hex).mpr hy2) hb) (fun I3 mn ho hb => by
      rw [← (cu_v h12 ho.2.2.2 cH_f hb (cH_Ln H hv2)).2.1]
      exact hQ2 _ _ _ (fin hf hk (lk_lc ho))))
theorem rk_15 {l : Launch} {D : va_G} : ∀ (G : xv_Gr) (I : xv_I) (J : xv_J) (x : Int32), R_ G I J → PrI R_ l D mX10_board mX11_board [some (.ref 0), some (.int x)] [some (.ref 40), some (.int x)] G I J := by
  intro G I J x hR Q1 hQ
  obtain ⟨np, nm, nl, nt, mo, on, sz, hG, hD, hP, hL, hC, hK, hRr, hN, hT⟩ := hR
  have hR : R_ G I J := ⟨np, nm, nl, nt, mo, on, sz, hG, hD, hP, hL, hC, hK, hRr, hN, hT⟩
  have h12 := hP.1.1
  obtain ⟨lo, c1, c2, c3, c4, c5, c6, c7, c8, c9⟩ := hC
  have hsz : ∀ p, p < np → I 104 p = nI (sz p) := fun p hp => (hP.2.2.2.2.1 p hp).2.1
  have hpr : ∀ j, j < 4 → ∃ p, p ≤ 9999 ∧ I 131 j = nI p := fun j hj => by
    obtain ⟨s, p, h1, h2, h3, h4⟩ := c6 j hj
    exact ⟨p, h2, h4⟩
  have hcH : cH I sz lo np := ⟨h12, fun p hp => (hP.2.2.2.2.1 p hp).2.2, c1, c4, c5, c6⟩
  have fin : ∀ {I2 J2 I3}, ct_g I I2 J J2 → ct_ok I I2 np sz lo → lk_f I2 I3 → R_ G I3 J2 := fun hf hk hl => R_ct hG hD hP hL hK hRr hN hT c1 c2 c3 c4 c5 c6 hf hk hl
  have inj : ∀ {a b : Nat}, a < 13 → b < 13 → nI a = nI b → a = b := fun {a b} h1 h2 h3 => (nI_eq (by omega) (by omega)).mp h3
  have out : ∀ {v : Int32} {j n : Nat}, j < n → n ≤ 13 → v = nI j → (0 ≤ v ∧ v < nI n) := fun {v j n} h1 h3 h2 => by rw [h2]; exact ⟨nI_pos' (by omega), (nI_ltI (by omega) (by omega)).mpr h1⟩
  refine s10_board (d := 94) hG hP.2.1.1 h12 hsz c2 hpr c7 c8 c9 (fun hx => ?_) (fun j hj hx hn I2 J2 hf hk => ?_) (fun j hj hx hy I2 J2 hf hk v hv6 hv hr => ?_)
  · have m2 : ∀ p, p < np → I 53 p = nI (sz p) := by rw [hP.2.2.1.2.1]; exact hsz
    exact hQ _ G I J hG (fun Q2 hQ2 => s11_board (d := 95) hG hP.2.1.2.1 h12 m2 c3 (cH_pr hcH) (cIV I sz lo np) (cI_0 hcH) cI_b (cI_s hcH) (fun _ => hQ2 _ _ _ hR) (fun i hi e => absurd (out hi (by omega) e) hx) (fun i hi e => absurd (out hi (by omega) e) hx))
  · have ⟨H, a40, a53, ok, hPP, hvv, hrr⟩ := ct_lf hcH hf hk
    have hex : ct_P I2 sz np → ∃ v, ct_v (pvf I2 sz lo) np v := fun g => by
      obtain ⟨v, _, hv, _⟩ := ok.2 g
      exact ⟨v, hv⟩
    have m1 : I2 40 1 = nI np := by rw [a40]; exact hP.2.1.2.1
    have m2 : ∀ p, p < np → I2 53 p = nI (sz p) := by rw [a53, hP.2.2.1.2.1]; exact hsz
    have m3 : I2 40 15 = nI lo := by rw [a40]; exact c3
    have hn2 : ¬ ct_P I2 sz np := fun z => hn (hPP.mp z)
    exact hQ _ G I2 J2 hG (fun Q2 hQ2 => s11_board (d := 95) hG m1 h12 m2 m3 (cH_pr H) (cIV I2 sz lo np) (cI_0 H) cI_b (cI_s H) (fun z => absurd (out hj (by omega) hx) z) (fun i hi e I3 mn ho hb hl => hQ2 _ _ _ (fin hf hk hl)) (fun i hi e I3 mn k gr bo ho hb hl hg hI => absurd ((cH_P H ho hex).mp hb) hn2))
  · have ⟨H, a40, a53, ok, hPP, hvv, hrr⟩ := ct_lf hcH hf hk
    have hex : ct_P I2 sz np → ∃ v, ct_v (pvf I2 sz lo) np v := fun g => by
      obtain ⟨v, _, hv, _⟩ := ok.2 g
      exact ⟨v, hv⟩
    have m1 : I2 40 1 = nI np := by rw [a40]; exact hP.2.1.2.1
    have m2 : ∀ p, p < np → I2 53 p = nI (sz p) := by rw [a53, hP.2.2.1.2.1]; exact hsz
    have m3 : I2 40 15 = nI lo := by rw [a40]; exact c3
    have hv2 := hvv v hv
    have hr2 := hrr v hr
    have hy2 := hPP.mpr hy
    exact hQ _ G I2 J2 hG (fun Q2 hQ2 => s11_board (d := 95) hG m1 h12 m2 m3 (cH_pr H) (cIV I2 sz lo np) (cI_0 H) cI_b (cI_s H) (fun z => absurd (out hj (by omega) hx) z) (fun i hi e I3 mn ho hb hl => absurd ((cH_P H ho hex).mpr hy2) hb) (fun i hi e I3 mn k gr bo ho hb hl hg hI => by
      have ij := inj (by omega) (by omega) (hx.symm.trans e)
      subst ij
      rw [← (cH_e H ho hb hv2 hI hr2).2.1 j hj]
      exact hQ2 _ _ _ (fin hf hk hl)))
theorem rk_16 {l : Launch} {D : va_G} : ∀ (G : xv_Gr) (I : xv_I) (J : xv_J) (x : Int32) (y : Int32), R_ G I J → PrI R_ l D mX10_ofBoard mX11_ofBoard [some (.ref 0), some (.int x), some (.int y)] [some (.ref 40), some (.int x), some (.int y)] G I J := by
  intro G I J x w hR Q1 hQ
  obtain ⟨np, nm, nl, nt, mo, on, sz, hG, hD, hP, hL, hC, hK, hRr, hN, hT⟩ := hR
  have hR : R_ G I J := ⟨np, nm, nl, nt, mo, on, sz, hG, hD, hP, hL, hC, hK, hRr, hN, hT⟩
  have h12 := hP.1.1
  obtain ⟨lo, c1, c2, c3, c4, c5, c6, c7, c8, c9⟩ := hC
  have hsz : ∀ p, p < np → I 104 p = nI (sz p) := fun p hp => (hP.2.2.2.2.1 p hp).2.1
  have hpr : ∀ j, j < 4 → ∃ p, p ≤ 9999 ∧ I 131 j = nI p := fun j hj => by
    obtain ⟨s, p, h1, h2, h3, h4⟩ := c6 j hj
    exact ⟨p, h2, h4⟩
  have hcH : cH I sz lo np := ⟨h12, fun p hp => (hP.2.2.2.2.1 p hp).2.2, c1, c4, c5, c6⟩
  have fin : ∀ {I2 J2 I3}, ct_g I I2 J J2 → ct_ok I I2 np sz lo → lk_f I2 I3 → R_ G I3 J2 := fun hf hk hl => R_ct hG hD hP hL hK hRr hN hT c1 c2 c3 c4 c5 c6 hf hk hl
  have inj : ∀ {a b : Nat}, a < 13 → b < 13 → nI a = nI b → a = b := fun {a b} h1 h2 h3 => (nI_eq (by omega) (by omega)).mp h3
  have out : ∀ {v : Int32} {j n : Nat}, j < n → n ≤ 13 → v = nI j → (0 ≤ v ∧ v < nI n) := fun {v j n} h1 h3 h2 => by rw [h2]; exact ⟨nI_pos' (by omega), (nI_ltI (by omega) (by omega)).mpr h1⟩
  have w0 : ∀ {c : Int32}, w = c → (c = 0 ∨ c = 1) → (0 ≤ w ∧ w ≤ 1) := fun e h => by
    rw [e]
    rcases h with h | h <;> rw [h] <;> decide
  have n13 : ∀ v : Nat, v / 743008370688 % 13 < 13 := fun v => Nat.mod_lt _ (by decide)
  refine s10_ofBoard (d := 94) hG hP.2.1.1 h12 hsz c2 hpr c7 c8 c9 (fun hn I2 J2 hf hk => ?_) (fun hy I2 J2 hf hk v hv6 hv hr hx => ?_) (fun hy I2 J2 hf hk v hv6 hv hr b hb hx hw => ?_) (fun hy I2 J2 hf hk v hv6 hv hr b hb hx hw => ?_) (fun hy I2 J2 hf hk v hv6 hv hr b hb hx hw => ?_)
  · have ⟨H, a40, a53, ok, hPP, hvv, hrr⟩ := ct_lf hcH hf hk
    have hex : ct_P I2 sz np → ∃ v, ct_v (pvf I2 sz lo) np v := fun g => by
      obtain ⟨v, _, hv, _⟩ := ok.2 g
      exact ⟨v, hv⟩
    have m1 : I2 40 1 = nI np := by rw [a40]; exact hP.2.1.2.1
    have m2 : ∀ p, p < np → I2 53 p = nI (sz p) := by rw [a53, hP.2.2.1.2.1]; exact hsz
    have m3 : I2 40 15 = nI lo := by rw [a40]; exact c3
    have hn2 : ¬ ct_P I2 sz np := fun z => hn (hPP.mp z)
    exact hQ _ G I2 J2 hG (fun Q2 hQ2 => s11_ofBoard (d := 95) hG m1 h12 m2 m3 (cH_pr H) (cIV I2 sz lo np) (cI_0 H) cI_b (cI_s H) (cI_v H) (fun I3 mn ho hb hl => hQ2 _ _ _ (fin hf hk hl)) (fun I3 mn k gr bo ho hb hl hg hI => absurd ((cH_P H ho hex).mp hb) hn2) (fun I3 mn k gr bo ho hb hl hg hI => absurd ((cH_P H ho hex).mp hb) hn2) (fun I3 mn k gr bo ho hb hl hg hI => absurd ((cH_P H ho hex).mp hb) hn2) (fun I3 mn k gr bo ho hb hl hg hI => absurd ((cH_P H ho hex).mp hb) hn2))
  · have ⟨H, a40, a53, ok, hPP, hvv, hrr⟩ := ct_lf hcH hf hk
    have hex : ct_P I2 sz np → ∃ v, ct_v (pvf I2 sz lo) np v := fun g => by
      obtain ⟨v, _, hv, _⟩ := ok.2 g
      exact ⟨v, hv⟩
    have m1 : I2 40 1 = nI np := by rw [a40]; exact hP.2.1.2.1
    have m2 : ∀ p, p < np → I2 53 p = nI (sz p) := by rw [a53, hP.2.2.1.2.1]; exact hsz
    have m3 : I2 40 15 = nI lo := by rw [a40]; exact c3
    have hv2 := hvv v hv
    have hr2 := hrr v hr
    have hy2 := hPP.mpr hy
    have n1 := n13 v
    have no : ∀ {k b : Nat}, v / 743008370688 % 13 = k → b < k → x = nI b → False := fun e h g => hx (by rw [e]; exact out h (by omega) g)
    exact hQ _ G I2 J2 hG (fun Q2 hQ2 => s11_ofBoard (d := 95) hG m1 h12 m2 m3 (cH_pr H) (cIV I2 sz lo np) (cI_0 H) cI_b (cI_s H) (cI_v H) (fun I3 mn ho hb hl => absurd ((cH_P H ho hex).mpr hy2) hb) (fun I3 mn k gr bo ho hb hl hg hI _ => hQ2 _ _ _ (fin hf hk hl)) (fun I3 mn k gr bo ho hb hl hg hI b h1 h2 _ _ => (no (cH_e H ho hb hv2 hI hr2).1 h1 h2).elim) (fun I3 mn k gr bo ho hb hl hg hI b h1 h2 _ => (no (cH_e H ho hb hv2 hI hr2).1 h1 h2).elim) (fun I3 mn k gr bo ho hb hl hg hI b h1 h2 _ => (no (cH_e H ho hb hv2 hI hr2).1 h1 h2).elim))
  · have ⟨H, a40, a53, ok, hPP, hvv, hrr⟩ := ct_lf hcH hf hk
    have hex : ct_P I2 sz np → ∃ v, ct_v (pvf I2 sz lo) np v := fun g => by
      obtain ⟨v, _, hv, _⟩ := ok.2 g
      exact ⟨v, hv⟩
    have m1 : I2 40 1 = nI np := by rw [a40]; exact hP.2.1.2.1
    have m2 : ∀ p, p < np → I2 53 p = nI (sz p) := by rw [a53, hP.2.2.1.2.1]; exact hsz
    have m3 : I2 40 15 = nI lo := by rw [a40]; exact c3
    have hv2 := hvv v hv
    have hr2 := hrr v hr
    have hy2 := hPP.mpr hy
    have n1 := n13 v
    have ye : ∀ {k : Nat}, v / 743008370688 % 13 = k → (0 ≤ x ∧ x < nI k) := fun e => by rw [← e]; exact out hb (by omega) hx
    have sm : ∀ {k c : Nat}, v / 743008370688 % 13 = k → c < k → x = nI c → c = b := fun e h g => inj (by omega) (by omega) (g.symm.trans hx)
    exact hQ _ G I2 J2 hG (fun Q2 hQ2 => s11_ofBoard (d := 95) hG m1 h12 m2 m3 (cH_pr H) (cIV I2 sz lo np) (cI_0 H) cI_b (cI_s H) (cI_v H) (fun I3 mn ho hb hl => absurd ((cH_P H ho hex).mpr hy2) hb) (fun I3 mn k gr bo ho hb hl hg hI z => absurd (ye (cH_e H ho hb hv2 hI hr2).1) z) (fun I3 mn k gr bo ho hb hl hg hI c h1 h2 _ _ => hQ2 _ _ _ (fin hf hk hl)) (fun I3 mn k gr bo ho hb hl hg hI c h1 h2 h3 => absurd (w0 h3 (Or.inl rfl)) hw) (fun I3 mn k gr bo ho hb hl hg hI c h1 h2 h3 => absurd (w0 h3 (Or.inr rfl)) hw))
  · have ⟨H, a40, a53, ok, hPP, hvv, hrr⟩ := ct_lf hcH hf hk
    have hex : ct_P I2 sz np → ∃ v, ct_v (pvf I2 sz lo) np v := fun g => by
      obtain ⟨v, _, hv, _⟩ := ok.2 g
      exact ⟨v, hv⟩
    have m1 : I2 40 1 = nI np := by rw [a40]; exact hP.2.1.2.1
    have m2 : ∀ p, p < np → I2 53 p = nI (sz p) := by rw [a53, hP.2.2.1.2.1]; exact hsz
    have m3 : I2 40 15 = nI lo := by rw [a40]; exact c3
    have hv2 := hvv v hv
    have hr2 := hrr v hr
    have hy2 := hPP.mpr hy
    have n1 := n13 v
    have ye : ∀ {k : Nat}, v / 743008370688 % 13 = k → (0 ≤ x ∧ x < nI k) := fun e => by rw [← e]; exact out hb (by omega) hx
    have sm : ∀ {k c : Nat}, v / 743008370688 % 13 = k → c < k → x = nI c → c = b := fun e h g => inj (by omega) (by omega) (g.symm.trans hx)
    exact hQ _ G I2 J2 hG (fun Q2 hQ2 => s11_ofBoard (d := 95) hG m1 h12 m2 m3 (cH_pr H) (cIV I2 sz lo np) (cI_0 H) cI_b (cI_s H) (cI_v H) (fun I3 mn ho hb hl => absurd ((cH_P H ho hex).mpr hy2) hb) (fun I3 mn k gr bo ho hb hl hg hI z => absurd (ye (cH_e H ho hb hv2 hI hr2).1) z) (fun I3 mn k gr bo ho hb hl hg hI c h1 h2 h3 _ => absurd hw h3) (fun I3 mn k gr bo ho hb2 hl hg hI c h1 h2 h3 => by
      have E := cH_e H ho hb2 hv2 hI hr2
      have cb := sm E.1 h1 h2
      subst cb
      rw [← (E.2.2 c h1).1]
      exact hQ2 _ _ _ (fin hf hk hl)) (fun I3 mn k gr bo ho hb hl hg hI c h1 h2 h3 => absurd (hw.symm.trans h3) (by decide)))
  · have ⟨H, a40, a53, ok, hPP, hvv, hrr⟩ := ct_lf hcH hf hk
    have hex : ct_P I2 sz np → ∃ v, ct_v (pvf I2 sz lo) np v := fun g => by
      obtain ⟨v, _, hv, _⟩ := ok.2 g
      exact ⟨v, hv⟩
    have m1 : I2 40 1 = nI np := by rw [a40]; exact hP.2.1.2.1
    have m2 : ∀ p, p < np → I2 53 p = nI (sz p) := by rw [a53, hP.2.2.1.2.1]; exact hsz
    have m3 : I2 40 15 = nI lo := by rw [a40]; exact c3
    have hv2 := hvv v hv
    have hr2 := hrr v hr
    have hy2 := hPP.mpr hy
    have n1 := n13 v
    have ye : ∀ {k : Nat}, v / 743008370688 % 13 = k → (0 ≤ x ∧ x < nI k) := fun e => by rw [← e]; exact out hb (by omega) hx
    have sm : ∀ {k c : Nat}, v / 743008370688 % 13 = k → c < k → x = nI c → c = b := fun e h g => inj (by omega) (by omega) (g.symm.trans hx)
    exact hQ _ G I2 J2 hG (fun Q2 hQ2 => s11_ofBoard (d := 95) hG m1 h12 m2 m3 (cH_pr H) (cIV I2 sz lo np) (cI_0 H) cI_b (cI_s H) (cI_v H) (fun I3 mn ho hb hl => absurd ((cH_P H ho hex).mpr hy2) hb) (fun I3 mn k gr bo ho hb hl hg hI z => absurd (ye (cH_e H ho hb hv2 hI hr2).1) z) (fun I3 mn k gr bo ho hb hl hg hI c h1 h2 _ h3 => absurd hw h3) (fun I3 mn k gr bo ho hb hl hg hI c h1 h2 h3 => absurd (hw.symm.trans h3) (by decide)) (fun I3 mn k gr bo ho hb2 hl hg hI c h1 h2 h3 => by
      have E := cH_e H ho hb2 hv2 hI hr2
      have cb := sm E.1 h1 h2
      subst cb
      rw [← (E.2.2 c h1).2]
      exact hQ2 _ _ _ (fin hf hk hl)))
theorem rk_17 {l : Launch} {D : va_G} : ∀ (G : xv_Gr) (I : xv_I) (J : xv_J) (x : Int32), R_ G I J → PrI R_ l D mX10_other mX11_other [some (.ref 0), some (.int x)] [some (.ref 40), some (.int x), none, none, none, none] G I J := by
  intro G I J x hR Q1 hQ
  obtain ⟨np, nm, nl, nt, mo, on, sz, hG, hD, hP, hL, hC, hK, hRr, hN, hT⟩ := hR
  have hR : R_ G I J := ⟨np, nm, nl, nt, mo, on, sz, hG, hD, hP, hL, hC, hK, hRr, hN, hT⟩
  have h12 := hP.1.1
  obtain ⟨lo, c1, c2, c3, c4, c5, c6, c7, c8, c9⟩ := hC
  have hsz : ∀ p, p < np → I 104 p = nI (sz p) := fun p hp => (hP.2.2.2.2.1 p hp).2.1
  have hpr : ∀ j, j < 4 → ∃ p, p ≤ 9999 ∧ I 131 j = nI p := fun j hj => by
    obtain ⟨s, p, h1, h2, h3, h4⟩ := c6 j hj
    exact ⟨p, h2, h4⟩
  have hcH : cH I sz lo np := ⟨h12, fun p hp => (hP.2.2.2.2.1 p hp).2.2, c1, c4, c5, c6⟩
  have fin : ∀ {I2 J2 I3}, ct_g I I2 J J2 → ct_ok I I2 np sz lo → lk_f I2 I3 → R_ G I3 J2 := fun hf hk hl => R_ct hG hD hP hL hK hRr hN hT c1 c2 c3 c4 c5 c6 hf hk hl
  have inj : ∀ {a b : Nat}, a < 13 → b < 13 → nI a = nI b → a = b := fun {a b} h1 h2 h3 => (nI_eq (by omega) (by omega)).mp h3
  have out : ∀ {v : Int32} {j n : Nat}, j < n → n ≤ 13 → v = nI j → (0 ≤ v ∧ v < nI n) := fun {v j n} h1 h3 h2 => by rw [h2]; exact ⟨nI_pos' (by omega), (nI_ltI (by omega) (by omega)).mpr h1⟩
  refine s10_other (d := 94) hG hP.2.1.1 h12 hsz c2 hpr c7 c8 c9 (fun hx => ?_) (fun hx hn I2 J2 hf hk => ?_) (fun hx hy I2 J2 hf hk v hv6 hv hr => ?_)
  · have m2 : ∀ p, p < np → I 53 p = nI (sz p) := by rw [hP.2.2.1.2.1]; exact hsz
    exact hQ _ G I J hG (fun Q2 hQ2 => s11_other (d := 95) hG hP.2.1.2.1 h12 m2 c3 (cH_pr hcH) (cIV I sz lo np) (cI_0 hcH) cI_b (cI_s hcH) (cI_v hcH) (fun _ => hQ2 _ _ _ hR) (fun e => absurd e hx) (fun e => absurd e hx))
  · have ⟨H, a40, a53, ok, hPP, hvv, hrr⟩ := ct_lf hcH hf hk
    have hex : ct_P I2 sz np → ∃ v, ct_v (pvf I2 sz lo) np v := fun g => by
      obtain ⟨v, _, hv, _⟩ := ok.2 g
      exact ⟨v, hv⟩
    have m1 : I2 40 1 = nI np := by rw [a40]; exact hP.2.1.2.1
    have m2 : ∀ p, p < np → I2 53 p = nI (sz p) := by rw [a53, hP.2.2.1.2.1]; exact hsz
    have m3 : I2 40 15 = nI lo := by rw [a40]; exact c3
    have hn2 : ¬ ct_P I2 sz np := fun z => hn (hPP.mp z)
    exact hQ _ G I2 J2 hG (fun Q2 hQ2 => s11_other (d := 95) hG m1 h12 m2 m3 (cH_pr H) (cIV I2 sz lo np) (cI_0 H) cI_b (cI_s H) (cI_v H) (fun z => absurd hx z) (fun e I3 mn ho hb hl => hQ2 _ _ _ (fin hf hk hl)) (fun e I3 mn k gr bo ho hb hl hg hI => absurd ((cH_P H ho hex).mp hb) hn2))
  · have ⟨H, a40, a53, ok, hPP, hvv, hrr⟩ := ct_lf hcH hf hk
    have hex : ct_P I2 sz np → ∃ v, ct_v (pvf I2 sz lo) np v := fun g => by
      obtain ⟨v, _, hv, _⟩ := ok.2 g
      exact ⟨v, hv⟩
    have m1 : I2 40 1 = nI np := by rw [a40]; exact hP.2.1.2.1
    have m2 : ∀ p, p < np → I2 53 p = nI (sz p) := by rw [a53, hP.2.2.1.2.1]; exact hsz
    have m3 : I2 40 15 = nI lo := by rw [a40]; exact c3
    have hv2 := hvv v hv
    have hr2 := hrr v hr
    have hy2 := hPP.mpr hy
    exact hQ _ G I2 J2 hG (fun Q2 hQ2 => s11_other (d := 95) hG m1 h12 m2 m3 (cH_pr H) (cIV I2 sz lo np) (cI_0 H) cI_b (cI_s H) (cI_v H) (fun z => absurd hx z) (fun e I3 mn ho hb hl => absurd ((cH_P H ho hex).mpr hy2) hb) (fun e I3 mn k gr bo ho hb hl hg hI => by
      have E := cH_e H ho hb hv2 hI hr2
      rw [E.1, fl_cg (R2 := fun g => x ≤ lv_ I2 lo (-(nI lo) + nI (ws_ sz lo (gr g) np))) (W2 := fun g => lv_ I2 lo (-(nI lo) + nI (ws_ sz lo (gr g) np))) k (fun g hg => ⟨by rw [(E.2.2 g hg).2], (E.2.2 g hg).2⟩)] at hQ2
      exact hQ2 _ _ _ (fin hf hk hl)))
