/-! pairs of calls: term, feed -/
theorem tm_fin {G2 : xv_Gr} {I I2 : xv_I} {J J2 : xv_J} {np nm nl nt mo : Nat} {on sz : Nat → Nat} {x : Int32} (hP : rP I np nm sz) (hL : rL I np on) (hC : rC I J np sz) (hK : rK I np on sz) (hRr : rR I J) (hN : rN I J nl mo) (hT : rT I nt) (hx : 0 ≤ x ∧ x ≤ 599) (h4 : nt < 4) (hr : ag_r nl nt x I J G2 I2 J2) : R_ G2 (xv_ui (xv_ui I2 90 nt x) 40 39 (nI (nt + 1))) J2 := by
  obtain ⟨r1, r2, r3, r4, r5, r6, r7, r8, r9, r10⟩ := hr
  have q3 : ∀ b, b ≠ 6 → (b < 300 + 2 * nt ∨ 300 + 2 * nt + 2 ≤ b) → I2 b = I b := fun b h1 h2 => by rw [r3 b h2, if_neg h1]
  have q6 : ∀ j, I2 6 j = if j = 2 then nI (nt + 1) else I 6 j := fun j => by rw [r3 6 (by omega), if_pos rfl, va_ap]
  have qn : ∀ b, b ≠ 40 → b ≠ 90 → xv_ui (xv_ui I2 90 nt x) 40 39 (nI (nt + 1)) b = I2 b := fun b h1 h2 => by rw [xv_ui_ne h1, xv_ui_ne h2]
  have q90 : ∀ j, xv_ui (xv_ui I2 90 nt x) 40 39 (nI (nt + 1)) 90 j = if j = nt then x else I 90 j := fun j => by rw [xv_ui_ne (by decide), xv_ui_ap, if_pos rfl, q3 90 (by decide) (by omega)]
  simp only [xn_le, Int32.reduceToInt] at hx
  refine R_tm hP hL hC hK hRr hN r1 r2 ⟨by omega, ⟨?_, ?_⟩, fun t ht => ?_, fun t h1 h2 => ?_⟩ (fun b h1 h2 => ?_) (fun j h => ?_) (fun j h => ?_) (fun b h => r4 b (by omega))
  · rw [qn 6 (by decide) (by decide), q6, if_pos rfl]
  · rw [xv_ui_s]
  · by_cases e : t = nt
    · subst e
      refine ⟨0, fun _ => 0, 0, by omega, by omega, ?_, ?_, ?_, fun i hi => absurd hi (by omega), ?_⟩
      · rw [qn _ (by omega) (by omega), q90, if_pos rfl]
        exact ⟨r5, hx.1, hx.2⟩
      · rw [qn _ (by omega) (by omega), qn 91 (by decide) (by decide), q3 91 (by decide) (by omega)]
        exact ⟨r6, hT.2.2.2 t (Nat.le_refl _) h4⟩
      · rw [qn _ (by omega) (by omega)]; exact r9
      · rw [qn _ (by omega) (by omega), r7, tm_wr, if_neg (fun z => by rcases z.2 with z | z <;> cases z)]
        rfl
    · refine rT1_fr (hT.2.2.1 t (by omega)) ?_ ?_ ?_ ?_ (fun i hi => ?_)
      · rw [qn _ (by omega) (by omega), q3 _ (by omega) (by omega)]
      · rw [qn _ (by omega) (by omega), q3 _ (by omega) (by omega)]
      · rw [q90, if_neg e]
      · rw [qn _ (by omega) (by omega), q3 _ (by omega) (by omega)]
      · rw [qn _ (by omega) (by omega), q3 _ (by omega) (by omega)]
  · rw [qn 91 (by decide) (by decide), q3 91 (by decide) (by omega)]
    exact hT.2.2.2 t (by omega) h2
  · rw [qn b (fun e => h2 (by rw [e]; decide)) (fun e => h2 (by rw [e]; decide)), q3 b (fun e => h2 (by rw [e]; decide)) (by omega)]
  · simp only [List.mem_cons, List.not_mem_nil, or_false] at h
    rw [qn 6 (by decide) (by decide), q6, if_neg (by omega)]
  · rw [xv_ui_o h, xv_ui_ne (by decide), q3 40 (by decide) (by omega)]
theorem rk_34 {l : Launch} {D : va_G} : ∀ (G : xv_Gr) (I : xv_I) (J : xv_J) (x : Int32), R_ G I J → PrI R_ l D mX10_term mX11_term [some (.ref 0), some (.int x)] [some (.ref 40), some (.int x)] G I J := by
  intro G I J x hR Q1 hQ
  obtain ⟨np, nm, nl, nt, mo, on, sz, hG, hD, hP, hL, hC, hK, hRr, hN, hT⟩ := hR
  have hR : R_ G I J := ⟨np, nm, nl, nt, mo, on, sz, hG, hD, hP, hL, hC, hK, hRr, hN, hT⟩
  refine s10_term (d := 97) hG hD hN.1.1 hT.2.1.1 hT.1 (fun h => ?_) (fun h h2 => ?_) (fun h h2 G2 I2 J2 hr => ?_)
  · exact hQ _ G I J hG (fun Q2 hQ2 => s11_term (d := 98) hG hT.2.1.2 hT.1 (fun _ => hQ2 G I J hR) (fun g _ => absurd g h) (fun g _ => absurd g h))
  · exact hQ _ G I J hG (fun Q2 hQ2 => s11_term (d := 98) hG hT.2.1.2 hT.1 (fun g => absurd h g) (fun _ _ => hQ2 G I J hR) (fun _ g => absurd g (by omega)))
  · have z := tm_fin hP hL hC hK hRr hN hT h h2 hr
    have q := hr.2.2.1 40 (by omega)
    rw [if_neg (by decide)] at q
    exact hQ _ G2 I2 J2 hr.1 (fun Q2 hQ2 => s11_term (d := 98) hr.1 (by rw [q]; exact hT.2.1.2) hT.1 (fun g => absurd h g) (fun _ g => absurd g (by omega)) (fun _ _ => hQ2 _ _ _ z))

theorem fd_fin {G : xv_Gr} {I I1 : xv_I} {J : xv_J} {np nm nl nt mo t n m : Nat} {on sz : Nat → Nat} {y : Int64} {f : Int32} {dg0 dg2 : Nat} (hP : rP I np nm sz) (hL : rL I np on) (hC : rC I J np sz) (hK : rK I np on sz) (hRr : rR I J) (hN : rN I J nl mo) (hT : rT I nt) (hG : xg_ok G) (hD : xg_dy G nl nt) (ht : t < nt) (hn : I 91 t = nI n) (hn6 : n ≤ 60) (hm : m = mb_n y) (h60 : n + m ≤ 60) (hd2 : dg2 ≤ 6) (q0 : ∀ b, b ≠ 300 + 2 * t → b ≠ 300 + 2 * t + 1 → I1 b = I b) (q1 : I1 (300 + 2 * t) 0 = I (300 + 2 * t) 0 ∧ I1 (300 + 2 * t) 1 = nI (n + m) ∧ I1 (300 + 2 * t) 2 = f ∧ I1 (300 + 2 * t) 5 = nI dg2) (q2 : ∀ j, I1 (300 + 2 * t + 1) j = if n ≤ j ∧ j < n + m then tm_bt y (j - n) else I (300 + 2 * t + 1) j) (hf : f = (tm_wr (I1 (300 + 2 * t + 1)) dg0 (n + m) (n + m) 0).1) : R_ G (xv_ui (mb_c I1 (60 * t + n) y m) 91 t (nI (n + m))) J := by
  have h4 := hT.1
  obtain ⟨mb1, mb2⟩ := mb_n_b y
  rw [← hm] at mb1 mb2
  have c92 : ∀ b, b ≠ 92 → mb_c I1 (60 * t + n) y m b = I1 b := fun b hb => by
    funext j; rw [mb_c, if_neg (fun z => hb z.1)]
  have e92 : ∀ j, mb_c I1 (60 * t + n) y m 92 j = if 60 * t + n ≤ j ∧ j < 60 * t + n + m then (mb_ y (j - (60 * t + n))).toInt32 else I 92 j := fun j => by
    rw [mb_c, q0 92 (by omega) (by omega)]
    by_cases z : 60 * t + n ≤ j ∧ j < 60 * t + n + m
    · rw [if_pos z, if_pos ⟨rfl, z⟩]
    · rw [if_neg z, if_neg (fun w => z w.2)]
  have qn : ∀ b, b ≠ 91 → b ≠ 92 → b ≠ 300 + 2 * t → b ≠ 300 + 2 * t + 1 → xv_ui (mb_c I1 (60 * t + n) y m) 91 t (nI (n + m)) b = I b := fun b h1 h2 h3 h5 => by rw [xv_ui_ne h1, c92 b h2, q0 b h3 h5]
  have q91 : ∀ j, xv_ui (mb_c I1 (60 * t + n) y m) 91 t (nI (n + m)) 91 j = if j = t then nI (n + m) else I 91 j := fun j => by rw [xv_ui_ap, if_pos rfl, c92 91 (by decide), q0 91 (by omega) (by omega)]
  refine R_tm hP hL hC hK hRr hN hG hD ⟨h4, ?_, fun u hu => ?_, fun u h1 h2 => ?_⟩ (fun b h1 h2 => ?_) (fun j h => ?_) (fun j h => ?_) (fun b h => rfl)
  · rw [qn 6 (by decide) (by decide) (by omega) (by omega), qn 40 (by decide) (by decide) (by omega) (by omega)]
    exact hT.2.1
  · by_cases e : u = t
    · subst e
      obtain ⟨n2, b, dg, a1, a2, a3, a4, a5, a6, a7⟩ := hT.2.2.1 u hu
      have en : n2 = n := (nI_eq (by omega) (by omega)).mp (a4.2.symm.trans hn)
      subst en
      have row : ∀ i, i < n2 + m → I1 (300 + 2 * u + 1) i = sb8 (if i < n2 then b i else bN y (i - n2)) := fun i hi => by
        rw [q2]
        by_cases z : i < n2
        · rw [if_pos z, if_neg (by omega)]; exact (a6 i z).2.2.2
        · rw [if_neg z, if_pos (by omega), tm_bt_N (by omega)]
      refine ⟨n2 + m, fun i => if i < n2 then b i else bN y (i - n2), dg2, h60, hd2, ?_, ?_, ?_, fun i hi => ?_, ?_⟩
      · rw [xv_ui_ne (by omega), c92 _ (by omega), q1.1, qn 90 (by decide) (by decide) (by omega) (by omega)]; exact a3
      · rw [q91, if_pos rfl, xv_ui_ne (by omega), c92 _ (by omega)]; exact ⟨q1.2.1, rfl⟩
      · rw [xv_ui_ne (by omega), c92 _ (by omega)]; exact q1.2.2.2
      · rw [xv_ui_ne (show 92 ≠ 91 by decide), e92, xv_ui_ne (show 300 + 2 * u + 1 ≠ 91 by omega), c92 _ (by omega), row i hi]
        dsimp only
        by_cases z : i < n2
        · rw [if_pos z, if_neg (by omega)]
          exact ⟨(a6 i z).1, (a6 i z).2.1, (a6 i z).2.2.1, rfl⟩
        · rw [if_neg z, if_pos (by omega), show 60 * u + i - (60 * u + n2) = i - n2 by omega, mb_N (by omega), lN_ti]
          exact ⟨rfl, bN_lt _ _, mb2 _ (by omega), rfl⟩
      · rw [xv_ui_ne (by omega), c92 _ (by omega), q1.2.2.1, hf]
        exact wr_cg row (n2 + m) 0 (Nat.zero_add _)
    · refine rT1_fr (hT.2.2.1 u hu) (qn _ (by omega) (by omega) (by omega) (by omega)) (qn _ (by omega) (by omega) (by omega) (by omega)) (by rw [qn 90 (by decide) (by decide) (by omega) (by omega)]) (by rw [q91, if_neg e]) (fun i hi => ?_)
      rw [xv_ui_ne (show 92 ≠ 91 by decide), e92, if_neg (by omega)]
  · rw [q91, if_neg (by omega)]
    exact hT.2.2.2 u h1 h2
  · exact qn b (fun e => h2 (by rw [e]; decide)) (fun e => h2 (by rw [e]; decide)) (by omega) (by omega)
  · rw [qn 6 (by decide) (by decide) (by omega) (by omega)]
  · rw [qn 40 (by decide) (by decide) (by omega) (by omega)]
theorem rk_35 {l : Launch} {D : va_G} : ∀ (G : xv_Gr) (I : xv_I) (J : xv_J) (x : Int32) (y : Int64), R_ G I J → PrI R_ l D mX10_feed mX11_feed [some (.ref 0), some (.int x), some (.long y), none, none] [some (.ref 40), some (.int x), some (.long y), none, none, none] G I J := by
  intro G I J x y hR Q1 hQ
  obtain ⟨np, nm, nl, nt, mo, on, sz, hG, hD, hP, hL, hC, hK, hRr, hN, hT⟩ := hR
  have hR : R_ G I J := ⟨np, nm, nl, nt, mo, on, sz, hG, hD, hP, hL, hC, hK, hRr, hN, hT⟩
  have h4 := hT.1
  obtain ⟨bf, szf, dgf, rf, vf, hp⟩ := rT_pk hT
  obtain ⟨p1, p2, p3, p4, p5, p6⟩ := id hp
  refine s10_feed (d := 94) hG hD hT.2.1.1 h4 (szf := szf) (dgf := dgf) (fun t ht => (p1 t ht).1) (fun t ht => (p1 t ht).2.1) (fun h => ?_) (fun t ht hx h => ?_) (fun t ht hx h => ?_)
  · exact hQ _ G I J hG (fun Q2 hQ2 => s11_feed (d := 97) hG hT.2.1.2 h4 (fun t ht => ⟨(p1 t ht).2.2.1, (p1 t ht).1.2⟩) (fun _ => hQ2 G I J hR) (fun t ht e _ => absurd (by rw [e]; exact ix_in ht (by omega)) h) (fun t ht e _ => absurd (by rw [e]; exact ix_in ht (by omega)) h))
  · rw [mn_eq] at h
    exact hQ _ G I J hG (fun Q2 hQ2 => s11_feed (d := 97) hG hT.2.1.2 h4 (fun t ht => ⟨(p1 t ht).2.2.1, (p1 t ht).1.2⟩) (fun h => absurd (by rw [hx]; exact ix_in ht (by omega)) h) (fun _ _ _ _ => hQ2 G I J hR) (fun t2 ht2 e g => absurd h (by have := ix_eq ht ht2 (by omega) (hx.symm.trans e); subst this; omega)))
  · have hm := mn_eq y
    generalize tm_mn y = m at *
    generalize hdd : (tm_st ((xv_ui (tm_cp I (300 + 2 * t + 1) (szf t) y m) (300 + 2 * t) 1 (nI (szf t + m))) (300 + 2 * t + 1)) (dgf t) (tm_wr ((xv_ui (tm_cp I (300 + 2 * t + 1) (szf t) y m) (300 + 2 * t) 1 (nI (szf t + m))) (300 + 2 * t + 1)) (dgf t) (szf t + m) (szf t + m) 0).2) = ss
    have hd6 : ss.2.2 ≤ 6 := by rw [← hdd]; exact (dg6 (p1 t ht).2.1.2 _).1
    have erow : ∀ {a b c : Nat} {f : Int32}, xv_ui (tm_M (xv_ui (tm_cp I (300 + 2 * t + 1) (szf t) y m) (300 + 2 * t) 1 (nI (szf t + m))) (300 + 2 * t) a b) (300 + 2 * t) 2 f (300 + 2 * t + 1) = (xv_ui (tm_cp I (300 + 2 * t + 1) (szf t) y m) (300 + 2 * t) 1 (nI (szf t + m))) (300 + 2 * t + 1) := fun {a b c f} => by
      rw [xv_ui_ne (by omega), tm_M, xv_ui_ne (by omega), xv_ui_ne (by omega)]
    have hI1 : ∀ {a b : Nat} {f : Int32} {c : Nat}, c ≠ 300 + 2 * t → c ≠ 300 + 2 * t + 1 → xv_ui (tm_M (xv_ui (tm_cp I (300 + 2 * t + 1) (szf t) y m) (300 + 2 * t) 1 (nI (szf t + m))) (300 + 2 * t) a b) (300 + 2 * t) 2 f c = I c := fun {a b f c} h1 h2 => by
      rw [xv_ui_ne h1, tm_M, xv_ui_ne h1, xv_ui_ne h1, xv_ui_ne h1, tm_cp_a h2]
    have z := fd_fin (I1 := xv_ui (tm_M (xv_ui (tm_cp I (300 + 2 * t + 1) (szf t) y m) (300 + 2 * t) 1 (nI (szf t + m))) (300 + 2 * t) ss.2.1 ss.2.2) (300 + 2 * t) 2 (tm_wr ((xv_ui (tm_cp I (300 + 2 * t + 1) (szf t) y m) (300 + 2 * t) 1 (nI (szf t + m))) (300 + 2 * t + 1)) (dgf t) (szf t + m) (szf t + m) 0).1) (t := t) (n := szf t) (m := m) (y := y) (dg2 := ss.2.2) (dg0 := dgf t) hP hL hC hK hRr hN hT hG hD ht (p1 t ht).2.2.1 (p1 t ht).1.2 hm h hd6 (fun b h1 h2 => hI1 h1 h2) (by
        have e0 : tm_cp I (300 + 2 * t + 1) (szf t) y m (300 + 2 * t) = I (300 + 2 * t) := tm_cp_a (by omega) m
        refine ⟨?_, ?_, xv_ui_s, ?_⟩
        · rw [xv_ui_o (by decide), tm_M, xv_ui_o (by decide), xv_ui_o (by decide), xv_ui_o (by decide), e0]
        · rw [xv_ui_o (by decide), tm_M1, xv_ui_s]
        · rw [xv_ui_o (by decide), tm_M5]) (fun j => by
        rw [erow (c := 0), xv_ui_ne (by omega), tm_cp]
        by_cases q : szf t ≤ j ∧ j < szf t + m
        · rw [if_pos q, if_pos ⟨rfl, q⟩]
        · rw [if_neg q, if_neg (fun w => q w.2)]) (by rw [erow (c := 0)])
    refine hQ _ G _ J hG (fun Q2 hQ2 => s11_feed (d := 97) hG (szf := szf) (by rw [hI1 (by omega) (by omega)]; exact hT.2.1.2) h4 (fun t2 ht2 => by rw [hI1 (by omega) (by omega)]; exact ⟨(p1 t2 ht2).2.2.1, (p1 t2 ht2).1.2⟩) (fun h => absurd (by rw [hx]; exact ix_in ht (by omega)) h) (fun t2 ht2 e g => absurd h (by have := ix_eq ht ht2 (by omega) (hx.symm.trans e); subst this; omega)) (fun t2 ht2 e g => ?_))
    have e := ix_eq ht ht2 (by omega) (hx.symm.trans e)
    subst e
    rw [← hm]
    exact hQ2 _ _ _ z

