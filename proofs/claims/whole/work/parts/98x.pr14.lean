/-! pairs of calls: takeBack, soon -/
theorem tb_fin {G : xv_Gr} {I : xv_I} {J : xv_J} {np nm nl nt mo i : Nat} {on sz : Nat → Nat} (hP : rP I np nm sz) (hL : rL I np on) (hC : rC I J np sz) (hK : rK I np on sz) (hRr : rR I J) (hT : rT I nt) (hG : xg_ok G) (hD : xg_dy G nl nt) (hN : rN I J nl mo) (hi : i < nl) (hs : I (200 + 4 * i) 2 = 1) : R_ G (xv_ui (xv_ui (xv_ui I (200 + 4 * i) 2 3) (200 + 4 * i) 3 (nI mo)) 86 (600 * i + mo) 3) J := by
  obtain ⟨⟨l8, m5⟩, hn1, hn2, hn3⟩ := hN
  have hI2 : ∀ b, b ≠ 200 + 4 * i → b ≠ 86 → xv_ui (xv_ui (xv_ui I (200 + 4 * i) 2 3) (200 + 4 * i) 3 (nI mo)) 86 (600 * i + mo) 3 b = I b := fun b h1 h2 => by rw [xv_ui_ne h2, xv_ui_ne h1, xv_ui_ne h1]
  have c86 : ∀ {x j : Nat}, j ≤ 599 → xv_ui (xv_ui (xv_ui I (200 + 4 * i) 2 3) (200 + 4 * i) 3 (nI mo)) 86 (600 * i + mo) 3 86 (600 * x + j) = if x = i ∧ j = mo then 3 else I 86 (600 * x + j) := fun {x j} hj => by
    rw [xv_ui_ap, if_pos rfl, xv_ui_ne (by omega), xv_ui_ne (by omega)]
    by_cases q : x = i ∧ j = mo
    · rw [if_pos q, if_pos (by omega)]
    · rw [if_neg q, if_neg (by omega)]
  have ca : ∀ j, xv_ui (xv_ui (xv_ui I (200 + 4 * i) 2 3) (200 + 4 * i) 3 (nI mo)) 86 (600 * i + mo) 3 (200 + 4 * i) j = if j = 3 then nI mo else if j = 2 then 3 else I (200 + 4 * i) j := fun j => by
    rw [xv_ui_ne (by omega), xv_ui_ap, if_pos rfl, xv_ui_ap, if_pos rfl]
  refine R_ln hP hL hC hK hRr hT hG hD ⟨⟨l8, m5⟩, ?_, fun x hx => ?_, fun x h1 h2 m hm => ?_⟩ (fun b h1 h2 => hI2 b (by omega) (fun e => h2 (by rw [e]; decide))) (by rw [hI2 6 (by omega) (by decide)]) (fun j _ => by rw [hI2 40 (by omega) (by decide)]) (fun b h => rfl)
  · rw [hI2 6 (by omega) (by decide), hI2 40 (by omega) (by decide)]
    exact hn1
  · by_cases e : x = i
    · subst e
      obtain ⟨si, ci, a1, a2, a3, a4, a5, a6, a7⟩ := hn2 x hx
      have c5 : ci = 599 := by
        rcases a2.2 with ⟨_, z⟩ | ⟨z1, _⟩
        · exact z
        · rw [hs] at z1; rcases z1 with z1 | z1 <;> exact absurd z1 (by decide)
      subst c5
      refine ⟨si, mo, ?_, ?_, ?_, ?_, a5, ?_, fun m hm => ?_⟩
      · rw [ca, if_neg (by decide), if_neg (by decide), hI2 82 (by omega) (by decide)]; exact a1
      · rw [ca, ca, if_pos rfl, if_neg (by decide), if_pos rfl]
        exact ⟨rfl, Or.inr ⟨Or.inr rfl, a1.2.2, Nat.le_refl _⟩⟩
      · rw [hI2 _ (by omega) (by omega), hI2 80 (by omega) (by decide), hI2 81 (by omega) (by decide), hI2 83 (by omega) (by decide)]; exact a3
      · rw [hI2 80 (by omega) (by decide), hI2 81 (by omega) (by decide)]; exact a4
      · refine ⟨a6.1, a6.2.1, fun z => ?_, a6.2.2.2⟩
        rw [ca, if_neg (by decide), if_pos rfl] at z
        exact absurd z (by decide)
      · have b := a7 m hm
        rw [c86 (by omega), ca, if_neg (show ¬ 2 = 3 by decide), if_pos (show 2 = 2 from rfl), if_neg (show ¬ mo < m by omega)]
        rw [if_neg (show ¬ 599 < m by omega), hs, ite_self] at b
        by_cases e : m = mo
        · rw [if_pos ⟨rfl, e⟩, if_neg (show ¬ m < mo by omega)]
          exact ⟨fun g => absurd a1.2.2 (by omega), fun g => ⟨(b.2 g).1, (b.2 g).2.1, rfl⟩⟩
        · rw [if_neg (fun z => e z.2), if_pos (show m < mo by omega)]
          exact b
    · exact rN1_fr (hn2 x hx) (hI2 _ (by omega) (by omega)) (hI2 _ (by omega) (by omega)) rfl rfl rfl (by rw [hI2 _ (by omega) (by decide)]) (by rw [hI2 _ (by omega) (by decide)]) (by rw [hI2 _ (by omega) (by decide)]) (by rw [hI2 _ (by omega) (by decide)]) (fun m hm => ⟨rfl, rfl, by rw [c86 (by omega), if_neg (fun g => e g.1)]⟩)
  · rw [c86 (by omega), if_neg (by omega)]
    exact hn3 x h1 h2 m hm
/-- what is owed, months on -/
theorem go_pos {o : Int64} {r : Int32} {mo : Nat} (h0 : 0 < o.toInt) (hb : o.toInt * 20 ^ mo ≤ 100000 * 21 ^ mo) (r0 : 0 ≤ r.toInt) (r5 : r.toInt ≤ 50) : ∀ k, mo + k ≤ 599 → 0 < (go_o o r k).toInt ∧ (go_o o r k).toInt * 20 ^ (mo + k) ≤ 100000 * 21 ^ (mo + k)
  | 0, _ => ⟨h0, hb⟩
  | k + 1, hk => by
    obtain ⟨i1, i2⟩ := go_pos h0 hb r0 r5 k (by omega)
    have hg := ln_o_v (r := r) (Int.le_of_lt i1) (gw_lt (by omega) i2) r0 r5
    rw [go_o]
    refine ⟨by omega, ?_⟩
    have z1 : (20 * (ln_o (go_o o r k) r).toInt) * 20 ^ (mo + k) ≤ (21 * (go_o o r k).toInt) * 20 ^ (mo + k) := Int.mul_le_mul_of_nonneg_right hg.2 (Int.le_of_lt (Int.pow_pos (by decide)))
    have z2 := Int.mul_le_mul_of_nonneg_left i2 (show (0 : Int) ≤ 21 by decide)
    rw [Int.mul_assoc] at z1
    rw [Int.mul_assoc] at z1
    rw [show mo + (k + 1) = mo + k + 1 from rfl, Int.pow_succ, Int.pow_succ, ← Int.mul_assoc, ← Int.mul_assoc]
    omega
theorem go_gm {o d : Int64} {r p : Int32} {mo : Nat} (h0 : 0 < o.toInt) (hb : o.toInt * 20 ^ mo ≤ 100000 * 21 ^ mo) (r0 : 0 ≤ r.toInt) (r5 : r.toInt ≤ 50) : ∀ k, mo + k ≤ 599 → gm_D o d r p k = go_d o d r p k
  | 0, _ => rfl
  | k + 1, hk => by rw [gm_D, go_d, go_gm h0 hb r0 r5 k (by omega), gm_eq (go_pos h0 hb r0 r5 (k + 1) hk).1]
theorem rk_39 {l : Launch} {D : va_G} : ∀ (G : xv_Gr) (I : xv_I) (J : xv_J) (x : Int32), R_ G I J → PrL R_ l D mX10_takeBack mX11_takeBack [some (.ref 0), some (.int x), none] [some (.ref 40), some (.int x)] G I J := by
  intro G I J x hR Q1 hQ
  obtain ⟨np, nm, nl, nt, mo, on, sz, hG, hD, hP, hL, hC, hK, hRr, hN, hT⟩ := hR
  have hR : R_ G I J := ⟨np, nm, nl, nt, mo, on, sz, hG, hD, hP, hL, hC, hK, hRr, hN, hT⟩
  have h4 := hT.1
  obtain ⟨bf, szf, dgf, rf, vf, hp⟩ := rT_pk hT
  obtain ⟨p1, p2, p3, p4, p5, p6⟩ := id hp
  have h8 := hN.1.1
  have h5 := hN.1.2
  have hpp : ∀ i, i < nl → 0 < I (200 + 4 * i + 1) 3 ∧ 0 < I 81 i := fun i hi => by
    obtain ⟨si, ci, a1, a2, a3, a4, a5, a6, a7⟩ := hN.2.2.1 i hi
    rw [a3.2.1]
    simp only [xn_lt, Int32.reduceToInt]
    omega
  have hwf : ∀ t, t < nt → I (300 + 2 * t) 2 = -900009 → vs_wf (I (300 + 2 * t + 1)) (szf t) := fun t ht h => (p6 t ht ((ob_n (p3 t)).mp ((p5 t ht).symm.trans h))).1
  have hal : ∀ i, i < nl → ((I (200 + 4 * i) 2 = 1 ∧ al_P I nt szf (J (200 + 4 * i + 1) 0) (J (200 + 4 * i + 1) 1) (I (200 + 4 * i + 1) 3) (I (200 + 4 * i + 1) 4) (nI mo) (I (200 + 4 * i) 0)) ↔ (I 86 (600 * i + mo) = 1 ∧ sy_ I nt rf vf (J 84 (600 * i + mo)) (J 85 (600 * i + mo)) i (nI mo))) := fun i hi => by
    have hn := hN.2.2.1 i hi
    rw [op_iff hn, ← al_sy hp h4]
    obtain ⟨si, ci, a1, a2, a3, a4, a5, a6, a7⟩ := hn
    rw [a3.2.1, a3.2.2.1, a5.1, a5.2, a1.1, a1.2.1]
  refine s10_takeBack (d := 93) hG hD hN.2.1.1 hN.1.1 hT.2.1.1 h4 hN.2.1.2.2.1 hN.1.2 (fun t ht => (p1 t ht).1) hwf (fun i hi => (hpp i hi).1) (fun h => ?_) (fun i hi hx hc I2 J2 v1 v2 => ?_) (fun i hi hx hc I2 J2 v1 v2 => ?_)
  · exact hQ _ G I J hG (fun Q2 hQ2 => s11_takeBack (d := 93) hG hT.2.1.2 h4 (fun t ht => ⟨(p1 t ht).2.2.1, (p1 t ht).1.2⟩) (fun t ht => (p1 t ht).2.2.2.1) p2 p3 p4 hN.2.1.2.1 h8 hN.2.1.2.2.2 h5 (fun i hi => (hpp i hi).2) (fun _ => hQ2 G I J hR) (fun i hi e _ => absurd (by rw [e]; exact ix_in hi (by omega)) h) (fun i hi e _ => absurd (by rw [e]; exact ix_in hi (by omega)) h))
  · have g1 := vd_gf v1
    have g2 := vd_gf v2
    refine hQ _ G I2 J2 hG (fun Q2 hQ2 => s11_takeBack (d := 93) hG (by rw [g1 40 (by decide) (by decide)]; exact hT.2.1.2) h4 (fun t ht => by rw [g1 91 (by decide) (by decide)]; exact ⟨(p1 t ht).2.2.1, (p1 t ht).1.2⟩) (fun t ht => by rw [g1 92 (by decide) (by decide)]; exact (p1 t ht).2.2.2.1) p2 p3 p4 (by rw [g1 40 (by decide) (by decide)]; exact hN.2.1.2.1) h8 (by rw [g1 40 (by decide) (by decide)]; exact hN.2.1.2.2.2) h5 (fun i hi => by rw [g1 81 (by decide) (by decide)]; exact (hpp i hi).2) (fun h => absurd (by rw [hx]; exact ix_in hi (by omega)) h) (fun j hj e _ I3 J3 h3 hJ3 => hQ2 _ _ _ (rqf_R (gf_R hR g1 g2) h3 hJ3)) (fun j hj e g => ?_))
    have e := ix_eq hi hj (by omega) (hx.symm.trans e)
    subst e
    rw [g1 86 (by decide) (by decide), g2 84 (by decide) (by decide), g2 85 (by decide) (by decide), sy_gf g1] at g
    exact absurd ((hal i hi).mpr g) hc
  · have g2 := vd_gf v2
    have w1 : ∀ b, b ≠ 175 → b ≠ 176 → b ≠ 200 + 4 * i → (xv_ui (xv_ui I2 (200 + 4 * i) 2 3) (200 + 4 * i) 3 (nI mo)) b = I b := fun b _ h2 h3 => by rw [xv_ui_ne h3, xv_ui_ne h3, v1 b h2]
    have g1 : ∀ b, b < 175 → b ≠ 175 → b ≠ 176 → (xv_ui (xv_ui I2 (200 + 4 * i) 2 3) (200 + 4 * i) 3 (nI mo)) b = I b := fun b h _ _ => w1 b (by omega) (by omega) (by omega)
    have sy2 : ∀ {o d : Int64} {x : Int32}, sy_ (xv_ui (xv_ui I2 (200 + 4 * i) 2 3) (200 + 4 * i) 3 (nI mo)) nt rf vf o d i x ↔ sy_ I nt rf vf o d i x := fun {o d x} => by
      unfold sy_
      rw [g1 90 (by decide) (by decide) (by decide), g1 81 (by decide) (by decide) (by decide), g1 82 (by decide) (by decide) (by decide), g1 83 (by decide) (by decide) (by decide)]
    have ev : J (200 + 4 * i + 1) 0 = J 84 (600 * i + mo) := by
      obtain ⟨si, ci, a1, a2, a3, a4, a5, a6, a7⟩ := hN.2.2.1 i hi
      exact a5.1
    rw [ev]
    refine hQ _ G (xv_ui (xv_ui I2 (200 + 4 * i) 2 3) (200 + 4 * i) 3 (nI mo)) J2 hG (fun Q2 hQ2 => s11_takeBack (d := 93) hG (by rw [g1 40 (by decide) (by decide) (by decide)]; exact hT.2.1.2) h4 (fun t ht => by rw [g1 91 (by decide) (by decide) (by decide)]; exact ⟨(p1 t ht).2.2.1, (p1 t ht).1.2⟩) (fun t ht => by rw [g1 92 (by decide) (by decide) (by decide)]; exact (p1 t ht).2.2.2.1) p2 p3 p4 (by rw [g1 40 (by decide) (by decide) (by decide)]; exact hN.2.1.2.1) h8 (by rw [g1 40 (by decide) (by decide) (by decide)]; exact hN.2.1.2.2.2) h5 (fun i hi => by rw [g1 81 (by decide) (by decide) (by decide)]; exact (hpp i hi).2) (fun h => absurd (by rw [hx]; exact ix_in hi (by omega)) h) (fun j hj e g => ?_) (fun j hj e _ I3 J3 h3 hJ3 => ?_))
    · have e := ix_eq hi hj (by omega) (hx.symm.trans e)
      subst e
      rw [g1 86 (by decide) (by decide) (by decide), g2 84 (by decide) (by decide), g2 85 (by decide) (by decide), sy2] at g
      exact absurd ((hal i hi).mp hc) g
    · have e := ix_eq hi hj (by omega) (hx.symm.trans e)
      subst e
      rw [g2 84 (by decide) (by decide)]
      have z := tb_fin hP hL hC hK hRr hT hG hD hN hi hc.1
      refine hQ2 _ _ _ (R_fr z (fun b hb => ?_) (fun j hj => ?_) (fun b hb => ?_))
      · have n40 : b ≠ 40 := fun e => hb (by rw [e]; decide)
        have n95 : b ≠ 95 := fun e => hb (by rw [e]; decide)
        have n97 : b ≠ 97 := fun e => hb (by rw [e]; decide)
        have n176 : b ≠ 176 := fun e => hb (by rw [e]; decide)
        funext j
        rw [xv_ui_ap, xv_ui_ap, h3.1 b n40 n95 n97, xv_ui_ap, xv_ui_ap, xv_ui_ap, xv_ui_ap, v1 b n176]
      · rw [xv_ui_ne (show 40 ≠ 86 by decide), h3.2 j (fun e => hj (by rw [e]; decide)) (fun e => hj (by rw [e]; decide)) (fun e => hj (by rw [e]; decide)), w1 40 (by decide) (by decide) (by omega), xv_ui_ne (show 40 ≠ 86 by decide), xv_ui_ne (by omega), xv_ui_ne (by omega)]
      · rw [hJ3 b (fun e => hb (by rw [e]; decide)) (fun e => hb (by rw [e]; decide)), v2 b (fun e => hb (by rw [e]; decide))]

theorem rk_40 {l : Launch} {D : va_G} : ∀ (G : xv_Gr) (I : xv_I) (J : xv_J) (x : Int32), R_ G I J → PrI R_ l D mX10_soon mX11_soon [some (.ref 0), some (.int x), none] [some (.ref 40), some (.int x), none] G I J := by
  intro G I J x hR Q1 hQ
  obtain ⟨np, nm, nl, nt, mo, on, sz, hG, hD, hP, hL, hC, hK, hRr, hN, hT⟩ := hR
  have hR : R_ G I J := ⟨np, nm, nl, nt, mo, on, sz, hG, hD, hP, hL, hC, hK, hRr, hN, hT⟩
  have h4 := hT.1
  obtain ⟨bf, szf, dgf, rf, vf, hp⟩ := rT_pk hT
  obtain ⟨p1, p2, p3, p4, p5, p6⟩ := id hp
  have h8 := hN.1.1
  have h5 := hN.1.2
  have hpp : ∀ i, i < nl → 0 < I (200 + 4 * i + 1) 3 ∧ 0 < I 81 i := fun i hi => by
    obtain ⟨si, ci, a1, a2, a3, a4, a5, a6, a7⟩ := hN.2.2.1 i hi
    rw [a3.2.1]
    simp only [xn_lt, Int32.reduceToInt]
    omega
  have hwf : ∀ t, t < nt → I (300 + 2 * t) 2 = -900009 → vs_wf (I (300 + 2 * t + 1)) (szf t) := fun t ht h => (p6 t ht ((ob_n (p3 t)).mp ((p5 t ht).symm.trans h))).1
  have hal : ∀ i, i < nl → ((I (200 + 4 * i) 2 = 1 ∧ al_P I nt szf (J (200 + 4 * i + 1) 0) (J (200 + 4 * i + 1) 1) (I (200 + 4 * i + 1) 3) (I (200 + 4 * i + 1) 4) (nI mo) (I (200 + 4 * i) 0)) ↔ (I 86 (600 * i + mo) = 1 ∧ sy_ I nt rf vf (J 84 (600 * i + mo)) (J 85 (600 * i + mo)) i (nI mo))) := fun i hi => by
    have hn := hN.2.2.1 i hi
    rw [op_iff hn, ← al_sy hp h4]
    obtain ⟨si, ci, a1, a2, a3, a4, a5, a6, a7⟩ := hn
    rw [a3.2.1, a3.2.2.1, a5.1, a5.2, a1.1, a1.2.1]
  refine s10_soon (d := 93) hG hD hN.2.1.1 hN.1.1 hT.2.1.1 h4 hN.2.1.2.2.1 hN.1.2 (fun t ht => (p1 t ht).1) hwf (fun i hi => (hpp i hi).1) (fun i hi => bz_n (by
      obtain ⟨si, ci, a1, a2, a3, a4, a5, a6, a7⟩ := hN.2.2.1 i hi
      rw [a3.2.2.1]; exact a3.2.2.2)) (fun h => ?_) (fun i hi hx hc => ?_) (fun i hi hx hc I2 J2 g1 g2 => ?_)
  · exact hQ _ G I J hG (fun Q2 hQ2 => s11_soon (d := 94) hG hT.2.1.2 h4 (fun t ht => ⟨(p1 t ht).2.2.1, (p1 t ht).1.2⟩) (fun t ht => (p1 t ht).2.2.2.1) p2 p3 p4 hN.2.1.2.1 h8 hN.2.1.2.2.2 h5 (fun i hi => (hpp i hi).2) (fun _ => hQ2 G I J hR) (fun i hi e _ => absurd (by rw [e]; exact ix_in hi (by omega)) h) (fun i hi e _ => absurd (by rw [e]; exact ix_in hi (by omega)) h))
  · exact hQ _ G I J hG (fun Q2 hQ2 => s11_soon (d := 94) hG hT.2.1.2 h4 (fun t ht => ⟨(p1 t ht).2.2.1, (p1 t ht).1.2⟩) (fun t ht => (p1 t ht).2.2.2.1) p2 p3 p4 hN.2.1.2.1 h8 hN.2.1.2.2.2 h5 (fun i hi => (hpp i hi).2) (fun h => absurd (by rw [hx]; exact ix_in hi (by omega)) h) (fun _ _ _ _ => hQ2 G I J hR) (fun j hj e g => absurd ((op_iff (hN.2.2.1 i hi)).mpr (by rw [ix_eq hi hj (by omega) (hx.symm.trans e)]; exact g)) hc))
  · refine hQ _ G I2 J2 hG (fun Q2 hQ2 => s11_soon (d := 94) hG (by rw [g1 40 (by decide) (by decide)]; exact hT.2.1.2) h4 (fun t ht => by rw [g1 91 (by decide) (by decide)]; exact ⟨(p1 t ht).2.2.1, (p1 t ht).1.2⟩) (fun t ht => by rw [g1 92 (by decide) (by decide)]; exact (p1 t ht).2.2.2.1) p2 p3 p4 (by rw [g1 40 (by decide) (by decide)]; exact hN.2.1.2.1) h8 (by rw [g1 40 (by decide) (by decide)]; exact hN.2.1.2.2.2) h5 (fun i hi => by rw [g1 81 (by decide) (by decide)]; exact (hpp i hi).2) (fun h => absurd (by rw [hx]; exact ix_in hi (by omega)) h) (fun j hj e g => ?_) (fun j hj e g I3 J3 h3 hJ3 => ?_))
    · have e := ix_eq hi hj (by omega) (hx.symm.trans e)
      subst e
      rw [g1 86 (by decide) (by decide)] at g
      exact absurd ((op_iff (hN.2.2.1 i hi)).mp hc) g
    · have e := ix_eq hi hj (by omega) (hx.symm.trans e)
      subst e
      rw [g1 80 (by decide) (by decide), g1 81 (by decide) (by decide), g2 84 (by decide) (by decide), g2 85 (by decide) (by decide)]
      have key : xfst (fun k => sy_ I2 nt rf vf (go_o (J 84 (600 * i + mo)) (I 80 i) k) (gm_D (J 84 (600 * i + mo)) (J 85 (600 * i + mo)) (I 80 i) (I 81 i) k) i (nI (mo + k))) (fun k => nI k) (-900009) ((if 599 - mo < 120 then 599 - mo else 120) + 1) 0 = xfst (fun k => al_P I nt szf (go_o (J (200 + 4 * i + 1) 0) (I (200 + 4 * i + 1) 2) k) (go_d (J (200 + 4 * i + 1) 0) (J (200 + 4 * i + 1) 1) (I (200 + 4 * i + 1) 2) (I (200 + 4 * i + 1) 3) k) (I (200 + 4 * i + 1) 3) (I (200 + 4 * i + 1) 4) (nI (mo + k)) (I (200 + 4 * i) 0)) (fun k => nI k) (-900009) ((if 599 - mo < 120 then 599 - mo else 120) + 1) 0 := by
        obtain ⟨si, ci, a1, a2, a3, a4, a5, a6, a7⟩ := hN.2.2.1 i hi
        refine xfst_cong rfl _ _ (fun k k0 k1 => ⟨?_, rfl⟩)
        have k2 : mo + k ≤ 599 := by
          have : (if 599 - mo < 120 then 599 - mo else 120) ≤ 599 - mo := by split <;> omega
          omega
        rw [sy_gf g1, ← al_sy hp h4, a3.1, a3.2.1, a3.2.2.1, a1.1, a1.2.1, ← a5.1, ← a5.2, go_gm (a6.2.2.1 hc) a6.2.2.2 a4.1.1 a4.1.2 k k2]
      rw [key]
      exact hQ2 _ _ _ (rqf_R (gf_R hR g1 g2) h3 hJ3)

