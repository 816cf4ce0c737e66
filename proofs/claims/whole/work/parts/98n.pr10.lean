/-! pairs of calls: pay -/
theorem op_iff {I : xv_I} {J : xv_J} {mo i : Nat} (h : rN1 I J mo i) : I (200 + 4 * i) 2 = 1 ↔ I 86 (600 * i + mo) = 1 := by
  obtain ⟨si, ci, a1, a2, a3, a4, a5, a6, a7⟩ := h
  rw [((a7 mo (Nat.le_refl _)).2 a1.2.2).2.2]
  rcases a2.2 with ⟨z1, z2⟩ | ⟨z1, z2, z3⟩
  · rw [z1, ite_self]
  · rw [if_neg (by omega)]
theorem lnp_ne {J : xv_J} {a mo b : Nat} {v : Int32} (h1 : b ≠ a + 1) (h2 : b ≠ a + 2) (h3 : b ≠ a + 3) : ln_p J a mo v b = J b := by
  rw [ln_p, xv_uj_ne h3, xv_uj_ne h2, xv_uj_ne h1, xv_uj_ne h1]
theorem lnp_at {J : xv_J} {a mo : Nat} {v : Int32} {o t z : Int64} (ho : J (a + 1) 0 = o) (ht : ln_t v o = t) (hz : ln_z (J (a + 1) 1) t = z) : (ln_p J a mo v (a + 1) 0 = o - t ∧ ln_p J a mo v (a + 1) 1 = z) ∧ (∀ j, ln_p J a mo v (a + 2) j = if j = mo then o - t else J (a + 2) j) ∧ (∀ j, ln_p J a mo v (a + 3) j = if j = mo then z else J (a + 3) j) := by
  unfold ln_p
  rw [ho, ht, hz]
  simp [xv_uj_ap]
theorem pay_fin {G : xv_Gr} {I I1 : xv_I} {J : xv_J} {np nm nl nt mo i : Nat} {on sz : Nat → Nat} {v : Int32} {o t z : Int64} (hP : rP I np nm sz) (hL : rL I np on) (hC : rC I J np sz) (hK : rK I np on sz) (hRr : rR I J) (hT : rT I nt) (hG : xg_ok G) (hD : xg_dy G nl nt) (hN : rN I J nl mo) (hi : i < nl) (hs : I (200 + 4 * i) 2 = 1) (hv : 1 ≤ v.toInt) (ho : J (200 + 4 * i + 1) 0 = o) (ht : ln_t v o = t) (hz : ln_z (J (200 + 4 * i + 1) 1) t = z) (hI : I1 = if o - t = 0 then xv_ui (xv_ui I (200 + 4 * i) 2 2) (200 + 4 * i) 3 (nI mo) else I) : R_ G (xv_ui I1 86 (600 * i + mo) (if o - t = 0 then 2 else 1)) (xv_uj (xv_uj (ln_p J (200 + 4 * i) mo v) 84 (600 * i + mo) (o - t)) 85 (600 * i + mo) z) := by
  obtain ⟨⟨l8, m5⟩, hn1, hn2, hn3⟩ := hN
  have hI1 : ∀ b, b ≠ 200 + 4 * i → I1 b = I b := fun b hb => by
    rw [hI]; split
    · rw [xv_ui_ne hb, xv_ui_ne hb]
    · rfl
  have f0 : I1 (200 + 4 * i) 0 = I (200 + 4 * i) 0 := by
    rw [hI]; split
    · rw [xv_ui_o (by decide), xv_ui_o (by decide)]
    · rfl
  have f2 : I1 (200 + 4 * i) 2 = if o - t = 0 then 2 else 1 := by
    rw [hI]; split
    · rw [xv_ui_o (by decide), xv_ui_s]
    · exact hs
  have f3 : I1 (200 + 4 * i) 3 = if o - t = 0 then nI mo else I (200 + 4 * i) 3 := by
    rw [hI]; split
    · rw [xv_ui_s]
    · rfl
  clear hI
  obtain ⟨p1, p2, p3⟩ := lnp_at (mo := mo) ho ht hz
  have hI2 : ∀ b, b ≠ 200 + 4 * i → b ≠ 86 → xv_ui I1 86 (600 * i + mo) (if o - t = 0 then 2 else 1) b = I b := fun b h1 h2 => by rw [xv_ui_ne h2, hI1 b h1]
  have hJ2 : ∀ b, b ≠ 200 + 4 * i + 1 → b ≠ 200 + 4 * i + 2 → b ≠ 200 + 4 * i + 3 → b ≠ 84 → b ≠ 85 → xv_uj (xv_uj (ln_p J (200 + 4 * i) mo v) 84 (600 * i + mo) (o - t)) 85 (600 * i + mo) z b = J b := fun b h1 h2 h3 h4 h5 => by rw [xv_uj_ne h5, xv_uj_ne h4, lnp_ne h1 h2 h3]
  have c86 : ∀ {x j : Nat}, j ≤ mo → xv_ui I1 86 (600 * i + mo) (if o - t = 0 then 2 else 1) 86 (600 * x + j) = if x = i ∧ j = mo then (if o - t = 0 then 2 else 1) else I 86 (600 * x + j) := fun {x j} hj => by
    rw [xv_ui_ap, if_pos rfl, hI1 86 (by omega)]
    by_cases q : x = i ∧ j = mo
    · rw [if_pos q, if_pos (by omega)]
    · rw [if_neg q, if_neg (by omega)]
  have c84 : ∀ {x j : Nat}, j ≤ mo → xv_uj (xv_uj (ln_p J (200 + 4 * i) mo v) 84 (600 * i + mo) (o - t)) 85 (600 * i + mo) z 84 (600 * x + j) = if x = i ∧ j = mo then o - t else J 84 (600 * x + j) := fun {x j} hj => by
    rw [xv_uj_ne (by decide), xv_uj_ap, if_pos rfl, lnp_ne (by omega) (by omega) (by omega)]
    by_cases q : x = i ∧ j = mo
    · rw [if_pos q, if_pos (by omega)]
    · rw [if_neg q, if_neg (by omega)]
  have c85 : ∀ {x j : Nat}, j ≤ mo → xv_uj (xv_uj (ln_p J (200 + 4 * i) mo v) 84 (600 * i + mo) (o - t)) 85 (600 * i + mo) z 85 (600 * x + j) = if x = i ∧ j = mo then z else J 85 (600 * x + j) := fun {x j} hj => by
    rw [xv_uj_ap, if_pos rfl, xv_uj_ne (by decide), lnp_ne (by omega) (by omega) (by omega)]
    by_cases q : x = i ∧ j = mo
    · rw [if_pos q, if_pos (by omega)]
    · rw [if_neg q, if_neg (by omega)]
  refine R_ln hP hL hC hK hRr hT hG hD ⟨⟨l8, m5⟩, ?_, fun x hx => ?_, fun x h1 h2 m hm => ?_⟩ (fun b h1 h2 => hI2 b (by omega) (fun e => h2 (by rw [e]; decide))) (by rw [hI2 6 (by omega) (by decide)]) (fun j _ => by rw [hI2 40 (by omega) (by decide)]) (fun b h => ?_)
  · rw [hI2 6 (by omega) (by decide), hI2 40 (by omega) (by decide)]
    exact hn1
  · by_cases e : x = i
    · subst e
      refine pay_ok m5 (hn2 x hx) hs hv ho ht hz ?_ ?_ ?_ (hI2 _ (by omega) (by omega)) ⟨?_, ?_⟩ (fun j => ?_) (fun j => ?_) (by rw [hI2 _ (by omega) (by decide)]) (by rw [hI2 _ (by omega) (by decide)]) (by rw [hI2 _ (by omega) (by decide)]) (by rw [hI2 _ (by omega) (by decide)]) (fun j hj => ?_) (fun j hj => ?_) (fun j hj => ?_)
      · rw [xv_ui_ne (by omega)]; exact f0
      · rw [xv_ui_ne (by omega)]; exact f2
      · rw [xv_ui_ne (by omega)]; exact f3
      · rw [xv_uj_ne (by omega), xv_uj_ne (by omega)]; exact p1.1
      · rw [xv_uj_ne (by omega), xv_uj_ne (by omega)]; exact p1.2
      · rw [xv_uj_ne (by omega), xv_uj_ne (by omega)]; exact p2 j
      · rw [xv_uj_ne (by omega), xv_uj_ne (by omega)]; exact p3 j
      · rw [c84 hj]; simp only [true_and]
      · rw [c85 hj]; simp only [true_and]
      · rw [c86 hj]; simp only [true_and]
    · exact rN1_fr (hn2 x hx) (hI2 _ (by omega) (by omega)) (hI2 _ (by omega) (by omega)) (hJ2 _ (by omega) (by omega) (by omega) (by omega) (by omega)) (hJ2 _ (by omega) (by omega) (by omega) (by omega) (by omega)) (hJ2 _ (by omega) (by omega) (by omega) (by omega) (by omega)) (by rw [hI2 _ (by omega) (by decide)]) (by rw [hI2 _ (by omega) (by decide)]) (by rw [hI2 _ (by omega) (by decide)]) (by rw [hI2 _ (by omega) (by decide)]) (fun m hm => ⟨by rw [c84 hm, if_neg (fun g => e g.1)], by rw [c85 hm, if_neg (fun g => e g.1)], by rw [c86 hm, if_neg (fun g => e g.1)]⟩)
  · rw [xv_uj_ne (show 84 ≠ 85 by decide), xv_uj_ap, if_pos rfl, if_neg (by omega), xv_uj_ap, if_pos rfl, if_neg (by omega), xv_uj_ne (show 85 ≠ 84 by decide), lnp_ne (by omega) (by omega) (by omega), lnp_ne (by omega) (by omega) (by omega), xv_ui_ap, if_pos rfl, if_neg (by omega), hI1 86 (by omega)]
    exact hn3 x h1 h2 m hm
  · simp only [List.mem_cons, List.not_mem_nil, or_false] at h
    exact hJ2 b (by omega) (by omega) (by omega) (by omega) (by omega)
theorem rk_30 {l : Launch} {D : va_G} : ∀ (G : xv_Gr) (I : xv_I) (J : xv_J) (x : Int32) (y : Int32), R_ G I J → PrI R_ l D mX10_pay mX11_pay [some (.ref 0), some (.int x), some (.int y), none] [some (.ref 40), some (.int x), some (.int y), none, none] G I J := by
  intro G I J x y hR Q1 hQ
  obtain ⟨np, nm, nl, nt, mo, on, sz, hG, hD, hP, hL, hC, hK, hRr, hN, hT⟩ := hR
  have hR : R_ G I J := ⟨np, nm, nl, nt, mo, on, sz, hG, hD, hP, hL, hC, hK, hRr, hN, hT⟩
  have h8 := hN.1.1
  have h5 := hN.1.2
  refine s10_pay (d := 97) hG hD hN.2.1.1 hN.1.1 hN.2.1.2.2.1 hN.1.2 (fun h => ?_) (fun i hi hx h => ?_) (fun i hi hx hv hs => ?_) (fun i hi hx hv hs q => ?_) (fun i hi hx hv hs q => ?_)
  · exact hQ _ G I J hG (fun Q2 hQ2 => s11_pay (d := 97) hG hN.2.1.2.1 hN.1.1 hN.2.1.2.2.2 hN.1.2 (fun _ => hQ2 G I J hR) (fun i hi e _ => absurd (by rw [e]; exact ix_in hi (by omega)) h) (fun i hi e _ _ => absurd (by rw [e]; exact ix_in hi (by omega)) h) (fun i hi e _ _ _ => absurd (by rw [e]; exact ix_in hi (by omega)) h) (fun i hi e _ _ _ => absurd (by rw [e]; exact ix_in hi (by omega)) h))
  · exact hQ _ G I J hG (fun Q2 hQ2 => s11_pay (d := 97) hG hN.2.1.2.1 hN.1.1 hN.2.1.2.2.2 hN.1.2 (fun h => absurd (by rw [hx]; exact ix_in hi (by omega)) h) (fun _ _ _ _ => hQ2 G I J hR) (fun _ _ _ g _ => absurd g h) (fun _ _ _ g _ _ => absurd g h) (fun _ _ _ g _ _ => absurd g h))
  · exact hQ _ G I J hG (fun Q2 hQ2 => s11_pay (d := 97) hG hN.2.1.2.1 hN.1.1 hN.2.1.2.2.2 hN.1.2 (fun h => absurd (by rw [hx]; exact ix_in hi (by omega)) h) (fun _ _ _ g => absurd hv g) (fun _ _ _ _ _ => hQ2 G I J hR) (fun j hj e g1 g2 g3 => absurd ((op_iff (hN.2.2.1 i hi)).mpr (by rw [ix_eq hi hj (by omega) (hx.symm.trans e)]; exact g2)) hs) (fun j hj e g1 g2 g3 => absurd ((op_iff (hN.2.2.1 i hi)).mpr (by rw [ix_eq hi hj (by omega) (hx.symm.trans e)]; exact g2)) hs))
  · have hn := hN.2.2.1 i hi
    obtain ⟨p84, p85, hd0, hdo, hpo⟩ : J (200 + 4 * i + 1) 0 = J 84 (600 * i + mo) ∧ J (200 + 4 * i + 1) 1 = J 85 (600 * i + mo) ∧ 0 ≤ (J (200 + 4 * i + 1) 1).toInt ∧ (J (200 + 4 * i + 1) 1).toInt ≤ (J (200 + 4 * i + 1) 0).toInt ∧ 0 < (J (200 + 4 * i + 1) 0).toInt := by
      obtain ⟨si, ci, a1, a2, a3, a4, a5, a6, a7⟩ := hn
      exact ⟨a5.1, a5.2, a6.1, a6.2.1, a6.2.2.1 hs⟩
    have hv1 : 1 ≤ y.toInt := by have z := hv.1; simp only [xn_le, Int32.reduceToInt] at z; exact z
    obtain ⟨t1, t2⟩ := pm_t_eq hv1 hpo
    have t3 := pm_z_eq hd0 (Int.le_of_lt (ln_t_v hv1 hpo).1) t2
    have q84 : (ln_p J (200 + 4 * i) mo y) 84 (600 * i + mo) = J (200 + 4 * i + 1) 0 := by rw [lnp_ne (by omega) (by omega) (by omega), p84]
    have q85 : (ln_p J (200 + 4 * i) mo y) 85 (600 * i + mo) = J (200 + 4 * i + 1) 1 := by rw [lnp_ne (by omega) (by omega) (by omega), p85]
    rw [← t1]
    refine hQ _ G (xv_ui (xv_ui I (200 + 4 * i) 2 2) (200 + 4 * i) 3 (nI mo)) (ln_p J (200 + 4 * i) mo y) hG (fun Q2 hQ2 => s11_pay (d := 97) hG (I := (xv_ui (xv_ui I (200 + 4 * i) 2 2) (200 + 4 * i) 3 (nI mo))) (J := (ln_p J (200 + 4 * i) mo y)) (nl := nl) (by rw [xv_ui_ne (by omega), xv_ui_ne (by omega)]; exact hN.2.1.2.1) hN.1.1 (mo := mo) (by rw [xv_ui_ne (by omega), xv_ui_ne (by omega)]; exact hN.2.1.2.2.2) hN.1.2 (fun h => absurd (by rw [hx]; exact ix_in hi (by omega)) h) (fun _ _ _ g => absurd hv g) (fun j hj e _ g => absurd (by rw [ix_eq hj hi (by omega) (e.symm.trans hx)]; rw [xv_ui_ne (by omega), xv_ui_ne (by omega)]; exact (op_iff hn).mp hs) g) (fun j hj e _ _ g => ?_) (fun j hj e _ _ g => ?_))
    · have e := ix_eq hi hj (by omega) (hx.symm.trans e)
      subst e
      have z := pay_fin hP hL hC hK hRr hT hG hD hN hi hs hv1 rfl rfl rfl (I1 := (xv_ui (xv_ui I (200 + 4 * i) 2 2) (200 + 4 * i) 3 (nI mo))) (by rw [if_pos q])
      rw [if_pos q] at z
      rw [q84, q85, t2, t3]
      exact hQ2 _ _ _ z
    · have e := ix_eq hi hj (by omega) (hx.symm.trans e)
      subst e
      rw [q84, t2] at g
      exact absurd q g
  · have hn := hN.2.2.1 i hi
    obtain ⟨p84, p85, hd0, hdo, hpo⟩ : J (200 + 4 * i + 1) 0 = J 84 (600 * i + mo) ∧ J (200 + 4 * i + 1) 1 = J 85 (600 * i + mo) ∧ 0 ≤ (J (200 + 4 * i + 1) 1).toInt ∧ (J (200 + 4 * i + 1) 1).toInt ≤ (J (200 + 4 * i + 1) 0).toInt ∧ 0 < (J (200 + 4 * i + 1) 0).toInt := by
      obtain ⟨si, ci, a1, a2, a3, a4, a5, a6, a7⟩ := hn
      exact ⟨a5.1, a5.2, a6.1, a6.2.1, a6.2.2.1 hs⟩
    have hv1 : 1 ≤ y.toInt := by have z := hv.1; simp only [xn_le, Int32.reduceToInt] at z; exact z
    obtain ⟨t1, t2⟩ := pm_t_eq hv1 hpo
    have t3 := pm_z_eq hd0 (Int.le_of_lt (ln_t_v hv1 hpo).1) t2
    have q84 : (ln_p J (200 + 4 * i) mo y) 84 (600 * i + mo) = J (200 + 4 * i + 1) 0 := by rw [lnp_ne (by omega) (by omega) (by omega), p84]
    have q85 : (ln_p J (200 + 4 * i) mo y) 85 (600 * i + mo) = J (200 + 4 * i + 1) 1 := by rw [lnp_ne (by omega) (by omega) (by omega), p85]
    rw [← t1]
    refine hQ _ G I (ln_p J (200 + 4 * i) mo y) hG (fun Q2 hQ2 => s11_pay (d := 97) hG (I := I) (J := (ln_p J (200 + 4 * i) mo y)) (nl := nl) (hN.2.1.2.1) hN.1.1 (mo := mo) (hN.2.1.2.2.2) hN.1.2 (fun h => absurd (by rw [hx]; exact ix_in hi (by omega)) h) (fun _ _ _ g => absurd hv g) (fun j hj e _ g => absurd (by rw [ix_eq hj hi (by omega) (e.symm.trans hx)]; exact (op_iff hn).mp hs) g) (fun j hj e _ _ g => ?_) (fun j hj e _ _ g => ?_))
    · have e := ix_eq hi hj (by omega) (hx.symm.trans e)
      subst e
      rw [q84, t2] at g
      exact absurd g q
    · have e := ix_eq hi hj (by omega) (hx.symm.trans e)
      subst e
      have z := pay_fin hP hL hC hK hRr hT hG hD hN hi hs hv1 rfl rfl rfl (I1 := I) (by rw [if_neg q])
      rw [if_neg q] at z
      rw [q84, q85, t2, t3]
      exact hQ2 _ _ _ z

