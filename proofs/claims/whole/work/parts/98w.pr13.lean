/-! pairs of calls: fault, force, may -/
theorem rqf_R {G : xv_Gr} {I I2 : xv_I} {J J2 : xv_J} (hR : R_ G I J) (h : rqf I I2) (hJ : ∀ b, b ≠ 98 → b ≠ 40 → J2 b = J b) : R_ G I2 J2 :=
  R_fr hR (fun b hb => h.1 b (fun e => hb (by rw [e]; decide)) (fun e => hb (by rw [e]; decide)) (fun e => hb (by rw [e]; decide))) (fun j hj => h.2 j (fun e => hj (by rw [e]; decide)) (fun e => hj (by rw [e]; decide)) (fun e => hj (by rw [e]; decide))) (fun b hb => hJ b (fun e => hb (by rw [e]; decide)) (fun e => hb (by rw [e]; decide)))
theorem gf_R {G : xv_Gr} {I I2 : xv_I} {J J2 : xv_J} (hR : R_ G I J) (h : gf_ I I2) (hJ : gf_ J J2) : R_ G I2 J2 :=
  R_fr hR (fun b hb => h b (fun e => hb (by rw [e]; decide)) (fun e => hb (by rw [e]; decide))) (fun j hj => by rw [h 40 (by decide) (by decide)]) (fun b hb => hJ b (fun e => hb (by rw [e]; decide)) (fun e => hb (by rw [e]; decide)))
theorem vd_gf {α : Type} {F F2 : Nat → α} (h : vd_fr F F2) : gf_ F F2 := fun b _ h2 => h b h2
theorem sy_gf {I I2 : xv_I} (h : gf_ I I2) {nt : Nat} {rf : Nat → Option Nat} {vf : (Nat → Int64) → Nat → Bool} {o d : Int64} {i : Nat} {x : Int32} : sy_ I2 nt rf vf o d i x ↔ sy_ I nt rf vf o d i x := by
  unfold sy_
  rw [h 90 (by decide) (by decide), h 81 (by decide) (by decide), h 82 (by decide) (by decide), h 83 (by decide) (by decide)]
theorem xbp_i {P Q : Prop} (h : P ↔ Q) : xbp P = xbp Q := by rw [propext h]
theorem rk_36 {l : Launch} {D : va_G} : ∀ (G : xv_Gr) (I : xv_I) (J : xv_J) (x : Int32), R_ G I J → PrI R_ l D mX10_fault mX11_fault [some (.ref 0), some (.int x), none] [some (.ref 40), some (.int x)] G I J := by
  intro G I J x hR Q1 hQ
  obtain ⟨np, nm, nl, nt, mo, on, sz, hG, hD, hP, hL, hC, hK, hRr, hN, hT⟩ := hR
  have hR : R_ G I J := ⟨np, nm, nl, nt, mo, on, sz, hG, hD, hP, hL, hC, hK, hRr, hN, hT⟩
  have h4 := hT.1
  obtain ⟨bf, szf, dgf, rf, vf, hp⟩ := rT_pk hT
  obtain ⟨p1, p2, p3, p4, p5, p6⟩ := id hp
  refine s10_fault (d := 98) hG hD hT.2.1.1 h4 (fun h => ?_) (fun t ht hx => ?_)
  · exact hQ _ G I J hG (fun Q2 hQ2 => s11_fault (d := 96) hG hT.2.1.2 h4 (fun t ht => ⟨(p1 t ht).2.2.1, (p1 t ht).1.2⟩) (fun t ht => (p1 t ht).2.2.2.1) p2 (fun _ => hQ2 G I J hR) (fun t ht e => absurd (by rw [e]; exact ix_in ht (by omega)) h))
  · refine hQ _ G I J hG (fun Q2 hQ2 => s11_fault (d := 96) hG hT.2.1.2 h4 (fun t ht => ⟨(p1 t ht).2.2.1, (p1 t ht).1.2⟩) (fun t ht => (p1 t ht).2.2.2.1) p2 (fun h => absurd (by rw [hx]; exact ix_in ht (by omega)) h) (fun t2 ht2 e I3 h3 => ?_))
    have e := ix_eq ht ht2 (by omega) (hx.symm.trans e)
    subst e
    rw [← p5 t ht]
    exact hQ2 _ _ _ (rqf_R hR h3 (fun _ _ _ => rfl))

theorem rk_37 {l : Launch} {D : va_G} : ∀ (G : xv_Gr) (I : xv_I) (J : xv_J) (x : Int32), R_ G I J → PrI R_ l D mX10_force mX11_force [some (.ref 0), some (.int x)] [some (.ref 40), some (.int x)] G I J := by
  intro G I J x hR Q1 hQ
  obtain ⟨np, nm, nl, nt, mo, on, sz, hG, hD, hP, hL, hC, hK, hRr, hN, hT⟩ := hR
  have hR : R_ G I J := ⟨np, nm, nl, nt, mo, on, sz, hG, hD, hP, hL, hC, hK, hRr, hN, hT⟩
  have h4 := hT.1
  obtain ⟨bf, szf, dgf, rf, vf, hp⟩ := rT_pk hT
  obtain ⟨p1, p2, p3, p4, p5, p6⟩ := id hp
  refine s10_force (d := 98) hG hD hT.2.1.1 h4 (fun h => ?_) (fun h => ?_)
  · exact hQ _ G I J hG (fun Q2 hQ2 => s11_force (d := 95) hG hT.2.1.2 h4 (fun t ht => ⟨(p1 t ht).2.2.1, (p1 t ht).1.2⟩) (fun t ht => (p1 t ht).2.2.2.1) p2 p3 (fun _ => hQ2 G I J hR) (fun g => absurd g h))
  · refine hQ _ G I J hG (fun Q2 hQ2 => s11_force (d := 95) hG hT.2.1.2 h4 (fun t ht => ⟨(p1 t ht).2.2.1, (p1 t ht).1.2⟩) (fun t ht => (p1 t ht).2.2.2.1) p2 p3 (fun g => absurd h g) (fun _ I3 h3 => ?_))
    obtain ⟨t1, t2⟩ := ti_fi (fun t ht => (p1 t ht).2.2.2.2.2) (fun t ht => by rw [p5 t ht]; exact ob_n (p3 t)) (x := x) nt (Nat.le_refl _)
    have e : ob_ (-900009) (fi_ (I 90) rf x nt) = (ti_st I x nt).1 := by
      cases q : fi_ (I 90) rf x nt with
      | none => rw [t1 q]; rfl
      | some j => rw [t2 j q]; rfl
    rw [e]
    exact hQ2 _ _ _ (rqf_R hR h3 (fun _ _ _ => rfl))

theorem rk_38 {l : Launch} {D : va_G} : ∀ (G : xv_Gr) (I : xv_I) (J : xv_J) (x : Int32), R_ G I J → PrI R_ l D mX10_may mX11_may [some (.ref 0), some (.int x), none] [some (.ref 40), some (.int x)] G I J := by
  intro G I J x hR Q1 hQ
  obtain ⟨np, nm, nl, nt, mo, on, sz, hG, hD, hP, hL, hC, hK, hRr, hN, hT⟩ := hR
  have hR : R_ G I J := ⟨np, nm, nl, nt, mo, on, sz, hG, hD, hP, hL, hC, hK, hRr, hN, hT⟩
  have h4 := hT.1
  obtain ⟨bf, szf, dgf, rf, vf, hp⟩ := rT_pk hT
  obtain ⟨p1, p2, p3, p4, p5, p6⟩ := id hp
  have h8 := hN.1.1
  have h5 := hN.1.2
  have hpp : ∀ i, i < nl → 0 < I (200 + 4 * i + 1) 3 ∧ 0 < I 81 i := fun i hi => by
    obtain ⟨si, ci, a1, a2, a3, a4, a5, a6, a7⟩ := hN.2.2.1 i hi
    rw [a3.2.1]
    simp only [xn_lt, Int32.reduceToInt]
    omega
  have hwf : ∀ t, t < nt → I (300 + 2 * t) 2 = -900009 → vs_wf (I (300 + 2 * t + 1)) (szf t) := fun t ht h => (p6 t ht ((ob_n (p3 t)).mp ((p5 t ht).symm.trans h))).1
  have hal : ∀ i, i < nl → ((I (200 + 4 * i) 2 = 1 ∧ al_P I nt szf (J (200 + 4 * i + 1) 0) (J (200 + 4 * i + 1) 1) (I (200 + 4 * i + 1) 3) (I (200 + 4 * i + 1) 4) (nI mo) (I (200 + 4 * i) 0)) ↔ (I 86 (600 * i + mo) = 1 ∧ sy_ I nt rf vf (J 84 (600 * i + mo)) (J 85 (600 * i + mo)) i (nI mo))) := fun i hi => by
    have hn := hN.2.2.1 i hi
    rw [op_iff hn, ← al_sy hp h4]
    obtain ⟨si, ci, a1, a2, a3, a4, a5, a6, a7⟩ := hn
    rw [a3.2.1, a3.2.2.1, a5.1, a5.2, a1.1, a1.2.1]
  refine s10_may (d := 93) hG hD hN.2.1.1 hN.1.1 hT.2.1.1 h4 hN.2.1.2.2.1 hN.1.2 (fun t ht => (p1 t ht).1) hwf (fun i hi => (hpp i hi).1) (fun h => ?_) (fun i hi hx I2 J2 v1 v2 => ?_)
  · exact hQ _ G I J hG (fun Q2 hQ2 => s11_may (d := 93) hG hT.2.1.2 h4 (fun t ht => ⟨(p1 t ht).2.2.1, (p1 t ht).1.2⟩) (fun t ht => (p1 t ht).2.2.2.1) p2 p3 p4 hN.2.1.2.1 h8 hN.2.1.2.2.2 h5 (fun i hi => (hpp i hi).2) (fun _ => hQ2 G I J hR) (fun i hi e => absurd (by rw [e]; exact ix_in hi (by omega)) h))
  · have g1 := vd_gf v1
    have g2 := vd_gf v2
    refine hQ _ G I2 J2 hG (fun Q2 hQ2 => s11_may (d := 93) hG (by rw [g1 40 (by decide) (by decide)]; exact hT.2.1.2) h4 (fun t ht => by rw [g1 91 (by decide) (by decide)]; exact ⟨(p1 t ht).2.2.1, (p1 t ht).1.2⟩) (fun t ht => by rw [g1 92 (by decide) (by decide)]; exact (p1 t ht).2.2.2.1) p2 p3 p4 (by rw [g1 40 (by decide) (by decide)]; exact hN.2.1.2.1) h8 (by rw [g1 40 (by decide) (by decide)]; exact hN.2.1.2.2.2) h5 (fun i hi => by rw [g1 81 (by decide) (by decide)]; exact (hpp i hi).2) (fun h => absurd (by rw [hx]; exact ix_in hi (by omega)) h) (fun j hj e I3 J3 h3 hJ3 => ?_))
    have e := ix_eq hi hj (by omega) (hx.symm.trans e)
    subst e
    rw [g1 86 (by decide) (by decide), g2 84 (by decide) (by decide), g2 85 (by decide) (by decide), xbp_i (and_congr_right fun _ => sy_gf g1), ← xbp_i (hal i hi)]
    exact hQ2 _ _ _ (rqf_R (gf_R hR g1 g2) h3 hJ3)

