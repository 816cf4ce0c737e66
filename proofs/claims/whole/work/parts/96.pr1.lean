/-! pairs of calls: plans (1) -/
theorem rk_0 {l : Launch} {D : va_G} : ∀ (G : xv_Gr) (I : xv_I) (J : xv_J) (x : Int32), R_ G I J → PrI R_ l D mX10_width mX11_width [some (.ref 0), some (.int x), none] [some (.ref 40), some (.int x), none] G I J := by
  intro G I J x hR Q1 hQ
  obtain ⟨np, nm, nl, nt, mo, on, sz, hG, hD, hP, hL, hC, hK, hRr, hN, hT⟩ := hR
  refine s10_width (d := 98) hG (fun h => ?_) (fun h => ?_)
  · exact hQ _ G I J hG (fun Q2 hQ2 => s11_width (d := 98) hG (fun _ => hQ2 G I J ⟨np, nm, nl, nt, mo, on, sz, hG, hD, hP, hL, hC, hK, hRr, hN, hT⟩) (fun h2 => absurd h2 h))
  · refine hQ _ G (xv_ui I 1 0 x) J hG (fun Q2 hQ2 => s11_width (d := 98) hG (fun h2 => absurd h h2) (fun _ => ?_))
    rw [show xv_ui I 1 0 x 40 0 = I 1 0 from hP.2.1.2.2.2.2]
    simp only [xn_le, Int32.reduceToInt] at h
    exact hQ2 _ _ _ ⟨np, nm, nl, nt, mo, on, sz, hG, hD, ⟨hP.1, ⟨hP.2.1.1, hP.2.1.2.1, hP.2.1.2.2.1, hP.2.1.2.2.2.1, rfl⟩, hP.2.2.1, ⟨by show 1 ≤ x.toInt; exact h.1, by show x.toInt ≤ 400; exact h.2⟩, hP.2.2.2.2.1, hP.2.2.2.2.2⟩, (rL_fr hL (by rw [xv_ui_ne (by decide), xv_ui_ne (by decide)]) (by rw [xv_ui_ne (by decide), xv_ui_ne (by decide)])), (rC_fr hC (fun b hb => by rw [xv_ui_ne (mne hb (by decide)), xv_ui_ne (mne hb (by decide))]) (by rw [xv_ui_o (by decide), xv_ui_a (by decide)]) rfl), (rK_fr hK (fun b hb => by rw [xv_ui_ne (mne hb (by decide)), xv_ui_ne (mne hb (by decide))])), (rR_fr hRr (fun b hb => by rw [xv_ui_ne (mne hb (by decide)), xv_ui_ne (mne hb (by decide))]) (fun j hj => by rw [xv_ui_o (mne hj (by decide)), xv_ui_a (by decide)]) (fun b hb => rfl)), (rN_fr hN (fun j hj => by rw [xv_ui_a (by decide), xv_ui_a (by decide)]) (fun j hj => by rw [xv_ui_o (mne hj (by decide)), xv_ui_a (by decide)]) (fun b hb => by rw [xv_ui_ne (mne hb (by decide)), xv_ui_ne (mne hb (by decide))]) (fun b h1 h2 => by rw [xv_ui_ne (by omega), xv_ui_ne (by omega)]) (fun b hb => rfl) (fun b h1 h2 => rfl)), (rT_fr hT (by rw [xv_ui_a (by decide), xv_ui_a (by decide)]) (by rw [xv_ui_o (by decide), xv_ui_a (by decide)]) (fun b hb => by rw [xv_ui_ne (mne hb (by decide)), xv_ui_ne (mne hb (by decide))]) (fun b h1 h2 => by rw [xv_ui_ne (by omega), xv_ui_ne (by omega)]))⟩

theorem rq_hld {I : xv_I} {np nm : Nat} {sz : Nat → Nat} (hP : rP I np nm sz) (k : Nat) : pm_hld I k ↔ pl_hld I k := by
  obtain ⟨e1, e2, -, -, e5, e6, e7, e8⟩ := hP.2.2.1
  unfold pm_hld pl_hld
  rw [e1, e2, e5, e6, e7, e8]
theorem rk_4 {l : Launch} {D : va_G} : ∀ (G : xv_Gr) (I : xv_I) (J : xv_J), R_ G I J → PrI R_ l D mX10_apart mX11_apart [some (.ref 0), none] [some (.ref 40), none] G I J := by
  intro G I J  hR Q1 hQ
  obtain ⟨np, nm, nl, nt, mo, on, sz, hG, hD, hP, hL, hC, hK, hRr, hN, hT⟩ := hR
  refine s10_apart (d := 97) hG hP.2.1.2.2.1 hP.1.2 (fun k hk => by obtain ⟨a, b, h1, h2, h3, h4, -⟩ := hP.2.2.2.2.2 k hk; rw [h3, h4]; exact ⟨vp_in_nI (by have := hP.1.1; omega) (by decide), vp_in_nI (by have := hP.1.1; omega) (by decide)⟩) ?_
  refine hQ _ G I J hG (fun Q2 hQ2 => s11_apart (d := 98) hG hP.2.1.2.2.2.1 hP.1.2 (fun k hk => by obtain ⟨a, b, h1, h2, h3, h4, -⟩ := hP.2.2.2.2.2 k hk; rw [hP.2.2.1.2.2.2.2.1, hP.2.2.1.2.2.2.2.2.2.1, h3, h4]; exact ⟨vp_in_nI (by have := hP.1.1; omega) (by decide), vp_in_nI (by have := hP.1.1; omega) (by decide)⟩) ?_)
  rw [xfst_cong rfl nm 0 (fun k _ _ => ⟨not_congr (rq_hld hP k), rfl⟩)]
  exact hQ2 G I J ⟨np, nm, nl, nt, mo, on, sz, hG, hD, hP, hL, hC, hK, hRr, hN, hT⟩

theorem rk_2 {l : Launch} {D : va_G} : ∀ (G : xv_Gr) (I : xv_I) (J : xv_J) (x : Int32) (y : Int32), R_ G I J → PrI R_ l D mX10_about mX11_about [some (.ref 0), some (.int x), some (.int y)] [some (.ref 40), some (.int x), some (.int y)] G I J := by
  intro G I J x y hR Q1 hQ
  obtain ⟨np, nm, nl, nt, mo, on, sz, hG, hD, hP, hL, hC, hK, hRr, hN, hT⟩ := hR
  have h4 := hP.2.1.2.1
  have ht := hP.1.1
  have hR : R_ G I J := ⟨np, nm, nl, nt, mo, on, sz, hG, hD, hP, hL, hC, hK, hRr, hN, hT⟩
  obtain ⟨e1, e2, e3, e4, -⟩ := hP.2.2.1
  have key : ∀ {v : Int32}, (∀ Q2 : xv_Po, (∀ G3 I3 J3, R_ G3 I3 J3 → Q2 (some (.int v)) G3 I3 J3) → xv_Ev l D 99 mX11_about none 0 [some (.ref 40), some (.int x), some (.int y)] [] G I J 0 0 Q2) → Q1 (some (.int v)) G I J := fun {v} h => hQ v G I J hG h
  have inj : ∀ {a b : Nat}, a < np → b < np → nI a = nI b → a = b := fun {a b} h1 h2 h3 => (nI_eq (by omega) (by omega)).mp h3
  have out : ∀ {j : Nat}, j < np → x = nI j → (0 ≤ x ∧ x < nI np) := fun {j} h1 h2 => by rw [h2]; exact ⟨nI_pos' (by omega), (nI_ltI (by omega) (by omega)).mpr h1⟩
  refine s10_about (d := 97) hG hP.2.1.1 ht (fun h => ?_) (fun j hj hx hw => ?_) (fun j hj hx hw => ?_) (fun j hj hx hw => ?_) (fun j hj hx hw => ?_) (fun h hw => ?_)
  · exact key fun Q2 hQ2 => s11_about (d := 97) hG h4 ht (fun _ => hQ2 G I J hR) (fun j h1 h2 _ => absurd (out h1 h2) h) (fun j h1 h2 _ => absurd (out h1 h2) h) (fun j h1 h2 _ => absurd (out h1 h2) h) (fun j h1 h2 _ => absurd (out h1 h2) h) (fun h2 _ => absurd h2 h)
  · exact key fun Q2 hQ2 => s11_about (d := 97) hG h4 ht (fun h => absurd (out hj hx) h) (fun i h1 h2 _ => by rw [e1, inj h1 hj (h2.symm.trans hx)]; exact hQ2 G I J hR) (fun i h1 h2 h3 => absurd (hw.symm.trans h3) (by decide)) (fun i h1 h2 h3 => absurd (hw.symm.trans h3) (by decide)) (fun i h1 h2 h3 => absurd (hw.symm.trans h3) (by decide)) (fun h2 h3 => absurd (by rw [hw]; decide) h3)
  · exact key fun Q2 hQ2 => s11_about (d := 97) hG h4 ht (fun h => absurd (out hj hx) h) (fun i h1 h2 h3 => absurd (hw.symm.trans h3) (by decide)) (fun i h1 h2 _ => by rw [e2, inj h1 hj (h2.symm.trans hx)]; exact hQ2 G I J hR) (fun i h1 h2 h3 => absurd (hw.symm.trans h3) (by decide)) (fun i h1 h2 h3 => absurd (hw.symm.trans h3) (by decide)) (fun h2 h3 => absurd (by rw [hw]; decide) h3)
  · exact key fun Q2 hQ2 => s11_about (d := 97) hG h4 ht (fun h => absurd (out hj hx) h) (fun i h1 h2 h3 => absurd (hw.symm.trans h3) (by decide)) (fun i h1 h2 h3 => absurd (hw.symm.trans h3) (by decide)) (fun i h1 h2 _ => by rw [e3, inj h1 hj (h2.symm.trans hx)]; exact hQ2 G I J hR) (fun i h1 h2 h3 => absurd (hw.symm.trans h3) (by decide)) (fun h2 h3 => absurd (by rw [hw]; decide) h3)
  · exact key fun Q2 hQ2 => s11_about (d := 97) hG h4 ht (fun h => absurd (out hj hx) h) (fun i h1 h2 h3 => absurd (hw.symm.trans h3) (by decide)) (fun i h1 h2 h3 => absurd (hw.symm.trans h3) (by decide)) (fun i h1 h2 h3 => absurd (hw.symm.trans h3) (by decide)) (fun i h1 h2 _ => by rw [e4, inj h1 hj (h2.symm.trans hx)]; exact hQ2 G I J hR) (fun h2 h3 => absurd (by rw [hw]; decide) h3)
  · exact key fun Q2 hQ2 => s11_about (d := 97) hG h4 ht (fun h2 => absurd h h2) (fun i h1 h2 h3 => absurd (by rw [h3]; decide) hw) (fun i h1 h2 h3 => absurd (by rw [h3]; decide) hw) (fun i h1 h2 h3 => absurd (by rw [h3]; decide) hw) (fun i h1 h2 h3 => absurd (by rw [h3]; decide) hw) (fun _ _ => hQ2 G I J hR)
