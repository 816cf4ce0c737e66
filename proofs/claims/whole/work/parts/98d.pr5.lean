/-! pairs of calls: lean, order, below -/
theorem rL_b {I : xv_I} {np : Nat} {on : Nat → Nat} (hnp : np ≤ 12) (h : rL I np on) : (∀ p, on p < 2 ^ 12) ∧ lo_A on np ∧ (∀ p, p < 12 → I 120 p = nI (on p) ∧ on p < 2 ^ 12) ∧ (∀ p, p < 12 → I 61 p = nI (on p) ∧ on p < 2 ^ 12) := by
  obtain ⟨h1, h2, h3, h4, h5⟩ := h
  have hb : ∀ p, on p < 2 ^ 12 := fun p => by
    by_cases e : p < np
    · exact Nat.lt_of_lt_of_le (h3 p e) (Nat.pow_le_pow_right (by decide) hnp)
    · rw [h4 p (by omega)]; decide
  exact ⟨hb, ⟨h3, h5⟩, fun p hp => ⟨h1 p hp, hb p⟩, fun p hp => ⟨(h2 p hp).trans (h1 p hp), hb p⟩⟩
theorem rk_8 {l : Launch} {D : va_G} : ∀ (G : xv_Gr) (I : xv_I) (J : xv_J) (x : Int32) (y : Int32) (z : Int32), R_ G I J → (z = 0 ∨ z = 1) → PrI R_ l D mX10_lean mX11_lean [some (.ref 0), some (.int x), some (.int y), some (.int z)] [some (.ref 40), some (.int x), some (.int y), some (.int z), none] G I J := by
  intro G I J x y z hR hzz Q1 hQ
  obtain ⟨np, nm, nl, nt, mo, on, sz, hG, hD, hP, hL, hC, hK, hRr, hN, hT⟩ := hR
  have h12 := hP.1.1
  have hR : R_ G I J := ⟨np, nm, nl, nt, mo, on, sz, hG, hD, hP, hL, hC, hK, hRr, hN, hT⟩
  obtain ⟨hb12, hA, ho1, ho2⟩ := rL_b h12 hL
  have hCe : ∀ b, b < np → lm_it on np np (on b) = ls_it on 11 (on b) := fun b hb => C_eq h12 hL.2.2.1 (fun p _ => hb12 p) hb
  have inj : ∀ {a b : Nat}, a < np → b < np → nI a = nI b → a = b := fun {a b} h1 h2 h3 => (nI_eq (by omega) (by omega)).mp h3
  have out : ∀ {v : Int32} {j : Nat}, j < np → v = nI j → (0 ≤ v ∧ v < nI np) := fun {v j} h1 h2 => by rw [h2]; exact ⟨nI_pos' (by omega), (nI_ltI (by omega) (by omega)).mpr h1⟩
  refine s10_lean (d := 97) hG hP.2.1.1 h12 ho1 (fun h => ?_) (fun a ha b hb hx hy h => ?_) (fun a ha b hb hx hy h => ?_)
  · exact hQ _ G I J hG (fun Q2 hQ2 => s11_lean (d := 97) hG hP.2.1.2.1 h12 ho2 (fun _ => hQ2 G I J hR) (fun a ha b hb hx hy _ => absurd ⟨out ha hx, out hb hy⟩ h) (fun a ha b hb hx hy _ => absurd ⟨out ha hx, out hb hy⟩ h))
  · exact hQ _ G I J hG (fun Q2 hQ2 => s11_lean (d := 97) hG hP.2.1.2.1 h12 ho2 (fun g => absurd ⟨out ha hx, out hb hy⟩ g) (fun _ _ _ _ _ _ _ => hQ2 G I J hR) (fun a2 ha2 b2 hb2 hx2 hy2 g => by
      rw [inj ha2 ha (hx2.symm.trans hx), inj hb2 hb (hy2.symm.trans hy), hCe b hb] at g
      exact absurd h g))
  · refine hQ _ G (xv_ui (xv_ui I 4 1 1) 120 a (nI (@ite Nat (z = 0) (Classical.propDecidable _) (xdf (on a) (2 ^ b)) (on a ||| 2 ^ b)))) J hG (fun Q2 hQ2 => s11_lean (d := 97) hG (I := (xv_ui (xv_ui I 4 1 1) 120 a (nI (@ite Nat (z = 0) (Classical.propDecidable _) (xdf (on a) (2 ^ b)) (on a ||| 2 ^ b))))) hP.2.1.2.1 h12 ho2 (fun g => absurd ⟨out ha hx, out hb hy⟩ g) (fun a2 ha2 b2 hb2 hx2 hy2 g => by
      rw [inj ha2 ha (hx2.symm.trans hx), inj hb2 hb (hy2.symm.trans hy), hCe b hb] at g
      exact absurd g h) (fun a2 ha2 b2 hb2 hx2 hy2 g => ?_))
    have ea := inj ha2 ha (hx2.symm.trans hx)
    have eb := inj hb2 hb (hy2.symm.trans hy)
    subst ea
    subst eb
    obtain ⟨g1, g2, g3, g4, rk, g5⟩ := hL
    have hpw : 2 ^ b2 < 2 ^ np := Nat.pow_lt_pow_right (by decide) hb
    have hL2 : rL (xv_ui (xv_ui (xv_ui I 4 1 1) 120 a2 (nI (@ite Nat (z = 0) (Classical.propDecidable _) (xdf (on a2) (2 ^ b2)) (on a2 ||| 2 ^ b2)))) 61 a2 (nI (@ite Nat (z = 0) (Classical.propDecidable _) (xdf (on a2) (2 ^ b2)) (on a2 ||| 2 ^ b2)))) np (fun p => if p = a2 then (@ite Nat (z = 0) (Classical.propDecidable _) (xdf (on a2) (2 ^ b2)) (on a2 ||| 2 ^ b2)) else on p) := by
      refine ⟨fun p hp => ?_, fun p hp => ?_, fun p hp => ?_, fun p hp => ?_, ?_⟩
      · by_cases e : p = a2
        · subst e; simp [xv_ui_ap]
        · simp [xv_ui_ap, e]; exact g1 p hp
      · by_cases e : p = a2
        · subst e; simp [xv_ui_ap]
        · simp [xv_ui_ap, e]; exact g2 p hp
      · by_cases e : p = a2
        · subst e
          show (if p = p then _ else _) < _
          rw [if_pos rfl]
          split
          · exact Nat.lt_of_le_of_lt (xdf_le _ _) (g3 p hp)
          · exact xor_lt (g3 p hp) hpw
        · show (if p = a2 then _ else _) < _
          rw [if_neg e]; exact g3 p hp
      · show (if p = a2 then _ else _) = _
        rw [if_neg (by omega)]; exact g4 p hp
      · by_cases e : z = 0
        · refine ⟨rk, fun p q hq => ?_⟩
          by_cases ep : p = a2
          · subst ep
            have hq : (if p = p then (@ite Nat (z = 0) (Classical.propDecidable _) (xdf (on p) (2 ^ b2)) (on p ||| 2 ^ b2)) else on p).testBit q = true := hq
            rw [if_pos rfl, if_pos e, xdf_bit, Bool.and_eq_true] at hq
            exact g5 p q hq.1
          · have hq : (if p = a2 then (@ite Nat (z = 0) (Classical.propDecidable _) (xdf (on a2) (2 ^ b2)) (on a2 ||| 2 ^ b2)) else on p).testBit q = true := hq
            rw [if_neg ep] at hq
            exact g5 p q hq
        · have hn : ¬ a2 = b2 := fun y => h ⟨e, Or.inl y⟩
          have hn2 : ¬ (C_ on b2).testBit a2 = true := fun y => h ⟨e, Or.inr y⟩
          obtain ⟨rk2, hk⟩ := rk_up hb12 g5 hn hn2
          refine ⟨rk2, fun p q hq => hk p q ?_⟩
          have hq : (if p = a2 then (@ite Nat (z = 0) (Classical.propDecidable _) (xdf (on a2) (2 ^ b2)) (on a2 ||| 2 ^ b2)) else on p).testBit q = true := hq
          rw [if_neg e] at hq
          exact hq
    have hK2 : rK (xv_ui (xv_ui (xv_ui I 4 1 1) 120 a2 (nI (@ite Nat (z = 0) (Classical.propDecidable _) (xdf (on a2) (2 ^ b2)) (on a2 ||| 2 ^ b2)))) 61 a2 (nI (@ite Nat (z = 0) (Classical.propDecidable _) (xdf (on a2) (2 ^ b2)) (on a2 ||| 2 ^ b2)))) np (fun p => if p = a2 then (@ite Nat (z = 0) (Classical.propDecidable _) (xdf (on a2) (2 ^ b2)) (on a2 ||| 2 ^ b2)) else on p) sz := rK_st hK rfl (fun b hb => by rw [xv_ui_ne (mne hb (by decide)), xv_ui_ne (mne hb (by decide)), xv_ui_ne (mne hb (by decide))])
    exact hQ2 _ _ _ ⟨np, nm, nl, nt, mo, (fun p => if p = a2 then (@ite Nat (z = 0) (Classical.propDecidable _) (xdf (on a2) (2 ^ b2)) (on a2 ||| 2 ^ b2)) else on p), sz, hG, hD, (rP_fr hP (fun b hb => by rw [xv_ui_ne (mne hb (by decide)), xv_ui_ne (mne hb (by decide)), xv_ui_ne (mne hb (by decide))]) (fun j hj => by rw [xv_ui_a (by decide), xv_ui_a (by decide), xv_ui_a (by decide)])), hL2, (rC_fr hC (fun b hb => by rw [xv_ui_ne (mne hb (by decide)), xv_ui_ne (mne hb (by decide)), xv_ui_ne (mne hb (by decide))]) (by rw [xv_ui_a (by decide), xv_ui_a (by decide), xv_ui_a (by decide)]) rfl), hK2, (rR_fr hRr (fun b hb => by rw [xv_ui_ne (mne hb (by decide)), xv_ui_ne (mne hb (by decide)), xv_ui_ne (mne hb (by decide))]) (fun j hj => by rw [xv_ui_a (by decide), xv_ui_a (by decide), xv_ui_a (by decide)]) (fun b hb => rfl)), (rN_fr hN (fun j hj => by rw [xv_ui_a (by decide), xv_ui_a (by decide), xv_ui_a (by decide)]) (fun j hj => by rw [xv_ui_a (by decide), xv_ui_a (by decide), xv_ui_a (by decide)]) (fun b hb => by rw [xv_ui_ne (mne hb (by decide)), xv_ui_ne (mne hb (by decide)), xv_ui_ne (mne hb (by decide))]) (fun b h1 h2 => by rw [xv_ui_ne (by omega), xv_ui_ne (by omega), xv_ui_ne (by omega)]) (fun b hb => rfl) (fun b h1 h2 => rfl)), (rT_fr hT (by rw [xv_ui_a (by decide), xv_ui_a (by decide), xv_ui_a (by decide)]) (by rw [xv_ui_a (by decide), xv_ui_a (by decide), xv_ui_a (by decide)]) (fun b hb => by rw [xv_ui_ne (mne hb (by decide)), xv_ui_ne (mne hb (by decide)), xv_ui_ne (mne hb (by decide))]) (fun b h1 h2 => by rw [xv_ui_ne (by omega), xv_ui_ne (by omega), xv_ui_ne (by omega)]))⟩

theorem rk_9 {l : Launch} {D : va_G} : ∀ (G : xv_Gr) (I : xv_I) (J : xv_J) (x : Int32), R_ G I J → PrI R_ l D mX10_order mX11_order [some (.ref 0), some (.int x)] [some (.ref 40), some (.int x)] G I J := by
  intro G I J x hR Q1 hQ
  obtain ⟨np, nm, nl, nt, mo, on, sz, hG, hD, hP, hL, hC, hK, hRr, hN, hT⟩ := hR
  have h12 := hP.1.1
  obtain ⟨hb12, hA, ho1, ho2⟩ := rL_b h12 hL
  have inj : ∀ {a b : Nat}, a < np → b < np → nI a = nI b → a = b := fun {a b} h1 h2 h3 => (nI_eq (by omega) (by omega)).mp h3
  have out : ∀ {v : Int32} {j : Nat}, j < np → v = nI j → (0 ≤ v ∧ v < nI np) := fun {v j} h1 h2 => by rw [h2]; exact ⟨nI_pos' (by omega), (nI_ltI (by omega) (by omega)).mpr h1⟩
  refine s10_order (d := 97) hG hP.2.1.1 h12 ho1 (fun h => ?_) (fun j hj hx => ?_)
  · exact hQ _ G I J hG (fun Q2 hQ2 => s11_order (d := 98) hG hP.2.1.2.1 h12 ho2 (lo_hex hA) (fun _ => hQ2 _ _ _ ⟨np, nm, nl, nt, mo, on, sz, hG, hD, (rP_fr hP (fun b hb => by rw [xfl_ne (mne hb (by decide))]) (fun j hj => by rw [xfl_ne (by decide)])), (rL_fr hL (by rw [xfl_ne (by decide)]) (by rw [xfl_ne (by decide)])), (rC_fr hC (fun b hb => by rw [xfl_ne (mne hb (by decide))]) (by rw [xfl_ne (by decide)]) rfl), (rK_fr hK (fun b hb => by rw [xfl_ne (mne hb (by decide))])), (rR_fr hRr (fun b hb => by rw [xfl_ne (mne hb (by decide))]) (fun j hj => by rw [xfl_ne (by decide)]) (fun b hb => rfl)), (rN_fr hN (fun j hj => by rw [xfl_ne (by decide)]) (fun j hj => by rw [xfl_ne (by decide)]) (fun b hb => by rw [xfl_ne (mne hb (by decide))]) (fun b h1 h2 => by rw [xfl_ne (by omega)]) (fun b hb => rfl) (fun b h1 h2 => rfl)), (rT_fr hT (by rw [xfl_ne (by decide)]) (by rw [xfl_ne (by decide)]) (fun b hb => by rw [xfl_ne (mne hb (by decide))]) (fun b h1 h2 => by rw [xfl_ne (by omega)]))⟩) (fun j hj hx => absurd (out hj hx) h))
  · refine hQ _ G (xfl I 121 (lo_w on np) np) J hG (fun Q2 hQ2 => s11_order (d := 98) hG (I := (xfl I 121 (lo_w on np) np)) hP.2.1.2.1 h12 ho2 (lo_hex hA) (fun g => absurd (out hj hx) g) (fun i hi hx2 => ?_))
    rw [inj hi hj (hx2.symm.trans hx)]
    exact hQ2 _ _ _ ⟨np, nm, nl, nt, mo, on, sz, hG, hD, (rP_fr hP (fun b hb => by rw [xfl_ne (mne hb (by decide)), xfl_ne (mne hb (by decide))]) (fun j hj => by rw [xfl_ne (by decide), xfl_ne (by decide)])), (rL_fr hL (by rw [xfl_ne (by decide), xfl_ne (by decide)]) (by rw [xfl_ne (by decide), xfl_ne (by decide)])), (rC_fr hC (fun b hb => by rw [xfl_ne (mne hb (by decide)), xfl_ne (mne hb (by decide))]) (by rw [xfl_ne (by decide), xfl_ne (by decide)]) rfl), (rK_fr hK (fun b hb => by rw [xfl_ne (mne hb (by decide)), xfl_ne (mne hb (by decide))])), (rR_fr hRr (fun b hb => by rw [xfl_ne (mne hb (by decide)), xfl_ne (mne hb (by decide))]) (fun j hj => by rw [xfl_ne (by decide), xfl_ne (by decide)]) (fun b hb => rfl)), (rN_fr hN (fun j hj => by rw [xfl_ne (by decide), xfl_ne (by decide)]) (fun j hj => by rw [xfl_ne (by decide), xfl_ne (by decide)]) (fun b hb => by rw [xfl_ne (mne hb (by decide)), xfl_ne (mne hb (by decide))]) (fun b h1 h2 => by rw [xfl_ne (by omega), xfl_ne (by omega)]) (fun b hb => rfl) (fun b h1 h2 => rfl)), (rT_fr hT (by rw [xfl_ne (by decide), xfl_ne (by decide)]) (by rw [xfl_ne (by decide), xfl_ne (by decide)]) (fun b hb => by rw [xfl_ne (mne hb (by decide)), xfl_ne (mne hb (by decide))]) (fun b h1 h2 => by rw [xfl_ne (by omega), xfl_ne (by omega)]))⟩

theorem rk_10 {l : Launch} {D : va_G} : ∀ (G : xv_Gr) (I : xv_I) (J : xv_J) (x : Int32), R_ G I J → PrI R_ l D mX10_below mX11_below [some (.ref 0), some (.int x)] [some (.ref 40), some (.int x)] G I J := by
  intro G I J x hR Q1 hQ
  obtain ⟨np, nm, nl, nt, mo, on, sz, hG, hD, hP, hL, hC, hK, hRr, hN, hT⟩ := hR
  have h12 := hP.1.1
  have hR : R_ G I J := ⟨np, nm, nl, nt, mo, on, sz, hG, hD, hP, hL, hC, hK, hRr, hN, hT⟩
  obtain ⟨hb12, hA, ho1, ho2⟩ := rL_b h12 hL
  have inj : ∀ {a b : Nat}, a < np → b < np → nI a = nI b → a = b := fun {a b} h1 h2 h3 => (nI_eq (by omega) (by omega)).mp h3
  have out : ∀ {v : Int32} {j : Nat}, j < np → v = nI j → (0 ≤ v ∧ v < nI np) := fun {v j} h1 h2 => by rw [h2]; exact ⟨nI_pos' (by omega), (nI_ltI (by omega) (by omega)).mpr h1⟩
  refine s10_below (d := 97) hG hP.2.1.1 h12 ho1 (fun h => ?_) (fun j hj hx => ?_)
  · exact hQ _ G I J hG (fun Q2 hQ2 => s11_below (d := 97) hG hP.2.1.2.1 h12 ho2 (fun _ => hQ2 G I J hR) (fun j hj hx => absurd (out hj hx) h))
  · refine hQ _ G I J hG (fun Q2 hQ2 => s11_below (d := 97) hG hP.2.1.2.1 h12 ho2 (fun g => absurd (out hj hx) g) (fun i hi hx2 => ?_))
    rw [inj hi hj (hx2.symm.trans hx), C_eq h12 hL.2.2.1 (fun p _ => hb12 p) hj]
    exact hQ2 G I J hR
