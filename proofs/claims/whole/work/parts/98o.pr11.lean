/-! pairs of calls: loan -/
theorem va_ap (f : Nat → Int32) (k : Nat) (v : Int32) (j : Nat) : va_up f k v j = if j = k then v else f j := by
  unfold va_up; rfl
theorem pw_le (m : Nat) : (20 : Int) ^ m ≤ 21 ^ m := by
  have h := Int.ofNat_le.mpr (Nat.pow_le_pow_left (show 20 ≤ 21 by decide) m)
  rw [Int.natCast_pow, Int.natCast_pow] at h
  exact h
def lo_I (I2 : xv_I) (nl mo : Nat) (y z : Int32) : xv_I := (xv_ui (xv_ui (xv_ui (xv_ui (xv_ui (xv_ui I2 80 nl y) 81 nl z) 82 nl (nI mo)) 83 nl 1) 86 (600 * nl + mo) 1) 40 29 (nI (nl + 1)))
theorem lo_I_ne {I2 : xv_I} {nl mo : Nat} {y z : Int32} {b : Nat} (h : b ∉ [40, 80, 81, 82, 83, 86]) : lo_I I2 nl mo y z b = I2 b := by
  simp only [List.mem_cons, List.not_mem_nil, or_false] at h
  rw [lo_I, xv_ui_ne (by omega), xv_ui_ne (by omega), xv_ui_ne (by omega), xv_ui_ne (by omega), xv_ui_ne (by omega), xv_ui_ne (by omega)]
theorem lo_I_at {I2 : xv_I} {nl mo : Nat} {y z : Int32} : (∀ j, lo_I I2 nl mo y z 40 j = if j = 29 then nI (nl + 1) else I2 40 j) ∧ (∀ j, lo_I I2 nl mo y z 80 j = if j = nl then y else I2 80 j) ∧ (∀ j, lo_I I2 nl mo y z 81 j = if j = nl then z else I2 81 j) ∧ (∀ j, lo_I I2 nl mo y z 82 j = if j = nl then nI mo else I2 82 j) ∧ (∀ j, lo_I I2 nl mo y z 83 j = if j = nl then 1 else I2 83 j) ∧ (∀ j, lo_I I2 nl mo y z 86 j = if j = 600 * nl + mo then 1 else I2 86 j) := by
  unfold lo_I
  simp [xv_ui_ap]
theorem lo_fin {G G2 : xv_Gr} {I I2 : xv_I} {J J2 : xv_J} {np nm nl nt mo : Nat} {on sz : Nat → Nat} {x y z : Int32} (hP : rP I np nm sz) (hL : rL I np on) (hC : rC I J np sz) (hK : rK I np on sz) (hRr : rR I J) (hT : rT I nt) (hN : rN I J nl mo) (hv : (1 ≤ x ∧ x ≤ 100000) ∧ (0 ≤ y ∧ y ≤ 50) ∧ (1 ≤ z ∧ z ≤ 10000)) (hl : nl < 8) (hr : le_r nl nt mo x y z I J G2 I2 J2) : R_ G2 (lo_I I2 nl mo y z) (xv_uj J2 84 (600 * nl + mo) x.toInt64) := by
  obtain ⟨r1, r2, r3, r4, r5, r6, r7, r8, r9, r10, r11, r12, r13, r14⟩ := hr
  obtain ⟨⟨l8, m5⟩, hn1, hn2, hn3⟩ := hN
  obtain ⟨c40, c80, c81, c82, c83, c86⟩ := @lo_I_at I2 nl mo y z
  have q3 : ∀ b, b ≠ 6 → (b < 200 + 4 * nl ∨ 200 + 4 * nl + 4 ≤ b) → I2 b = I b := fun b h1 h2 => by rw [r3 b h2, if_neg h1]
  have q6 : ∀ j, I2 6 j = if j = 1 then nI (nl + 1) else I 6 j := fun j => by rw [r3 6 (by omega), if_pos rfl, va_ap]
  simp only [xn_le, Int32.reduceToInt] at hv
  refine R_ln hP hL hC hK hRr hT r1 r2 (mo := mo) ⟨⟨by omega, m5⟩, ?_, fun i hi => ?_, fun i h1 h2 m hm => ?_⟩ (fun b h1 h2 => ?_) ?_ (fun j h => ?_) (fun b h => ?_)
  · rw [lo_I_ne (by decide), c40, c40, q6, q6, q3 40 (by decide) (by omega)]
    exact ⟨rfl, rfl, hn1.2.2.1, hn1.2.2.2⟩
  · by_cases e : i = nl
    · subst e
      have zz := fun m hm => hn3 i (Nat.le_refl _) hl m hm
      refine ⟨mo, 599, ?_, ?_, ?_, ?_, ?_, ?_, fun m hm => ?_⟩
      · rw [lo_I_ne (by simp only [List.mem_cons, List.not_mem_nil, or_false]; omega), c82, if_pos rfl]
        exact ⟨r5, rfl, Nat.le_refl _⟩
      · rw [lo_I_ne (by simp only [List.mem_cons, List.not_mem_nil, or_false]; omega)]
        exact ⟨r7, Or.inl ⟨r6, rfl⟩⟩
      · rw [lo_I_ne (by simp only [List.mem_cons, List.not_mem_nil, or_false]; omega), c80, c81, c83, if_pos rfl, if_pos rfl, if_pos rfl]
        exact ⟨r8, r9, r10, Or.inr rfl⟩
      · rw [c80, c81, if_pos rfl, if_pos rfl]
        exact hv.2
      · rw [xv_uj_ne (show 200 + 4 * i + 1 ≠ 84 by omega), xv_uj_s, xv_uj_ne (by decide), r4 85 (by omega), (zz mo (by omega)).2.1]
        exact ⟨r11, r12⟩
      · rw [xv_uj_ne (show 200 + 4 * i + 1 ≠ 84 by omega), r11, r12, t64, Int64.toInt_zero]
        refine ⟨by omega, by omega, fun _ => by omega, ?_⟩
        exact Int.le_trans (Int.mul_le_mul_of_nonneg_right hv.1.2 (Int.le_of_lt (Int.pow_pos (by decide)))) (Int.mul_le_mul_of_nonneg_left (pw_le mo) (by decide))
      · rw [xv_uj_ne (show 200 + 4 * i + 2 ≠ 84 by omega), xv_uj_ne (show 200 + 4 * i + 3 ≠ 84 by omega), xv_uj_ap, if_pos rfl, xv_uj_ne (by decide), r4 85 (by omega), r4 84 (by omega), c86, q3 86 (by decide) (by omega), lo_I_ne (by simp only [List.mem_cons, List.not_mem_nil, or_false]; omega), r6, r13, r14, ite_self, if_neg (show ¬ 599 < m by omega)]
        have zm := zz m (by omega)
        by_cases e : m = mo
        · subst e
          rw [if_pos rfl, if_pos rfl, zm.2.1]
          exact ⟨fun g => absurd g (by omega), fun _ => ⟨(if_pos rfl).symm, rfl, rfl⟩⟩
        · rw [if_neg (by omega), if_neg (by omega)]
          exact ⟨fun _ => zm, fun g => absurd g (by omega)⟩
    · have hi2 : i < nl := by omega
      exact rN1_fr (hn2 i hi2) (by rw [lo_I_ne (by simp only [List.mem_cons, List.not_mem_nil, or_false]; omega), q3 _ (by omega) (by omega)]) (by rw [lo_I_ne (by simp only [List.mem_cons, List.not_mem_nil, or_false]; omega), q3 _ (by omega) (by omega)]) (by rw [xv_uj_ne (by omega), r4 _ (by omega)]) (by rw [xv_uj_ne (by omega), r4 _ (by omega)]) (by rw [xv_uj_ne (by omega), r4 _ (by omega)]) (by rw [c80, if_neg e, q3 _ (by omega) (by omega)]) (by rw [c81, if_neg e, q3 _ (by omega) (by omega)]) (by rw [c82, if_neg e, q3 _ (by omega) (by omega)]) (by rw [c83, if_neg e, q3 _ (by omega) (by omega)]) (fun m hm => ⟨by rw [xv_uj_o (by omega), r4 _ (by omega)], by rw [xv_uj_ne (by decide), r4 _ (by omega)], by rw [c86, if_neg (by omega), q3 _ (by omega) (by omega)]⟩)
  · rw [xv_uj_o (by omega), xv_uj_ne (by decide), r4 _ (by omega), r4 _ (by omega), c86, if_neg (by omega), q3 _ (by omega) (by omega)]
    exact hn3 i (by omega) h2 m hm
  · rw [lo_I_ne (fun g => h2 (by simp only [List.mem_cons, List.not_mem_nil, or_false] at g ⊢; omega)), q3 b (fun g => h2 (by rw [g]; decide)) (by omega)]
  · rw [lo_I_ne (by decide), q6, if_neg (by decide)]
  · rw [c40, if_neg (fun g => h (by rw [g]; decide)), q3 40 (by decide) (by omega)]
  · simp only [List.mem_cons, List.not_mem_nil, or_false] at h
    rw [xv_uj_ne (by omega), r4 b (by omega)]
theorem rk_29 {l : Launch} {D : va_G} : ∀ (G : xv_Gr) (I : xv_I) (J : xv_J) (x : Int32) (y : Int32) (z : Int32), R_ G I J → PrI R_ l D mX10_loan mX11_loan [some (.ref 0), some (.int x), some (.int y), some (.int z)] [some (.ref 40), some (.int x), some (.int y), some (.int z)] G I J := by
  intro G I J x y z hR Q1 hQ
  obtain ⟨np, nm, nl, nt, mo, on, sz, hG, hD, hP, hL, hC, hK, hRr, hN, hT⟩ := hR
  have hR : R_ G I J := ⟨np, nm, nl, nt, mo, on, sz, hG, hD, hP, hL, hC, hK, hRr, hN, hT⟩
  have h8 := hN.1.1
  have h5 := hN.1.2
  refine s10_loan (d := 96) hG hD hN.2.1.1 hN.1.1 hT.1 hN.2.1.2.2.1 (Nat.lt_succ_of_le h5) (fun h => ?_) (fun h h2 => ?_) (fun h h2 G2 I2 J2 hr => ?_)
  · exact hQ _ G I J hG (fun Q2 hQ2 => s11_loan (d := 98) hG hN.2.1.2.1 hN.1.1 hN.2.1.2.2.2 hN.1.2 (fun _ => hQ2 G I J hR) (fun g _ => absurd g h) (fun g _ => absurd g h))
  · exact hQ _ G I J hG (fun Q2 hQ2 => s11_loan (d := 98) hG hN.2.1.2.1 hN.1.1 hN.2.1.2.2.2 hN.1.2 (fun g => absurd h g) (fun _ _ => hQ2 G I J hR) (fun _ g => absurd g (by omega)))
  · have z := lo_fin (G := G) hP hL hC hK hRr hT hN h h2 hr
    have q := hr.2.2.1 40 (by omega)
    rw [if_neg (by decide)] at q
    exact hQ _ G2 I2 J2 hr.1 (fun Q2 hQ2 => s11_loan (d := 98) hr.1 (by rw [q]; exact hN.2.1.2.1) h8 (by rw [q]; exact hN.2.1.2.2.2) h5 (fun g => absurd h g) (fun _ g => absurd g (by omega)) (fun _ _ => hQ2 _ _ _ z))

