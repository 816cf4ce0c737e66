/-! pairs of calls: report, explains, likely, causes, cause -/
theorem rr_e {I : xv_I} {J : xv_J} {n bd : Nat} {hs hv : Nat → Nat} (n40 : n ≤ 40) (hvb : ∀ c, c < 16 → J 166 c = lN (hv c) ∧ ∀ r, (hv c).testBit r = true ↔ (r < n ∧ (hs r).testBit c = true)) (hbd : J 5 5 = lN bd ∧ ∀ r, bd.testBit r = true ↔ (r < n ∧ ¬ I 76 r = 0)) {c : Nat} (hc : c < 16) : lp_c (J 166 c) = nI (xcn (ex_P I hs c 0) n) ∧ ∀ f, ¬ f = 0 → lp_c (J 166 c &&& J 5 5) = nI (xcn (ex_P I hs c f) n) := by
  obtain ⟨h1, h2⟩ := hvb c hc
  refine ⟨?_, fun f hf => ?_⟩
  · rw [h1, lp_pc (Nat.lt_trans (rr_lt h2 n40) (by decide)), rr_cn h2 (by omega)]
    congr 1
    exact xcn_cong n (fun k hk => ⟨fun h => ⟨h, Or.inr rfl⟩, fun h => h.1⟩)
  · have h3 : ∀ r, (hv c &&& bd).testBit r = true ↔ (r < n ∧ ex_P I hs c f r) := fun r => by
      rw [Nat.testBit_and, Bool.and_eq_true, h2, hbd.2]
      unfold ex_P
      constructor
      · rintro ⟨⟨a, b⟩, -, d⟩
        exact ⟨a, b, Or.inl d⟩
      · rintro ⟨a, b, d⟩
        refine ⟨⟨a, b⟩, a, ?_⟩
        rcases d with d | d
        · exact d
        · exact absurd d hf
    rw [h1, hbd.1, xl_and, lp_pc (Nat.lt_trans (rr_lt h3 n40) (by decide)), rr_cn h3 (by omega)]
theorem rr_lk {I : xv_I} {J : xv_J} {n su bd : Nat} {hs hv : Nat → Nat} (n40 : n ≤ 40) (su1 : su ≤ 100) (h51 : I 5 1 = nI su) (hvb : ∀ c, c < 16 → J 166 c = lN (hv c) ∧ ∀ r, (hv c).testBit r = true ↔ (r < n ∧ (hs r).testBit c = true)) (hbd : J 5 5 = lN bd ∧ ∀ r, bd.testBit r = true ↔ (r < n ∧ ¬ I 76 r = 0)) {c : Nat} (hc : c < 16) : su_P I J c ↔ lk_P I hs n su c := by
  obtain ⟨h1, h2⟩ := rr_e n40 hvb hbd hc
  unfold su_P lk_P
  rw [h1, h2 1 (by decide), h51]
  have b1 := xcn_le (ex_P I hs c 1) n
  have b0 := xcn_le (ex_P I hs c 0) n
  have bm : su * xcn (ex_P I hs c 0) n ≤ 100 * 40 := Nat.mul_le_mul su1 (by omega)
  rw [show (100 : Int32) = nI 100 from rfl, pk_mul, pk_mul, nI_leI (by omega) (by omega), show (0 : Int32) = nI 0 from rfl, nI_ltI (by omega) (by omega), Nat.mul_comm (xcn (ex_P I hs c 1) n) 100]
theorem rk_24 {l : Launch} {D : va_G} : ∀ (G : xv_Gr) (I : xv_I) (J : xv_J) (x : Int32) (y : Int32), R_ G I J → (y = 0 ∨ y = 1) → PrI R_ l D mX10_explains mX11_explains [some (.ref 0), some (.int x), some (.int y)] [some (.ref 40), some (.int x), some (.int y)] G I J := by
  intro G I J x y hR hzy Q1 hQ
  obtain ⟨np, nm, nl, nt, mo, on, sz, hG, hD, hP, hL, hC, hK, hRr, hN, hT⟩ := hR
  obtain ⟨n, su, bd, hs, hv, n40, su1, hc, hh, hvb, hbd, h168, hfw⟩ := hRr
  have hR : R_ G I J := ⟨np, nm, nl, nt, mo, on, sz, hG, hD, hP, hL, hC, hK, ⟨n, su, bd, hs, hv, n40, su1, hc, hh, hvb, hbd, h168, hfw⟩, hN, hT⟩
  refine s10_explains (d := 97) hG (fun h => ?_) (fun c hc2 hx hy => ?_) (fun c hc2 hx hy => ?_)
  · exact hQ _ G I J hG (fun Q2 hQ2 => s11_explains (d := 98) hG hc.2.1 n40 hh (fun _ => hQ2 G I J hR) (fun c h1 h2 => absurd (by rw [h2]; exact ⟨nI_pos' (by omega), (nI_leI (by omega) (b := 15) (by omega)).mpr (by omega)⟩) h))
  · refine hQ _ G I J hG (fun Q2 hQ2 => s11_explains (d := 98) hG hc.2.1 n40 hh (fun g => absurd (by rw [hx]; exact ⟨nI_pos' (by omega), (nI_leI (by omega) (b := 15) (by omega)).mpr (by omega)⟩) g) (fun c3 h1 h2 => ?_))
    rw [(nI_eq (by omega) (by omega)).mp (h2.symm.trans hx), ← (rr_e n40 hvb hbd hc2).2 y hy]
    exact hQ2 G I J hR
  · refine hQ _ G I J hG (fun Q2 hQ2 => s11_explains (d := 98) hG hc.2.1 n40 hh (fun g => absurd (by rw [hx]; exact ⟨nI_pos' (by omega), (nI_leI (by omega) (b := 15) (by omega)).mpr (by omega)⟩) g) (fun c3 h1 h2 => ?_))
    rw [(nI_eq (by omega) (by omega)).mp (h2.symm.trans hx), hy, ← (rr_e n40 hvb hbd hc2).1]
    exact hQ2 G I J hR

theorem rk_25 {l : Launch} {D : va_G} : ∀ (G : xv_Gr) (I : xv_I) (J : xv_J) (x : Int32), R_ G I J → PrI R_ l D mX10_likely mX11_likely [some (.ref 0), some (.int x)] [some (.ref 40), some (.int x)] G I J := by
  intro G I J x hR Q1 hQ
  obtain ⟨np, nm, nl, nt, mo, on, sz, hG, hD, hP, hL, hC, hK, hRr, hN, hT⟩ := hR
  obtain ⟨n, su, bd, hs, hv, n40, su1, hc, hh, hvb, hbd, h168, hfw⟩ := hRr
  have hR : R_ G I J := ⟨np, nm, nl, nt, mo, on, sz, hG, hD, hP, hL, hC, hK, ⟨n, su, bd, hs, hv, n40, su1, hc, hh, hvb, hbd, h168, hfw⟩, hN, hT⟩
  refine s10_likely (d := 96) hG (fun h => ?_) (fun c hc2 hx => ?_)
  · exact hQ _ G I J hG (fun Q2 hQ2 => s11_likely (d := 97) hG hc.2.1 n40 hh hc.2.2.2 su1 (fun _ => hQ2 G I J hR) (fun c h1 h2 => absurd (by rw [h2]; exact ⟨nI_pos' (by omega), (nI_leI (by omega) (b := 15) (by omega)).mpr (by omega)⟩) h))
  · refine hQ _ G I J hG (fun Q2 hQ2 => s11_likely (d := 97) hG hc.2.1 n40 hh hc.2.2.2 su1 (fun g => absurd (by rw [hx]; exact ⟨nI_pos' (by omega), (nI_leI (by omega) (b := 15) (by omega)).mpr (by omega)⟩) g) (fun c3 h1 h2 => ?_))
    rw [(nI_eq (by omega) (by omega)).mp (h2.symm.trans hx), ← xbp_iff (rr_lk n40 su1 hc.2.2.1 hvb hbd hc2)]
    exact hQ2 G I J hR

def rset (a b c e c2 : Nat) : Prop := c2 = a ∨ c2 = 4 + b ∨ c2 = 8 + c ∨ c2 = 12 + e
theorem rset_b {a b c e c2 : Nat} : (2 ^ a ||| 16 * 2 ^ b ||| 256 * 2 ^ c ||| 4096 * 2 ^ e).testBit c2 = true ↔ rset a b c e c2 := by
  have e1 : 16 * 2 ^ b = 2 ^ (4 + b) := by rw [Nat.pow_add]
  have e2 : 256 * 2 ^ c = 2 ^ (8 + c) := by rw [Nat.pow_add]
  have e3 : 4096 * 2 ^ e = 2 ^ (12 + e) := by rw [Nat.pow_add]
  rw [e1, e2, e3, Nat.testBit_or, Nat.testBit_or, Nat.testBit_or, Nat.testBit_two_pow, Nat.testBit_two_pow, Nat.testBit_two_pow, Nat.testBit_two_pow]
  unfold rset
  simp only [Bool.or_eq_true, decide_eq_true_eq]
  omega
theorem rset_l {a b c e : Nat} (ha : a < 4) (hb : b < 4) (hc : c < 4) (he : e < 4) : 2 ^ a ||| 16 * 2 ^ b ||| 256 * 2 ^ c ||| 4096 * 2 ^ e < 65536 := by
  refine Nat.lt_pow_two_of_testBit (n := 16) _ (fun i hi => ?_)
  cases q : (2 ^ a ||| 16 * 2 ^ b ||| 256 * 2 ^ c ||| 4096 * 2 ^ e).testBit i with
  | false => rfl
  | true =>
    have := rset_b.mp q
    unfold rset at this
    omega
theorem rp_1a (J : xv_J) (B : Int64) (k j : Nat) : rp_1 J B k 166 j = if j = k then J 166 j ||| B else J 166 j := by
  unfold rp_1
  by_cases e : j = k
  · subst e; rw [xv_uj_s, if_pos rfl]
  · rw [xv_uj_o e, if_neg e]
theorem rp_4a {J : xv_J} {B : Int64} {a b c e j : Nat} (ha : a < 4) (hb : b < 4) (hc : c < 4) (he : e < 4) : rp_4 J B a b c e 166 j = @ite _ (rset a b c e j) (Classical.propDecidable _) (J 166 j ||| B) (J 166 j) := by
  unfold rp_4
  rw [rp_1a, rp_1a, rp_1a, rp_1a]
  by_cases h : rset a b c e j
  · rw [if_pos h]
    rcases h with h | h | h | h
    · rw [if_neg (show ¬ j = 12 + e by omega), if_neg (show ¬ j = 8 + c by omega), if_neg (show ¬ j = 4 + b by omega), if_pos h]
    · rw [if_neg (show ¬ j = 12 + e by omega), if_neg (show ¬ j = 8 + c by omega), if_pos h, if_neg (show ¬ j = a by omega)]
    · rw [if_neg (show ¬ j = 12 + e by omega), if_pos h, if_neg (show ¬ j = 4 + b by omega), if_neg (show ¬ j = a by omega)]
    · rw [if_pos h, if_neg (show ¬ j = 8 + c by omega), if_neg (show ¬ j = 4 + b by omega), if_neg (show ¬ j = a by omega)]
  · rw [if_neg h]
    unfold rset at h
    rw [if_neg (show ¬ j = 12 + e by omega), if_neg (show ¬ j = 8 + c by omega), if_neg (show ¬ j = 4 + b by omega), if_neg (show ¬ j = a by omega)]
theorem rp_4n {J : xv_J} {B : Int64} {a b c e x : Nat} (h : x ≠ 166) : rp_4 J B a b c e x = J x := by
  unfold rp_4 rp_1
  rw [xv_uj_ne h, xv_uj_ne h, xv_uj_ne h, xv_uj_ne h]
theorem rp_Jn {J : xv_J} {B : Int64} {a b c e x : Nat} {z : Int32} (h : x ≠ 166) (h5 : x ≠ 5) : rp_J J B a b c e z x = J x := by
  unfold rp_J
  split
  · exact rp_4n h
  · rw [xv_uj_ne h5]; exact rp_4n h
theorem rp_J6 {J : xv_J} {B : Int64} {a b c e : Nat} {z : Int32} : rp_J J B a b c e z 166 = rp_4 J B a b c e 166 := by
  unfold rp_J
  split
  · rfl
  · rw [xv_uj_ne (by decide)]
theorem rp_J5 {J : xv_J} {B : Int64} {a b c e : Nat} {z : Int32} : rp_J J B a b c e z 5 5 = @ite _ (z = 0) (Classical.propDecidable _) (J 5 5) (J 5 5 ||| B) := by
  unfold rp_J
  by_cases h : z = 0
  · rw [if_pos h, if_pos h, rp_4n (by decide)]
  · rw [if_neg h, if_neg h, xv_uj_s, rp_4n (by decide)]
theorem tb_or {s n r : Nat} : (s ||| 2 ^ n).testBit r = true ↔ (s.testBit r = true ∨ r = n) := by
  rw [Nat.testBit_or, Bool.or_eq_true, Nat.testBit_two_pow]
  simp only [decide_eq_true_eq]
  constructor
  · rintro (h | h)
    · exact Or.inl h
    · exact Or.inr h.symm
  · rintro (h | h)
    · exact Or.inl h
    · exact Or.inr h.symm
theorem rk_22 {l : Launch} {D : va_G} : ∀ (G : xv_Gr) (I : xv_I) (J : xv_J) (x : Int32) (y : Int32) (z : Int32) (w : Int32) (u : Int32), R_ G I J → (u = 0 ∨ u = 1) → PrI R_ l D mX10_report mX11_report [some (.ref 0), some (.int x), some (.int y), some (.int z), some (.int w), some (.int u)] [some (.ref 40), some (.int x), some (.int y), some (.int z), some (.int w), some (.int u)] G I J := by
  intro G I J x y z w u hR hzu Q1 hQ
  obtain ⟨np, nm, nl, nt, mo, on, sz, hG, hD, hP, hL, hC, hK, hRr, hN, hT⟩ := hR
  obtain ⟨n, su, bd, hs, hv, n40, su1, hc, hh, hvb, hbd, h168, hfw⟩ := hRr
  have hR : R_ G I J := ⟨np, nm, nl, nt, mo, on, sz, hG, hD, hP, hL, hC, hK, ⟨n, su, bd, hs, hv, n40, su1, hc, hh, hvb, hbd, h168, hfw⟩, hN, hT⟩
  refine s10_report (d := 98) hG hc.1 n40 (fun h => ?_) (fun h h2 => ?_) (fun a b c e ha hb hcc he hx1 hx2 hx3 hx4 hn => ?_)
  · exact hQ _ G I J hG (fun Q2 hQ2 => s11_report (d := 98) hG hc.2.1 n40 (bz_v hzu) (fun _ => hQ2 G I J hR) (fun g _ => absurd g h) (fun a b c e ha hb hcc he hx1 hx2 hx3 hx4 _ => absurd ⟨(by rw [hx1]; exact ⟨nI_pos' (by omega), (nI_leI (by omega) (b := 3) (by omega)).mpr (by omega)⟩), (by rw [hx2]; exact ⟨nI_pos' (by omega), (nI_leI (by omega) (b := 3) (by omega)).mpr (by omega)⟩), (by rw [hx3]; exact ⟨nI_pos' (by omega), (nI_leI (by omega) (b := 3) (by omega)).mpr (by omega)⟩), (by rw [hx4]; exact ⟨nI_pos' (by omega), (nI_leI (by omega) (b := 3) (by omega)).mpr (by omega)⟩)⟩ h))
  · exact hQ _ G I J hG (fun Q2 hQ2 => s11_report (d := 98) hG hc.2.1 n40 (bz_v hzu) (fun g => absurd h g) (fun _ _ => hQ2 G I J hR) (fun a b c e ha hb hcc he hx1 hx2 hx3 hx4 g => absurd g (by omega)))
  · refine hQ _ G (xv_ui (xv_ui I 5 0 (nI (n + 1))) 5 2 1) (rp_J J (lN (2 ^ n)) a b c e u) hG (fun Q2 hQ2 => s11_report (d := 98) hG (I := (xv_ui (xv_ui I 5 0 (nI (n + 1))) 5 2 1)) hc.2.1 n40 (bz_v hzu) (fun g => absurd ⟨(by rw [hx1]; exact ⟨nI_pos' (by omega), (nI_leI (by omega) (b := 3) (by omega)).mpr (by omega)⟩), (by rw [hx2]; exact ⟨nI_pos' (by omega), (nI_leI (by omega) (b := 3) (by omega)).mpr (by omega)⟩), (by rw [hx3]; exact ⟨nI_pos' (by omega), (nI_leI (by omega) (b := 3) (by omega)).mpr (by omega)⟩), (by rw [hx4]; exact ⟨nI_pos' (by omega), (nI_leI (by omega) (b := 3) (by omega)).mpr (by omega)⟩)⟩ g) (fun _ g => absurd g (by omega)) (fun a2 b2 c2 e2 ha2 hb2 hc2 he2 hy1 hy2 hy3 hy4 _ => ?_))
    have ea : a2 = a := (nI_eq (by omega) (by omega)).mp (hy1.symm.trans hx1)
    have eb : b2 = b := (nI_eq (by omega) (by omega)).mp (hy2.symm.trans hx2)
    have ec : c2 = c := (nI_eq (by omega) (by omega)).mp (hy3.symm.trans hx3)
    have ee : e2 = e := (nI_eq (by omega) (by omega)).mp (hy4.symm.trans hx4)
    subst ea eb ec ee
    have hR2 : rR (xv_ui (xv_ui (xv_ui (xv_ui (xv_ui I 5 0 (nI (n + 1))) 5 2 1) 75 n (nI (2 ^ a2 ||| 16 * 2 ^ b2 ||| 256 * 2 ^ c2 ||| 4096 * 2 ^ e2))) 76 n u) 40 24 (nI (n + 1))) (rp_J J (lN (2 ^ n)) a2 b2 c2 e2 u) := by
      refine ⟨n + 1, su, @ite Nat (u = 0) (Classical.propDecidable _) bd (bd ||| 2 ^ n), fun r => if r = n then (2 ^ a2 ||| 16 * 2 ^ b2 ||| 256 * 2 ^ c2 ||| 4096 * 2 ^ e2) else hs r, fun k => @ite Nat (rset a2 b2 c2 e2 k) (Classical.propDecidable _) (hv k ||| 2 ^ n) (hv k), by omega, su1, ⟨rfl, rfl, hc.2.2.1, hc.2.2.2⟩, fun r hr => ?_, fun k hk => ⟨?_, fun r => ?_⟩, ⟨?_, fun r => ?_⟩, ?_, fun q => absurd (show (1 : Int32) = 0 from q) (by decide)⟩
      · by_cases q : r = n
        · subst q
          simp only [if_true]
          refine ⟨?_, rset_l ha hb hcc he⟩
          rw [xv_ui_a (by decide), xv_ui_a (by decide), xv_ui_s]
        · simp only [if_neg q]
          rw [xv_ui_a (by decide), xv_ui_a (by decide), xv_ui_o q, xv_ui_a (by decide), xv_ui_a (by decide)]
          exact hh r (by omega)
      · rw [rp_J6, rp_4a ha hb hcc he, (hvb k hk).1]
        dsimp only
        by_cases q : rset a2 b2 c2 e2 k
        · rw [if_pos q, if_pos q, xl_or]
        · rw [if_neg q, if_neg q]
      · have g := (hvb k hk).2 r
        dsimp only
        by_cases q : rset a2 b2 c2 e2 k
        · rw [if_pos q, tb_or, g]
          by_cases e : r = n
          · subst e
            simp only [if_true]
            exact ⟨fun _ => ⟨by omega, rset_b.mpr q⟩, fun _ => Or.inr (by trivial)⟩
          · simp only [if_neg e]
            exact ⟨fun z => z.elim (fun y => ⟨by omega, y.2⟩) (fun y => absurd y e), fun z => Or.inl ⟨by omega, z.2⟩⟩
        · rw [if_neg q, g]
          by_cases e : r = n
          · subst e
            simp only [if_true]
            exact ⟨fun z => absurd z.1 (by omega), fun z => absurd (rset_b.mp z.2) q⟩
          · simp only [if_neg e]
            exact ⟨fun z => ⟨by omega, z.2⟩, fun z => ⟨by omega, z.2⟩⟩
      · rw [rp_J5, hbd.1]
        by_cases q : u = 0
        · rw [if_pos q, if_pos q]
        · rw [if_neg q, if_neg q, xl_or]
      · have g := hbd.2 r
        have e76 : ∀ r, (xv_ui (xv_ui (xv_ui (xv_ui (xv_ui I 5 0 (nI (n + 1))) 5 2 1) 75 n (nI (2 ^ a2 ||| 16 * 2 ^ b2 ||| 256 * 2 ^ c2 ||| 4096 * 2 ^ e2))) 76 n u) 40 24 (nI (n + 1))) 76 r = if r = n then u else I 76 r := fun r => by
          rw [xv_ui_a (by decide)]
          by_cases e : r = n
          · subst e; rw [xv_ui_s, if_pos rfl]
          · rw [xv_ui_o e, if_neg e, xv_ui_a (by decide), xv_ui_a (by decide), xv_ui_a (by decide)]
        rw [e76]
        by_cases q : u = 0
        · rw [if_pos q, g]
          by_cases e : r = n
          · rw [if_pos e]
            exact ⟨fun z => absurd z.1 (by omega), fun z => absurd q z.2⟩
          · rw [if_neg e]
            exact ⟨fun z => ⟨by omega, z.2⟩, fun z => ⟨by omega, z.2⟩⟩
        · rw [if_neg q, tb_or, g]
          by_cases e : r = n
          · rw [if_pos e]
            exact ⟨fun _ => ⟨by omega, q⟩, fun _ => Or.inr e⟩
          · rw [if_neg e]
            exact ⟨fun z => z.elim (fun y => ⟨by omega, y.2⟩) (fun y => absurd y e), fun z => Or.inl ⟨by omega, z.2⟩⟩
      · rw [rp_Jn (by decide) (by decide)]; exact h168
    exact hQ2 _ _ _ ⟨np, nm, nl, nt, mo, on, sz, hG, hD, (rP_fr hP (fun b hb => by rw [xv_ui_ne (mne hb (by decide)), xv_ui_ne (mne hb (by decide)), xv_ui_ne (mne hb (by decide)), xv_ui_ne (mne hb (by decide)), xv_ui_ne (mne hb (by decide))]) (fun j hj => by rw [xv_ui_o (mne hj (by decide)), xv_ui_a (by decide), xv_ui_a (by decide), xv_ui_a (by decide), xv_ui_a (by decide)])), (rL_fr hL (by rw [xv_ui_ne (by decide), xv_ui_ne (by decide), xv_ui_ne (by decide), xv_ui_ne (by decide), xv_ui_ne (by decide)]) (by rw [xv_ui_ne (by decide), xv_ui_ne (by decide), xv_ui_ne (by decide), xv_ui_ne (by decide), xv_ui_ne (by decide)])), (rC_fr hC (fun b hb => by rw [xv_ui_ne (mne hb (by decide)), xv_ui_ne (mne hb (by decide)), xv_ui_ne (mne hb (by decide)), xv_ui_ne (mne hb (by decide)), xv_ui_ne (mne hb (by decide))]) (by rw [xv_ui_o (by decide), xv_ui_a (by decide), xv_ui_a (by decide), xv_ui_a (by decide), xv_ui_a (by decide)]) (rp_Jn (by decide) (by decide))), (rK_fr hK (fun b hb => by rw [xv_ui_ne (mne hb (by decide)), xv_ui_ne (mne hb (by decide)), xv_ui_ne (mne hb (by decide)), xv_ui_ne (mne hb (by decide)), xv_ui_ne (mne hb (by decide))])), hR2, (rN_fr hN (fun j hj => by rw [xv_ui_a (by decide), xv_ui_a (by decide), xv_ui_a (by decide), xv_ui_a (by decide), xv_ui_a (by decide)]) (fun j hj => by rw [xv_ui_o (mne hj (by decide)), xv_ui_a (by decide), xv_ui_a (by decide), xv_ui_a (by decide), xv_ui_a (by decide)]) (fun b hb => by rw [xv_ui_ne (mne hb (by decide)), xv_ui_ne (mne hb (by decide)), xv_ui_ne (mne hb (by decide)), xv_ui_ne (mne hb (by decide)), xv_ui_ne (mne hb (by decide))]) (fun b h1 h2 => by rw [xv_ui_ne (by omega), xv_ui_ne (by omega), xv_ui_ne (by omega), xv_ui_ne (by omega), xv_ui_ne (by omega)]) (fun b hb => rp_Jn (mne hb (by decide)) (mne hb (by decide))) (fun b h1 h2 => rp_Jn (by omega) (by omega))), (rT_fr hT (by rw [xv_ui_a (by decide), xv_ui_a (by decide), xv_ui_a (by decide), xv_ui_a (by decide), xv_ui_a (by decide)]) (by rw [xv_ui_o (by decide), xv_ui_a (by decide), xv_ui_a (by decide), xv_ui_a (by decide), xv_ui_a (by decide)]) (fun b hb => by rw [xv_ui_ne (mne hb (by decide)), xv_ui_ne (mne hb (by decide)), xv_ui_ne (mne hb (by decide)), xv_ui_ne (mne hb (by decide)), xv_ui_ne (mne hb (by decide))]) (fun b h1 h2 => by rw [xv_ui_ne (by omega), xv_ui_ne (by omega), xv_ui_ne (by omega), xv_ui_ne (by omega), xv_ui_ne (by omega)]))⟩
