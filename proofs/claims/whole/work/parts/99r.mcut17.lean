/-! the cut in math (17): class and model, what they answer -/
def cH (I : xv_I) (sz : Nat → Nat) (lo np : Nat) : Prop := np ≤ 12 ∧ (∀ p, p < np → 1 ≤ sz p ∧ sz p ≤ 200) ∧ lo ≤ 9 ∧ I 63 = I 130 ∧ I 64 = I 131 ∧ ∀ j, j < 4 → ∃ s p, s ≤ 400 ∧ p ≤ 9999 ∧ I 130 j = nI s ∧ I 131 j = nI p
def cPr (I : xv_I) : Nat → Nat := fun j => (I 131 j).toNatClampNeg
theorem cH_pr {I : xv_I} {sz : Nat → Nat} {lo np : Nat} (h : cH I sz lo np) : ∀ j, j < 4 → I 64 j = nI (cPr I j) ∧ cPr I j ≤ 9999 := fun j hj => by
  obtain ⟨s, p, h1, h2, h3, h4⟩ := h.2.2.2.2.2 j hj
  rw [h.2.2.2.2.1, cPr, h4, nI_clamp (by omega)]
  exact ⟨rfl, h2⟩
theorem cH_f {I : xv_I} {sz : Nat → Nat} {lo np : Nat} : ∀ S, S < 2 ^ np → onf I (cPr I) sz lo np S = f16 (qf I sz lo np) S := fun S _ => on_qf S
theorem cH_Ln {I : xv_I} {sz : Nat → Nat} {lo np v : Nat} (h : cH I sz lo np) (hv : ct_v (pvf I sz lo) np v) : Ln (qf I sz lo np) (2 ^ np - 1) v := ct_Ln h.1 (fun T h0 hT => pv_qf h.1 h.2.1 h.2.2.1 h.2.2.2.1 h.2.2.2.2.1 h0 hT) hv
/-- a set that has a price: its sort -/
theorem qf_s {I : xv_I} {sz : Nat → Nat} {lo np S p : Nat} (h : cH I sz lo np) (hS : S < 2 ^ np) (hq : qf I sz lo np S = some p) : S ≠ 0 ∧ p ≤ 9999 ∧ ∃ s, s < 4 ∧ ms_ I (-(nI lo) + nI (ws_ sz lo S np)) = some s ∧ cs_ I (-(nI lo) + nI (ws_ sz lo S np)) = some s ∧ nI (ws_ sz lo S np) - nI lo ≤ I 130 s := by
  have h0 : S ≠ 0 := fun e => by
    rw [qf, if_pos e] at hq; cases hq
  obtain ⟨e1, e2⟩ := qf_cs h.1 h.2.1 h.2.2.1 h.2.2.2.1 h.2.2.2.2.1 h0 hS
  rw [qf, if_neg h0] at hq
  cases e : ms_ I (-(nI lo) + nI (ws_ sz lo S np)) with
  | none => rw [e] at hq; cases hq
  | some s =>
    rw [e] at hq e2
    have g := e2.symm
    rw [cs_] at g
    obtain ⟨g1, g2⟩ := fl_lt g
    have hp : (I 131 s).toNatClampNeg = p := Option.some.inj hq
    refine ⟨h0, ?_, s, g1, rfl, e2.symm, ?_⟩
    · obtain ⟨s2, p2, k1, k2, k3, k4⟩ := h.2.2.2.2.2 s g1
      rw [k4, nI_clamp (by omega)] at hp
      omega
    · rw [nd_eq]; exact g2
theorem Pb_P2 {I : xv_I} {sz : Nat → Nat} {lo np : Nat} (h : cH I sz lo np) : ∀ L K T P z, T < 2 ^ np → Pb (qf I sz lo np) L K T P z → P ≤ 9999 * L.length
  | [], K, T, P, z, _, ⟨h1, h2, h3⟩ => by rw [h2]; exact Nat.zero_le _
  | b :: L, K, T, P, z, hT, ⟨h0, x, p, P2, z2, g1, g2, g3, g4, g5, g6⟩ => by
    have hle : 2 ^ np ≤ 2 ^ 12 := Nat.pow_le_pow_right (Nat.le_of_ble_eq_true rfl) h.1
    have h24 : (2 : Nat) ^ 12 = 4096 := by decide
    have rl := rs_lt h0 (show T < 4096 by omega)
    have i := Pb_P2 h L (K + 1) _ _ _ (Nat.lt_of_le_of_lt (xdf_le _ _) (Nat.lt_trans rl hT)) g4
    have sb : sb_ b T := fun m hm => by
      rw [g2, Nat.testBit_or, Bool.or_eq_true] at hm
      rcases hm with hm | hm
      · exact lw_sb T m hm
      · exact rs_sb T m (g1 m hm)
    have := (qf_s h (Nat.lt_of_le_of_lt (sb_le sb) hT) g3).2.1
    rw [List.length_cons]
    omega
theorem cH_1 {I : xv_I} {sz : Nat → Nat} {lo np P n z : Nat} (h : cH I sz lo np) (hp : Pt (qf I sz lo np) 0 (2 ^ np - 1) P n z) : ct_P I sz np := by
  intro p hpn hno
  have hle : 2 ^ np ≤ 2 ^ 12 := Nat.pow_le_pow_right (Nat.le_of_ble_eq_true rfl) h.1
  have h24 : (2 : Nat) ^ 12 = 4096 := by decide
  have p1 := Nat.one_le_two_pow (n := np)
  obtain ⟨L, h1, h2⟩ := hp
  obtain ⟨b, b1, b2, c, b3⟩ := Pb_cov L 0 _ P z (by omega) h2 p (by rw [Nat.testBit_two_pow_sub_one]; exact decide_eq_true hpn)
  have bl : b < 2 ^ np := by have := sb_le b2; omega
  obtain ⟨q0, q1, s, q2, q3, q4, q5⟩ := qf_s h bl b3
  rw [cs_] at hno
  refine fl_no 4 hno s q2 ?_
  obtain ⟨e1, e2⟩ := nd_v h.1 h.2.1 h.2.2.1 q0 bl
  have w := ws_in (sz := sz) (lo := lo) b1 np hpn
  have s2 := (h.2.1 p hpn).2
  rw [xn_le, e1] at q5
  rw [xn_le, nI_toInt (by omega)]
  omega
theorem cH_2 {I : xv_I} {sz : Nat → Nat} {lo np P n z : Nat} (h : cH I sz lo np) (hp : Pt (qf I sz lo np) 0 (2 ^ np - 1) P n z) : 16 * P + n < 100000000 := by
  have hle : 2 ^ np ≤ 2 ^ 12 := Nat.pow_le_pow_right (Nat.le_of_ble_eq_true rfl) h.1
  have h24 : (2 : Nat) ^ 12 = 4096 := by decide
  have p1 := Nat.one_le_two_pow (n := np)
  have a := Pt_n (by omega) hp
  obtain ⟨L, h1, h2⟩ := hp
  have b := Pb_P2 h L 0 _ P z (Nat.sub_lt p1 Nat.one_pos) h2
  rw [h1] at b
  omega
theorem cH_P {I : xv_I} {sz : Nat → Nat} {lo np : Nat} {mn : Nat → Nat} (h : cH I sz lo np) (hmn : mn_k (onf I (cPr I) sz lo np) mn (2 ^ np)) (hv : ct_P I sz np → ∃ v, ct_v (pvf I sz lo) np v) : mn (2 ^ np - 1) < 100000000 ↔ ct_P I sz np := by
  have p1 := Nat.one_le_two_pow (n := np)
  have M := mn_Pt h.1 hmn cH_f (2 ^ np - 1) (by omega) 0
  constructor
  · intro g
    rcases M.1 with M1 | ⟨P, n, ⟨z, M1⟩, M2⟩
    · omega
    · exact cH_1 h M1
  · intro g
    obtain ⟨v, hv⟩ := hv g
    obtain ⟨⟨P, n, z, k1, k2⟩, -⟩ := cH_Ln h hv
    exact Nat.lt_of_le_of_lt (M.2.2 _ ⟨P, n, ⟨z, k1⟩, rfl⟩) (cH_2 h k1)
def cIV (I : xv_I) (sz : Nat → Nat) (lo np : Nat) (mn : Nat → Nat) (p k : Nat) (gr bo : Nat → Nat) : Prop := ∃ Z, Zl (qf I sz lo np) (fun _ => 0) 0 (2 ^ np - 1) (mn (2 ^ np - 1)) Z ∧ gIV (qf I sz lo np) np (mn (2 ^ np - 1)) Z p k gr bo
theorem cI_0 {I : xv_I} {sz : Nat → Nat} {lo np : Nat} (h : cH I sz lo np) : ∀ mn gr bo, mn_k (onf I (cPr I) sz lo np) mn (2 ^ np) → mn (2 ^ np - 1) < 100000000 → cIV I sz lo np mn 0 0 gr bo := fun mn gr bo h1 h2 => by
  obtain ⟨Z, hZ, g⟩ := gIV_0 h.1 h1 cH_f h2
  exact ⟨Z, hZ, g gr bo⟩
theorem cI_b {I : xv_I} {sz : Nat → Nat} {lo np : Nat} : ∀ mn p k gr bo, cIV I sz lo np mn p k gr bo → k ≤ p ∧ ∀ g, g < k → gr g < 2 ^ np := fun mn p k gr bo ⟨Z, hZ, g⟩ => ⟨g.1, g.2.1⟩
theorem cI_s {I : xv_I} {sz : Nat → Nat} {lo np : Nat} (h : cH I sz lo np) : ∀ mn p k gr bo, mn_k (onf I (cPr I) sz lo np) mn (2 ^ np) → mn (2 ^ np - 1) < 100000000 → p < np → cIV I sz lo np mn p k gr bo → ∃ g, ch_ (onf I (cPr I) sz lo np) mn np (mn (2 ^ np - 1)) p k gr g ∧ cIV I sz lo np mn (p + 1) (gk_ k g) (gu_ gr g p k) (bo_u bo p g) := fun mn p k gr bo h1 h2 hp ⟨Z, hZ, g⟩ => by
  obtain ⟨j, j1, j2⟩ := gIV_s h.1 h1 cH_f h2 hp g
  exact ⟨j, j1, Z, hZ, j2⟩
theorem cI_v {I : xv_I} {sz : Nat → Nat} {lo np : Nat} (h : cH I sz lo np) : ∀ mn k gr bo, mn_k (onf I (cPr I) sz lo np) mn (2 ^ np) → mn (2 ^ np - 1) < 100000000 → cIV I sz lo np mn np k gr bo → ∀ g, g < k → ∃ s, ms_ I (-(nI lo) + nI (ws_ sz lo (gr g) np)) = some s := fun mn k gr bo h1 h2 ⟨Z, hZ, g⟩ i hi => by
  obtain ⟨k1, k2, k3, k5, ⟨m, k6, k7⟩, k8⟩ := g
  rw [pcs_np] at k6
  obtain ⟨⟨P, n, c1, c2⟩, -⟩ := k6
  obtain ⟨d1, d2, d3⟩ := Cq_00 _ _ _ _ c1
  obtain ⟨p, hp⟩ := d3 i hi
  obtain ⟨q0, q1, s, q2, q3, q4⟩ := qf_s h (k2 i hi) hp
  exact ⟨s, q3⟩
/-- what is left of a board -/
theorem rv_lv {I : xv_I} {sz : Nat → Nat} {lo np S s : Nat} (h : cH I sz lo np) (h0 : S ≠ 0) (hS : S < 2 ^ np) (hm : ms_ I (-(nI lo) + nI (ws_ sz lo S np)) = some s) (hc : cs_ I (-(nI lo) + nI (ws_ sz lo S np)) = some s) (hs : s < 4) : rv_ I lo (-(nI lo) + nI (ws_ sz lo S np)) = lv_ I lo (-(nI lo) + nI (ws_ sz lo S np)) := by
  rw [rv_, lv_, hm, hc, h.2.2.2.1]
  obtain ⟨e1, e2⟩ := nd_v h.1 h.2.1 h.2.2.1 h0 hS
  have b := ws_le (T := S) (fun p hp => (h.2.1 p hp).2) h.2.2.1 np (Nat.le_refl _)
  have n12 := h.1
  have l9 := h.2.2.1
  rw [nd_eq] at e1
  obtain ⟨s2, p2, k1, k2, k3, k4⟩ := h.2.2.2.2.2 s hs
  generalize -(nI lo) + nI (ws_ sz lo S np) = x at *
  have t1 : (I 130 s).toInt = (s2 : Int) := by rw [k3, nI_toInt (by omega)]
  have t2 : (nI lo).toInt = (lo : Int) := nI_toInt (by omega)
  have t3 : (I 130 s - x).toInt = (s2 : Int) - x.toInt := by rw [za_sub (by omega) (by omega), t1]
  have t4 : (I 130 s - x - nI lo).toInt = (s2 : Int) - x.toInt - lo := by rw [za_sub (by omega) (by omega), t3, t2]
  by_cases c : nI lo < I 130 s - x
  · have c2 : 0 < I 130 s - x - nI lo := by
      simp only [xn_lt, Int32.reduceToInt] at c ⊢
      omega
    dsimp only
    rw [if_pos c, if_pos c2]
  · have c2 : ¬ 0 < I 130 s - x - nI lo := by
      simp only [xn_lt, Int32.reduceToInt] at c ⊢
      omega
    dsimp only
    rw [if_neg c, if_neg c2]
theorem cH_e {I : xv_I} {sz : Nat → Nat} {lo np v k : Nat} {mn gr bo : Nat → Nat} (h : cH I sz lo np) (hmn : mn_k (onf I (cPr I) sz lo np) mn (2 ^ np)) (hb : mn (2 ^ np - 1) < 100000000) (hv : ct_v (pvf I sz lo) np v) (hI : cIV I sz lo np mn np k gr bo) (hr : ct_r I I np sz lo v) : v / 743008370688 % 13 = k ∧ (∀ j, j < np → dg_ v j = bo j) ∧ ∀ g, g < k → I 138 g = ob_ (-900009) (ms_ I (-(nI lo) + nI (ws_ sz lo (gr g) np))) ∧ I 139 g = lv_ I lo (-(nI lo) + nI (ws_ sz lo (gr g) np)) := by
  obtain ⟨Z, hZ, hg⟩ := hI
  obtain ⟨e1, e2, e3⟩ := cu_e (sz := sz) (lo := lo) h.1 hmn cH_f hb (cH_Ln h hv) hZ hg
  refine ⟨e1, e2, fun g hg => ?_⟩
  obtain ⟨g1, ⟨p, g2⟩, g3⟩ := e3 g hg
  obtain ⟨q0, q1, s, q2, q3, q4, q5⟩ := qf_s h g1 g2
  obtain ⟨r1, r2⟩ := hr.2.2.2 g (by omega)
  rw [r1, r2, g3]
  exact ⟨by rw [q3, q4]; rfl, rv_lv h q0 g1 q3 q4 q2⟩
