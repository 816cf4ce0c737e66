/-! pairs of calls: pass -/
theorem gr_in {o r : Int} (h0 : 0 ≤ o) (r0 : 0 ≤ r) (r5 : r ≤ 50) : o ≤ o + (o / 1000 * r + (o - o / 1000 * 1000) * r / 1000) ∧ 20 * (o + (o / 1000 * r + (o - o / 1000 * 1000) * r / 1000)) ≤ 21 * o := by
  have hq := Int.ediv_nonneg h0 (show (0 : Int) ≤ 1000 by decide)
  have hm : 0 ≤ o - o / 1000 * 1000 ∧ o - o / 1000 * 1000 < 1000 := by omega
  have e : o = 1000 * (o / 1000) + (o - o / 1000 * 1000) := by omega
  generalize o / 1000 = q at *
  generalize o - q * 1000 = s at *
  have a1 : 0 ≤ q * r := Int.mul_nonneg hq r0
  have a2 : 0 ≤ s * r := Int.mul_nonneg hm.1 r0
  have a3 : q * r ≤ q * 50 := Int.mul_le_mul_of_nonneg_left r5 hq
  have a4 : s * r ≤ s * 50 := Int.mul_le_mul_of_nonneg_left r5 hm.1
  generalize q * r = x at *
  generalize s * r = y at *
  omega
theorem dv_L {x y : Int64} (hx : 0 ≤ x.toInt) (hy : 0 < y.toInt) : (x / y).toInt = x.toInt / y.toInt := by
  rw [Int64.toInt_div, Int.tdiv_eq_ediv_of_nonneg hx]
  have a := Int.ediv_nonneg hx (Int.le_of_lt hy)
  have b := Int.ediv_le_self y.toInt hx
  have := x.toInt_lt
  exact za_64 (by omega) (by omega)
theorem ln_o_v {o : Int64} {r : Int32} (h0 : 0 ≤ o.toInt) (hb : o.toInt < 2 ^ 60) (r0 : 0 ≤ r.toInt) (r5 : r.toInt ≤ 50) : o.toInt ≤ (ln_o o r).toInt ∧ 20 * (ln_o o r).toInt ≤ 21 * o.toInt := by
  have hk : (1000 : Int64).toInt = 1000 := rfl
  have e1 : (o / 1000).toInt = o.toInt / 1000 := by rw [dv_L h0 (by rw [hk]; decide), hk]
  have hq := Int.ediv_nonneg h0 (show (0 : Int) ≤ 1000 by decide)
  have e2 : (o / 1000 * 1000).toInt = o.toInt / 1000 * 1000 := by
    rw [za_mulL (by rw [e1, hk]; omega) (by rw [e1, hk]; omega), e1, hk]
  have e3 : (o - o / 1000 * 1000).toInt = o.toInt - o.toInt / 1000 * 1000 := by
    rw [za_subL (by rw [e2]; omega) (by rw [e2]; omega), e2]
  have m1 : 0 ≤ o.toInt / 1000 * r.toInt := Int.mul_nonneg hq r0
  have m2 : o.toInt / 1000 * r.toInt ≤ o.toInt / 1000 * 50 := Int.mul_le_mul_of_nonneg_left r5 hq
  have e4 : (o / 1000 * r.toInt64).toInt = o.toInt / 1000 * r.toInt := by
    rw [za_mulL (by rw [e1, t64]; omega) (by rw [e1, t64]; omega), e1, t64]
  have hs : 0 ≤ o.toInt - o.toInt / 1000 * 1000 ∧ o.toInt - o.toInt / 1000 * 1000 < 1000 := by omega
  have m3 : 0 ≤ (o.toInt - o.toInt / 1000 * 1000) * r.toInt := Int.mul_nonneg hs.1 r0
  have m4 : (o.toInt - o.toInt / 1000 * 1000) * r.toInt ≤ (o.toInt - o.toInt / 1000 * 1000) * 50 := Int.mul_le_mul_of_nonneg_left r5 hs.1
  have e5 : ((o - o / 1000 * 1000) * r.toInt64).toInt = (o.toInt - o.toInt / 1000 * 1000) * r.toInt := by
    rw [za_mulL (by rw [e3, t64]; omega) (by rw [e3, t64]; omega), e3, t64]
  have e6 : ((o - o / 1000 * 1000) * r.toInt64 / 1000).toInt = (o.toInt - o.toInt / 1000 * 1000) * r.toInt / 1000 := by
    rw [dv_L (by rw [e5]; exact m3) (by rw [hk]; decide), e5, hk]
  have g := gr_in h0 r0 r5
  generalize (o.toInt - o.toInt / 1000 * 1000) * r.toInt = y at *
  generalize o.toInt / 1000 * r.toInt = x at *
  have e7 : (o / 1000 * r.toInt64 + (o - o / 1000 * 1000) * r.toInt64 / 1000).toInt = x + y / 1000 := by
    rw [za_addL (by rw [e4, e6]; omega) (by rw [e4, e6]; omega), e4, e6]
  have e8 : (ln_o o r).toInt = o.toInt + (x + y / 1000) := by
    unfold ln_o
    rw [za_addL (by rw [e7]; omega) (by rw [e7]; omega), e7]
  rw [e8]
  exact g
theorem ln_d_v {d o : Int64} {p : Int32} (h0 : 0 ≤ d.toInt) (hb : d.toInt < 2 ^ 60) (ho : 0 ≤ o.toInt) (p1 : 1 ≤ p.toInt) (p2 : p.toInt ≤ 10000) : 0 ≤ (ln_d d o p).toInt ∧ (ln_d d o p).toInt ≤ o.toInt := by
  have e : (d + p.toInt64).toInt = d.toInt + p.toInt := by rw [za_addL (by rw [t64]; omega) (by rw [t64]; omega), t64]
  unfold ln_d
  by_cases q : o < d + p.toInt64
  · rw [if_pos q]; omega
  · rw [if_neg q]; rw [xl_lt] at q; omega
theorem gm_eq {d o : Int64} {p : Int32} (h : 0 < o.toInt) : gm_d d o p = ln_d d o p := by
  have q : 0 < o := by rw [xl_lt, Int64.toInt_zero]; exact h
  unfold gm_d ln_d
  rw [if_pos q]
/-- a month -/
theorem mon_ok {I I2 : xv_I} {J J2 : xv_J} {mo i : Nat} (hm : mo + 1 ≤ 599) (h : rN1 I J mo i) (f0 : I2 (200 + 4 * i) = I (200 + 4 * i)) (f1 : I2 (200 + 4 * i + 1) = I (200 + 4 * i + 1)) (e80 : I2 80 i = I 80 i) (e81 : I2 81 i = I 81 i) (e82 : I2 82 i = I 82 i) (e83 : I2 83 i = I 83 i)
  (jo : I (200 + 4 * i) 2 = 1 → (J2 (200 + 4 * i + 1) 0 = ln_o (J (200 + 4 * i + 1) 0) (I (200 + 4 * i + 1) 2) ∧ J2 (200 + 4 * i + 1) 1 = ln_d (J (200 + 4 * i + 1) 1) (ln_o (J (200 + 4 * i + 1) 0) (I (200 + 4 * i + 1) 2)) (I (200 + 4 * i + 1) 3)) ∧ (∀ j, J2 (200 + 4 * i + 2) j = if j = mo + 1 then ln_o (J (200 + 4 * i + 1) 0) (I (200 + 4 * i + 1) 2) else J (200 + 4 * i + 2) j) ∧ (∀ j, J2 (200 + 4 * i + 3) j = if j = mo + 1 then ln_d (J (200 + 4 * i + 1) 1) (ln_o (J (200 + 4 * i + 1) 0) (I (200 + 4 * i + 1) 2)) (I (200 + 4 * i + 1) 3) else J (200 + 4 * i + 3) j))
  (jc : ¬ I (200 + 4 * i) 2 = 1 → J2 (200 + 4 * i + 1) = J (200 + 4 * i + 1) ∧ J2 (200 + 4 * i + 2) = J (200 + 4 * i + 2) ∧ J2 (200 + 4 * i + 3) = J (200 + 4 * i + 3))
  (k84 : ∀ j, j ≤ mo + 1 → J2 84 (600 * i + j) = if j = mo + 1 then (@ite Int64 (I 86 (600 * i + mo) = 1) (Classical.propDecidable _) (ln_o (J 84 (600 * i + mo)) (I 80 i)) (J 84 (600 * i + mo))) else J 84 (600 * i + j))
  (k85 : ∀ j, j ≤ mo + 1 → J2 85 (600 * i + j) = if j = mo + 1 then (@ite Int64 (I 86 (600 * i + mo) = 1) (Classical.propDecidable _) (gm_d (J 85 (600 * i + mo)) (ln_o (J 84 (600 * i + mo)) (I 80 i)) (I 81 i)) (J 85 (600 * i + mo))) else J 85 (600 * i + j))
  (k86 : ∀ j, j ≤ mo + 1 → I2 86 (600 * i + j) = if j = mo + 1 then I 86 (600 * i + mo) else I 86 (600 * i + j)) : rN1 I2 J2 (mo + 1) i := by
  have hop := op_iff h
  obtain ⟨si, ci, a1, a2, a3, a4, a5, a6, a7⟩ := h
  have ob := gw_lt (by omega) a6.2.2.2
  have o0 : 0 ≤ (J (200 + 4 * i + 1) 0).toInt := by omega
  have am := (a7 mo (Nat.le_refl _)).2 a1.2.2
  rw [← a5.1, ← a3.1] at k84
  rw [← a5.2, ← a5.1, ← a3.1, ← a3.2.1] at k85
  by_cases q : I (200 + 4 * i) 2 = 1
  · have c5 : ci = 599 := by
      rcases a2.2 with ⟨_, z⟩ | ⟨z1, _⟩
      · exact z
      · rw [q] at z1; rcases z1 with z1 | z1 <;> exact absurd z1 (by decide)
    subst c5
    obtain ⟨j1, j2, j3⟩ := jo q
    have hg := ln_o_v (r := I (200 + 4 * i + 1) 2) o0 ob (by rw [a3.1]; exact a4.1.1) (by rw [a3.1]; exact a4.1.2)
    have p0 := a6.2.2.1 q
    rw [if_pos (hop.mp q)] at k84 k85
    rw [gm_eq (by omega)] at k85
    have hd := ln_d_v (d := J (200 + 4 * i + 1) 1) (o := ln_o (J (200 + 4 * i + 1) 0) (I (200 + 4 * i + 1) 2)) (p := I (200 + 4 * i + 1) 3) a6.1 (by omega) (by omega) (by rw [a3.2.1]; exact a4.2.1) (by rw [a3.2.1]; exact a4.2.2)
    rw [hop.mp q] at k86
    generalize ln_d (J (200 + 4 * i + 1) 1) (ln_o (J (200 + 4 * i + 1) 0) (I (200 + 4 * i + 1) 2)) (I (200 + 4 * i + 1) 3) = dd at *
    generalize ln_o (J (200 + 4 * i + 1) 0) (I (200 + 4 * i + 1) 2) = oo at *
    refine ⟨si, 599, ?_, ?_, ?_, ?_, ?_, ?_, fun m hm2 => ?_⟩
    · rw [f0, e82]; exact ⟨a1.1, a1.2.1, by omega⟩
    · rw [f0]; exact ⟨a2.1, Or.inl ⟨q, rfl⟩⟩
    · rw [f1, e80, e81, e83]; exact a3
    · rw [e80, e81]; exact a4
    · rw [j1.1, j1.2, k84 _ (Nat.le_refl _), k85 _ (Nat.le_refl _), if_pos rfl, if_pos rfl]; exact ⟨rfl, rfl⟩
    · rw [j1.1, j1.2, f0]
      refine ⟨hd.1, hd.2, fun _ => by omega, ?_⟩
      have z1 : (20 * oo.toInt) * 20 ^ mo ≤ (21 * (J (200 + 4 * i + 1) 0).toInt) * 20 ^ mo := Int.mul_le_mul_of_nonneg_right hg.2 (Int.le_of_lt (Int.pow_pos (by decide)))
      have z2 := Int.mul_le_mul_of_nonneg_left a6.2.2.2 (show (0 : Int) ≤ 21 by decide)
      rw [Int.mul_assoc] at z1
      rw [Int.mul_assoc] at z1
      rw [Int.pow_succ, Int.pow_succ, ← Int.mul_assoc, ← Int.mul_assoc]
      omega
    · rw [k84 m hm2, k85 m hm2, k86 m hm2, f0, q, ite_self, j2, j3, if_neg (show ¬ 599 < m by omega)]
      by_cases e : m = mo + 1
      · rw [if_pos e, if_pos e, if_pos e, if_pos e, if_pos e]
        exact ⟨fun g => absurd a1.2.2 (by omega), fun _ => ⟨rfl, rfl, rfl⟩⟩
      · have b := a7 m (by omega)
        rw [if_neg (show ¬ 599 < m by omega), q, ite_self] at b
        rw [if_neg e, if_neg e, if_neg e, if_neg e, if_neg e]
        exact b
  · have a2b : (I (200 + 4 * i) 2 = 2 ∨ I (200 + 4 * i) 2 = 3) ∧ si ≤ ci ∧ ci ≤ mo := by
      rcases a2.2 with ⟨z, _⟩ | z
      · exact absurd z q
      · exact z
    obtain ⟨j1, j2, j3⟩ := jc q
    rw [if_neg (fun g => q (hop.mpr g))] at k84 k85
    refine ⟨si, ci, ?_, ?_, ?_, ?_, ?_, ?_, fun m hm2 => ?_⟩
    · rw [f0, e82]; exact ⟨a1.1, a1.2.1, by omega⟩
    · rw [f0]; exact ⟨a2.1, Or.inr ⟨a2b.1, a2b.2.1, by omega⟩⟩
    · rw [f1, e80, e81, e83]; exact a3
    · rw [e80, e81]; exact a4
    · rw [j1, k84 _ (Nat.le_refl _), k85 _ (Nat.le_refl _), if_pos rfl, if_pos rfl]; exact ⟨rfl, rfl⟩
    · rw [j1, f0]
      refine ⟨a6.1, a6.2.1, a6.2.2.1, ?_⟩
      have z2 := Int.mul_le_mul_of_nonneg_left a6.2.2.2 (show (0 : Int) ≤ 21 by decide)
      have z3 : 0 ≤ (J (200 + 4 * i + 1) 0).toInt * 20 ^ mo := Int.mul_nonneg o0 (Int.le_of_lt (Int.pow_pos (by decide)))
      rw [Int.pow_succ, Int.pow_succ, ← Int.mul_assoc, ← Int.mul_assoc]
      omega
    · rw [k84 m hm2, k85 m hm2, k86 m hm2, f0, j2, j3]
      by_cases e : m = mo + 1
      · rw [if_pos e, if_pos e, if_pos e]
        refine ⟨fun g => absurd a1.2.2 (by omega), fun _ => ?_⟩
        rw [a5.1, a5.2]
        have z : (if ci < m then ci else m) = (if ci < mo then ci else mo) := by
          rw [if_pos (by omega)]; split <;> omega
        rw [z, if_neg (show ¬ m < ci by omega)]
        rw [if_neg (show ¬ mo < ci by omega)] at am
        exact am
      · rw [if_neg e, if_neg e, if_neg e]
        exact a7 m (by omega)
/-- all loans a month: class -/
theorem la_ne {I : xv_I} {J : xv_J} {mo b : Nat} : ∀ n, (∀ i, i < n → b ≠ 200 + 4 * i + 1 ∧ b ≠ 200 + 4 * i + 2 ∧ b ≠ 200 + 4 * i + 3) → ln_all I J mo n b = J b
  | 0, _ => rfl
  | n + 1, h => by
    have e := h n (by omega)
    rw [ln_all]
    split
    · rw [ln_g, xv_uj_ne e.2.2, xv_uj_ne e.2.1, xv_uj_ne e.1, xv_uj_ne e.1, la_ne n (fun i hi => h i (by omega))]
    · exact la_ne n (fun i hi => h i (by omega))
theorem la_at {I : xv_I} {J : xv_J} {mo i b : Nat} (hb : 200 + 4 * i ≤ b ∧ b < 200 + 4 * i + 4) : ∀ n, i < n → ln_all I J mo n b = (@ite xv_J (I (200 + 4 * i) 2 = 1) (Classical.propDecidable _) (ln_g I J (200 + 4 * i) mo) J) b
  | 0, h => absurd h (by omega)
  | n + 1, h => by
    by_cases e : i = n
    · subst e
      have q : ∀ c, 200 + 4 * i ≤ c → ln_all I J mo i c = J c := fun c hc => la_ne i (fun j hj => by omega)
      rw [ln_all]
      split
      · funext j
        simp only [ln_g, xv_uj_ap, q (200 + 4 * i + 1) (by omega), q b hb.1]
      · exact q b hb.1
    · have ih := la_at (I := I) (J := J) (mo := mo) hb n (by omega)
      rw [ln_all, ← ih]
      split
      · rw [ln_g, xv_uj_ne (by omega), xv_uj_ne (by omega), xv_uj_ne (by omega), xv_uj_ne (by omega)]
      · rfl
theorem ps_ne {I : xv_I} {J : xv_J} {mo nl b : Nat} (h : b < 200 ∨ 200 + 4 * nl ≤ b) : ∀ k, ps_J I J mo nl k b = J b
  | 0 => rfl
  | k + 1 => by rw [ps_J, la_ne nl (fun i hi => by omega), ps_ne h k]
/-- all loans a month: model -/
theorem pI_at {I : xv_I} {M : Nat} (h1 : 1 ≤ M) (hM : M ≤ 599) {i j : Nat} (hj : j ≤ 599) : ∀ n, pm_I I M n 86 (600 * i + j) = if i < n ∧ j = M then I 86 (600 * i + M - 1) else I 86 (600 * i + j)
  | 0 => by rw [pm_I, if_neg (by omega)]
  | n + 1 => by
    rw [pm_I, xv_ui_ap, if_pos rfl, pI_at h1 hM hj n]
    by_cases q : i = n ∧ j = M
    · have z := pI_at (I := I) h1 hM (i := n) (j := M - 1) (by omega) n
      rw [if_neg (by omega), show 600 * n + (M - 1) = 600 * n + M - 1 by omega] at z
      rw [if_pos (by omega), z, if_pos (by omega), q.1]
    · rw [if_neg (by omega)]
      by_cases q2 : i < n ∧ j = M
      · rw [if_pos q2, if_pos (by omega)]
      · rw [if_neg q2, if_neg (by omega)]
theorem pJ_ne {I : xv_I} {J : xv_J} {M b : Nat} (h : b ≠ 40 ∧ b ≠ 84 ∧ b ≠ 85) : ∀ n, pm_J I J M n b = J b
  | 0 => rfl
  | n + 1 => by rw [pm_J, pm_sJ, xv_uj_ne h.2.2, xv_uj_ne h.2.1, xv_uj_ne h.1, xv_uj_ne h.1, pJ_ne h n]
theorem pJ_at {I : xv_I} {J : xv_J} {M : Nat} (h1 : 1 ≤ M) (hM : M ≤ 599) : ∀ n i j, j ≤ 599 → pm_J I J M n 84 (600 * i + j) = (if i < n ∧ j = M then pm_o I J i (600 * i + M) else J 84 (600 * i + j)) ∧ pm_J I J M n 85 (600 * i + j) = (if i < n ∧ j = M then pm_d I J i (600 * i + M) else J 85 (600 * i + j))
  | 0, i, j, hj => by rw [pm_J, if_neg (by omega), if_neg (by omega)]; exact ⟨rfl, rfl⟩
  | n + 1, i, j, hj => by
    obtain ⟨i1, i2⟩ := pJ_at (I := I) (J := J) h1 hM n i j hj
    obtain ⟨z1, z2⟩ := pJ_at (I := I) (J := J) h1 hM n n (M - 1) (by omega)
    have z3 := pI_at (I := I) h1 hM (i := n) (j := M - 1) (by omega) n
    rw [if_neg (by omega), show 600 * n + (M - 1) = 600 * n + M - 1 by omega] at z1 z2 z3
    have eo : pm_o (pm_I I M n) (pm_J I J M n) n (600 * n + M) = pm_o I J n (600 * n + M) := by
      unfold pm_o
      rw [z3, z1, pm_I_ne (by decide)]
    have ed : pm_d (pm_I I M n) (pm_J I J M n) n (600 * n + M) = pm_d I J n (600 * n + M) := by
      unfold pm_d
      rw [z3, z1, z2, pm_I_ne (by decide), pm_I_ne (by decide)]
    rw [pm_J, pm_sJ, eo, ed]
    by_cases q : i = n ∧ j = M
    · refine ⟨?_, ?_⟩
      · rw [xv_uj_ne (by decide), xv_uj_ap, if_pos rfl, if_pos (show 600 * i + j = 600 * n + M by omega), if_pos (show i < n + 1 ∧ j = M by omega), q.1]
      · rw [xv_uj_ap, if_pos rfl, if_pos (show 600 * i + j = 600 * n + M by omega), if_pos (show i < n + 1 ∧ j = M by omega), q.1]
    · refine ⟨?_, ?_⟩
      · rw [xv_uj_ne (by decide), xv_uj_ap, if_pos rfl, if_neg (show ¬ 600 * i + j = 600 * n + M by omega), xv_uj_ne (by decide), xv_uj_ne (by decide), i1]
        by_cases q2 : i < n ∧ j = M
        · rw [if_pos q2, if_pos (show i < n + 1 ∧ j = M by omega)]
        · rw [if_neg q2, if_neg (show ¬ (i < n + 1 ∧ j = M) by omega)]
      · rw [xv_uj_ap, if_pos rfl, if_neg (show ¬ 600 * i + j = 600 * n + M by omega), xv_uj_ne (by decide), xv_uj_ne (by decide), xv_uj_ne (by decide), i2]
        by_cases q2 : i < n ∧ j = M
        · rw [if_pos q2, if_pos (show i < n + 1 ∧ j = M by omega)]
        · rw [if_neg q2, if_neg (show ¬ (i < n + 1 ∧ j = M) by omega)]
theorem pMJ_ne {I : xv_I} {J : xv_J} {mo nl b : Nat} (h : b ≠ 40 ∧ b ≠ 84 ∧ b ≠ 85) : ∀ k, pm_MJ I J mo nl k b = J b
  | 0 => rfl
  | k + 1 => by rw [pm_MJ, pJ_ne h, pMJ_ne h k]
theorem pMI_ne {I : xv_I} {mo nl b : Nat} (h : b ≠ 40 ∧ b ≠ 86) : ∀ k, pm_MI I mo nl k b = I b
  | 0 => rfl
  | k + 1 => by rw [pm_MI, pm_I_ne h.2, xv_ui_ne h.1, pMI_ne h k]
/-- class cells and model cells beside each other -/
def Jx (A B : xv_J) : xv_J := fun b => if b = 84 ∨ b = 85 then B b else A b
theorem Jx_a {A B : xv_J} {b : Nat} (h : b ≠ 84 ∧ b ≠ 85) : Jx A B b = A b := by rw [Jx, if_neg (by omega)]
theorem Jx_b {A B : xv_J} : Jx A B 84 = B 84 ∧ Jx A B 85 = B 85 := by
  constructor
  · rw [Jx, if_pos (by omega)]
  · rw [Jx, if_pos (by omega)]
theorem ms_all {I I1 : xv_I} {J J1 : xv_J} {mo nl : Nat} (hl : nl ≤ 8) (hI : ∀ b, b ≠ 6 → I1 b = I b) (hJ : J1 84 = J 84 ∧ J1 85 = J 85) (h : ∀ i, i < nl → rN1 I J mo i) : ∀ k, mo + k ≤ 599 → ∀ i, i < nl → rN1 (pm_MI I1 mo nl k) (Jx (ps_J I J mo nl k) (pm_MJ I1 J1 mo nl k)) (mo + k) i
  | 0, _, i, hi => rN1_fr (h i hi) (hI _ (by omega)) (hI _ (by omega)) (Jx_a (by omega)) (Jx_a (by omega)) (Jx_a (by omega)) (congrFun (hI _ (by omega)) _) (congrFun (hI _ (by omega)) _) (congrFun (hI _ (by omega)) _) (congrFun (hI _ (by omega)) _) (fun m _ => ⟨congrFun (Jx_b.1.trans hJ.1) _, congrFun (Jx_b.2.trans hJ.2) _, congrFun (hI _ (by omega)) _⟩)
  | k + 1, hk, i, hi => by
    have ih := ms_all hl hI hJ h k (by omega) i hi
    have g0 : ∀ b, b ≠ 6 → b ≠ 40 → b ≠ 86 → pm_MI I1 mo nl k b = I b := fun b h1 h2 h3 => by rw [pMI_ne ⟨h2, h3⟩, hI b h1]
    have g1 : ∀ b, b ≠ 6 → b ≠ 40 → b ≠ 86 → pm_MI I1 mo nl (k + 1) b = pm_MI I1 mo nl k b := fun b h1 h2 h3 => by rw [pMI_ne ⟨h2, h3⟩, pMI_ne ⟨h2, h3⟩]
    have x0 : (xv_ui I 6 0 (nI (mo + (k + 1)))) (200 + 4 * i) = pm_MI I1 mo nl k (200 + 4 * i) := by rw [xv_ui_ne (by omega), g0 _ (by omega) (by omega) (by omega)]
    have x1 : (xv_ui I 6 0 (nI (mo + (k + 1)))) (200 + 4 * i + 1) = pm_MI I1 mo nl k (200 + 4 * i + 1) := by rw [xv_ui_ne (by omega), g0 _ (by omega) (by omega) (by omega)]
    refine mon_ok (mo := mo + k) (by omega) ih (g1 _ (by omega) (by omega) (by omega)) (g1 _ (by omega) (by omega) (by omega)) (by rw [g1 _ (by omega) (by omega) (by omega)]) (by rw [g1 _ (by omega) (by omega) (by omega)]) (by rw [g1 _ (by omega) (by omega) (by omega)]) (by rw [g1 _ (by omega) (by omega) (by omega)]) (fun q => ?_) (fun q => ?_) (fun j hj => ?_) (fun j hj => ?_) (fun j hj => ?_)
    · rw [Jx_a (by omega), Jx_a (by omega), Jx_a (by omega), Jx_a (by omega), Jx_a (by omega), Jx_a (by omega), ps_J, la_at (i := i) (by omega) nl hi, la_at (i := i) (by omega) nl hi, la_at (i := i) (by omega) nl hi, x0, if_pos q]
      generalize ps_J I J mo nl k = X
      rw [← x1]
      generalize xv_ui I 6 0 (nI (mo + (k + 1))) = Y
      unfold ln_g
      refine ⟨⟨?_, ?_⟩, fun j => ?_, fun j => ?_⟩
      · simp [xv_uj_ap]
      · simp [xv_uj_ap]
      · simp [xv_uj_ap, Nat.add_assoc]
      · simp [xv_uj_ap, Nat.add_assoc]
    · rw [Jx_a (by omega), Jx_a (by omega), Jx_a (by omega), Jx_a (by omega), Jx_a (by omega), Jx_a (by omega), ps_J, la_at (i := i) (by omega) nl hi, la_at (i := i) (by omega) nl hi, la_at (i := i) (by omega) nl hi, x0, if_neg q]
      exact ⟨rfl, rfl, rfl⟩
    · rw [Jx_b.1, Jx_b.1, pm_MJ, (pJ_at (by omega) (by omega) nl i j (by omega)).1]
      have e86 : (xv_ui (pm_MI I1 mo nl k) 40 28 (nI (mo + (k + 1)))) 86 = pm_MI I1 mo nl k 86 := xv_ui_ne (by decide)
      have e80 : (xv_ui (pm_MI I1 mo nl k) 40 28 (nI (mo + (k + 1)))) 80 = pm_MI I1 mo nl k 80 := xv_ui_ne (by decide)
      unfold pm_o
      rw [e86, e80, show 600 * i + (mo + (k + 1)) - 1 = 600 * i + (mo + k) by omega]
      by_cases e : j = mo + k + 1
      · rw [if_pos ⟨hi, by omega⟩, if_pos e]
      · rw [if_neg (by omega), if_neg e]
    · rw [Jx_b.2, Jx_b.1, Jx_b.2, pm_MJ, (pJ_at (by omega) (by omega) nl i j (by omega)).2]
      have e86 : (xv_ui (pm_MI I1 mo nl k) 40 28 (nI (mo + (k + 1)))) 86 = pm_MI I1 mo nl k 86 := xv_ui_ne (by decide)
      have e80 : (xv_ui (pm_MI I1 mo nl k) 40 28 (nI (mo + (k + 1)))) 80 = pm_MI I1 mo nl k 80 := xv_ui_ne (by decide)
      have e81 : (xv_ui (pm_MI I1 mo nl k) 40 28 (nI (mo + (k + 1)))) 81 = pm_MI I1 mo nl k 81 := xv_ui_ne (by decide)
      unfold pm_d
      rw [e86, e80, e81, show 600 * i + (mo + (k + 1)) - 1 = 600 * i + (mo + k) by omega]
      by_cases e : j = mo + k + 1
      · rw [if_pos ⟨hi, by omega⟩, if_pos e]
      · rw [if_neg (by omega), if_neg e]
    · rw [pm_MI, pI_at (by omega) (by omega) (by omega) nl, xv_ui_ne (by decide), show 600 * i + (mo + (k + 1)) - 1 = 600 * i + (mo + k) by omega]
      by_cases e : j = mo + k + 1
      · rw [if_pos ⟨hi, by omega⟩, if_pos e]
      · rw [if_neg (by omega), if_neg e]
theorem ms_z {I1 : xv_I} {J1 : xv_J} {mo nl i m : Nat} (hi : nl ≤ i) (hm : m ≤ 599) : ∀ k, mo + k ≤ 599 → pm_MJ I1 J1 mo nl k 84 (600 * i + m) = J1 84 (600 * i + m) ∧ pm_MJ I1 J1 mo nl k 85 (600 * i + m) = J1 85 (600 * i + m) ∧ pm_MI I1 mo nl k 86 (600 * i + m) = I1 86 (600 * i + m)
  | 0, _ => ⟨rfl, rfl, rfl⟩
  | k + 1, hk => by
    have ih := ms_z (I1 := I1) (J1 := J1) (mo := mo) hi hm k (by omega)
    rw [pm_MJ, pm_MI, (pJ_at (by omega) (by omega) nl i m hm).1, (pJ_at (by omega) (by omega) nl i m hm).2, pI_at (by omega) (by omega) hm nl, if_neg (by omega), if_neg (by omega), if_neg (by omega), xv_ui_ne (by decide)]
    exact ih
theorem rk_28 {l : Launch} {D : va_G} : ∀ (G : xv_Gr) (I : xv_I) (J : xv_J) (x : Int32), R_ G I J → PrI R_ l D mX10_pass mX11_pass [some (.ref 0), some (.int x), none] [some (.ref 40), some (.int x), none, none, none] G I J := by
  intro G I J x hR Q1 hQ
  obtain ⟨np, nm, nl, nt, mo, on, sz, hG, hD, hP, hL, hC, hK, hRr, hN, hT⟩ := hR
  have hR : R_ G I J := ⟨np, nm, nl, nt, mo, on, sz, hG, hD, hP, hL, hC, hK, hRr, hN, hT⟩
  have h8 := hN.1.1
  have h5 := hN.1.2
  have rg : ∀ {n : Nat}, 1 ≤ n → n ≤ 60 → x = nI n → (1 ≤ x ∧ x ≤ 60) := fun {n} h1 h2 e => by
    rw [e]; simp only [xn_le, Int32.reduceToInt, nI_toInt (show n < 2 ^ 31 by omega)]; omega
  have sm : ∀ {n m : Nat}, n ≤ 60 → m ≤ 60 → x = nI n → x = nI m → n = m := fun h1 h2 e1 e2 => (nI_eq (by omega) (by omega)).mp (e1.symm.trans e2)
  refine s10_pass (d := 96) hG hD hN.2.1.1 hN.1.1 hN.2.1.2.2.1 hN.1.2 (fun h => ?_) (fun n h1 h2 hx h => ?_) (fun n h1 h2 hx h => ?_)
  · exact hQ _ G I J hG (fun Q2 hQ2 => s11_pass (d := 98) hG hN.2.1.2.1 hN.1.1 hN.2.1.2.2.2 hN.1.2 (fun _ => hQ2 G I J hR) (fun n g1 g2 gx _ => absurd (rg g1 g2 gx) h) (fun n g1 g2 gx _ => absurd (rg g1 g2 gx) h))
  · exact hQ _ G I J hG (fun Q2 hQ2 => s11_pass (d := 98) hG hN.2.1.2.1 hN.1.1 hN.2.1.2.2.2 hN.1.2 (fun g => absurd (rg h1 h2 hx) g) (fun _ _ _ _ _ => hQ2 G I J hR) (fun n2 g1 g2 gx g => absurd h (by have := sm h2 g2 hx gx; omega)))
  · refine hQ _ G (xv_ui I 6 0 (nI (mo + n))) (ps_J I J mo nl n) hG (fun Q2 hQ2 => s11_pass (d := 98) hG (by rw [xv_ui_ne (by decide)]; exact hN.2.1.2.1) h8 (by rw [xv_ui_ne (by decide)]; exact hN.2.1.2.2.2) h5 (fun g => absurd (rg h1 h2 hx) g) (fun n2 g1 g2 gx g => absurd h (by have := sm h2 g2 hx gx; omega)) (fun n2 g1 g2 gx _ => ?_))
    have e := sm h2 g2 hx gx
    subst e
    have hj : ∀ b, b < 200 → ps_J I J mo nl n b = J b := fun b hb => ps_ne (Or.inl hb) n
    have e40 : (xv_ui I 6 0 (nI (mo + n))) 40 = I 40 := xv_ui_ne (by decide)
    refine hQ2 _ _ _ (R_ln hP hL hC hK hRr hT hG hD (mo := mo + n) ⟨⟨h8, h⟩, ?_, fun i hi => ?_, fun i g1 g2 m hm => ?_⟩ (fun b g1 g2 => ?_) ?_ (fun j g => ?_) (fun b g => ?_))
    · rw [pMI_ne (by decide), pm_MI_29 n (by decide), pm_MI_28 (by rw [e40]; exact hN.2.1.2.2.2) n, e40, xv_ui_o (by decide), xv_ui_s]
      exact ⟨hN.2.1.1, hN.2.1.2.1, rfl, rfl⟩
    · have z := ms_all (I1 := xv_ui I 6 0 (nI (mo + n))) (J1 := ps_J I J mo nl n) h8 (fun b hb => xv_ui_ne hb) ⟨hj 84 (by decide), hj 85 (by decide)⟩ hN.2.2.1 n h i hi
      exact rN1_fr z rfl rfl (by rw [pMJ_ne (by omega), Jx_a (by omega)]) (by rw [pMJ_ne (by omega), Jx_a (by omega)]) (by rw [pMJ_ne (by omega), Jx_a (by omega)]) rfl rfl rfl rfl (fun m _ => ⟨by rw [Jx_b.1], by rw [Jx_b.2], rfl⟩)
    · obtain ⟨z1, z2, z3⟩ := ms_z (I1 := xv_ui I 6 0 (nI (mo + n))) (J1 := ps_J I J mo nl n) (mo := mo) g1 (show m ≤ 599 by omega) n h
      rw [z1, z2, z3, hj 84 (by decide), hj 85 (by decide), xv_ui_ne (by decide)]
      exact hN.2.2.2 i g1 g2 m hm
    · rw [pMI_ne ⟨fun e => g2 (by rw [e]; decide), fun e => g2 (by rw [e]; decide)⟩, xv_ui_ne (fun e => g2 (by rw [e]; decide))]
    · rw [pMI_ne (by decide), xv_ui_o (by decide)]
    · rw [pm_MI_29 n (fun e => g (by rw [e]; decide)), e40]
    · simp only [List.mem_cons, List.not_mem_nil, or_false] at g
      rw [pMJ_ne (by omega), hj b (by omega)]

