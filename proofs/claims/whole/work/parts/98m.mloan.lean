/-! loans in math: a payment, a month -/
theorem gw_b : ∀ m, m < 600 → 100000 * 21 ^ m < 1152921504606846976 * 20 ^ m := by decide +kernel
theorem gw_lt {o : Int} {m : Nat} (hm : m ≤ 599) (h : o * 20 ^ m ≤ 100000 * 21 ^ m) : o < 2 ^ 60 := by
  have g := gw_b m (by omega)
  have g2 : (100000 : Int) * 21 ^ m < 1152921504606846976 * 20 ^ m := by
    have z := Int.ofNat_lt.mpr g
    rw [Int.natCast_mul, Int.natCast_mul, Int.natCast_pow, Int.natCast_pow] at z
    exact z
  have p : (0 : Int) < 20 ^ m := Int.pow_pos (by decide)
  exact Int.lt_of_mul_lt_mul_right (Int.lt_of_le_of_lt h g2) (Int.le_of_lt p)
theorem t64 (v : Int32) : v.toInt64.toInt = v.toInt := Int32.toInt_toInt64 v
theorem xl_eq {x y : Int64} : x = y ↔ x.toInt = y.toInt := ⟨fun h => by rw [h], fun h => Int64.toInt_inj.mp h⟩
theorem xl_lt {x y : Int64} : x < y ↔ x.toInt < y.toInt := Int64.lt_iff_toInt_lt
theorem sub_le {o t : Int64} (h1 : 0 ≤ t.toInt) (h2 : t.toInt ≤ o.toInt) : (o - t).toInt = o.toInt - t.toInt := by
  have := o.toInt_lt
  exact za_subL (by omega) (by omega)
theorem ln_t_v {v : Int32} {o : Int64} (hv : 1 ≤ v.toInt) (ho : 0 < o.toInt) : 0 < (ln_t v o).toInt ∧ (ln_t v o).toInt ≤ o.toInt ∧ (ln_t v o).toInt ≤ v.toInt := by
  unfold ln_t
  by_cases q : o < v.toInt64
  · rw [if_pos q]; rw [xl_lt, t64] at q; omega
  · rw [if_neg q]; rw [xl_lt, t64] at q; rw [t64]; omega
theorem i64_32 {x : Int64} (h1 : -2 ^ 31 ≤ x.toInt) (h2 : x.toInt < 2 ^ 31) : x.toInt32.toInt = x.toInt := by
  rw [Int64.toInt_toInt32]
  exact za_32 h1 h2
theorem pm_t_eq {v : Int32} {o : Int64} (hv : 1 ≤ v.toInt) (ho : 0 < o.toInt) : pm_t v o = (ln_t v o).toInt32 ∧ (pm_t v o).toInt64 = ln_t v o := by
  obtain ⟨h1, h2, h3⟩ := ln_t_v hv ho
  have hv2 := v.toInt_lt
  have e : pm_t v o = (ln_t v o).toInt32 := by
    rw [xn_eq, i64_32 (by omega) (by omega)]
    unfold pm_t ln_t
    by_cases q : v.toInt64 < o
    · rw [if_pos q]
      rw [xl_lt, t64] at q
      rw [if_neg (by rw [xl_lt, t64]; omega), t64]
    · rw [if_neg q]
      rw [xl_lt, t64] at q
      rw [i64_32 (by omega) (by omega)]
      by_cases q2 : o < v.toInt64
      · rw [if_pos q2]
      · rw [if_neg q2]
        rw [xl_lt, t64] at q2
        rw [t64]; omega
  refine ⟨e, ?_⟩
  rw [xl_eq, t64, e, i64_32 (by omega) (by omega)]
theorem pm_z_eq {d t : Int64} {t2 : Int32} (hd : 0 ≤ d.toInt) (ht : 0 ≤ t.toInt) (e : t2.toInt64 = t) : pm_z d t2 = ln_z d t := by
  unfold pm_z ln_z
  have h : (d - t).toInt = d.toInt - t.toInt := za_subL (by have := t.toInt_lt; omega) (by have := d.toInt_lt; omega)
  rw [e]
  by_cases q : d < t
  · rw [if_pos q, if_pos (by rw [xl_lt, h, Int64.toInt_zero]; rw [xl_lt] at q; omega)]
  · rw [if_neg q, if_neg (by rw [xl_lt, h, Int64.toInt_zero]; rw [xl_lt] at q; omega)]
theorem ln_z_v {d t o : Int64} (hd : 0 ≤ d.toInt) (hdo : d.toInt ≤ o.toInt) (ht : 0 ≤ t.toInt) (hto : t.toInt ≤ o.toInt) : 0 ≤ (ln_z d t).toInt ∧ (ln_z d t).toInt ≤ (o - t).toInt := by
  have h : (d - t).toInt = d.toInt - t.toInt := za_subL (by have := t.toInt_lt; omega) (by have := d.toInt_lt; omega)
  rw [sub_le ht hto]
  unfold ln_z
  by_cases q : d - t < 0
  · rw [if_pos q, Int64.toInt_zero]; omega
  · rw [if_neg q]; rw [xl_lt, h, Int64.toInt_zero] at q; omega
theorem pay_ok {I I2 : xv_I} {J J2 : xv_J} {mo i : Nat} {v : Int32} (hm : mo ≤ 599) (h : rN1 I J mo i) (hs : I (200 + 4 * i) 2 = 1) (hv : 1 ≤ v.toInt) {o t z : Int64} (ho : J (200 + 4 * i + 1) 0 = o) (ht : ln_t v o = t) (hz : ln_z (J (200 + 4 * i + 1) 1) t = z) (f0 : I2 (200 + 4 * i) 0 = I (200 + 4 * i) 0) (f2 : I2 (200 + 4 * i) 2 = if o - t = 0 then 2 else 1) (f3 : I2 (200 + 4 * i) 3 = if o - t = 0 then nI mo else I (200 + 4 * i) 3) (f1 : I2 (200 + 4 * i + 1) = I (200 + 4 * i + 1)) (j1 : J2 (200 + 4 * i + 1) 0 = o - t ∧ J2 (200 + 4 * i + 1) 1 = z) (j2 : ∀ j, J2 (200 + 4 * i + 2) j = if j = mo then o - t else J (200 + 4 * i + 2) j) (j3 : ∀ j, J2 (200 + 4 * i + 3) j = if j = mo then z else J (200 + 4 * i + 3) j) (e80 : I2 80 i = I 80 i) (e81 : I2 81 i = I 81 i) (e82 : I2 82 i = I 82 i) (e83 : I2 83 i = I 83 i) (k84 : ∀ j, j ≤ mo → J2 84 (600 * i + j) = if j = mo then o - t else J 84 (600 * i + j)) (k85 : ∀ j, j ≤ mo → J2 85 (600 * i + j) = if j = mo then z else J 85 (600 * i + j)) (k86 : ∀ j, j ≤ mo → I2 86 (600 * i + j) = if j = mo then (if o - t = 0 then 2 else 1) else I 86 (600 * i + j)) : rN1 I2 J2 mo i := by
  obtain ⟨si, ci, a1, a2, a3, a4, a5, a6, a7⟩ := h
  have c5 : ci = 599 := by
    rcases a2.2 with ⟨_, z⟩ | ⟨z1, _⟩
    · exact z
    · rw [hs] at z1; rcases z1 with z1 | z1 <;> exact absurd z1 (by decide)
  subst c5
  have p0 := a6.2.2.1 hs
  rw [ho] at a6 p0
  obtain ⟨t1, t2, t3⟩ := ln_t_v hv p0
  rw [ht] at t1 t2 t3
  have es := sub_le (Int.le_of_lt t1) t2
  have zb := ln_z_v a6.1 a6.2.1 (Int.le_of_lt t1) t2
  rw [hz] at zb
  have hgr : (o - t).toInt * 20 ^ mo ≤ 100000 * 21 ^ mo := by
    refine Int.le_trans (Int.mul_le_mul_of_nonneg_right ?_ (Int.le_of_lt (Int.pow_pos (by decide)))) a6.2.2.2
    omega
  by_cases q : o - t = 0
  · rw [if_pos q] at f2 f3
    refine ⟨si, mo, ?_, ⟨f3, Or.inr ⟨Or.inl f2, a1.2.2, Nat.le_refl _⟩⟩, ?_, ?_, ?_, ?_, fun m hm2 => ?_⟩
    · rw [f0, e82]; exact a1
    · rw [f1, e80, e81, e83]; exact a3
    · rw [e80, e81]; exact a4
    · rw [j1.1, j1.2, k84 mo (Nat.le_refl _), k85 mo (Nat.le_refl _), if_pos rfl, if_pos rfl]; exact ⟨rfl, rfl⟩
    · rw [j1.1, j1.2]; exact ⟨zb.1, zb.2, fun g => absurd (f2.symm.trans g) (by decide), hgr⟩
    · have b := a7 m hm2
      rw [k84 m hm2, k85 m hm2, k86 m hm2, f2, if_pos q, j2, j3, if_neg (show ¬ mo < m by omega)]
      rw [if_neg (show ¬ 599 < m by omega), hs, ite_self] at b
      by_cases e : m = mo
      · rw [if_pos e, if_pos e, if_pos e, if_pos e, if_pos e, if_neg (show ¬ m < mo by omega)]
        exact ⟨fun g => absurd a1.2.2 (by omega), fun _ => ⟨rfl, rfl, rfl⟩⟩
      · rw [if_neg e, if_neg e, if_neg e, if_neg e, if_neg e, if_pos (by omega)]
        exact b
  · rw [if_neg q] at f2 f3
    refine ⟨si, 599, ?_, ⟨f3.trans a2.1, Or.inl ⟨f2, rfl⟩⟩, ?_, ?_, ?_, ?_, fun m hm2 => ?_⟩
    · rw [f0, e82]; exact a1
    · rw [f1, e80, e81, e83]; exact a3
    · rw [e80, e81]; exact a4
    · rw [j1.1, j1.2, k84 mo (Nat.le_refl _), k85 mo (Nat.le_refl _), if_pos rfl, if_pos rfl]; exact ⟨rfl, rfl⟩
    · rw [j1.1, j1.2]
      refine ⟨zb.1, zb.2, fun _ => ?_, hgr⟩
      have : ¬ (o - t).toInt = 0 := fun g => q (xl_eq.mpr g)
      omega
    · have b := a7 m hm2
      rw [k84 m hm2, k85 m hm2, k86 m hm2, f2, if_neg q, j2, j3, if_neg (show ¬ 599 < m by omega)]
      rw [if_neg (show ¬ 599 < m by omega), hs, ite_self] at b
      rw [ite_self]
      by_cases e : m = mo
      · rw [if_pos e, if_pos e, if_pos e, if_pos e, if_pos e]
        exact ⟨fun g => absurd a1.2.2 (by omega), fun _ => ⟨rfl, rfl, rfl⟩⟩
      · rw [if_neg e, if_neg e, if_neg e, if_neg e, if_neg e]
        exact b
