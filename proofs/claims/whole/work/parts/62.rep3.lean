/-! causes, cause (class) -/
noncomputable def cv_ (I : xv_I) (J : xv_J) (hv : Nat → Nat) (bd i : Nat) : Nat := @ite Nat (su_P I J i) (Classical.propDecidable _) (hv i &&& bd) 0
def on_ (cv : Nat → Nat) : Nat → Nat → Nat
  | 0, _ => 0
  | n + 1, i => cv i ||| on_ cv n (i + 1)
theorem on_s (cv : Nat → Nat) {i : Nat} (h : i < 16) : on_ cv (16 - i) i = cv i ||| on_ cv (16 - (i + 1)) (i + 1) := by
  have e : 16 - i = (16 - (i + 1)) + 1 := by omega
  rw [e, on_]
theorem cv_sb (I : xv_I) (J : xv_J) (hv : Nat → Nat) (bd i : Nat) : sb_ (cv_ I J hv bd i) bd := by
  unfold cv_
  split
  · intro j hj
    rw [Nat.testBit_and, Bool.and_eq_true] at hj
    exact hj.2
  · intro j hj
    rw [Nat.zero_testBit] at hj
    cases hj
def dn_ : Nat → Int32
  | 0 => -1
  | k + 1 => nI k
theorem dn_dec (k : Nat) (h : k < 100) : nI k + (-1) = dn_ k := by
  cases k with
  | zero => rfl
  | succ k =>
    show nI (k + 1) + (-1) = nI k
    have e : nI (k + 1) = nI k + 1 := (nI_add k 1).symm
    rw [e, Int32.add_assoc]
    exact Int32.add_zero _
def sk_1 (J J2 : xv_J) (cv : Nat → Nat) (k : Nat) : Prop := (∀ b, b ≠ 167 → b ≠ 168 → J2 b = J b) ∧ J2 168 16 = 0 ∧ ∀ i, k ≤ i → i < 16 → J2 167 i = lN (cv i) ∧ J2 168 i = lN (on_ cv (16 - i) i)
def sk_f (I I2 : xv_I) : Prop := (∀ b, b ≠ 164 → b ≠ 5 → I2 b = I b) ∧ ∀ j, j ≠ 3 → I2 5 j = I 5 j
def few (cv : Nat → Nat) (bd : Nat) (I : xv_I) : Prop := ((∀ n, n ≤ 16 → fs cv bd n 0 0 = none) ∧ I 5 3 = -900009) ∨ ∃ n w, n ≤ 16 ∧ (∀ q, q < n → fs cv bd q 0 0 = none) ∧ fs cv bd n 0 0 = some w ∧ I 5 3 = nI n ∧ ∀ j, j < n → I 164 j = nI (w.getD j 0)
theorem s6_sf_a {l : Launch} {D : va_G} {d : Nat} {G : xv_Gr} {I : xv_I} {J : xv_J} {Q : xv_Po} (hG : xg_ok G) {hv : Nat → Nat} {bd : Nat} (hhv : ∀ i, i < 16 → J 166 i = lN (hv i)) (hbd : J 5 5 = lN bd) (hb4 : bd < 2 ^ 40) (hj16 : J 168 16 = 0) (kk : ∀ J2, sk_1 J J2 (cv_ I J hv bd) 0 → xv_Ev l D (d + 3) mX6_seekFewest none 63 [some (.ref 5), some (.int (-1))] [] G I J2 0 0 Q) : ∀ (k : Nat) (J2 : xv_J), k ≤ 16 → sk_1 J J2 (cv_ I J hv bd) k → xv_Ev l D (d + 3) mX6_seekFewest none 3 [some (.ref 5), some (.int (dn_ k))] [] G I J2 0 0 Q := by
  intro k
  induction k with
  | zero =>
    intro J2 hk hs
    show xv_Ev l D (d + 3) mX6_seekFewest none 3 [some (.ref 5), some (.int (-1))] [] G I J2 0 0 Q
    refine xv_iload_n dX6_seekFewest_3 rfl rfl ?_
    refine xv_if_lt (tgt := 63) dX6_seekFewest_4 rfl (fun c_4 => ?_) (fun c_4 => absurd (by decide) c_4)
    exact kk J2 hs
  | succ k ih =>
    intro J2 hk hs
    show xv_Ev l D (d + 3) mX6_seekFewest none 3 [some (.ref 5), some (.int (nI k))] [] G I J2 0 0 Q
    have hsu : su_P I J2 k ↔ su_P I J k := by unfold su_P; rw [hs.1 166 (by decide) (by decide), hs.1 5 (by decide) (by decide)]
    have h5 : J2 5 5 = lN bd := by rw [hs.1 5 (by decide) (by decide)]; exact hbd
    have h6 : J2 166 k = lN (hv k) := by rw [hs.1 166 (by decide) (by decide)]; exact hhv k (by omega)
    refine xv_iload_n dX6_seekFewest_3 rfl rfl ?_
    refine xv_if_lt (tgt := 63) dX6_seekFewest_4 rfl (fun c_4 => absurd c_4 (by simp only [xn_lt, nI_toInt (show k < 2 ^ 31 by omega), Int32.reduceToInt]; omega)) (fun c_4 => ?_)
    refine xv_aload_n dX6_seekFewest_7 rfl rfl ?_
    refine xv_getr dX6_seekFewest_8 fl_X6_37 (go_5 hG) rfl (gr_5_7 hG) ?_
    refine xv_iload_n dX6_seekFewest_11 rfl rfl ?_
    refine xv_aload_n dX6_seekFewest_12 rfl rfl ?_
    refine xv_iload_n dX6_seekFewest_13 rfl rfl ?_
    refine xv_callV0 (As := [_]) dX6_seekFewest_14 cl_X6_59 rfl rfl rfl rfl (go_5 hG) rfl rfl (Nat.le_of_ble_eq_true rfl) (Nat.le_of_ble_eq_true rfl) (Nat.zero_le _) (Nat.zero_le _) ?_
    refine s6_suspects hG (c := k) (by omega) ?_
    refine xv_if_eqP (tgt := 34) dX6_seekFewest_17 rfl (fun c_17 => ?_) (fun c_17 => ?_)
    · refine xv_lconst (v := 0) dX6_seekFewest_34 rfl ?_
      refine xv_lastore dX6_seekFewest_35 (go_167 hG) (xv_ixn (by omega) (by decide)) ?_
      refine xv_aload_n dX6_seekFewest_36 rfl rfl ?_
      refine xv_getr dX6_seekFewest_37 fl_X6_40 (go_5 hG) rfl (gr_5_8 hG) ?_
      refine xv_iload_n dX6_seekFewest_40 rfl rfl ?_
      refine xv_aload_n dX6_seekFewest_41 rfl rfl ?_
      refine xv_getr dX6_seekFewest_42 fl_X6_37 (go_5 hG) rfl (gr_5_7 hG) ?_
      refine xv_iload_n dX6_seekFewest_45 rfl rfl ?_
      refine xv_laload dX6_seekFewest_46 (go_167 hG) (xv_ixn (by omega) (by decide)) ?_
      refine xv_aload_n dX6_seekFewest_47 rfl rfl ?_
      refine xv_getr dX6_seekFewest_48 fl_X6_40 (go_5 hG) rfl (gr_5_8 hG) ?_
      refine xv_iload_n dX6_seekFewest_51 rfl rfl ?_
      refine xv_iconst (v := nI 1) dX6_seekFewest_52 rfl ?_
      refine xv_iadd dX6_seekFewest_53 ?_
      refine xv_nmI (nI_add _ _) ?_
      refine xv_laload dX6_seekFewest_54 (go_168 hG) (xv_ixn (by omega) (by decide)) ?_
      refine xv_lor dX6_seekFewest_55 ?_
      refine xv_lastore dX6_seekFewest_56 (go_168 hG) (xv_ixn (by omega) (by decide)) ?_
      refine xv_iinc dX6_seekFewest_57 rfl (dn_dec k (by omega)) (Nat.le_of_ble_eq_true rfl) rfl ?_
      refine xv_goto (tgt := 3) dX6_seekFewest_60 rfl ?_
      have hc : (cv_ I J hv bd) k = 0 := by
        unfold cv_
        rw [if_neg (fun z => c_17 (hsu.mpr z))]
      refine ih _ (by omega) ⟨fun b h7 h8 => ?_, ?_, fun i g1 g2 => ?_⟩
      · rw [xv_uj_ne h8, xv_uj_ne h7]; exact hs.1 b h7 h8
      · rw [xv_uj_o (by omega), xv_uj_ne (by decide)]; exact hs.2.1
      by_cases e : i = k
      · subst e
        refine ⟨?_, ?_⟩
        · rw [xv_uj_ne (by decide), xv_uj_s, hc]; rfl
        · rw [xv_uj_s, xv_uj_s, xv_uj_ne (by decide), on_s _ g2, hc, ← xl_or]
          congr 1
          by_cases e2 : i + 1 = 16
          · rw [e2]; exact hs.2.1
          · exact (hs.2.2 (i + 1) (by omega) (by omega)).2
      · refine ⟨?_, ?_⟩
        · rw [xv_uj_ne (by decide), xv_uj_o e]; exact (hs.2.2 i (by omega) g2).1
        · rw [xv_uj_o e, xv_uj_ne (by decide)]; exact (hs.2.2 i (by omega) g2).2
    · refine xv_aload_n dX6_seekFewest_20 rfl rfl ?_
      refine xv_getr dX6_seekFewest_21 fl_X6_33 (go_5 hG) rfl (gr_5_6 hG) ?_
      refine xv_iload_n dX6_seekFewest_24 rfl rfl ?_
      refine xv_laload dX6_seekFewest_25 (go_166 hG) (xv_ixn (by omega) (by decide)) ?_
      refine xv_nmJ h6 ?_
      refine xv_aload_n dX6_seekFewest_26 rfl rfl ?_
      refine xv_getj dX6_seekFewest_27 fl_X6_29 (go_5 hG) rfl ?_
      refine xv_nmJ h5 ?_
      refine xv_land dX6_seekFewest_30 ?_
      refine xv_nmJ (xl_and _ _) ?_
      refine xv_goto (tgt := 35) dX6_seekFewest_31 rfl ?_
      refine xv_lastore dX6_seekFewest_35 (go_167 hG) (xv_ixn (by omega) (by decide)) ?_
      refine xv_aload_n dX6_seekFewest_36 rfl rfl ?_
      refine xv_getr dX6_seekFewest_37 fl_X6_40 (go_5 hG) rfl (gr_5_8 hG) ?_
      refine xv_iload_n dX6_seekFewest_40 rfl rfl ?_
      refine xv_aload_n dX6_seekFewest_41 rfl rfl ?_
      refine xv_getr dX6_seekFewest_42 fl_X6_37 (go_5 hG) rfl (gr_5_7 hG) ?_
      refine xv_iload_n dX6_seekFewest_45 rfl rfl ?_
      refine xv_laload dX6_seekFewest_46 (go_167 hG) (xv_ixn (by omega) (by decide)) ?_
      refine xv_aload_n dX6_seekFewest_47 rfl rfl ?_
      refine xv_getr dX6_seekFewest_48 fl_X6_40 (go_5 hG) rfl (gr_5_8 hG) ?_
      refine xv_iload_n dX6_seekFewest_51 rfl rfl ?_
      refine xv_iconst (v := nI 1) dX6_seekFewest_52 rfl ?_
      refine xv_iadd dX6_seekFewest_53 ?_
      refine xv_nmI (nI_add _ _) ?_
      refine xv_laload dX6_seekFewest_54 (go_168 hG) (xv_ixn (by omega) (by decide)) ?_
      refine xv_lor dX6_seekFewest_55 ?_
      refine xv_lastore dX6_seekFewest_56 (go_168 hG) (xv_ixn (by omega) (by decide)) ?_
      refine xv_iinc dX6_seekFewest_57 rfl (dn_dec k (by omega)) (Nat.le_of_ble_eq_true rfl) rfl ?_
      refine xv_goto (tgt := 3) dX6_seekFewest_60 rfl ?_
      have hc : (cv_ I J hv bd) k = hv k &&& bd := by
        unfold cv_
        rw [if_pos (hsu.mp c_17)]
      refine ih _ (by omega) ⟨fun b h7 h8 => ?_, ?_, fun i g1 g2 => ?_⟩
      · rw [xv_uj_ne h8, xv_uj_ne h7]; exact hs.1 b h7 h8
      · rw [xv_uj_o (by omega), xv_uj_ne (by decide)]; exact hs.2.1
      by_cases e : i = k
      · subst e
        refine ⟨?_, ?_⟩
        · rw [xv_uj_ne (by decide), xv_uj_s, hc]
        · rw [xv_uj_s, xv_uj_s, xv_uj_ne (by decide), on_s _ g2, hc, ← xl_or]
          congr 1
          by_cases e2 : i + 1 = 16
          · rw [e2]; exact hs.2.1
          · exact (hs.2.2 (i + 1) (by omega) (by omega)).2
      · refine ⟨?_, ?_⟩
        · rw [xv_uj_ne (by decide), xv_uj_o e]; exact (hs.2.2 i (by omega) g2).1
        · rw [xv_uj_o e, xv_uj_ne (by decide)]; exact (hs.2.2 i (by omega) g2).2
