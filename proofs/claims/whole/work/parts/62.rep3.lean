/-! causes, cause (class) -/
noncomputable def cv_ (I : xv_I) (J : xv_J) (hv : Nat → Nat) (bd i : Nat) : Nat := @ite Nat (su_P I J i) (Classical.propDecidable _) (hv i &&& bd) 0
def on_ (cv : Nat → Nat) : Nat → Nat → Nat
  | 0, _ => 0
  | n + 1, i => cv i ||| on_ cv n (i + 1)
theorem on_s (cv : Nat → Nat) {i : Nat} (h : i < 16) : on_ cv (16 - i) i = cv i ||| on_ cv (16 - (i + 1)) (i + 1) := by
  have e : 16 - i = (16 - (i + 1)) + 1 := by omega
  rw [e, on_]
theorem cv_sb (I : xv_I) (J : xv_J) (hv : Nat → Nat) (bd i : Nat) : sb_ (cv_ I J hv bd i) bd := by
  unfold cv_
  split
  · intro j hj
    rw [Nat.testBit_and, Bool.and_eq_true] at hj
    exact hj.2
  · intro j hj
    rw [Nat.zero_testBit] at hj
    cases hj
def dn_ : Nat → Int32
  | 0 => -1
  | k + 1 => nI k
theorem dn_dec (k : Nat) (h : k < 100) : nI k + (-1) = dn_ k := by
  cases k with
  | zero => rfl
  | succ k =>
    show nI (k + 1) + (-1) = nI k
    have e : nI (k + 1) = nI k + 1 := (nI_add k 1).symm
    rw [e, Int32.add_assoc]
    exact Int32.add_zero _
def sk_1 (J J2 : xv_J) (cv : Nat → Nat) (k : Nat) : Prop := (∀ b, b ≠ 167 → b ≠ 168 → J2 b = J b) ∧ J2 168 16 = 0 ∧ ∀ i, k ≤ i → i < 16 → J2 167 i = lN (cv i) ∧ J2 168 i = lN (on_ cv (16 - i) i)
def sk_f (I I2 : xv_I) : Prop := (∀ b, b ≠ 164 → b ≠ 5 → I2 b = I b) ∧ ∀ j, j ≠ 3 → I2 5 j = I 5 j
def few (cv : Nat → Nat) (bd : Nat) (I : xv_I) : Prop := ((∀ n, n ≤ 16 → fs cv bd n 0 0 = none) ∧ I 5 3 = -900009) ∨ ∃ n w, n ≤ 16 ∧ (∀ q, q < n → fs cv bd q 0 0 = none) ∧ fs cv bd n 0 0 = some w ∧ I 5 3 = nI n ∧ ∀ j, j < n → I 164 j = nI (w.getD j 0)
theorem s6_sf_a {l : Launch} {D : va_G} {d : Nat} {G : xv_Gr} {I : xv_I} {J : xv_J} {Q : xv_Po} (hG : xg_ok G) {hv : Nat → Nat} {bd : Nat} (hhv : ∀ i, i < 16 → J 166 i = lN (hv i)) (hbd : J 5 5 = lN bd) (hb4 : bd < 2 ^ 40) (hj16 : J 168 16 = 0) (kk : ∀ J2, sk_1 J J2 (cv_ I J hv bd) 0 → xv_Ev l D (d + 3) mX6_seekFewest none 63 [some (.ref 5), some (.int (-1))] [] G I J2 0 0 Q) : ∀ (k : Nat) (J2 : xv_J), k ≤ 16 → sk_1 J J2 (cv_ I J hv bd) k → xv_Ev l D (d + 3) mX6_seekFewest none 3 [some (.ref 5), some (.int (dn_ k))] [] G I J2 0 0 Q := by
  intro k
  induction k with
  | zero =>
    intro J2 hk hs
    show xv_Ev l D (d + 3) mX6_seekFewest none 3 [some (.ref 5), some (.int (-1))] [] G I J2 0 0 Q
    refine xv_iload_n dX6_seekFewest_3 rfl rfl ?_
    refine xv_if_lt (tgt := 63) dX6_seekFewest_4 rfl (fun c_4 => ?_) (fun c_4 => absurd (by decide) c_4)
    exact kk J2 hs
  | succ k ih =>
    intro J2 hk hs
    show xv_Ev l D (d + 3) mX6_seekFewest none 3 [some (.ref 5), some (.int (nI k))] [] G I J2 0 0 Q
    have hsu : su_P I J2 k ↔ su_P I J k := by unfold su_P; rw [hs.1 166 (by decide) (by decide), hs.1 5 (by decide) (by decide)]
    have h5 : J2 5 5 = lN bd := by rw [hs.1 5 (by decide) (by decide)]; exact hbd
    have h6 : J2 166 k = lN (hv k) := by rw [hs.1 166 (by decide) (by decide)]; exact hhv k (by omega)
    refine xv_iload_n dX6_seekFewest_3 rfl rfl ?_
    refine xv_if_lt (tgt := 63) dX6_seekFewest_4 rfl (fun c_4 => absurd c_4 (by simp only [xn_lt, nI_toInt (show k < 2 ^ 31 by omega), Int32.reduceToInt]; omega)) (fun c_4 => ?_)
    refine xv_aload_n dX6_seekFewest_7 rfl rfl ?_
    refine xv_getr dX6_seekFewest_8 fl_X6_37 (go_5 hG) rfl (gr_5_7 hG) ?_
    refine xv_iload_n dX6_seekFewest_11 rfl rfl ?_
    refine xv_aload_n dX6_seekFewest_12 rfl rfl ?_
    refine xv_iload_n dX6_seekFewest_13 rfl rfl ?_
    refine xv_callV0 (As := [_]) dX6_seekFewest_14 cl_X6_59 rfl rfl rfl rfl (go_5 hG) rfl rfl (Nat.le_of_ble_eq_true rfl) (Nat.le_of_ble_eq_true rfl) (Nat.zero_le _) (Nat.zero_le _) ?_
    refine s6_suspects hG (c := k) (by omega) ?_
    refine xv_if_eqP (tgt := 34) dX6_seekFewest_17 rfl (fun c_17 => ?_) (fun c_17 => ?_)
    · refine xv_lconst (v := 0) dX6_seekFewest_34 rfl ?_
      refine xv_lastore dX6_seekFewest_35 (go_167 hG) (xv_ixn (by omega) (by decide)) ?_
      refine xv_aload_n dX6_seekFewest_36 rfl rfl ?_
      refine xv_getr dX6_seekFewest_37 fl_X6_40 (go_5 hG) rfl (gr_5_8 hG) ?_
      refine xv_iload_n dX6_seekFewest_40 rfl rfl ?_
      refine xv_aload_n dX6_seekFewest_41 rfl rfl ?_
      refine xv_getr dX6_seekFewest_42 fl_X6_37 (go_5 hG) rfl (gr_5_7 hG) ?_
      refine xv_iload_n dX6_seekFewest_45 rfl rfl ?_
      refine xv_laload dX6_seekFewest_46 (go_167 hG) (xv_ixn (by omega) (by decide)) ?_
      refine xv_aload_n dX6_seekFewest_47 rfl rfl ?_
      refine xv_getr dX6_seekFewest_48 fl_X6_40 (go_5 hG) rfl (gr_5_8 hG) ?_
      refine xv_iload_n dX6_seekFewest_51 rfl rfl ?_
      refine xv_iconst (v := nI 1) dX6_seekFewest_52 rfl ?_
      refine xv_iadd dX6_seekFewest_53 ?_
      refine xv_nmI (nI_add _ _) ?_
      refine xv_laload dX6_seekFewest_54 (go_168 hG) (xv_ixn (by omega) (by decide)) ?_
      refine xv_lor dX6_seekFewest_55 ?_
      refine xv_lastore dX6_seekFewest_56 (go_168 hG) (xv_ixn (by omega) (by decide)) ?_
      refine xv_iinc dX6_seekFewest_57 rfl (dn_dec k (by omega)) (Nat.le_of_ble_eq_true rfl) rfl ?_
      refine xv_goto (tgt := 3) dX6_seekFewest_60 rfl ?_
      have hc : (cv_ I J hv bd) k = 0 := by
        unfold cv_
        rw [if_neg (fun z => c_17 (hsu.mpr z))]
      refine ih _ (by omega) ⟨fun b h7 h8 => ?_, ?_, fun i g1 g2 => ?_⟩
      · rw [xv_uj_ne h8, xv_uj_ne h7]; exact hs.1 b h7 h8
      · rw [xv_uj_o (by omega), xv_uj_ne (by decide)]; exact hs.2.1
      by_cases e : i = k
      · subst e
        refine ⟨?_, ?_⟩
        · rw [xv_uj_ne (by decide), xv_uj_s, hc]; rfl
        · rw [xv_uj_s, xv_uj_s, xv_uj_ne (by decide), on_s _ g2, hc, ← xl_or]
          congr 1
          by_cases e2 : i + 1 = 16
          · rw [e2]; exact hs.2.1
          · exact (hs.2.2 (i + 1) (by omega) (by omega)).2
      · refine ⟨?_, ?_⟩
        · rw [xv_uj_ne (by decide), xv_uj_o e]; exact (hs.2.2 i (by omega) g2).1
        · rw [xv_uj_o e, xv_uj_ne (by decide)]; exact (hs.2.2 i (by omega) g2).2
    · refine xv_aload_n dX6_seekFewest_20 rfl rfl ?_
      refine xv_getr dX6_seekFewest_21 fl_X6_33 (go_5 hG) rfl (gr_5_6 hG) ?_
      refine xv_iload_n dX6_seekFewest_24 rfl rfl ?_
      refine xv_laload dX6_seekFewest_25 (go_166 hG) (xv_ixn (by omega) (by decide)) ?_
      refine xv_nmJ h6 ?_
      refine xv_aload_n dX6_seekFewest_26 rfl rfl ?_
      refine xv_getj dX6_seekFewest_27 fl_X6_29 (go_5 hG) rfl ?_
      refine xv_nmJ h5 ?_
      refine xv_land dX6_seekFewest_30 ?_
      refine xv_nmJ (xl_and _ _) ?_
      refine xv_goto (tgt := 35) dX6_seekFewest_31 rfl ?_
      refine xv_lastore dX6_seekFewest_35 (go_167 hG) (xv_ixn (by omega) (by decide)) ?_
      refine xv_aload_n dX6_seekFewest_36 rfl rfl ?_
      refine xv_getr dX6_seekFewest_37 fl_X6_40 (go_5 hG) rfl (gr_5_8 hG) ?_
      refine xv_iload_n dX6_seekFewest_40 rfl rfl ?_
      refine xv_aload_n dX6_seekFewest_41 rfl rfl ?_
      refine xv_getr dX6_seekFewest_42 fl_X6_37 (go_5 hG) rfl (gr_5_7 hG) ?_
      refine xv_iload_n dX6_seekFewest_45 rfl rfl ?_
      refine xv_laload dX6_seekFewest_46 (go_167 hG) (xv_ixn (by omega) (by decide)) ?_
      refine xv_aload_n dX6_seekFewest_47 rfl rfl ?_
      refine xv_getr dX6_seekFewest_48 fl_X6_40 (go_5 hG) rfl (gr_5_8 hG) ?_
      refine xv_iload_n dX6_seekFewest_51 rfl rfl ?_
      refine xv_iconst (v := nI 1) dX6_seekFewest_52 rfl ?_
      refine xv_iadd dX6_seekFewest_53 ?_
      refine xv_nmI (nI_add _ _) ?_
      refine xv_laload dX6_seekFewest_54 (go_168 hG) (xv_ixn (by omega) (by decide)) ?_
      refine xv_lor dX6_seekFewest_55 ?_
      refine xv_lastore dX6_seekFewest_56 (go_168 hG) (xv_ixn (by omega) (by decide)) ?_
      refine xv_iinc dX6_seekFewest_57 rfl (dn_dec k (by omega)) (Nat.le_of_ble_eq_true rfl) rfl ?_
      refine xv_goto (tgt := 3) dX6_seekFewest_60 rfl ?_
      have hc : (cv_ I J hv bd) k = hv k &&& bd := by
        unfold cv_
        rw [if_pos (hsu.mp c_17)]
      refine ih _ (by omega) ⟨fun b h7 h8 => ?_, ?_, fun i g1 g2 => ?_⟩
      · rw [xv_uj_ne h8, xv_uj_ne h7]; exact hs.1 b h7 h8
      · rw [xv_uj_o (by omega), xv_uj_ne (by decide)]; exact hs.2.1
      by_cases e : i = k
      · subst e
        refine ⟨?_, ?_⟩
        · rw [xv_uj_ne (by decide), xv_uj_s, hc]
        · rw [xv_uj_s, xv_uj_s, xv_uj_ne (by decide), on_s _ g2, hc, ← xl_or]
          congr 1
          by_cases e2 : i + 1 = 16
          · rw [e2]; exact hs.2.1
          · exact (hs.2.2 (i + 1) (by omega) (by omega)).2
      · refine ⟨?_, ?_⟩
        · rw [xv_uj_ne (by decide), xv_uj_o e]; exact (hs.2.2 i (by omega) g2).1
        · rw [xv_uj_o e, xv_uj_ne (by decide)]; exact (hs.2.2 i (by omega) g2).2

theorem xv_dp {l : Launch} {D : va_G} {d d2 : Nat} {mt : xv_MT} {sx : xv_Sc} {pc : Nat} {ls : List (Option Value)} {st : List Value} {G : xv_Gr} {I : xv_I} {J : xv_J} {uc us : Nat} {Q : xv_Po} (e : d = d2) (k : xv_Ev l D d2 mt sx pc ls st G I J uc us Q) : xv_Ev l D d mt sx pc ls st G I J uc us Q := e ▸ k
theorem nI_nn {n : Nat} (h : n < 100) : ¬ nI n = -900009 := fun e => by
  have q := congrArg Int32.toInt e
  rw [nI_toInt (by omega)] at q
  have z : ((-900009 : Int32)).toInt = -900009 := by decide
  rw [z] at q
  omega
theorem s6_sf_x {l : Launch} {D : va_G} {d : Nat} {G : xv_Gr} {I : xv_I} {J : xv_J} {Q : xv_Po} (hG : xg_ok G) {n : Nat} (hn : n ≤ 17) (h3 : ¬ I 5 3 = -900009) (hQ : Q none G I J) : xv_Ev l D d mX6_seekFewest none 71 [some (.ref 5), some (.int (nI n))] [] G I J 0 0 Q := by
  refine xv_iload_n dX6_seekFewest_71 rfl rfl ?_
  refine xv_bipush (v := nI 16) dX6_seekFewest_72 rfl ?_
  refine xv_icmp_gtN (tgt := 108) dX6_seekFewest_74 rfl (by omega) (by omega) (fun c_74 => ?_) (fun c_74 => ?_)
  · refine xv_vret dX6_seekFewest_108 rfl (Nat.zero_le _) (Nat.zero_le _) ?_
    exact hQ
  · refine xv_aload_n dX6_seekFewest_77 rfl rfl ?_
    refine xv_geti dX6_seekFewest_78 fl_X6_22 (go_5 hG) rfl ?_
    refine xv_ldc dX6_seekFewest_81 ld_X6_63 ?_
    refine xv_icmp_ne (tgt := 108) dX6_seekFewest_83 rfl (fun c_83 => ?_) (fun c_83 => absurd c_83 h3)
    refine xv_vret dX6_seekFewest_108 rfl (Nat.zero_le _) (Nat.zero_le _) ?_
    exact hQ

theorem s6_sf_b {l : Launch} {D : va_G} {d : Nat} {G : xv_Gr} {I : xv_I} {J : xv_J} {Q : xv_Po} (hG : xg_ok G) {hv : Nat → Nat} {bd : Nat} (hb4 : bd < 2 ^ 40) {J2 : xv_J} (hcv : ∀ i, i < 16 → J2 167 i = lN ((cv_ I J hv bd) i) ∧ sb_ ((cv_ I J hv bd) i) bd) (hon : ∀ i, i ≤ 16 → J2 168 i = lN (on_ (cv_ I J hv bd) (16 - i) i)) (h5 : J2 5 5 = lN bd) (hQ : ∀ I2, sk_f I I2 → few (cv_ I J hv bd) bd I2 → Q none G I2 J2) : ∀ (r n : Nat) (I2 : xv_I), n + r = 17 → (∀ q, q < n → fs (cv_ I J hv bd) bd q 0 0 = none) → I2 5 3 = -900009 → sk_f I I2 → xv_Ev l D (d + 17) mX6_seekFewest none 71 [some (.ref 5), some (.int (nI n))] [] G I2 J2 0 0 Q := by
  intro r
  induction r with
  | zero =>
    intro n I2 hr hno h3 hf
    refine xv_iload_n dX6_seekFewest_71 rfl rfl ?_
    refine xv_bipush (v := nI 16) dX6_seekFewest_72 rfl ?_
    refine xv_icmp_gtN (tgt := 108) dX6_seekFewest_74 rfl (by omega) (by omega) (fun c_74 => ?_) (fun c_74 => absurd c_74 (by omega))
    refine xv_vret dX6_seekFewest_108 rfl (Nat.zero_le _) (Nat.zero_le _) ?_
    exact hQ I2 hf (Or.inl ⟨fun q hq => hno q (by omega), h3⟩)
  | succ r ih =>
    intro n I2 hr hno h3 hf
    refine xv_iload_n dX6_seekFewest_71 rfl rfl ?_
    refine xv_bipush (v := nI 16) dX6_seekFewest_72 rfl ?_
    refine xv_icmp_gtN (tgt := 108) dX6_seekFewest_74 rfl (by omega) (by omega) (fun c_74 => absurd c_74 (by omega)) (fun c_74 => ?_)
    refine xv_aload_n dX6_seekFewest_77 rfl rfl ?_
    refine xv_geti dX6_seekFewest_78 fl_X6_22 (go_5 hG) rfl ?_
    refine xv_ldc dX6_seekFewest_81 ld_X6_63 ?_
    refine xv_icmp_ne (tgt := 108) dX6_seekFewest_83 rfl (fun c_83 => absurd h3 c_83) (fun c_83 => ?_)
    refine xv_aload_n dX6_seekFewest_86 rfl rfl ?_
    refine xv_iconst (v := nI 0) dX6_seekFewest_87 rfl ?_
    refine xv_iconst (v := nI 0) dX6_seekFewest_88 rfl ?_
    refine xv_iload_n dX6_seekFewest_89 rfl rfl ?_
    refine xv_lconst (v := 0) dX6_seekFewest_90 rfl ?_
    refine xv_callV0 (As := [_, _, _, _]) dX6_seekFewest_91 cl_X6_64 rfl rfl rfl rfl (go_5 hG) rfl rfl (Nat.le_of_ble_eq_true rfl) (Nat.le_of_ble_eq_true rfl) (Nat.zero_le _) (Nat.zero_le _) ?_
    refine xv_dp (show d + 16 = (d + (16 - n)) + n by omega) ?_
    refine s6_cov (d := d + (16 - n)) hG (mx := n) hcv hon (fun i hi => on_s _ hi) rfl h5 hb4 (by omega) n 0 0 0 I2 _ (by omega) (by omega) (fun i hi => by rw [Nat.zero_testBit] at hi; cases hi) hno (fun I3 g gn => ?_) (fun I3 w g gw gj => ?_)
    · refine xv_if_eq (tgt := 102) dX6_seekFewest_94 rfl (fun c_94 => ?_) (fun c_94 => absurd (by decide) c_94)
      refine xv_iinc dX6_seekFewest_102 rfl (xv_inc _) (Nat.le_of_ble_eq_true rfl) rfl ?_
      refine xv_goto (tgt := 71) dX6_seekFewest_105 rfl ?_
      refine ih (n + 1) I3 (by omega) (fun q hq => ?_) ?_ ⟨fun b g1 g2 => ?_, fun j hj => ?_⟩
      · by_cases e : q = n
        · rw [e]; exact gn
        · exact hno q (by omega)
      · rw [g.1 5 (by decide)]; exact h3
      · rw [g.1 b g1]; exact hf.1 b g1 g2
      · rw [g.1 5 (by decide)]; exact hf.2 j hj
    · refine xv_if_eq (tgt := 102) dX6_seekFewest_94 rfl (fun c_94 => absurd c_94 (by decide)) (fun c_94 => ?_)
      refine xv_aload_n dX6_seekFewest_97 rfl rfl ?_
      refine xv_iload_n dX6_seekFewest_98 rfl rfl ?_
      refine xv_puti dX6_seekFewest_99 fl_X6_22 (go_5 hG) rfl rfl rfl ?_
      refine xv_iinc dX6_seekFewest_102 rfl (xv_inc _) (Nat.le_of_ble_eq_true rfl) rfl ?_
      refine xv_goto (tgt := 71) dX6_seekFewest_105 rfl ?_
      refine s6_sf_x hG (by omega) (by rw [xv_ui_s]; exact nI_nn (by omega)) (hQ _ ⟨fun b g1 g2 => ?_, fun j hj => ?_⟩ (Or.inr ⟨n, w, by omega, hno, gw, xv_ui_s, fun j hj => ?_⟩))
      · rw [xv_ui_ne g2, g.1 b g1]; exact hf.1 b g1 g2
      · rw [xv_ui_o hj, g.1 5 (by decide)]; exact hf.2 j hj
      · rw [xv_ui_ne (by decide), ← Nat.zero_add j]; rw [gj j hj, Nat.zero_add]

theorem s6_seekFewest {l : Launch} {D : va_G} {d : Nat} {G : xv_Gr} {I : xv_I} {J : xv_J} {Q : xv_Po} (hG : xg_ok G) {hv : Nat → Nat} {bd : Nat} (hhv : ∀ i, i < 16 → J 166 i = lN (hv i)) (hbd : J 5 5 = lN bd) (hb4 : bd < 2 ^ 40) (hj16 : J 168 16 = 0) (hQ : ∀ I2 J2, sk_f I I2 → sk_1 J J2 (cv_ I J hv bd) 0 → few (cv_ I J hv bd) bd I2 → Q none G I2 J2) : xv_Ev l D (d + 17) mX6_seekFewest none 0 [some (.ref 5), none] [] G I J 0 0 Q := by
  refine xv_bipush (v := nI 15) dX6_seekFewest_0 rfl ?_
  refine xv_istore_n dX6_seekFewest_2 rfl (Nat.le_of_ble_eq_true rfl) rfl ?_
  refine s6_sf_a (d := d + 14) hG hhv hbd hb4 hj16 (fun J2 hs => ?_) 16 J (by omega) ⟨fun b _ _ => rfl, hj16, fun i g1 g2 => absurd g1 (by omega)⟩
  refine xv_aload_n dX6_seekFewest_63 rfl rfl ?_
  refine xv_ldc dX6_seekFewest_64 ld_X6_63 ?_
  refine xv_puti dX6_seekFewest_66 fl_X6_22 (go_5 hG) rfl rfl rfl ?_
  refine xv_iconst (v := nI 0) dX6_seekFewest_69 rfl ?_
  refine xv_istore_n dX6_seekFewest_70 rfl (Nat.le_of_ble_eq_true rfl) rfl ?_
  exact s6_sf_b hG (J := J) hb4 (fun i hi => ⟨(hs.2.2 i (by omega) hi).1, cv_sb _ _ _ _ _⟩) (fun i hi => by
      by_cases e : i = 16
      · rw [e]; exact hs.2.1
      · exact (hs.2.2 i (by omega) (by omega)).2) (by rw [hs.1 5 (by decide) (by decide)]; exact hbd) (fun I2 hf hw => hQ I2 J2 hf hs hw) 17 0 (xv_ui I 5 3 (-900009)) (by omega) (fun q hq => absurd hq (by omega)) xv_ui_s ⟨fun b g1 g2 => xv_ui_ne g2, fun j hj => xv_ui_o hj⟩

theorem s6_seekIfStale {l : Launch} {D : va_G} {d : Nat} {G : xv_Gr} {I : xv_I} {J : xv_J} {Q : xv_Po} (hG : xg_ok G) {hv : Nat → Nat} {bd : Nat} (hhv : ∀ i, i < 16 → J 166 i = lN (hv i)) (hbd : J 5 5 = lN bd) (hb4 : bd < 2 ^ 40) (hj16 : J 168 16 = 0) (hfw : I 5 2 = 0 → few (cv_ I J hv bd) bd I) (hQ : ∀ I2 J2, (∀ b, b ≠ 164 → b ≠ 5 → I2 b = I b) → (∀ j, j ≠ 3 → j ≠ 2 → I2 5 j = I 5 j) → I2 5 2 = 0 → (∀ b, b ≠ 167 → b ≠ 168 → J2 b = J b) → J2 168 16 = 0 → few (cv_ I J hv bd) bd I2 → Q none G I2 J2) : xv_Ev l D (d + 18) mX6_seekIfStale none 0 [some (.ref 5)] [] G I J 0 0 Q := by
  refine xv_aload_n dX6_seekIfStale_0 rfl rfl ?_
  refine xv_geti dX6_seekIfStale_1 fl_X6_18 (go_5 hG) rfl ?_
  refine xv_if_eq (tgt := 16) dX6_seekIfStale_4 rfl (fun c_4 => ?_) (fun c_4 => ?_)
  · refine xv_vret dX6_seekIfStale_16 rfl (Nat.zero_le _) (Nat.zero_le _) ?_
    exact hQ I J (fun _ _ _ => rfl) (fun _ _ _ => rfl) c_4 (fun _ _ _ => rfl) hj16 (hfw c_4)
  · refine xv_aload_n dX6_seekIfStale_7 rfl rfl ?_
    refine xv_callV0 (As := []) dX6_seekIfStale_8 cl_X6_56 rfl rfl rfl rfl (go_5 hG) rfl rfl (Nat.le_of_ble_eq_true rfl) (Nat.le_of_ble_eq_true rfl) (Nat.zero_le _) (Nat.zero_le _) ?_
    refine s6_seekFewest hG hhv hbd hb4 hj16 (fun I2 J2 hf hs hw => ?_)
    · refine xv_aload_n dX6_seekIfStale_11 rfl rfl ?_
      refine xv_iconst (v := 0) dX6_seekIfStale_12 rfl ?_
      refine xv_puti dX6_seekIfStale_13 fl_X6_18 (go_5 hG) rfl rfl rfl ?_
      refine xv_vret dX6_seekIfStale_16 rfl (Nat.zero_le _) (Nat.zero_le _) ?_
      refine hQ _ J2 (fun b g1 g2 => ?_) (fun j g1 g2 => ?_) xv_ui_s hs.1 hs.2.1 ?_
      · rw [xv_ui_ne g2]; exact hf.1 b g1 g2
      · rw [xv_ui_o g2]; exact hf.2 j g1
      · unfold few at hw ⊢; rw [xv_ui_o (by decide), xv_ui_ne (by decide)]; exact hw

theorem s10_causes {l : Launch} {D : va_G} {d : Nat} {G : xv_Gr} {I : xv_I} {J : xv_J} {Q : xv_Po} (hG : xg_ok G) {hv : Nat → Nat} {bd : Nat} (hhv : ∀ i, i < 16 → J 166 i = lN (hv i)) (hbd : J 5 5 = lN bd) (hb4 : bd < 2 ^ 40) (hj16 : J 168 16 = 0) (hfw : I 5 2 = 0 → few (cv_ I J hv bd) bd I) (hQ : ∀ I2 J2, (∀ b, b ≠ 164 → b ≠ 5 → I2 b = I b) → (∀ j, j ≠ 3 → j ≠ 2 → I2 5 j = I 5 j) → I2 5 2 = 0 → (∀ b, b ≠ 167 → b ≠ 168 → J2 b = J b) → J2 168 16 = 0 → few (cv_ I J hv bd) bd I2 → Q (some (.int (I2 5 3))) G I2 J2) : xv_Ev l D (d + 19) mX10_causes none 0 [some (.ref 0)] [] G I J 0 0 Q := by
  refine xv_aload_n dX10_causes_0 rfl rfl ?_
  refine xv_getr dX10_causes_1 fl_X10_40 (go_0 hG) rfl (gr_0_4 hG) ?_
  refine xv_callV0 (As := []) dX10_causes_4 cl_X10_214 rfl rfl rfl rfl (go_5 hG) rfl rfl (Nat.le_of_ble_eq_true rfl) (Nat.le_of_ble_eq_true rfl) (Nat.zero_le _) (Nat.zero_le _) ?_
  refine s6_seekIfStale hG hhv hbd hb4 hj16 hfw (fun I2 J2 g1 g2 g3 g4 g5 hw => ?_)
  · refine xv_aload_n dX10_causes_7 rfl rfl ?_
    refine xv_getr dX10_causes_8 fl_X10_40 (go_0 hG) rfl (gr_0_4 hG) ?_
    refine xv_geti dX10_causes_11 fl_X10_217 (go_5 hG) rfl ?_
    refine xv_iret dX10_causes_14 rfl (Nat.zero_le _) (Nat.zero_le _) ?_
    exact hQ I2 J2 g1 g2 g3 g4 g5 hw

theorem cb_sub : ∀ {n : Nat}, n ≤ 16 → (nI n - 1).toInt = (n : Int) - 1 := by
  have h : ∀ n : Nat, n < 17 → (nI n - 1).toInt = (n : Int) - 1 := by decide
  exact fun {n} hn => h n (by omega)
theorem s10_cause {l : Launch} {D : va_G} {d : Nat} {G : xv_Gr} {I : xv_I} {J : xv_J} {Q : xv_Po} (hG : xg_ok G) {hv : Nat → Nat} {bd : Nat} (hhv : ∀ i, i < 16 → J 166 i = lN (hv i)) (hbd : J 5 5 = lN bd) (hb4 : bd < 2 ^ 40) (hj16 : J 168 16 = 0) {x : Int32} (hfw : I 5 2 = 0 → few (cv_ I J hv bd) bd I) (hQ : ∀ I2 J2, (∀ b, b ≠ 164 → b ≠ 5 → I2 b = I b) → (∀ j, j ≠ 3 → j ≠ 2 → I2 5 j = I 5 j) → I2 5 2 = 0 → (∀ b, b ≠ 167 → b ≠ 168 → J2 b = J b) → J2 168 16 = 0 → few (cv_ I J hv bd) bd I2 → ((¬ (0 ≤ x ∧ x < I2 5 3)) → Q (some (.int (-900009))) G I2 J2) ∧ (∀ j, j < 16 → x = nI j → x < I2 5 3 → Q (some (.int (I2 164 j))) G I2 J2)) : xv_Ev l D (d + 19) mX10_cause none 0 [some (.ref 0), some (.int x)] [] G I J 0 0 Q := by
  refine xv_aload_n dX10_cause_0 rfl rfl ?_
  refine xv_getr dX10_cause_1 fl_X10_40 (go_0 hG) rfl (gr_0_4 hG) ?_
  refine xv_callV0 (As := []) dX10_cause_4 cl_X10_214 rfl rfl rfl rfl (go_5 hG) rfl rfl (Nat.le_of_ble_eq_true rfl) (Nat.le_of_ble_eq_true rfl) (Nat.zero_le _) (Nat.zero_le _) ?_
  refine s6_seekIfStale hG hhv hbd hb4 hj16 hfw (fun I2 J2 g1 g2 g3 g4 g5 hw => ?_)
  · have hbn : I2 5 3 = -900009 ∨ ∃ n, n ≤ 16 ∧ I2 5 3 = nI n := by
      rcases hw with z | ⟨n, w, q1, q2, q3, q4, q5⟩
      · exact Or.inl z.2
      · exact Or.inr ⟨n, q1, q4⟩
    have hq := hQ I2 J2 g1 g2 g3 g4 g5 hw
    have hsb : (I2 5 3 - 1).toInt = (I2 5 3).toInt - 1 ∧ (I2 5 3).toInt ≤ 16 := by
      rcases hbn with z | ⟨n, z1, z2⟩
      · rw [z]; decide
      · rw [z2, nI_toInt (by omega)]
        refine ⟨?_, by omega⟩
        exact cb_sub z1
    refine xv_iload_n dX10_cause_7 rfl rfl ?_
    refine xv_iconst (v := 0) dX10_cause_8 rfl ?_
    refine xv_aload_n dX10_cause_9 rfl rfl ?_
    refine xv_getr dX10_cause_10 fl_X10_40 (go_0 hG) rfl (gr_0_4 hG) ?_
    refine xv_geti dX10_cause_13 fl_X10_217 (go_5 hG) rfl ?_
    refine xv_iconst (v := 1) dX10_cause_16 rfl ?_
    refine xv_isub dX10_cause_17 ?_
    refine xv_callS0 (As := [_, _, _]) dX10_cause_18 cl_X10_51 rfl rfl rfl rfl (Nat.le_of_ble_eq_true rfl) (Nat.le_of_ble_eq_true rfl) (Nat.zero_le _) (Nat.zero_le _) ?_
    refine s10_isOutside ?_
    refine xv_if_eqD (tgt := 29) dX10_cause_21 rfl (fun c_21 => ?_) (fun c_21 => ?_)
    · have hr : 0 ≤ x ∧ x < I2 5 3 := by
        have e := hsb.1
        simp only [xn_lt, xn_le, Int32.reduceToInt] at *
        omega
      obtain ⟨j, hj, rfl⟩ : ∃ j : Nat, j < 16 ∧ x = nI j := xn_nat (n := 16) (by have h := hr.1; simp only [xn_lt, xn_le, Int32.reduceToInt] at h; omega) (by have h := hr.2; have h2 := hsb.2; simp only [xn_lt, xn_le] at h; omega) (by omega)
      refine xv_aload_n dX10_cause_29 rfl rfl ?_
      refine xv_getr dX10_cause_30 fl_X10_40 (go_0 hG) rfl (gr_0_4 hG) ?_
      refine xv_getr dX10_cause_33 fl_X10_218 (go_5 hG) rfl (gr_5_4 hG) ?_
      refine xv_iload_n dX10_cause_36 rfl rfl ?_
      refine xv_iaload dX10_cause_37 (go_164 hG) (xv_ixn (by omega) (by decide)) ?_
      refine xv_iret dX10_cause_38 rfl (Nat.zero_le _) (Nat.zero_le _) ?_
      exact hq.2 j hj rfl hr.2
    · refine xv_ldc dX10_cause_24 ld_X10_101 ?_
      refine xv_goto (tgt := 38) dX10_cause_26 rfl ?_
      refine xv_iret dX10_cause_38 rfl (Nat.zero_le _) (Nat.zero_le _) ?_
      refine hq.1 ?_
      have e := hsb.1
      simp only [xn_lt, xn_le, Int32.reduceToInt] at *
      omega
