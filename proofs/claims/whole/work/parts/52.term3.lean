/-! the verdict: each depth of brackets a bit -/
def vd_J (J : xv_J) (s : Nat × Nat × Nat × Nat) : xv_J := xv_uj (xv_uj (xv_uj J 176 0 (lN s.1)) 176 1 (lN s.2.1)) 176 2 (lN s.2.2.1)
def vd_I (I : xv_I) (s : Nat × Nat × Nat × Nat) : xv_I := xv_ui I 176 3 (nI s.2.2.2)
theorem vd_J0 {J : xv_J} {A L N d A2 : Nat} : xv_uj (vd_J J (A, L, N, d)) 176 0 (lN A2) = vd_J J (A2, L, N, d) := by
  funext b j
  simp only [vd_J, xv_uj_ap]
  grind
theorem vd_J1 {J : xv_J} {A L N d L2 : Nat} : xv_uj (vd_J J (A, L, N, d)) 176 1 (lN L2) = vd_J J (A, L2, N, d) := by
  funext b j
  simp only [vd_J, xv_uj_ap]
  grind
theorem vd_J2 {J : xv_J} {A L N d N2 : Nat} : xv_uj (vd_J J (A, L, N, d)) 176 2 (lN N2) = vd_J J (A, L, N2, d) := by
  funext b j
  simp only [vd_J, xv_uj_ap]
  grind
theorem vd_I3 {I : xv_I} {s : Nat × Nat × Nat × Nat} {A L N d2 : Nat} : xv_ui (vd_I I s) 176 3 (nI d2) = vd_I I (A, L, N, d2) := xv_ui_u _ _ _ _ _
def vd_neg (s : Nat × Nat × Nat × Nat) : Nat × Nat × Nat × Nat := (s.1, s.2.1, s.2.2.1 ^^^ 2 ^ s.2.2.2, s.2.2.2)
def vd_all (s : Nat × Nat × Nat × Nat) : Nat × Nat × Nat × Nat := (s.1 ||| (s.2.1 &&& 2 ^ s.2.2.2), s.2.1 ||| 2 ^ s.2.2.2, s.2.2.1, s.2.2.2)
def vd_ent (s : Nat × Nat × Nat × Nat) : Nat × Nat × Nat × Nat := (xdf s.1 (2 ^ (s.2.2.2 + 1)), s.2.1 ||| 2 ^ (s.2.2.2 + 1), s.2.2.1, s.2.2.2 + 1)
def vd_is (s : Nat × Nat × Nat × Nat) : Prop := (s.1 ||| s.2.1).testBit s.2.2.2 = true
noncomputable def vd_tak (v : Prop) (s : Nat × Nat × Nat × Nat) : Nat × Nat × Nat × Nat := (s.1, @ite Nat (v ↔ s.2.2.1.testBit s.2.2.2 = true) (Classical.propDecidable _) (xdf s.2.1 (2 ^ s.2.2.2)) s.2.1, xdf s.2.2.1 (2 ^ s.2.2.2), s.2.2.2)
noncomputable def vd_lea (s : Nat × Nat × Nat × Nat) : Nat × Nat × Nat × Nat := vd_tak (vd_is s) (s.1, s.2.1, s.2.2.1, s.2.2.2 - 1)
def vd_ok (s : Nat × Nat × Nat × Nat) : Prop := s.1 < 2 ^ 62 ∧ s.2.1 < 2 ^ 62 ∧ s.2.2.1 < 2 ^ 62 ∧ s.2.2.2 < 62
theorem s9_begin {l : Launch} {D : va_G} {d : Nat} {G : xv_Gr} {I : xv_I} {J : xv_J} {Q : xv_Po} (hG : xg_ok G) (hQ : Q none G (vd_I I (0, 1, 0, 0)) (vd_J J (0, 1, 0, 0))) : xv_Ev l D d mX9_begin none 0 [some (.ref 176)] [] G I J 0 0 Q := by
  refine xv_aload_n dX9_begin_0 rfl rfl ?_
  refine xv_lconst (v := 0) dX9_begin_1 rfl ?_
  refine xv_putj dX9_begin_2 fl_X9_7 (go_176 hG) rfl ?_
  refine xv_aload_n dX9_begin_5 rfl rfl ?_
  refine xv_lconst (v := 1) dX9_begin_6 rfl ?_
  refine xv_putj dX9_begin_7 fl_X9_13 (go_176 hG) rfl ?_
  refine xv_aload_n dX9_begin_10 rfl rfl ?_
  refine xv_lconst (v := 0) dX9_begin_11 rfl ?_
  refine xv_putj dX9_begin_12 fl_X9_16 (go_176 hG) rfl ?_
  refine xv_aload_n dX9_begin_15 rfl rfl ?_
  refine xv_iconst (v := 0) dX9_begin_16 rfl ?_
  refine xv_puti dX9_begin_17 fl_X9_19 (go_176 hG) rfl rfl rfl ?_
  refine xv_vret dX9_begin_20 rfl (Nat.zero_le _) (Nat.zero_le _) ?_
  exact hQ

theorem s9_negate {l : Launch} {D : va_G} {d : Nat} {G : xv_Gr} {I : xv_I} {J : xv_J} {Q : xv_Po} (hG : xg_ok G) {A L N dp : Nat} (ho : vd_ok (A, L, N, dp))  (hQ : Q none G (vd_I I (vd_neg (A, L, N, dp))) (vd_J J (vd_neg (A, L, N, dp)))) : xv_Ev l D d mX9_negate none 0 [some (.ref 176)] [] G (vd_I I (A, L, N, dp)) (vd_J J (A, L, N, dp)) 0 0 Q := by
  refine xv_aload_n dX9_negate_0 rfl rfl ?_
  refine xv_dup dX9_negate_1 rfl ?_
  refine xv_getj dX9_negate_2 fl_X9_16 (go_176 hG) rfl ?_
  refine xv_nmJ (y := lN N) rfl ?_
  refine xv_lconst (v := 1) dX9_negate_5 rfl ?_
  refine xv_aload_n dX9_negate_6 rfl rfl ?_
  refine xv_geti dX9_negate_7 fl_X9_19 (go_176 hG) rfl ?_
  refine xv_nmI (y := nI dp) rfl ?_
  refine xv_lshl dX9_negate_10 ?_
  refine xv_nmJ (xl_one (by have := ho.2.2.2; simp only at this; omega)) ?_
  refine xv_lxor dX9_negate_11 ?_
  refine xv_nmJ (xl_xor _ _) ?_
  refine xv_putj dX9_negate_12 fl_X9_16 (go_176 hG) rfl ?_
  refine xv_nmK vd_J2 ?_
  refine xv_vret dX9_negate_15 rfl (Nat.zero_le _) (Nat.zero_le _) ?_
  exact hQ

theorem s9_beginAll {l : Launch} {D : va_G} {d : Nat} {G : xv_Gr} {I : xv_I} {J : xv_J} {Q : xv_Po} (hG : xg_ok G) {A L N dp : Nat} (ho : vd_ok (A, L, N, dp))  (hQ : Q none G (vd_I I (vd_all (A, L, N, dp))) (vd_J J (vd_all (A, L, N, dp)))) : xv_Ev l D d mX9_beginAll none 0 [some (.ref 176)] [] G (vd_I I (A, L, N, dp)) (vd_J J (A, L, N, dp)) 0 0 Q := by
  refine xv_aload_n dX9_beginAll_0 rfl rfl ?_
  refine xv_dup dX9_beginAll_1 rfl ?_
  refine xv_getj dX9_beginAll_2 fl_X9_7 (go_176 hG) rfl ?_
  refine xv_nmJ (y := lN A) rfl ?_
  refine xv_aload_n dX9_beginAll_5 rfl rfl ?_
  refine xv_getj dX9_beginAll_6 fl_X9_13 (go_176 hG) rfl ?_
  refine xv_nmJ (y := lN L) rfl ?_
  refine xv_lconst (v := 1) dX9_beginAll_9 rfl ?_
  refine xv_aload_n dX9_beginAll_10 rfl rfl ?_
  refine xv_geti dX9_beginAll_11 fl_X9_19 (go_176 hG) rfl ?_
  refine xv_nmI (y := nI dp) rfl ?_
  refine xv_lshl dX9_beginAll_14 ?_
  refine xv_nmJ (xl_one (by have := ho.2.2.2; simp only at this; omega)) ?_
  refine xv_land dX9_beginAll_15 ?_
  refine xv_nmJ (xl_and _ _) ?_
  refine xv_lor dX9_beginAll_16 ?_
  refine xv_nmJ (xl_or _ _) ?_
  refine xv_putj dX9_beginAll_17 fl_X9_7 (go_176 hG) rfl ?_
  refine xv_nmK vd_J0 ?_
  refine xv_aload_n dX9_beginAll_20 rfl rfl ?_
  refine xv_dup dX9_beginAll_21 rfl ?_
  refine xv_getj dX9_beginAll_22 fl_X9_13 (go_176 hG) rfl ?_
  refine xv_nmJ (y := lN L) rfl ?_
  refine xv_lconst (v := 1) dX9_beginAll_25 rfl ?_
  refine xv_aload_n dX9_beginAll_26 rfl rfl ?_
  refine xv_geti dX9_beginAll_27 fl_X9_19 (go_176 hG) rfl ?_
  refine xv_nmI (y := nI dp) rfl ?_
  refine xv_lshl dX9_beginAll_30 ?_
  refine xv_nmJ (xl_one (by have := ho.2.2.2; simp only at this; omega)) ?_
  refine xv_lor dX9_beginAll_31 ?_
  refine xv_nmJ (xl_or _ _) ?_
  refine xv_putj dX9_beginAll_32 fl_X9_13 (go_176 hG) rfl ?_
  refine xv_nmK vd_J1 ?_
  refine xv_vret dX9_beginAll_35 rfl (Nat.zero_le _) (Nat.zero_le _) ?_
  exact hQ

theorem s9_enter {l : Launch} {D : va_G} {d : Nat} {G : xv_Gr} {I : xv_I} {J : xv_J} {Q : xv_Po} (hG : xg_ok G) {A L N dp : Nat} (ho : vd_ok (A, L, N, dp))  (hQ : Q none G (vd_I I (vd_ent (A, L, N, dp))) (vd_J J (vd_ent (A, L, N, dp)))) : xv_Ev l D d mX9_enter none 0 [some (.ref 176)] [] G (vd_I I (A, L, N, dp)) (vd_J J (A, L, N, dp)) 0 0 Q := by
  refine xv_aload_n dX9_enter_0 rfl rfl ?_
  refine xv_dup dX9_enter_1 rfl ?_
  refine xv_geti dX9_enter_2 fl_X9_19 (go_176 hG) rfl ?_
  refine xv_nmI (y := nI dp) rfl ?_
  refine xv_iconst (v := 1) dX9_enter_5 rfl ?_
  refine xv_iadd dX9_enter_6 ?_
  refine xv_nmI (nI_1 dp) ?_
  refine xv_puti dX9_enter_7 fl_X9_19 (go_176 hG) rfl rfl rfl ?_
  refine xv_nmM (vd_I3 (A := A) (L := L) (N := N)) ?_
  refine xv_aload_n dX9_enter_10 rfl rfl ?_
  refine xv_dup dX9_enter_11 rfl ?_
  refine xv_getj dX9_enter_12 fl_X9_7 (go_176 hG) rfl ?_
  refine xv_nmJ (y := lN A) rfl ?_
  refine xv_lconst (v := 1) dX9_enter_15 rfl ?_
  refine xv_aload_n dX9_enter_16 rfl rfl ?_
  refine xv_geti dX9_enter_17 fl_X9_19 (go_176 hG) rfl ?_
  refine xv_nmI (y := nI (dp + 1)) rfl ?_
  refine xv_lshl dX9_enter_20 ?_
  refine xv_nmJ (xl_one (by have := ho.2.2.2; simp only at this; omega)) ?_
  refine xv_ldc2 dX9_enter_21 ld_X9_23 ?_
  refine xv_lxor dX9_enter_24 ?_
  refine xv_land dX9_enter_25 ?_
  refine xv_nmJ (xl_andn _ _) ?_
  refine xv_putj dX9_enter_26 fl_X9_7 (go_176 hG) rfl ?_
  refine xv_nmK vd_J0 ?_
  refine xv_aload_n dX9_enter_29 rfl rfl ?_
  refine xv_dup dX9_enter_30 rfl ?_
  refine xv_getj dX9_enter_31 fl_X9_13 (go_176 hG) rfl ?_
  refine xv_nmJ (y := lN L) rfl ?_
  refine xv_lconst (v := 1) dX9_enter_34 rfl ?_
  refine xv_aload_n dX9_enter_35 rfl rfl ?_
  refine xv_geti dX9_enter_36 fl_X9_19 (go_176 hG) rfl ?_
  refine xv_nmI (y := nI (dp + 1)) rfl ?_
  refine xv_lshl dX9_enter_39 ?_
  refine xv_nmJ (xl_one (by have := ho.2.2.2; simp only at this; omega)) ?_
  refine xv_lor dX9_enter_40 ?_
  refine xv_nmJ (xl_or _ _) ?_
  refine xv_putj dX9_enter_41 fl_X9_13 (go_176 hG) rfl ?_
  refine xv_nmK vd_J1 ?_
  refine xv_vret dX9_enter_44 rfl (Nat.zero_le _) (Nat.zero_le _) ?_
  exact hQ

theorem s9_isTrue {l : Launch} {D : va_G} {d : Nat} {G : xv_Gr} {I : xv_I} {J : xv_J} {Q : xv_Po} (hG : xg_ok G) {A L N dp : Nat} (ho : vd_ok (A, L, N, dp)) (hQ : Q (some (.int (xbp (vd_is (A, L, N, dp))))) G (vd_I I (A, L, N, dp)) (vd_J J (A, L, N, dp))) : xv_Ev l D d mX9_isTrue none 0 [some (.ref 176)] [] G (vd_I I (A, L, N, dp)) (vd_J J (A, L, N, dp)) 0 0 Q := by
  refine xv_aload_n dX9_isTrue_0 rfl rfl ?_
  refine xv_getj dX9_isTrue_1 fl_X9_7 (go_176 hG) rfl ?_
  refine xv_nmJ (y := lN A) rfl ?_
  refine xv_aload_n dX9_isTrue_4 rfl rfl ?_
  refine xv_getj dX9_isTrue_5 fl_X9_13 (go_176 hG) rfl ?_
  refine xv_nmJ (y := lN L) rfl ?_
  refine xv_lor dX9_isTrue_8 ?_
  refine xv_nmJ (xl_or _ _) ?_
  refine xv_aload_n dX9_isTrue_9 rfl rfl ?_
  refine xv_geti dX9_isTrue_10 fl_X9_19 (go_176 hG) rfl ?_
  refine xv_nmI (y := nI dp) rfl ?_
  refine xv_lshr dX9_isTrue_13 ?_
  refine xv_lconst (v := 1) dX9_isTrue_14 rfl ?_
  refine xv_land dX9_isTrue_15 ?_
  refine xv_nmJ (xl_bit (xor_lt ho.1 ho.2.1) (by have := ho.2.2.2; simp only at this; omega)) ?_
  refine xv_lconst (v := 0) dX9_isTrue_16 rfl ?_
  refine xv_lcmp dX9_isTrue_17 ?_
  refine xv_if_eq (tgt := 25) dX9_isTrue_18 rfl (fun c_18 => ?_) (fun c_18 => ?_)
  · refine xv_iconst (v := 0) dX9_isTrue_25 rfl ?_
    refine xv_zret dX9_isTrue_26 rfl rfl (Nat.zero_le _) (Nat.zero_le _) ?_
    exact xqp_F (Q := fun v => Q (some v) G (vd_I I (A, L, N, dp)) (vd_J J (A, L, N, dp))) hQ (by
      have h := (xl_0 (by omega)).mp ((xn_cmp_eq _ _).mp c_18)
      unfold vd_is
      rw [(xt_iff0 _ _).mp h]
      exact Bool.false_ne_true)
  · refine xv_iconst (v := 1) dX9_isTrue_21 rfl ?_
    refine xv_goto (tgt := 26) dX9_isTrue_22 rfl ?_
    refine xv_zret dX9_isTrue_26 rfl rfl (Nat.zero_le _) (Nat.zero_le _) ?_
    exact xqp_T (Q := fun v => Q (some v) G (vd_I I (A, L, N, dp)) (vd_J J (A, L, N, dp))) hQ (by
      have h : ¬ (A ||| L) / 2 ^ dp % 2 = 0 := fun e => c_18 ((xn_cmp_eq _ _).mpr (by rw [e]; rfl))
      exact (xt_iff (A ||| L) dp).mp (by omega))

theorem s9_take {l : Launch} {D : va_G} {d : Nat} {G : xv_Gr} {I : xv_I} {J : xv_J} {Q : xv_Po} (hG : xg_ok G) {A L N dp : Nat} (ho : vd_ok (A, L, N, dp)) {v : Prop} (hQ : Q none G (vd_I I (vd_tak v (A, L, N, dp))) (vd_J J (vd_tak v (A, L, N, dp)))) : xv_Ev l D d mX9_take none 0 [some (.ref 176), some (.int (xbp v)), none] [] G (vd_I I (A, L, N, dp)) (vd_J J (A, L, N, dp)) 0 0 Q := by
  refine xv_aload_n dX9_take_0 rfl rfl ?_
  refine xv_getj dX9_take_1 fl_X9_16 (go_176 hG) rfl ?_
  refine xv_nmJ (y := lN N) rfl ?_
  refine xv_aload_n dX9_take_4 rfl rfl ?_
  refine xv_geti dX9_take_5 fl_X9_19 (go_176 hG) rfl ?_
  refine xv_nmI (y := nI dp) rfl ?_
  refine xv_lshr dX9_take_8 ?_
  refine xv_lconst (v := 1) dX9_take_9 rfl ?_
  refine xv_land dX9_take_10 ?_
  refine xv_nmJ (xl_bit ho.2.2.1 (by have := ho.2.2.2; simp only at this; omega)) ?_
  refine xv_lconst (v := 0) dX9_take_11 rfl ?_
  refine xv_lcmp dX9_take_12 ?_
  refine xv_if_eq (tgt := 20) dX9_take_13 rfl (fun c_13 => ?_) (fun c_13 => ?_)
  · refine xv_iconst (v := 0) dX9_take_20 rfl ?_
    refine xv_istore_n dX9_take_21 rfl (Nat.le_of_ble_eq_true rfl) rfl ?_
    refine xv_iload_n dX9_take_22 rfl rfl ?_
    refine xv_iload_n dX9_take_23 rfl rfl ?_
    refine xv_icmp_ne (tgt := 46) dX9_take_24 rfl (fun c_24 => ?_) (fun c_24 => ?_)
    · refine xv_aload_n dX9_take_46 rfl rfl ?_
      refine xv_dup dX9_take_47 rfl ?_
      refine xv_getj dX9_take_48 fl_X9_16 (go_176 hG) rfl ?_
      refine xv_nmJ (y := lN N) rfl ?_
      refine xv_lconst (v := 1) dX9_take_51 rfl ?_
      refine xv_aload_n dX9_take_52 rfl rfl ?_
      refine xv_geti dX9_take_53 fl_X9_19 (go_176 hG) rfl ?_
      refine xv_nmI (y := nI dp) rfl ?_
      refine xv_lshl dX9_take_56 ?_
      refine xv_nmJ (xl_one (by have := ho.2.2.2; simp only at this; omega)) ?_
      refine xv_ldc2 dX9_take_57 ld_X9_23 ?_
      refine xv_lxor dX9_take_60 ?_
      refine xv_land dX9_take_61 ?_
      refine xv_nmJ (xl_andn _ _) ?_
      refine xv_putj dX9_take_62 fl_X9_16 (go_176 hG) rfl ?_
      refine xv_nmK vd_J2 ?_
      refine xv_vret dX9_take_65 rfl (Nat.zero_le _) (Nat.zero_le _) ?_
      have hN : ¬ N.testBit dp = true := by
        have h := (xl_0 (by omega)).mp ((xn_cmp_eq _ _).mp c_13)
        rw [(xt_iff0 _ _).mp h]
        exact Bool.false_ne_true
      have q : v := Classical.byContradiction (fun n => c_24 (xbp_F n))
      have hv : ¬ (v ↔ N.testBit dp = true) := fun e => hN (e.mp q)
      simp only [vd_tak, if_neg hv] at hQ
      exact hQ
    · refine xv_aload_n dX9_take_27 rfl rfl ?_
      refine xv_dup dX9_take_28 rfl ?_
      refine xv_getj dX9_take_29 fl_X9_13 (go_176 hG) rfl ?_
      refine xv_nmJ (y := lN L) rfl ?_
      refine xv_lconst (v := 1) dX9_take_32 rfl ?_
      refine xv_aload_n dX9_take_33 rfl rfl ?_
      refine xv_geti dX9_take_34 fl_X9_19 (go_176 hG) rfl ?_
      refine xv_nmI (y := nI dp) rfl ?_
      refine xv_lshl dX9_take_37 ?_
      refine xv_nmJ (xl_one (by have := ho.2.2.2; simp only at this; omega)) ?_
      refine xv_ldc2 dX9_take_38 ld_X9_23 ?_
      refine xv_lxor dX9_take_41 ?_
      refine xv_land dX9_take_42 ?_
      refine xv_nmJ (xl_andn _ _) ?_
      refine xv_putj dX9_take_43 fl_X9_13 (go_176 hG) rfl ?_
      refine xv_nmK vd_J1 ?_
      refine xv_aload_n dX9_take_46 rfl rfl ?_
      refine xv_dup dX9_take_47 rfl ?_
      refine xv_getj dX9_take_48 fl_X9_16 (go_176 hG) rfl ?_
      refine xv_nmJ (y := lN N) rfl ?_
      refine xv_lconst (v := 1) dX9_take_51 rfl ?_
      refine xv_aload_n dX9_take_52 rfl rfl ?_
      refine xv_geti dX9_take_53 fl_X9_19 (go_176 hG) rfl ?_
      refine xv_nmI (y := nI dp) rfl ?_
      refine xv_lshl dX9_take_56 ?_
      refine xv_nmJ (xl_one (by have := ho.2.2.2; simp only at this; omega)) ?_
      refine xv_ldc2 dX9_take_57 ld_X9_23 ?_
      refine xv_lxor dX9_take_60 ?_
      refine xv_land dX9_take_61 ?_
      refine xv_nmJ (xl_andn _ _) ?_
      refine xv_putj dX9_take_62 fl_X9_16 (go_176 hG) rfl ?_
      refine xv_nmK vd_J2 ?_
      refine xv_vret dX9_take_65 rfl (Nat.zero_le _) (Nat.zero_le _) ?_
      have hN : ¬ N.testBit dp = true := by
        have h := (xl_0 (by omega)).mp ((xn_cmp_eq _ _).mp c_13)
        rw [(xt_iff0 _ _).mp h]
        exact Bool.false_ne_true
      have q : ¬ v := xbp_0.mp c_24
      have hv : (v ↔ N.testBit dp = true) := ⟨fun x => absurd x q, fun x => absurd x hN⟩
      simp only [vd_tak, if_pos hv] at hQ
      exact hQ
  · refine xv_iconst (v := 1) dX9_take_16 rfl ?_
    refine xv_goto (tgt := 21) dX9_take_17 rfl ?_
    refine xv_istore_n dX9_take_21 rfl (Nat.le_of_ble_eq_true rfl) rfl ?_
    refine xv_iload_n dX9_take_22 rfl rfl ?_
    refine xv_iload_n dX9_take_23 rfl rfl ?_
    refine xv_icmp_ne (tgt := 46) dX9_take_24 rfl (fun c_24 => ?_) (fun c_24 => ?_)
    · refine xv_aload_n dX9_take_46 rfl rfl ?_
      refine xv_dup dX9_take_47 rfl ?_
      refine xv_getj dX9_take_48 fl_X9_16 (go_176 hG) rfl ?_
      refine xv_nmJ (y := lN N) rfl ?_
      refine xv_lconst (v := 1) dX9_take_51 rfl ?_
      refine xv_aload_n dX9_take_52 rfl rfl ?_
      refine xv_geti dX9_take_53 fl_X9_19 (go_176 hG) rfl ?_
      refine xv_nmI (y := nI dp) rfl ?_
      refine xv_lshl dX9_take_56 ?_
      refine xv_nmJ (xl_one (by have := ho.2.2.2; simp only at this; omega)) ?_
      refine xv_ldc2 dX9_take_57 ld_X9_23 ?_
      refine xv_lxor dX9_take_60 ?_
      refine xv_land dX9_take_61 ?_
      refine xv_nmJ (xl_andn _ _) ?_
      refine xv_putj dX9_take_62 fl_X9_16 (go_176 hG) rfl ?_
      refine xv_nmK vd_J2 ?_
      refine xv_vret dX9_take_65 rfl (Nat.zero_le _) (Nat.zero_le _) ?_
      have hN : N.testBit dp = true := (xt_iff _ _).mp (by have h : ¬ N / 2 ^ dp % 2 = 0 := fun e => c_13 ((xn_cmp_eq _ _).mpr (by rw [e]; rfl)); omega)
      have q : ¬ v := fun n => c_24 (xbp_T n)
      have hv : ¬ (v ↔ N.testBit dp = true) := fun e => q (e.mpr hN)
      simp only [vd_tak, if_neg hv] at hQ
      exact hQ
    · refine xv_aload_n dX9_take_27 rfl rfl ?_
      refine xv_dup dX9_take_28 rfl ?_
      refine xv_getj dX9_take_29 fl_X9_13 (go_176 hG) rfl ?_
      refine xv_nmJ (y := lN L) rfl ?_
      refine xv_lconst (v := 1) dX9_take_32 rfl ?_
      refine xv_aload_n dX9_take_33 rfl rfl ?_
      refine xv_geti dX9_take_34 fl_X9_19 (go_176 hG) rfl ?_
      refine xv_nmI (y := nI dp) rfl ?_
      refine xv_lshl dX9_take_37 ?_
      refine xv_nmJ (xl_one (by have := ho.2.2.2; simp only at this; omega)) ?_
      refine xv_ldc2 dX9_take_38 ld_X9_23 ?_
      refine xv_lxor dX9_take_41 ?_
      refine xv_land dX9_take_42 ?_
      refine xv_nmJ (xl_andn _ _) ?_
      refine xv_putj dX9_take_43 fl_X9_13 (go_176 hG) rfl ?_
      refine xv_nmK vd_J1 ?_
      refine xv_aload_n dX9_take_46 rfl rfl ?_
      refine xv_dup dX9_take_47 rfl ?_
      refine xv_getj dX9_take_48 fl_X9_16 (go_176 hG) rfl ?_
      refine xv_nmJ (y := lN N) rfl ?_
      refine xv_lconst (v := 1) dX9_take_51 rfl ?_
      refine xv_aload_n dX9_take_52 rfl rfl ?_
      refine xv_geti dX9_take_53 fl_X9_19 (go_176 hG) rfl ?_
      refine xv_nmI (y := nI dp) rfl ?_
      refine xv_lshl dX9_take_56 ?_
      refine xv_nmJ (xl_one (by have := ho.2.2.2; simp only at this; omega)) ?_
      refine xv_ldc2 dX9_take_57 ld_X9_23 ?_
      refine xv_lxor dX9_take_60 ?_
      refine xv_land dX9_take_61 ?_
      refine xv_nmJ (xl_andn _ _) ?_
      refine xv_putj dX9_take_62 fl_X9_16 (go_176 hG) rfl ?_
      refine xv_nmK vd_J2 ?_
      refine xv_vret dX9_take_65 rfl (Nat.zero_le _) (Nat.zero_le _) ?_
      have hN : N.testBit dp = true := (xt_iff _ _).mp (by have h : ¬ N / 2 ^ dp % 2 = 0 := fun e => c_13 ((xn_cmp_eq _ _).mpr (by rw [e]; rfl)); omega)
      have q : v := Classical.byContradiction (fun n => absurd ((xbp_F n).symm.trans c_24) (by decide))
      have hv : (v ↔ N.testBit dp = true) := ⟨fun _ => hN, fun _ => q⟩
      simp only [vd_tak, if_pos hv] at hQ
      exact hQ

theorem s9_leave {l : Launch} {D : va_G} {d : Nat} {G : xv_Gr} {I : xv_I} {J : xv_J} {Q : xv_Po} (hG : xg_ok G) {A L N dp : Nat} (ho : vd_ok (A, L, N, dp)) (hdp : 0 < dp) (hQ : Q none G (vd_I I (vd_lea (A, L, N, dp))) (vd_J J (vd_lea (A, L, N, dp)))) : xv_Ev l D (d + 1) mX9_leave none 0 [some (.ref 176), none] [] G (vd_I I (A, L, N, dp)) (vd_J J (A, L, N, dp)) 0 0 Q := by
  refine xv_aload_n dX9_leave_0 rfl rfl ?_
  refine xv_callV0 (As := []) dX9_leave_1 cl_X9_25 rfl rfl rfl rfl (go_176 hG) rfl rfl (Nat.le_of_ble_eq_true rfl) (Nat.le_of_ble_eq_true rfl) (Nat.zero_le _) (Nat.zero_le _) ?_
  refine s9_isTrue hG ho ?_
  refine xv_istore_n dX9_leave_4 rfl (Nat.le_of_ble_eq_true rfl) rfl ?_
  refine xv_aload_n dX9_leave_5 rfl rfl ?_
  refine xv_dup dX9_leave_6 rfl ?_
  refine xv_geti dX9_leave_7 fl_X9_19 (go_176 hG) rfl ?_
  refine xv_nmI (y := nI dp) rfl ?_
  refine xv_iconst (v := nI 1) dX9_leave_10 rfl ?_
  refine xv_isub dX9_leave_11 ?_
  refine xv_nmI (pk_sub (by omega)) ?_
  refine xv_puti dX9_leave_12 fl_X9_19 (go_176 hG) rfl rfl rfl ?_
  refine xv_nmM (vd_I3 (A := A) (L := L) (N := N)) ?_
  refine xv_nmK (J2 := vd_J J (A, L, N, dp - 1)) rfl ?_
  refine xv_aload_n dX9_leave_15 rfl rfl ?_
  refine xv_iload_n dX9_leave_16 rfl rfl ?_
  refine xv_callV0 (As := [_]) dX9_leave_17 cl_X9_29 rfl rfl rfl rfl (go_176 hG) rfl rfl (Nat.le_of_ble_eq_true rfl) (Nat.le_of_ble_eq_true rfl) (Nat.zero_le _) (Nat.zero_le _) ?_
  refine s9_take hG (v := vd_is (A, L, N, dp)) (A := A) (L := L) (N := N) (dp := dp - 1) ⟨ho.1, ho.2.1, ho.2.2.1, (by have := ho.2.2.2; simp only at this ⊢; omega)⟩ ?_
  refine xv_vret dX9_leave_20 rfl (Nat.zero_le _) (Nat.zero_le _) ?_
  exact hQ
