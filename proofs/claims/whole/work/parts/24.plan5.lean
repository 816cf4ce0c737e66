/-! plans: the model s stretch; public methods -/
def pm_plf (I : xv_I) (n b : Int32) (p : Nat) : Int32 := pl_thn (I 52) (I 53) p 0 n b
def pm_psz (I : xv_I) (n b : Int32) (p : Nat) : Int32 := pl_thn (I 52) (I 53) p 1 n b - pl_thn (I 52) (I 53) p 0 n b
noncomputable def pm_psp (I : xv_I) (n b : Int32) : Int32 := I 40 0 + @ite Int32 (n ≤ I 40 0) (Classical.propDecidable _) b 0
theorem pm_pR {I : xv_I} {nn b : Int32} {i : Nat} (e : Int32) : pl_thn ((xfl (xfl I 52 (pm_plf I nn b) i) 53 (pm_psz I nn b) i) 52) ((xfl (xfl I 52 (pm_plf I nn b) i) 53 (pm_psz I nn b) i) 53) i e nn b = pl_thn (I 52) (I 53) i e nn b := by
  have h1 : (xfl (xfl I 52 (pm_plf I nn b) i) 53 (pm_psz I nn b) i) 52 i = I 52 i := by simp [xfl]
  have h2 : (xfl (xfl I 52 (pm_plf I nn b) i) 53 (pm_psz I nn b) i) 53 i = I 53 i := by simp [xfl]
  simp only [pl_thn, pl_end, h1, h2]
theorem pm_pA {I : xv_I} {nn b v w : Int32} {i : Nat} (hv : v = pm_plf I nn b i) (hw : w = pm_psz I nn b i) : xv_ui (xv_ui (xfl (xfl I 52 (pm_plf I nn b) i) 53 (pm_psz I nn b) i) 52 i v) 53 i w = (xfl (xfl I 52 (pm_plf I nn b) (i + 1)) 53 (pm_psz I nn b) (i + 1)) := by
  funext a k
  simp only [xv_ui_ap, xfl]
  grind
theorem s11_str_l {l : Launch} {D : va_G} {d : Nat} {G : xv_Gr} {I : xv_I} {J : xv_J} {Q : xv_Po} (hG : xg_ok G) {np : Nat} (hn : I 40 1 = nI np) (hnp : np ≤ 12) {nn b : Int32} (hQ : Q (some (.int (nI (xcn (fun p => I 53 p < pm_psz I nn b p) np)))) G (xv_ui (xfl (xfl I 52 (pm_plf I nn b) np) 53 (pm_psz I nn b) np) 40 0 (pm_psp I nn b)) J) : ∀ (n i : Nat), i + n = np → xv_Ev l D (d + 3) mX11_stretch none 28 [some (.ref 40), some (.int nn), some (.int b), some (.int (nI (xcn (fun p => I 53 p < pm_psz I nn b p) i))), some (.int (nI i)), none, none] [] G (xfl (xfl I 52 (pm_plf I nn b) i) 53 (pm_psz I nn b) i) J 0 0 Q := by
  intro n
  induction n with
  | zero =>
    intro i hi
    refine xv_iload dX11_stretch_28 rfl ?_
    refine xv_aload_n dX11_stretch_30 rfl rfl ?_
    refine xv_geti dX11_stretch_31 fl_X11_135 (go_40 hG) rfl ?_
    refine xv_nmI (show (xfl (xfl I 52 (pm_plf I nn b) i) 53 (pm_psz I nn b) i) 40 1 = nI np from hn) ?_
    refine xv_icmp_geN (tgt := 109) dX11_stretch_34 rfl (by omega) (by omega) (fun c_34 => ?_) (fun c_34 => absurd c_34 (by omega))
    have e : np = i := by omega
    subst e
    refine xv_aload_n dX11_stretch_109 rfl rfl ?_
    refine xv_dup dX11_stretch_110 rfl ?_
    refine xv_geti dX11_stretch_111 fl_X11_7 (go_40 hG) rfl ?_
    refine xv_iload_n dX11_stretch_114 rfl rfl ?_
    refine xv_aload_n dX11_stretch_115 rfl rfl ?_
    refine xv_geti dX11_stretch_116 fl_X11_7 (go_40 hG) rfl ?_
    refine xv_icmp_gt (tgt := 126) dX11_stretch_119 rfl (fun c_119 => ?_) (fun c_119 => ?_)
    · refine xv_iconst (v := 0) dX11_stretch_126 rfl ?_
      refine xv_iadd dX11_stretch_127 ?_
      refine xv_puti dX11_stretch_128 fl_X11_7 (go_40 hG) rfl rfl rfl ?_
      refine xv_iload_n dX11_stretch_131 rfl rfl ?_
      refine xv_iret dX11_stretch_132 rfl (Nat.zero_le _) (Nat.zero_le _) ?_
      have e2 : pm_psp I nn b = I 40 0 + 0 := by rw [pm_psp, if_neg (by simp only [xn_lt, xn_le] at *; exact Int.not_le.mpr c_119)]
      rw [e2] at hQ
      exact hQ
    · refine xv_iload_n dX11_stretch_122 rfl rfl ?_
      refine xv_goto (tgt := 127) dX11_stretch_123 rfl ?_
      refine xv_iadd dX11_stretch_127 ?_
      refine xv_puti dX11_stretch_128 fl_X11_7 (go_40 hG) rfl rfl rfl ?_
      refine xv_iload_n dX11_stretch_131 rfl rfl ?_
      refine xv_iret dX11_stretch_132 rfl (Nat.zero_le _) (Nat.zero_le _) ?_
      have e2 : pm_psp I nn b = I 40 0 + b := by rw [pm_psp, if_pos (by simp only [xn_lt, xn_le] at *; exact Int.not_lt.mp c_119)]
      rw [e2] at hQ
      exact hQ
  | succ n ih =>
    intro i hi
    refine xv_iload dX11_stretch_28 rfl ?_
    refine xv_aload_n dX11_stretch_30 rfl rfl ?_
    refine xv_geti dX11_stretch_31 fl_X11_135 (go_40 hG) rfl ?_
    refine xv_nmI (show (xfl (xfl I 52 (pm_plf I nn b) i) 53 (pm_psz I nn b) i) 40 1 = nI np from hn) ?_
    refine xv_icmp_geN (tgt := 109) dX11_stretch_34 rfl (by omega) (by omega) (fun c_34 => absurd c_34 (by omega)) (fun c_34 => ?_)
    refine xv_aload_n dX11_stretch_37 rfl rfl ?_
    refine xv_iload dX11_stretch_38 rfl ?_
    refine xv_iconst (v := 0) dX11_stretch_40 rfl ?_
    refine xv_iload_n dX11_stretch_41 rfl rfl ?_
    refine xv_iload_n dX11_stretch_42 rfl rfl ?_
    refine xv_callV0 (As := [_, _, _, _]) dX11_stretch_43 cl_X11_157 rfl rfl rfl rfl (go_40 hG) rfl rfl (Nat.le_of_ble_eq_true rfl) (Nat.le_of_ble_eq_true rfl) (Nat.zero_le _) (Nat.zero_le _) ?_
    refine s11_then hG (xv_ixn (by omega) (by decide)) ?_
    refine xv_istore dX11_stretch_46 (Nat.le_of_ble_eq_true rfl) rfl ?_
    refine xv_aload_n dX11_stretch_48 rfl rfl ?_
    refine xv_iload dX11_stretch_49 rfl ?_
    refine xv_iconst (v := 1) dX11_stretch_51 rfl ?_
    refine xv_iload_n dX11_stretch_52 rfl rfl ?_
    refine xv_iload_n dX11_stretch_53 rfl rfl ?_
    refine xv_callV0 (As := [_, _, _, _]) dX11_stretch_54 cl_X11_157 rfl rfl rfl rfl (go_40 hG) rfl rfl (Nat.le_of_ble_eq_true rfl) (Nat.le_of_ble_eq_true rfl) (Nat.zero_le _) (Nat.zero_le _) ?_
    refine s11_then hG (xv_ixn (by omega) (by decide)) ?_
    refine xv_istore dX11_stretch_57 (Nat.le_of_ble_eq_true rfl) rfl ?_
    refine xv_iload_n dX11_stretch_59 rfl rfl ?_
    refine xv_iload dX11_stretch_60 rfl ?_
    refine xv_iload dX11_stretch_62 rfl ?_
    refine xv_isub dX11_stretch_64 ?_
    refine xv_aload_n dX11_stretch_65 rfl rfl ?_
    refine xv_getr dX11_stretch_66 fl_X11_17 (go_40 hG) rfl (gr_40_3 hG) ?_
    refine xv_iload dX11_stretch_69 rfl ?_
    refine xv_iaload dX11_stretch_71 (go_53 hG) (xv_ixn (by omega) (by decide)) ?_
    refine xv_icmp_le (tgt := 79) dX11_stretch_72 rfl (fun c_72 => ?_) (fun c_72 => ?_)
    · refine xv_iconst (v := 0) dX11_stretch_79 rfl ?_
      refine xv_iadd dX11_stretch_80 ?_
      refine xv_istore_n dX11_stretch_81 rfl (Nat.le_of_ble_eq_true rfl) rfl ?_
      refine xv_aload_n dX11_stretch_82 rfl rfl ?_
      refine xv_getr dX11_stretch_83 fl_X11_13 (go_40 hG) rfl (gr_40_2 hG) ?_
      refine xv_iload dX11_stretch_86 rfl ?_
      refine xv_iload dX11_stretch_88 rfl ?_
      refine xv_iastore dX11_stretch_90 (go_52 hG) (xv_ixn (by omega) (by decide)) ?_
      refine xv_aload_n dX11_stretch_91 rfl rfl ?_
      refine xv_getr dX11_stretch_92 fl_X11_17 (go_40 hG) rfl (gr_40_3 hG) ?_
      refine xv_iload dX11_stretch_95 rfl ?_
      refine xv_iload dX11_stretch_97 rfl ?_
      refine xv_iload dX11_stretch_99 rfl ?_
      refine xv_isub dX11_stretch_101 ?_
      refine xv_iastore dX11_stretch_102 (go_53 hG) (xv_ixn (by omega) (by decide)) ?_
      refine xv_iinc dX11_stretch_103 rfl (xv_inc _) (Nat.le_of_ble_eq_true rfl) rfl ?_
      refine xv_goto (tgt := 28) dX11_stretch_106 rfl ?_
      have hc : ¬ I 53 i < pm_psz I nn b i := by
        have h := c_72
        rw [pm_pR, pm_pR] at h
        have h2 : (xfl (xfl I 52 (pm_plf I nn b) i) 53 (pm_psz I nn b) i) 53 i = I 53 i := by simp [xfl]
        rw [h2] at h
        simp only [pm_psz, xn_lt, xn_le] at *
        omega
      refine xv_nmM (pm_pA (pm_pR 0) (by rw [pm_pR, pm_pR]; rfl)) ?_
      have ih2 := ih (i + 1) (by omega)
      rw [xcn_n (P := fun p => I 53 p < pm_psz I nn b p) (n := i) hc] at ih2
      refine xv_fg [true, true, true, true, true, false, false] ?_
      rw [← Int32.add_zero (nI (xcn (fun p => I 53 p < pm_psz I nn b p) i))] at ih2
      exact ih2
    · refine xv_iconst (v := 1) dX11_stretch_75 rfl ?_
      refine xv_goto (tgt := 80) dX11_stretch_76 rfl ?_
      refine xv_iadd dX11_stretch_80 ?_
      refine xv_istore_n dX11_stretch_81 rfl (Nat.le_of_ble_eq_true rfl) rfl ?_
      refine xv_aload_n dX11_stretch_82 rfl rfl ?_
      refine xv_getr dX11_stretch_83 fl_X11_13 (go_40 hG) rfl (gr_40_2 hG) ?_
      refine xv_iload dX11_stretch_86 rfl ?_
      refine xv_iload dX11_stretch_88 rfl ?_
      refine xv_iastore dX11_stretch_90 (go_52 hG) (xv_ixn (by omega) (by decide)) ?_
      refine xv_aload_n dX11_stretch_91 rfl rfl ?_
      refine xv_getr dX11_stretch_92 fl_X11_17 (go_40 hG) rfl (gr_40_3 hG) ?_
      refine xv_iload dX11_stretch_95 rfl ?_
      refine xv_iload dX11_stretch_97 rfl ?_
      refine xv_iload dX11_stretch_99 rfl ?_
      refine xv_isub dX11_stretch_101 ?_
      refine xv_iastore dX11_stretch_102 (go_53 hG) (xv_ixn (by omega) (by decide)) ?_
      refine xv_iinc dX11_stretch_103 rfl (xv_inc _) (Nat.le_of_ble_eq_true rfl) rfl ?_
      refine xv_goto (tgt := 28) dX11_stretch_106 rfl ?_
      have hc : I 53 i < pm_psz I nn b i := by
        have h := c_72
        rw [pm_pR, pm_pR] at h
        have h2 : (xfl (xfl I 52 (pm_plf I nn b) i) 53 (pm_psz I nn b) i) 53 i = I 53 i := by simp [xfl]
        rw [h2] at h
        simp only [pm_psz, xn_lt, xn_le] at *
        omega
      refine xv_nmM (pm_pA (pm_pR 0) (by rw [pm_pR, pm_pR]; rfl)) ?_
      have ih2 := ih (i + 1) (by omega)
      rw [xcn_y (P := fun p => I 53 p < pm_psz I nn b p) (n := i) hc] at ih2
      refine xv_fg [true, true, true, true, true, false, false] ?_
      rw [← nI_1 (xcn (fun p => I 53 p < pm_psz I nn b p) i)] at ih2
      exact ih2

theorem s11_stretch {l : Launch} {D : va_G} {d : Nat} {G : xv_Gr} {I : xv_I} {J : xv_J} {Q : xv_Po} (hG : xg_ok G) {np : Nat} (hn : I 40 1 = nI np) (hnp : np ≤ 12) {nm : Nat} (hm : I 40 6 = nI nm) (hnm : nm ≤ 20) (hv : ∀ k, k < nm → vp_in (I 57 k) 12 ∧ vp_in (I 59 k) 12) {nn b : Int32} (h1 : ¬ ((0 ≤ nn ∧ nn ≤ 400) ∧ (1 ≤ b ∧ b ≤ 100)) → Q (some (.int (-900002))) G I J) (h2 : ((0 ≤ nn ∧ nn ≤ 400) ∧ (1 ≤ b ∧ b ≤ 100)) → ¬ pm_w1 I np nm nn b = 0 → Q (some (.int (-900003))) G I J) (h3 : ((0 ≤ nn ∧ nn ≤ 400) ∧ (1 ≤ b ∧ b ≤ 100)) → pm_w1 I np nm nn b = 0 → Q (some (.int (nI (xcn (fun p => I 53 p < pm_psz I nn b p) np)))) G (xv_ui (xfl (xfl I 52 (pm_plf I nn b) np) 53 (pm_psz I nn b) np) 40 0 (pm_psp I nn b)) J) : xv_Ev l D (d + 4) mX11_stretch none 0 [some (.ref 40), some (.int nn), some (.int b), none, none, none, none] [] G I J 0 0 Q := by
  refine xv_iload_n dX11_stretch_0 rfl rfl ?_
  refine xv_iload_n dX11_stretch_1 rfl rfl ?_
  refine xv_callS0 (As := [_, _]) dX11_stretch_2 cl_X11_163 rfl rfl rfl rfl (Nat.le_of_ble_eq_true rfl) (Nat.le_of_ble_eq_true rfl) (Nat.zero_le _) (Nat.zero_le _) ?_
  refine s11_mayStretch ?_
  refine xv_if_neP (tgt := 11) dX11_stretch_5 rfl (fun c_5 => ?_) (fun c_5 => ?_)
  · refine xv_aload_n dX11_stretch_11 rfl rfl ?_
    refine xv_iload_n dX11_stretch_12 rfl rfl ?_
    refine xv_iload_n dX11_stretch_13 rfl rfl ?_
    refine xv_callV0 (As := [_, _]) dX11_stretch_14 cl_X11_166 rfl rfl rfl rfl (go_40 hG) rfl rfl (Nat.le_of_ble_eq_true rfl) (Nat.le_of_ble_eq_true rfl) (Nat.zero_le _) (Nat.zero_le _) ?_
    refine s11_whyNot hG hn hnp hm hnm hv ?_
    refine xv_if_eq (tgt := 23) dX11_stretch_17 rfl (fun c_17 => ?_) (fun c_17 => ?_)
    · refine xv_iconst (v := 0) dX11_stretch_23 rfl ?_
      refine xv_istore_n dX11_stretch_24 rfl (Nat.le_of_ble_eq_true rfl) rfl ?_
      refine xv_iconst (v := 0) dX11_stretch_25 rfl ?_
      refine xv_istore dX11_stretch_26 (Nat.le_of_ble_eq_true rfl) rfl ?_
      have h := s11_str_l (d := d + 1) (l := l) (D := D) hG hn hnp (h3 c_5 c_17) np 0 (by omega)
      rw [xfl_0, xfl_0] at h
      exact h
    · refine xv_ldc dX11_stretch_20 ld_X11_144 ?_
      refine xv_iret dX11_stretch_22 rfl (Nat.zero_le _) (Nat.zero_le _) ?_
      exact h2 c_5 c_17
  · refine xv_ldc dX11_stretch_8 ld_X11_130 ?_
    refine xv_iret dX11_stretch_10 rfl (Nat.zero_le _) (Nat.zero_le _) ?_
    exact h1 c_5

theorem s11_why {l : Launch} {D : va_G} {d : Nat} {G : xv_Gr} {I : xv_I} {J : xv_J} {Q : xv_Po} (hG : xg_ok G) {np : Nat} (hn : I 40 1 = nI np) (hnp : np ≤ 12) {nm : Nat} (hm : I 40 6 = nI nm) (hnm : nm ≤ 20) (hv : ∀ k, k < nm → vp_in (I 57 k) 12 ∧ vp_in (I 59 k) 12) {nn b : Int32} (h1 : ¬ ((0 ≤ nn ∧ nn ≤ 400) ∧ (1 ≤ b ∧ b ≤ 100)) → Q (some (.int (-900002))) G I J) (h2 : ((0 ≤ nn ∧ nn ≤ 400) ∧ (1 ≤ b ∧ b ≤ 100)) → Q (some (.int (pm_w1 I np nm nn b))) G I J) : xv_Ev l D (d + 4) mX11_why none 0 [some (.ref 40), some (.int nn), some (.int b)] [] G I J 0 0 Q := by
  refine xv_iload_n dX11_why_0 rfl rfl ?_
  refine xv_iload_n dX11_why_1 rfl rfl ?_
  refine xv_callS0 (As := [_, _]) dX11_why_2 cl_X11_163 rfl rfl rfl rfl (Nat.le_of_ble_eq_true rfl) (Nat.le_of_ble_eq_true rfl) (Nat.zero_le _) (Nat.zero_le _) ?_
  refine s11_mayStretch ?_
  refine xv_if_eqP (tgt := 17) dX11_why_5 rfl (fun c_5 => ?_) (fun c_5 => ?_)
  · refine xv_ldc dX11_why_17 ld_X11_130 ?_
    refine xv_iret dX11_why_19 rfl (Nat.zero_le _) (Nat.zero_le _) ?_
    exact h1 c_5
  · refine xv_aload_n dX11_why_8 rfl rfl ?_
    refine xv_iload_n dX11_why_9 rfl rfl ?_
    refine xv_iload_n dX11_why_10 rfl rfl ?_
    refine xv_callV0 (As := [_, _]) dX11_why_11 cl_X11_166 rfl rfl rfl rfl (go_40 hG) rfl rfl (Nat.le_of_ble_eq_true rfl) (Nat.le_of_ble_eq_true rfl) (Nat.zero_le _) (Nat.zero_le _) ?_
    refine s11_whyNot hG hn hnp hm hnm hv ?_
    refine xv_goto (tgt := 19) dX11_why_14 rfl ?_
    refine xv_iret dX11_why_19 rfl (Nat.zero_le _) (Nat.zero_le _) ?_
    exact h2 c_5

theorem s10_why {l : Launch} {D : va_G} {d : Nat} {G : xv_Gr} {I : xv_I} {J : xv_J} {Q : xv_Po} (hG : xg_ok G) {np : Nat} (hn : I 1 1 = nI np) (hnp : np ≤ 12) {nm : Nat} (hm : I 1 2 = nI nm) (hnm : nm ≤ 20) (hv : ∀ k, k < nm → vp_in (I 107 k) 12 ∧ vp_in (I 109 k) 12) {nn b : Int32} (h1 : ¬ ((0 ≤ nn ∧ nn ≤ 400) ∧ (1 ≤ b ∧ b ≤ 100)) → Q (some (.int (-900002))) G I J) (h2 : ((0 ≤ nn ∧ nn ≤ 400) ∧ (1 ≤ b ∧ b ≤ 100)) → Q (some (.int (pl_w1 I np nm nn b))) G I J) : xv_Ev l D (d + 4) mX10_why none 0 [some (.ref 0), some (.int nn), some (.int b)] [] G I J 0 0 Q := by
  refine xv_iload_n dX10_why_0 rfl rfl ?_
  refine xv_iload_n dX10_why_1 rfl rfl ?_
  refine xv_callS0 (As := [_, _]) dX10_why_2 cl_X10_110 rfl rfl rfl rfl (Nat.le_of_ble_eq_true rfl) (Nat.le_of_ble_eq_true rfl) (Nat.zero_le _) (Nat.zero_le _) ?_
  refine s10_isNoStretch ?_
  refine xv_if_eqD (tgt := 13) dX10_why_5 rfl (fun c_5 => ?_) (fun c_5 => ?_)
  · refine xv_aload_n dX10_why_13 rfl rfl ?_
    refine xv_getr dX10_why_14 fl_X10_10 (go_0 hG) rfl (gr_0_0 hG) ?_
    refine xv_iload_n dX10_why_17 rfl rfl ?_
    refine xv_iload_n dX10_why_18 rfl rfl ?_
    refine xv_callV0 (As := [_, _]) dX10_why_19 cl_X10_114 rfl rfl rfl rfl (go_1 hG) rfl rfl (Nat.le_of_ble_eq_true rfl) (Nat.le_of_ble_eq_true rfl) (Nat.zero_le _) (Nat.zero_le _) ?_
    refine s5_hin hG hn hnp hm hnm hv ?_
    refine xv_iret dX10_why_22 rfl (Nat.zero_le _) (Nat.zero_le _) ?_
    exact h2 (by have h := c_5; simp only [xn_lt, xn_le, Int32.reduceToInt] at *; omega)
  · refine xv_ldc dX10_why_8 ld_X10_55 ?_
    refine xv_goto (tgt := 22) dX10_why_10 rfl ?_
    refine xv_iret dX10_why_22 rfl (Nat.zero_le _) (Nat.zero_le _) ?_
    exact h1 (by have h := c_5; simp only [xn_lt, xn_le, Int32.reduceToInt] at *; omega)

theorem s10_forget {l : Launch} {D : va_G} {d : Nat} {G : xv_Gr} {I : xv_I} {J : xv_J} {Q : xv_Po} (hG : xg_ok G) (hQ : Q none G (xv_ui (xv_ui I 3 3 1) 4 1 1) J) : xv_Ev l D d mX10_forgetLengths none 0 [some (.ref 0)] [] G I J 0 0 Q := by
  refine xv_aload_n dX10_forgetLengths_0 rfl rfl ?_
  refine xv_getr dX10_forgetLengths_1 fl_X10_26 (go_0 hG) rfl (gr_0_2 hG) ?_
  refine xv_iconst (v := 1) dX10_forgetLengths_4 rfl ?_
  refine xv_puti dX10_forgetLengths_5 fl_X10_154 (go_3 hG) rfl rfl rfl ?_
  refine xv_aload_n dX10_forgetLengths_8 rfl rfl ?_
  refine xv_getr dX10_forgetLengths_9 fl_X10_33 (go_0 hG) rfl (gr_0_3 hG) ?_
  refine xv_iconst (v := 1) dX10_forgetLengths_12 rfl ?_
  refine xv_puti dX10_forgetLengths_13 fl_X10_124 (go_4 hG) rfl rfl rfl ?_
  refine xv_vret dX10_forgetLengths_16 rfl (Nat.zero_le _) (Nat.zero_le _) ?_
  exact hQ

theorem s10_stretch {l : Launch} {D : va_G} {d : Nat} {G : xv_Gr} {I : xv_I} {J : xv_J} {Q : xv_Po} (hG : xg_ok G) {np : Nat} (hn : I 1 1 = nI np) (hnp : np ≤ 12) {nm : Nat} (hm : I 1 2 = nI nm) (hnm : nm ≤ 20) (hv : ∀ k, k < nm → vp_in (I 107 k) 12 ∧ vp_in (I 109 k) 12) {nn b : Int32} (h1 : ¬ ((0 ≤ nn ∧ nn ≤ 400) ∧ (1 ≤ b ∧ b ≤ 100)) → Q (some (.int (-900002))) G I J) (h2 : ((0 ≤ nn ∧ nn ≤ 400) ∧ (1 ≤ b ∧ b ≤ 100)) → ¬ pl_w1 I np nm nn b = 0 → Q (some (.int (-900003))) G I J) (h3 : ((0 ≤ nn ∧ nn ≤ 400) ∧ (1 ≤ b ∧ b ≤ 100)) → pl_w1 I np nm nn b = 0 → Q (some (.int (nI (xcn (fun p => I 103 p < nn ∧ nn < I 103 p + I 104 p) np)))) G (xv_ui (xfl (xfl (xv_ui (xv_ui I 3 3 1) 4 1 1) 104 (pl_psz I nn b) np) 103 (pl_plf I nn b) np) 1 0 (pl_psp I nn b)) J) : xv_Ev l D (d + 4) mX10_stretch none 0 [some (.ref 0), some (.int nn), some (.int b)] [] G I J 0 0 Q := by
  refine xv_iload_n dX10_stretch_0 rfl rfl ?_
  refine xv_iload_n dX10_stretch_1 rfl rfl ?_
  refine xv_callS0 (As := [_, _]) dX10_stretch_2 cl_X10_110 rfl rfl rfl rfl (Nat.le_of_ble_eq_true rfl) (Nat.le_of_ble_eq_true rfl) (Nat.zero_le _) (Nat.zero_le _) ?_
  refine s10_isNoStretch ?_
  refine xv_if_eqD (tgt := 11) dX10_stretch_5 rfl (fun c_5 => ?_) (fun c_5 => ?_)
  · refine xv_aload_n dX10_stretch_11 rfl rfl ?_
    refine xv_getr dX10_stretch_12 fl_X10_10 (go_0 hG) rfl (gr_0_0 hG) ?_
    refine xv_iload_n dX10_stretch_15 rfl rfl ?_
    refine xv_iload_n dX10_stretch_16 rfl rfl ?_
    refine xv_callV0 (As := [_, _]) dX10_stretch_17 cl_X10_114 rfl rfl rfl rfl (go_1 hG) rfl rfl (Nat.le_of_ble_eq_true rfl) (Nat.le_of_ble_eq_true rfl) (Nat.zero_le _) (Nat.zero_le _) ?_
    refine s5_hin hG hn hnp hm hnm hv ?_
    refine xv_if_eq (tgt := 26) dX10_stretch_20 rfl (fun c_20 => ?_) (fun c_20 => ?_)
    · refine xv_aload_n dX10_stretch_26 rfl rfl ?_
      refine xv_callV0 (As := []) dX10_stretch_27 cl_X10_64 rfl rfl rfl rfl (go_0 hG) rfl rfl (Nat.le_of_ble_eq_true rfl) (Nat.le_of_ble_eq_true rfl) (Nat.zero_le _) (Nat.zero_le _) ?_
      refine s10_forget hG ?_
      refine xv_aload_n dX10_stretch_30 rfl rfl ?_
      refine xv_getr dX10_stretch_31 fl_X10_10 (go_0 hG) rfl (gr_0_0 hG) ?_
      refine xv_iload_n dX10_stretch_34 rfl rfl ?_
      refine xv_iload_n dX10_stretch_35 rfl rfl ?_
      refine xv_callV0 (As := [_, _]) dX10_stretch_36 cl_X10_118 rfl rfl rfl rfl (go_1 hG) rfl rfl (Nat.le_of_ble_eq_true rfl) (Nat.le_of_ble_eq_true rfl) (Nat.zero_le _) (Nat.zero_le _) ?_
      refine s5_pul hG (I := (xv_ui (xv_ui I 3 3 1) 4 1 1)) hn hnp ?_
      refine xv_iret dX10_stretch_39 rfl (Nat.zero_le _) (Nat.zero_le _) ?_
      exact h3 (by have h := c_5; simp only [xn_lt, xn_le, Int32.reduceToInt] at *; omega) c_20
    · refine xv_ldc dX10_stretch_23 ld_X10_90 ?_
      refine xv_iret dX10_stretch_25 rfl (Nat.zero_le _) (Nat.zero_le _) ?_
      exact h2 (by have h := c_5; simp only [xn_lt, xn_le, Int32.reduceToInt] at *; omega) c_20
  · refine xv_ldc dX10_stretch_8 ld_X10_55 ?_
    refine xv_iret dX10_stretch_10 rfl (Nat.zero_le _) (Nat.zero_le _) ?_
    exact h1 (by have h := c_5; simp only [xn_lt, xn_le, Int32.reduceToInt] at *; omega)

theorem s10_mirror {l : Launch} {D : va_G} {d : Nat} {G : xv_Gr} {I : xv_I} {J : xv_J} {Q : xv_Po} (hG : xg_ok G) {np : Nat} (hn : I 1 1 = nI np) (hnp : np ≤ 12) {nm : Nat} (hm : I 1 2 = nI nm) (hnm : nm ≤ 20) (h1 : (∀ p, p < np → ¬ (I 1 0 - (I 103 p + I 104 p) < 0)) → Q (some (.int (nI (xcn (fun p => ¬ pl_trn I p = I 103 p) np)))) G (xfl (xfl (xfl I 103 (pl_trn I) np) 108 (fun k => 1 - I 108 k) nm) 110 (fun k => 1 - I 110 k) nm) J) (h2 : ¬ (∀ p, p < np → ¬ (I 1 0 - (I 103 p + I 104 p) < 0)) → Q (some (.int (-900003))) G I J) : xv_Ev l D (d + 2) mX10_mirror none 0 [some (.ref 0)] [] G I J 0 0 Q := by
  refine xv_aload_n dX10_mirror_0 rfl rfl ?_
  refine xv_getr dX10_mirror_1 fl_X10_10 (go_0 hG) rfl (gr_0_0 hG) ?_
  refine xv_callV0 (As := []) dX10_mirror_4 cl_X10_102 rfl rfl rfl rfl (go_1 hG) rfl rfl (Nat.le_of_ble_eq_true rfl) (Nat.le_of_ble_eq_true rfl) (Nat.zero_le _) (Nat.zero_le _) ?_
  refine s5_can hG hn hnp ?_
  refine xv_if_eqP (tgt := 20) dX10_mirror_7 rfl (fun c_7 => ?_) (fun c_7 => ?_)
  · refine xv_ldc dX10_mirror_20 ld_X10_90 ?_
    refine xv_iret dX10_mirror_22 rfl (Nat.zero_le _) (Nat.zero_le _) ?_
    exact h2 c_7
  · refine xv_aload_n dX10_mirror_10 rfl rfl ?_
    refine xv_getr dX10_mirror_11 fl_X10_10 (go_0 hG) rfl (gr_0_0 hG) ?_
    refine xv_callV0 (As := []) dX10_mirror_14 cl_X10_106 rfl rfl rfl rfl (go_1 hG) rfl rfl (Nat.le_of_ble_eq_true rfl) (Nat.le_of_ble_eq_true rfl) (Nat.zero_le _) (Nat.zero_le _) ?_
    refine s5_trn hG hn hnp hm hnm ?_
    refine xv_goto (tgt := 22) dX10_mirror_17 rfl ?_
    refine xv_iret dX10_mirror_22 rfl (Nat.zero_le _) (Nat.zero_le _) ?_
    exact h1 c_7

theorem s10_width {l : Launch} {D : va_G} {d : Nat} {G : xv_Gr} {I : xv_I} {J : xv_J} {Q : xv_Po} (hG : xg_ok G) {v : Int32} (h1 : ¬ (1 ≤ v ∧ v ≤ 400) → Q (some (.int (-900002))) G I J) (h2 : (1 ≤ v ∧ v ≤ 400) → Q (some (.int (I 1 0))) G (xv_ui I 1 0 v) J) : xv_Ev l D (d + 1) mX10_width none 0 [some (.ref 0), some (.int v), none] [] G I J 0 0 Q := by
  refine xv_iload_n dX10_width_0 rfl rfl ?_
  refine xv_iconst (v := 1) dX10_width_1 rfl ?_
  refine xv_sipush (v := 400) dX10_width_2 rfl ?_
  refine xv_callS0 (As := [_, _, _]) dX10_width_5 cl_X10_51 rfl rfl rfl rfl (Nat.le_of_ble_eq_true rfl) (Nat.le_of_ble_eq_true rfl) (Nat.zero_le _) (Nat.zero_le _) ?_
  refine s10_isOutside ?_
  refine xv_if_eqD (tgt := 14) dX10_width_8 rfl (fun c_8 => ?_) (fun c_8 => ?_)
  · refine xv_aload_n dX10_width_14 rfl rfl ?_
    refine xv_getr dX10_width_15 fl_X10_10 (go_0 hG) rfl (gr_0_0 hG) ?_
    refine xv_geti dX10_width_18 fl_X10_56 (go_1 hG) rfl ?_
    refine xv_istore_n dX10_width_21 rfl (Nat.le_of_ble_eq_true rfl) rfl ?_
    refine xv_aload_n dX10_width_22 rfl rfl ?_
    refine xv_getr dX10_width_23 fl_X10_10 (go_0 hG) rfl (gr_0_0 hG) ?_
    refine xv_iload_n dX10_width_26 rfl rfl ?_
    refine xv_puti dX10_width_27 fl_X10_56 (go_1 hG) rfl rfl rfl ?_
    refine xv_iload_n dX10_width_30 rfl rfl ?_
    refine xv_iret dX10_width_31 rfl (Nat.zero_le _) (Nat.zero_le _) ?_
    exact h2 (by simp only [xn_lt, xn_le, Int32.reduceToInt] at *; omega)
  · refine xv_ldc dX10_width_11 ld_X10_55 ?_
    refine xv_iret dX10_width_13 rfl (Nat.zero_le _) (Nat.zero_le _) ?_
    exact h1 (by simp only [xn_lt, xn_le, Int32.reduceToInt] at *; omega)

theorem s11_width {l : Launch} {D : va_G} {d : Nat} {G : xv_Gr} {I : xv_I} {J : xv_J} {Q : xv_Po} (hG : xg_ok G) {v : Int32} (h1 : ¬ (1 ≤ v ∧ v ≤ 400) → Q (some (.int (-900002))) G I J) (h2 : (1 ≤ v ∧ v ≤ 400) → Q (some (.int (I 40 0))) G (xv_ui I 40 0 v) J) : xv_Ev l D (d + 1) mX11_width none 0 [some (.ref 40), some (.int v), none] [] G I J 0 0 Q := by
  refine xv_iload_n dX11_width_0 rfl rfl ?_
  refine xv_i2l dX11_width_1 ?_
  refine xv_lconst (v := 1) dX11_width_2 rfl ?_
  refine xv_ldc2 dX11_width_3 ld_X11_124 ?_
  refine xv_callS0 (As := [_, _, _]) dX11_width_6 cl_X11_126 rfl rfl rfl rfl (Nat.le_of_ble_eq_true rfl) (Nat.le_of_ble_eq_true rfl) (Nat.zero_le _) (Nat.zero_le _) ?_
  refine s11_in (a := 1) (b := 400) rfl rfl ?_
  refine xv_if_neD (tgt := 15) dX11_width_9 rfl (fun c_9 => ?_) (fun c_9 => ?_)
  · refine xv_aload_n dX11_width_15 rfl rfl ?_
    refine xv_geti dX11_width_16 fl_X11_7 (go_40 hG) rfl ?_
    refine xv_istore_n dX11_width_19 rfl (Nat.le_of_ble_eq_true rfl) rfl ?_
    refine xv_aload_n dX11_width_20 rfl rfl ?_
    refine xv_iload_n dX11_width_21 rfl rfl ?_
    refine xv_puti dX11_width_22 fl_X11_7 (go_40 hG) rfl rfl rfl ?_
    refine xv_iload_n dX11_width_25 rfl rfl ?_
    refine xv_iret dX11_width_26 rfl (Nat.zero_le _) (Nat.zero_le _) ?_
    exact h2 c_9
  · refine xv_ldc dX11_width_12 ld_X11_130 ?_
    refine xv_iret dX11_width_14 rfl (Nat.zero_le _) (Nat.zero_le _) ?_
    exact h1 c_9
