/-! plans: piece, about, meet -/
theorem xn_sw2 (w : Int32) : w = 0 ∨ w = 1 ∨ w = 2 ∨ (w.toInt < 0 ∨ 2 < w.toInt) := by
  simp only [xn_eq, Int32.reduceToInt]
  omega
theorem xn_sw3 (w : Int32) : w = 0 ∨ w = 1 ∨ w = 2 ∨ w = 3 ∨ (w.toInt < 0 ∨ 3 < w.toInt) := by
  simp only [xn_eq, Int32.reduceToInt]
  omega
theorem xn_sw7 (w : Int32) : w = 0 ∨ w = 1 ∨ w = 2 ∨ w = 3 ∨ w = 4 ∨ w = 5 ∨ w = 6 ∨ w = 7 ∨ (w.toInt < 0 ∨ 7 < w.toInt) := by
  simp only [xn_eq, Int32.reduceToInt]
  omega
theorem s5_addPiece {l : Launch} {D : va_G} {d : Nat} {G : xv_Gr} {I : xv_I} {J : xv_J} {Q : xv_Po} (hG : xg_ok G) {np : Nat} (hn : I 1 1 = nI np) (hnp : np ≤ 12) (hlt : np < 12) {p q h f : Int32} (hf : vp_nar .boolean f = f) (hQ : Q (some (.int (nI np))) G (xv_ui (xv_ui (xv_ui (xv_ui (xv_ui I 103 np p) 104 np q) 105 np h) 106 np f) 1 1 (nI (np + 1))) J) : xv_Ev l D d mX5_addPiece none 0 [some (.ref 1), some (.int p), some (.int q), some (.int h), some (.int f), none] [] G I J 0 0 Q := by
  refine xv_aload_n dX5_addPiece_0 rfl rfl ?_
  refine xv_geti dX5_addPiece_1 fl_X5_15 (go_1 hG) rfl ?_
  refine xv_nmI hn ?_
  refine xv_istore dX5_addPiece_4 (Nat.le_of_ble_eq_true rfl) rfl ?_
  refine xv_aload_n dX5_addPiece_6 rfl rfl ?_
  refine xv_getr dX5_addPiece_7 fl_X5_21 (go_1 hG) rfl (gr_1_3 hG) ?_
  refine xv_iload dX5_addPiece_10 rfl ?_
  refine xv_iload_n dX5_addPiece_12 rfl rfl ?_
  refine xv_iastore dX5_addPiece_13 (go_103 hG) (xv_ixn (by omega) (by decide)) ?_
  refine xv_aload_n dX5_addPiece_14 rfl rfl ?_
  refine xv_getr dX5_addPiece_15 fl_X5_25 (go_1 hG) rfl (gr_1_4 hG) ?_
  refine xv_iload dX5_addPiece_18 rfl ?_
  refine xv_iload_n dX5_addPiece_20 rfl rfl ?_
  refine xv_iastore dX5_addPiece_21 (go_104 hG) (xv_ixn (by omega) (by decide)) ?_
  refine xv_aload_n dX5_addPiece_22 rfl rfl ?_
  refine xv_getr dX5_addPiece_23 fl_X5_28 (go_1 hG) rfl (gr_1_5 hG) ?_
  refine xv_iload dX5_addPiece_26 rfl ?_
  refine xv_iload_n dX5_addPiece_28 rfl rfl ?_
  refine xv_iastore dX5_addPiece_29 (go_105 hG) (xv_ixn (by omega) (by decide)) ?_
  refine xv_aload_n dX5_addPiece_30 rfl rfl ?_
  refine xv_getr dX5_addPiece_31 fl_X5_31 (go_1 hG) rfl (gr_1_6 hG) ?_
  refine xv_iload dX5_addPiece_34 rfl ?_
  refine xv_iload dX5_addPiece_36 rfl ?_
  refine xv_zastore dX5_addPiece_38 (go_106 hG) (xv_ixn (by omega) (by decide)) hf ?_
  refine xv_aload_n dX5_addPiece_39 rfl rfl ?_
  refine xv_iload dX5_addPiece_40 rfl ?_
  refine xv_iconst (v := 1) dX5_addPiece_42 rfl ?_
  refine xv_iadd dX5_addPiece_43 ?_
  refine xv_nmI (nI_1 np) ?_
  refine xv_puti dX5_addPiece_44 fl_X5_15 (go_1 hG) rfl rfl rfl ?_
  refine xv_iload dX5_addPiece_47 rfl ?_
  refine xv_iret dX5_addPiece_49 rfl (Nat.zero_le _) (Nat.zero_le _) ?_
  exact hQ

theorem s10_piece {l : Launch} {D : va_G} {d : Nat} {G : xv_Gr} {I : xv_I} {J : xv_J} {Q : xv_Po} (hG : xg_ok G) {np : Nat} (hn : I 1 1 = nI np) (hnp : np ≤ 12) {p q h f : Int32} (hf : vp_nar .boolean f = f) (h1 : ¬ ((0 ≤ p ∧ p ≤ 400) ∧ (1 ≤ q ∧ q ≤ 200) ∧ (0 ≤ h ∧ h ≤ 9)) → Q (some (.int (-900002))) G I J) (h2 : ((0 ≤ p ∧ p ≤ 400) ∧ (1 ≤ q ∧ q ≤ 200) ∧ (0 ≤ h ∧ h ≤ 9)) → np = 12 → Q (some (.int (-900004))) G I J) (h3 : ((0 ≤ p ∧ p ≤ 400) ∧ (1 ≤ q ∧ q ≤ 200) ∧ (0 ≤ h ∧ h ≤ 9)) → np < 12 → Q (some (.int (nI np))) G (xv_ui (xv_ui (xv_ui (xv_ui (xv_ui (xv_ui (xv_ui I 3 3 1) 4 1 1) 103 np p) 104 np q) 105 np h) 106 np f) 1 1 (nI (np + 1))) J) : xv_Ev l D (d + 1) mX10_piece none 0 [some (.ref 0), some (.int p), some (.int q), some (.int h), some (.int f)] [] G I J 0 0 Q := by
  have hnt : (nI np).toInt = (np : Int) := nI_toInt (by omega)
  refine xv_iload_n dX10_piece_0 rfl rfl ?_
  refine xv_iconst (v := 0) dX10_piece_1 rfl ?_
  refine xv_sipush (v := 400) dX10_piece_2 rfl ?_
  refine xv_callS0 (As := [_, _, _]) dX10_piece_5 cl_X10_51 rfl rfl rfl rfl (Nat.le_of_ble_eq_true rfl) (Nat.le_of_ble_eq_true rfl) (Nat.zero_le _) (Nat.zero_le _) ?_
  refine s10_isOutside ?_
  refine xv_if_neD (tgt := 32) dX10_piece_8 rfl (fun c_8 => ?_) (fun c_8 => ?_)
  · refine xv_ldc dX10_piece_32 ld_X10_55 ?_
    refine xv_iret dX10_piece_34 rfl (Nat.zero_le _) (Nat.zero_le _) ?_
    exact h1 (by simp only [xn_lt, xn_le, xn_eq, hnt, Int32.reduceToInt] at *; omega)
  · refine xv_iload_n dX10_piece_11 rfl rfl ?_
    refine xv_iconst (v := 1) dX10_piece_12 rfl ?_
    refine xv_sipush (v := 200) dX10_piece_13 rfl ?_
    refine xv_callS0 (As := [_, _, _]) dX10_piece_16 cl_X10_51 rfl rfl rfl rfl (Nat.le_of_ble_eq_true rfl) (Nat.le_of_ble_eq_true rfl) (Nat.zero_le _) (Nat.zero_le _) ?_
    refine s10_isOutside ?_
    refine xv_if_neD (tgt := 32) dX10_piece_19 rfl (fun c_19 => ?_) (fun c_19 => ?_)
    · refine xv_ldc dX10_piece_32 ld_X10_55 ?_
      refine xv_iret dX10_piece_34 rfl (Nat.zero_le _) (Nat.zero_le _) ?_
      exact h1 (by simp only [xn_lt, xn_le, xn_eq, hnt, Int32.reduceToInt] at *; omega)
    · refine xv_iload_n dX10_piece_22 rfl rfl ?_
      refine xv_iconst (v := 0) dX10_piece_23 rfl ?_
      refine xv_bipush (v := 9) dX10_piece_24 rfl ?_
      refine xv_callS0 (As := [_, _, _]) dX10_piece_26 cl_X10_51 rfl rfl rfl rfl (Nat.le_of_ble_eq_true rfl) (Nat.le_of_ble_eq_true rfl) (Nat.zero_le _) (Nat.zero_le _) ?_
      refine s10_isOutside ?_
      refine xv_if_eqD (tgt := 35) dX10_piece_29 rfl (fun c_29 => ?_) (fun c_29 => ?_)
      · refine xv_aload_n dX10_piece_35 rfl rfl ?_
        refine xv_getr dX10_piece_36 fl_X10_10 (go_0 hG) rfl (gr_0_0 hG) ?_
        refine xv_geti dX10_piece_39 fl_X10_60 (go_1 hG) rfl ?_
        refine xv_nmI hn ?_
        refine xv_bipush (v := 12) dX10_piece_42 rfl ?_
        refine xv_icmp_lt (tgt := 50) dX10_piece_44 rfl (fun c_44 => ?_) (fun c_44 => ?_)
        · refine xv_aload_n dX10_piece_50 rfl rfl ?_
          refine xv_callV0 (As := []) dX10_piece_51 cl_X10_64 rfl rfl rfl rfl (go_0 hG) rfl rfl (Nat.le_of_ble_eq_true rfl) (Nat.le_of_ble_eq_true rfl) (Nat.zero_le _) (Nat.zero_le _) ?_
          refine s10_forget hG ?_
          refine xv_aload_n dX10_piece_54 rfl rfl ?_
          refine xv_getr dX10_piece_55 fl_X10_10 (go_0 hG) rfl (gr_0_0 hG) ?_
          refine xv_iload_n dX10_piece_58 rfl rfl ?_
          refine xv_iload_n dX10_piece_59 rfl rfl ?_
          refine xv_iload_n dX10_piece_60 rfl rfl ?_
          refine xv_iload dX10_piece_61 rfl ?_
          refine xv_callV0 (As := [_, _, _, _]) dX10_piece_63 cl_X10_67 rfl rfl rfl rfl (go_1 hG) rfl rfl (Nat.le_of_ble_eq_true rfl) (Nat.le_of_ble_eq_true rfl) (Nat.zero_le _) (Nat.zero_le _) ?_
          have hlt : np < 12 := (by simp only [xn_lt, xn_le, xn_eq, hnt, Int32.reduceToInt] at *; omega)
          refine s5_addPiece hG (I := (xv_ui (xv_ui I 3 3 1) 4 1 1)) hn hnp hlt hf ?_
          refine xv_iret dX10_piece_66 rfl (Nat.zero_le _) (Nat.zero_le _) ?_
          exact h3 (by simp only [xn_lt, xn_le, xn_eq, hnt, Int32.reduceToInt] at *; omega) hlt
        · refine xv_ldc dX10_piece_47 ld_X10_63 ?_
          refine xv_iret dX10_piece_49 rfl (Nat.zero_le _) (Nat.zero_le _) ?_
          exact h2 (by simp only [xn_lt, xn_le, xn_eq, hnt, Int32.reduceToInt] at *; omega) (by simp only [xn_lt, xn_le, xn_eq, hnt, Int32.reduceToInt] at *; omega)
      · refine xv_ldc dX10_piece_32 ld_X10_55 ?_
        refine xv_iret dX10_piece_34 rfl (Nat.zero_le _) (Nat.zero_le _) ?_
        exact h1 (by simp only [xn_lt, xn_le, xn_eq, hnt, Int32.reduceToInt] at *; omega)

theorem s11_piece {l : Launch} {D : va_G} {d : Nat} {G : xv_Gr} {I : xv_I} {J : xv_J} {Q : xv_Po} (hG : xg_ok G) {np : Nat} (hn : I 40 1 = nI np) (hnp : np ≤ 12) {p q h f : Int32} (hf : vp_nar .boolean f = f) (h1 : ¬ ((0 ≤ p ∧ p ≤ 400) ∧ (1 ≤ q ∧ q ≤ 200) ∧ (0 ≤ h ∧ h ≤ 9)) → Q (some (.int (-900002))) G I J) (h2 : ((0 ≤ p ∧ p ≤ 400) ∧ (1 ≤ q ∧ q ≤ 200) ∧ (0 ≤ h ∧ h ≤ 9)) → np = 12 → Q (some (.int (-900004))) G I J) (h3 : ((0 ≤ p ∧ p ≤ 400) ∧ (1 ≤ q ∧ q ≤ 200) ∧ (0 ≤ h ∧ h ≤ 9)) → np < 12 → Q (some (.int (nI np))) G (xv_ui (xv_ui (xv_ui (xv_ui (xv_ui I 52 np p) 53 np q) 54 np h) 55 np f) 40 1 (nI (np + 1))) J) : xv_Ev l D (d + 1) mX11_piece none 0 [some (.ref 40), some (.int p), some (.int q), some (.int h), some (.int f)] [] G I J 0 0 Q := by
  have hnt : (nI np).toInt = (np : Int) := nI_toInt (by omega)
  refine xv_iload_n dX11_piece_0 rfl rfl ?_
  refine xv_i2l dX11_piece_1 ?_
  refine xv_lconst (v := 0) dX11_piece_2 rfl ?_
  refine xv_ldc2 dX11_piece_3 ld_X11_124 ?_
  refine xv_callS0 (As := [_, _, _]) dX11_piece_6 cl_X11_126 rfl rfl rfl rfl (Nat.le_of_ble_eq_true rfl) (Nat.le_of_ble_eq_true rfl) (Nat.zero_le _) (Nat.zero_le _) ?_
  refine s11_in (a := 0) (b := 400) rfl rfl ?_
  refine xv_if_eqD (tgt := 36) dX11_piece_9 rfl (fun c_9 => ?_) (fun c_9 => ?_)
  · refine xv_ldc dX11_piece_36 ld_X11_130 ?_
    refine xv_iret dX11_piece_38 rfl (Nat.zero_le _) (Nat.zero_le _) ?_
    exact h1 (by simp only [xn_lt, xn_le, xn_eq, hnt, Int32.reduceToInt] at *; omega)
  · refine xv_iload_n dX11_piece_12 rfl rfl ?_
    refine xv_i2l dX11_piece_13 ?_
    refine xv_lconst (v := 1) dX11_piece_14 rfl ?_
    refine xv_ldc2 dX11_piece_15 ld_X11_131 ?_
    refine xv_callS0 (As := [_, _, _]) dX11_piece_18 cl_X11_126 rfl rfl rfl rfl (Nat.le_of_ble_eq_true rfl) (Nat.le_of_ble_eq_true rfl) (Nat.zero_le _) (Nat.zero_le _) ?_
    refine s11_in (a := 1) (b := 200) rfl rfl ?_
    refine xv_if_eqD (tgt := 36) dX11_piece_21 rfl (fun c_21 => ?_) (fun c_21 => ?_)
    · refine xv_ldc dX11_piece_36 ld_X11_130 ?_
      refine xv_iret dX11_piece_38 rfl (Nat.zero_le _) (Nat.zero_le _) ?_
      exact h1 (by simp only [xn_lt, xn_le, xn_eq, hnt, Int32.reduceToInt] at *; omega)
    · refine xv_iload_n dX11_piece_24 rfl rfl ?_
      refine xv_i2l dX11_piece_25 ?_
      refine xv_lconst (v := 0) dX11_piece_26 rfl ?_
      refine xv_ldc2 dX11_piece_27 ld_X11_133 ?_
      refine xv_callS0 (As := [_, _, _]) dX11_piece_30 cl_X11_126 rfl rfl rfl rfl (Nat.le_of_ble_eq_true rfl) (Nat.le_of_ble_eq_true rfl) (Nat.zero_le _) (Nat.zero_le _) ?_
      refine s11_in (a := 0) (b := 9) rfl rfl ?_
      refine xv_if_neD (tgt := 39) dX11_piece_33 rfl (fun c_33 => ?_) (fun c_33 => ?_)
      · refine xv_aload_n dX11_piece_39 rfl rfl ?_
        refine xv_geti dX11_piece_40 fl_X11_135 (go_40 hG) rfl ?_
        refine xv_nmI hn ?_
        refine xv_bipush (v := 12) dX11_piece_43 rfl ?_
        refine xv_icmp_ne (tgt := 51) dX11_piece_45 rfl (fun c_45 => ?_) (fun c_45 => ?_)
        · have hlt : np < 12 := (by simp only [xn_lt, xn_le, xn_eq, hnt, Int32.reduceToInt] at *; omega)
          refine xv_aload_n dX11_piece_51 rfl rfl ?_
          refine xv_getr dX11_piece_52 fl_X11_13 (go_40 hG) rfl (gr_40_2 hG) ?_
          refine xv_aload_n dX11_piece_55 rfl rfl ?_
          refine xv_geti dX11_piece_56 fl_X11_135 (go_40 hG) rfl ?_
          refine xv_nmI hn ?_
          refine xv_iload_n dX11_piece_59 rfl rfl ?_
          refine xv_iastore dX11_piece_60 (go_52 hG) (xv_ixn (by omega) (by decide)) ?_
          refine xv_aload_n dX11_piece_61 rfl rfl ?_
          refine xv_getr dX11_piece_62 fl_X11_17 (go_40 hG) rfl (gr_40_3 hG) ?_
          refine xv_aload_n dX11_piece_65 rfl rfl ?_
          refine xv_geti dX11_piece_66 fl_X11_135 (go_40 hG) rfl ?_
          refine xv_nmI hn ?_
          refine xv_iload_n dX11_piece_69 rfl rfl ?_
          refine xv_iastore dX11_piece_70 (go_53 hG) (xv_ixn (by omega) (by decide)) ?_
          refine xv_aload_n dX11_piece_71 rfl rfl ?_
          refine xv_getr dX11_piece_72 fl_X11_20 (go_40 hG) rfl (gr_40_4 hG) ?_
          refine xv_aload_n dX11_piece_75 rfl rfl ?_
          refine xv_geti dX11_piece_76 fl_X11_135 (go_40 hG) rfl ?_
          refine xv_nmI hn ?_
          refine xv_iload_n dX11_piece_79 rfl rfl ?_
          refine xv_iastore dX11_piece_80 (go_54 hG) (xv_ixn (by omega) (by decide)) ?_
          refine xv_aload_n dX11_piece_81 rfl rfl ?_
          refine xv_getr dX11_piece_82 fl_X11_23 (go_40 hG) rfl (gr_40_5 hG) ?_
          refine xv_aload_n dX11_piece_85 rfl rfl ?_
          refine xv_geti dX11_piece_86 fl_X11_135 (go_40 hG) rfl ?_
          refine xv_nmI hn ?_
          refine xv_iload dX11_piece_89 rfl ?_
          refine xv_zastore dX11_piece_91 (go_55 hG) (xv_ixn (by omega) (by decide)) hf ?_
          refine xv_aload_n dX11_piece_92 rfl rfl ?_
          refine xv_dup dX11_piece_93 rfl ?_
          refine xv_geti dX11_piece_94 fl_X11_135 (go_40 hG) rfl ?_
          refine xv_nmI hn ?_
          refine xv_iconst (v := 1) dX11_piece_97 rfl ?_
          refine xv_iadd dX11_piece_98 ?_
          refine xv_nmI (nI_1 np) ?_
          refine xv_puti dX11_piece_99 fl_X11_135 (go_40 hG) rfl rfl rfl ?_
          refine xv_aload_n dX11_piece_102 rfl rfl ?_
          refine xv_geti dX11_piece_103 fl_X11_135 (go_40 hG) rfl ?_
          refine xv_nmI (y := nI (np + 1)) rfl ?_
          refine xv_iconst (v := 1) dX11_piece_106 rfl ?_
          refine xv_isub dX11_piece_107 ?_
          refine xv_nmI (nI_pred np) ?_
          refine xv_iret dX11_piece_108 rfl (Nat.zero_le _) (Nat.zero_le _) ?_
          exact h3 ⟨c_9, c_21, c_33⟩ hlt
        · refine xv_ldc dX11_piece_48 ld_X11_138 ?_
          refine xv_iret dX11_piece_50 rfl (Nat.zero_le _) (Nat.zero_le _) ?_
          exact h2 ⟨c_9, c_21, c_33⟩ (by simp only [xn_lt, xn_le, xn_eq, hnt, Int32.reduceToInt] at *; omega)
      · refine xv_ldc dX11_piece_36 ld_X11_130 ?_
        refine xv_iret dX11_piece_38 rfl (Nat.zero_le _) (Nat.zero_le _) ?_
        exact h1 (by simp only [xn_lt, xn_le, xn_eq, hnt, Int32.reduceToInt] at *; omega)

theorem s5_hasN {l : Launch} {D : va_G} {d : Nat} {G : xv_Gr} {I : xv_I} {J : xv_J} {Q : xv_Po} (hG : xg_ok G) {np : Nat} (hn : I 1 1 = nI np) {p : Int32} (hQ : Q (some (.int (xb (decide (0 ≤ p ∧ p < nI np))))) G I J) : xv_Ev l D d mX5_has none 0 [some (.ref 1), some (.int p)] [] G I J 0 0 Q := by
  refine s5_has hG ?_
  rw [hn]
  exact hQ
theorem s10_about {l : Launch} {D : va_G} {d : Nat} {G : xv_Gr} {I : xv_I} {J : xv_J} {Q : xv_Po} (hG : xg_ok G) {np : Nat} (hn : I 1 1 = nI np) (hnp : np ≤ 12) {p w : Int32} (hU : ¬ (0 ≤ p ∧ p < nI np) → Q (some (.int (-900001))) G I J) (h0 : ∀ j, j < np → p = nI j → w = 0 → Q (some (.int (I 103 j))) G I J) (h1 : ∀ j, j < np → p = nI j → w = 1 → Q (some (.int (I 104 j))) G I J) (h2 : ∀ j, j < np → p = nI j → w = 2 → Q (some (.int (I 105 j))) G I J) (h3 : ∀ j, j < np → p = nI j → w = 3 → Q (some (.int (xbp (¬ I 106 j = 0)))) G I J) (hO : (0 ≤ p ∧ p < nI np) → ¬ (0 ≤ w ∧ w ≤ 3) → Q (some (.int (-900002))) G I J) : xv_Ev l D (d + 2) mX10_about none 0 [some (.ref 0), some (.int p), some (.int w)] [] G I J 0 0 Q := by
  have hnt : (nI np).toInt = (np : Int) := nI_toInt (by omega)
  refine xv_aload_n dX10_about_0 rfl rfl ?_
  refine xv_getr dX10_about_1 fl_X10_10 (go_0 hG) rfl (gr_0_0 hG) ?_
  refine xv_iload_n dX10_about_4 rfl rfl ?_
  refine xv_callV0 (As := [_]) dX10_about_5 cl_X10_71 rfl rfl rfl rfl (go_1 hG) rfl rfl (Nat.le_of_ble_eq_true rfl) (Nat.le_of_ble_eq_true rfl) (Nat.zero_le _) (Nat.zero_le _) ?_
  have hQ2 : (decide (0 ≤ p ∧ p < I 1 1)) = decide (0 ≤ p ∧ p < nI np) := by rw [hn]
  refine s5_hasN hG hn ?_
  refine xv_if_neD (tgt := 14) dX10_about_8 rfl (fun c_8 => ?_) (fun c_8 => ?_)
  · refine xv_iload_n dX10_about_14 rfl rfl ?_
    have hr := c_8
    obtain ⟨j, hj, rfl⟩ : ∃ j : Nat, j < np ∧ p = nI j := xn_nat (n := np) (by simp only [xn_lt, xn_le, hnt, Int32.reduceToInt] at *; omega) (by simp only [xn_lt, xn_le, hnt, Int32.reduceToInt] at *; omega) (by omega)
    rcases xn_sw3 w with rfl | rfl | rfl | rfl | hw
    · refine xv_tabIn (tgt := 44) dX10_about_15 (by decide) (by decide) rfl rfl ?_
      refine xv_aload_n dX10_about_44 rfl rfl ?_
      refine xv_getr dX10_about_45 fl_X10_10 (go_0 hG) rfl (gr_0_0 hG) ?_
      refine xv_getr dX10_about_48 fl_X10_76 (go_1 hG) rfl (gr_1_3 hG) ?_
      refine xv_iload_n dX10_about_51 rfl rfl ?_
      refine xv_iaload dX10_about_52 (go_103 hG) (xv_ixn (by omega) (by decide)) ?_
      refine xv_iret dX10_about_53 rfl (Nat.zero_le _) (Nat.zero_le _) ?_
      exact h0 j hj rfl rfl
    · refine xv_tabIn (tgt := 54) dX10_about_15 (by decide) (by decide) rfl rfl ?_
      refine xv_aload_n dX10_about_54 rfl rfl ?_
      refine xv_getr dX10_about_55 fl_X10_10 (go_0 hG) rfl (gr_0_0 hG) ?_
      refine xv_getr dX10_about_58 fl_X10_80 (go_1 hG) rfl (gr_1_4 hG) ?_
      refine xv_iload_n dX10_about_61 rfl rfl ?_
      refine xv_iaload dX10_about_62 (go_104 hG) (xv_ixn (by omega) (by decide)) ?_
      refine xv_iret dX10_about_63 rfl (Nat.zero_le _) (Nat.zero_le _) ?_
      exact h1 j hj rfl rfl
    · refine xv_tabIn (tgt := 64) dX10_about_15 (by decide) (by decide) rfl rfl ?_
      refine xv_aload_n dX10_about_64 rfl rfl ?_
      refine xv_getr dX10_about_65 fl_X10_10 (go_0 hG) rfl (gr_0_0 hG) ?_
      refine xv_getr dX10_about_68 fl_X10_83 (go_1 hG) rfl (gr_1_5 hG) ?_
      refine xv_iload_n dX10_about_71 rfl rfl ?_
      refine xv_iaload dX10_about_72 (go_105 hG) (xv_ixn (by omega) (by decide)) ?_
      refine xv_iret dX10_about_73 rfl (Nat.zero_le _) (Nat.zero_le _) ?_
      exact h2 j hj rfl rfl
    · refine xv_tabIn (tgt := 74) dX10_about_15 (by decide) (by decide) rfl rfl ?_
      refine xv_aload_n dX10_about_74 rfl rfl ?_
      refine xv_getr dX10_about_75 fl_X10_10 (go_0 hG) rfl (gr_0_0 hG) ?_
      refine xv_getr dX10_about_78 fl_X10_86 (go_1 hG) rfl (gr_1_6 hG) ?_
      refine xv_iload_n dX10_about_81 rfl rfl ?_
      refine xv_zaload dX10_about_82 (go_106 hG) (xv_ixn (by omega) (by decide)) ?_
      refine xv_if_eq (tgt := 90) dX10_about_83 rfl (fun c_83 => ?_) (fun c_83 => ?_)
      · refine xv_iconst (v := 0) dX10_about_90 rfl ?_
        refine xv_iret dX10_about_91 rfl (Nat.zero_le _) (Nat.zero_le _) ?_
        have hb := h3 j hj rfl rfl
        rw [xbp_F (fun h => h c_83)] at hb
        exact hb
      · refine xv_iconst (v := 1) dX10_about_86 rfl ?_
        refine xv_goto (tgt := 91) dX10_about_87 rfl ?_
        refine xv_iret dX10_about_91 rfl (Nat.zero_le _) (Nat.zero_le _) ?_
        have hb := h3 j hj rfl rfl
        rw [xbp_T c_83] at hb
        exact hb
    · refine xv_tabOut (tgt := 92) dX10_about_15 hw rfl ?_
      refine xv_ldc dX10_about_92 ld_X10_55 ?_
      refine xv_iret dX10_about_94 rfl (Nat.zero_le _) (Nat.zero_le _) ?_
      exact hO hr (by simp only [xn_lt, xn_le, Int32.reduceToInt] at *; omega)
  · refine xv_ldc dX10_about_11 ld_X10_75 ?_
    refine xv_iret dX10_about_13 rfl (Nat.zero_le _) (Nat.zero_le _) ?_
    exact hU c_8

theorem s11_about {l : Launch} {D : va_G} {d : Nat} {G : xv_Gr} {I : xv_I} {J : xv_J} {Q : xv_Po} (hG : xg_ok G) {np : Nat} (hn : I 40 1 = nI np) (hnp : np ≤ 12) {p w : Int32} (hU : ¬ (0 ≤ p ∧ p < nI np) → Q (some (.int (-900001))) G I J) (h0 : ∀ j, j < np → p = nI j → w = 0 → Q (some (.int (I 52 j))) G I J) (h1 : ∀ j, j < np → p = nI j → w = 1 → Q (some (.int (I 53 j))) G I J) (h2 : ∀ j, j < np → p = nI j → w = 2 → Q (some (.int (I 54 j))) G I J) (h3 : ∀ j, j < np → p = nI j → w = 3 → Q (some (.int (xbp (¬ I 55 j = 0)))) G I J) (hO : (0 ≤ p ∧ p < nI np) → ¬ (0 ≤ w ∧ w ≤ 3) → Q (some (.int (-900002))) G I J) : xv_Ev l D (d + 2) mX11_about none 0 [some (.ref 40), some (.int p), some (.int w)] [] G I J 0 0 Q := by
  have hnt : (nI np).toInt = (np : Int) := nI_toInt (by omega)
  refine xv_aload_n dX11_about_0 rfl rfl ?_
  refine xv_iload_n dX11_about_1 rfl rfl ?_
  refine xv_callV0 (As := [_]) dX11_about_2 cl_X11_139 rfl rfl rfl rfl (go_40 hG) rfl rfl (Nat.le_of_ble_eq_true rfl) (Nat.le_of_ble_eq_true rfl) (Nat.zero_le _) (Nat.zero_le _) ?_
  refine s11_isPiece hG hn hnp ?_
  refine xv_if_neD (tgt := 11) dX11_about_5 rfl (fun c_5 => ?_) (fun c_5 => ?_)
  · refine xv_iload_n dX11_about_11 rfl rfl ?_
    have hr := c_5
    obtain ⟨j, hj, rfl⟩ : ∃ j : Nat, j < np ∧ p = nI j := xn_nat (n := np) (by simp only [xn_lt, xn_le, hnt, Int32.reduceToInt] at *; omega) (by simp only [xn_lt, xn_le, hnt, Int32.reduceToInt] at *; omega) (by omega)
    rcases xn_sw3 w with rfl | rfl | rfl | rfl | hw
    · refine xv_tabIn (tgt := 44) dX11_about_12 (by decide) (by decide) rfl rfl ?_
      refine xv_aload_n dX11_about_44 rfl rfl ?_
      refine xv_getr dX11_about_45 fl_X11_13 (go_40 hG) rfl (gr_40_2 hG) ?_
      refine xv_iload_n dX11_about_48 rfl rfl ?_
      refine xv_iaload dX11_about_49 (go_52 hG) (xv_ixn (by omega) (by decide)) ?_
      refine xv_iret dX11_about_50 rfl (Nat.zero_le _) (Nat.zero_le _) ?_
      exact h0 j hj rfl rfl
    · refine xv_tabIn (tgt := 51) dX11_about_12 (by decide) (by decide) rfl rfl ?_
      refine xv_aload_n dX11_about_51 rfl rfl ?_
      refine xv_getr dX11_about_52 fl_X11_17 (go_40 hG) rfl (gr_40_3 hG) ?_
      refine xv_iload_n dX11_about_55 rfl rfl ?_
      refine xv_iaload dX11_about_56 (go_53 hG) (xv_ixn (by omega) (by decide)) ?_
      refine xv_iret dX11_about_57 rfl (Nat.zero_le _) (Nat.zero_le _) ?_
      exact h1 j hj rfl rfl
    · refine xv_tabIn (tgt := 58) dX11_about_12 (by decide) (by decide) rfl rfl ?_
      refine xv_aload_n dX11_about_58 rfl rfl ?_
      refine xv_getr dX11_about_59 fl_X11_20 (go_40 hG) rfl (gr_40_4 hG) ?_
      refine xv_iload_n dX11_about_62 rfl rfl ?_
      refine xv_iaload dX11_about_63 (go_54 hG) (xv_ixn (by omega) (by decide)) ?_
      refine xv_iret dX11_about_64 rfl (Nat.zero_le _) (Nat.zero_le _) ?_
      exact h2 j hj rfl rfl
    · refine xv_tabIn (tgt := 65) dX11_about_12 (by decide) (by decide) rfl rfl ?_
      refine xv_aload_n dX11_about_65 rfl rfl ?_
      refine xv_getr dX11_about_66 fl_X11_23 (go_40 hG) rfl (gr_40_5 hG) ?_
      refine xv_iload_n dX11_about_69 rfl rfl ?_
      refine xv_zaload dX11_about_70 (go_55 hG) (xv_ixn (by omega) (by decide)) ?_
      refine xv_if_eq (tgt := 78) dX11_about_71 rfl (fun c_71 => ?_) (fun c_71 => ?_)
      · refine xv_iconst (v := 0) dX11_about_78 rfl ?_
        refine xv_iret dX11_about_79 rfl (Nat.zero_le _) (Nat.zero_le _) ?_
        have hb := h3 j hj rfl rfl
        rw [xbp_F (fun h => h c_71)] at hb
        exact hb
      · refine xv_iconst (v := 1) dX11_about_74 rfl ?_
        refine xv_goto (tgt := 79) dX11_about_75 rfl ?_
        refine xv_iret dX11_about_79 rfl (Nat.zero_le _) (Nat.zero_le _) ?_
        have hb := h3 j hj rfl rfl
        rw [xbp_T c_71] at hb
        exact hb
    · refine xv_tabOut (tgt := 80) dX11_about_12 hw rfl ?_
      refine xv_ldc dX11_about_80 ld_X11_130 ?_
      refine xv_iret dX11_about_82 rfl (Nat.zero_le _) (Nat.zero_le _) ?_
      exact hO hr (by simp only [xn_lt, xn_le, Int32.reduceToInt] at *; omega)
  · refine xv_ldc dX11_about_8 ld_X11_143 ?_
    refine xv_iret dX11_about_10 rfl (Nat.zero_le _) (Nat.zero_le _) ?_
    exact hU c_5

theorem s5_addMeeting {l : Launch} {D : va_G} {d : Nat} {G : xv_Gr} {I : xv_I} {J : xv_J} {Q : xv_Po} (hG : xg_ok G) {nm : Nat} (hm : I 1 2 = nI nm) (hnm : nm ≤ 20) (hlt : nm < 20) {a x b y : Int32} (hQ : Q (some (.int (nI nm))) G (xv_ui (xv_ui (xv_ui (xv_ui (xv_ui I 107 nm a) 108 nm x) 109 nm b) 110 nm y) 1 2 (nI (nm + 1))) J) : xv_Ev l D d mX5_addMeeting none 0 [some (.ref 1), some (.int a), some (.int x), some (.int b), some (.int y), none] [] G I J 0 0 Q := by
  refine xv_aload_n dX5_addMeeting_0 rfl rfl ?_
  refine xv_geti dX5_addMeeting_1 fl_X5_18 (go_1 hG) rfl ?_
  refine xv_nmI hm ?_
  refine xv_istore dX5_addMeeting_4 (Nat.le_of_ble_eq_true rfl) rfl ?_
  refine xv_aload_n dX5_addMeeting_6 rfl rfl ?_
  refine xv_getr dX5_addMeeting_7 fl_X5_35 (go_1 hG) rfl (gr_1_7 hG) ?_
  refine xv_iload dX5_addMeeting_10 rfl ?_
  refine xv_iload_n dX5_addMeeting_12 rfl rfl ?_
  refine xv_iastore dX5_addMeeting_13 (go_107 hG) (xv_ixn (by omega) (by decide)) ?_
  refine xv_aload_n dX5_addMeeting_14 rfl rfl ?_
  refine xv_getr dX5_addMeeting_15 fl_X5_38 (go_1 hG) rfl (gr_1_8 hG) ?_
  refine xv_iload dX5_addMeeting_18 rfl ?_
  refine xv_iload_n dX5_addMeeting_20 rfl rfl ?_
  refine xv_iastore dX5_addMeeting_21 (go_108 hG) (xv_ixn (by omega) (by decide)) ?_
  refine xv_aload_n dX5_addMeeting_22 rfl rfl ?_
  refine xv_getr dX5_addMeeting_23 fl_X5_41 (go_1 hG) rfl (gr_1_9 hG) ?_
  refine xv_iload dX5_addMeeting_26 rfl ?_
  refine xv_iload_n dX5_addMeeting_28 rfl rfl ?_
  refine xv_iastore dX5_addMeeting_29 (go_109 hG) (xv_ixn (by omega) (by decide)) ?_
  refine xv_aload_n dX5_addMeeting_30 rfl rfl ?_
  refine xv_getr dX5_addMeeting_31 fl_X5_44 (go_1 hG) rfl (gr_1_10 hG) ?_
  refine xv_iload dX5_addMeeting_34 rfl ?_
  refine xv_iload dX5_addMeeting_36 rfl ?_
  refine xv_iastore dX5_addMeeting_38 (go_110 hG) (xv_ixn (by omega) (by decide)) ?_
  refine xv_aload_n dX5_addMeeting_39 rfl rfl ?_
  refine xv_iload dX5_addMeeting_40 rfl ?_
  refine xv_iconst (v := 1) dX5_addMeeting_42 rfl ?_
  refine xv_iadd dX5_addMeeting_43 ?_
  refine xv_nmI (nI_1 nm) ?_
  refine xv_puti dX5_addMeeting_44 fl_X5_18 (go_1 hG) rfl rfl rfl ?_
  refine xv_iload dX5_addMeeting_47 rfl ?_
  refine xv_iret dX5_addMeeting_49 rfl (Nat.zero_le _) (Nat.zero_le _) ?_
  exact hQ

theorem s10_meet {l : Launch} {D : va_G} {d : Nat} {G : xv_Gr} {I : xv_I} {J : xv_J} {Q : xv_Po} (hG : xg_ok G) {np : Nat} (hn : I 1 1 = nI np) (hnp : np ≤ 12) {nm : Nat} (hm : I 1 2 = nI nm) (hnm : nm ≤ 20) {a x b y : Int32} (h1 : ¬ ((0 ≤ a ∧ a < nI np) ∧ (0 ≤ b ∧ b < nI np)) → Q (some (.int (-900001))) G I J) (h2 : ((0 ≤ a ∧ a < nI np) ∧ (0 ≤ b ∧ b < nI np)) → ¬ ((0 ≤ x ∧ x ≤ 1) ∧ (0 ≤ y ∧ y ≤ 1)) → Q (some (.int (-900002))) G I J) (h3 : ((0 ≤ a ∧ a < nI np) ∧ (0 ≤ b ∧ b < nI np)) → ((0 ≤ x ∧ x ≤ 1) ∧ (0 ≤ y ∧ y ≤ 1)) → a = b → Q (some (.int (-900003))) G I J) (h4 : ((0 ≤ a ∧ a < nI np) ∧ (0 ≤ b ∧ b < nI np)) → ((0 ≤ x ∧ x ≤ 1) ∧ (0 ≤ y ∧ y ≤ 1)) → ¬ a = b → nm = 20 → Q (some (.int (-900004))) G I J) (h5 : ((0 ≤ a ∧ a < nI np) ∧ (0 ≤ b ∧ b < nI np)) → ((0 ≤ x ∧ x ≤ 1) ∧ (0 ≤ y ∧ y ≤ 1)) → ¬ a = b → nm < 20 → Q (some (.int (nI nm))) G (xv_ui (xv_ui (xv_ui (xv_ui (xv_ui I 107 nm a) 108 nm x) 109 nm b) 110 nm y) 1 2 (nI (nm + 1))) J) : xv_Ev l D (d + 1) mX10_meet none 0 [some (.ref 0), some (.int a), some (.int x), some (.int b), some (.int y)] [] G I J 0 0 Q := by
  have hnt : (nI np).toInt = (np : Int) := nI_toInt (by omega)
  have hmt : (nI nm).toInt = (nm : Int) := nI_toInt (by omega)
  refine xv_aload_n dX10_meet_0 rfl rfl ?_
  refine xv_getr dX10_meet_1 fl_X10_10 (go_0 hG) rfl (gr_0_0 hG) ?_
  refine xv_iload_n dX10_meet_4 rfl rfl ?_
  refine xv_callV0 (As := [_]) dX10_meet_5 cl_X10_71 rfl rfl rfl rfl (go_1 hG) rfl rfl (Nat.le_of_ble_eq_true rfl) (Nat.le_of_ble_eq_true rfl) (Nat.zero_le _) (Nat.zero_le _) ?_
  refine s5_hasN hG hn ?_
  refine xv_if_eqD (tgt := 22) dX10_meet_8 rfl (fun c_8 => ?_) (fun c_8 => ?_)
  · refine xv_ldc dX10_meet_22 ld_X10_75 ?_
    refine xv_iret dX10_meet_24 rfl (Nat.zero_le _) (Nat.zero_le _) ?_
    exact h1 (fun h => c_8 h.1)
  · refine xv_aload_n dX10_meet_11 rfl rfl ?_
    refine xv_getr dX10_meet_12 fl_X10_10 (go_0 hG) rfl (gr_0_0 hG) ?_
    refine xv_iload_n dX10_meet_15 rfl rfl ?_
    refine xv_callV0 (As := [_]) dX10_meet_16 cl_X10_71 rfl rfl rfl rfl (go_1 hG) rfl rfl (Nat.le_of_ble_eq_true rfl) (Nat.le_of_ble_eq_true rfl) (Nat.zero_le _) (Nat.zero_le _) ?_
    refine s5_hasN hG hn ?_
    refine xv_if_neD (tgt := 25) dX10_meet_19 rfl (fun c_19 => ?_) (fun c_19 => ?_)
    · refine xv_iload_n dX10_meet_25 rfl rfl ?_
      refine xv_iconst (v := 0) dX10_meet_26 rfl ?_
      refine xv_iconst (v := 1) dX10_meet_27 rfl ?_
      refine xv_callS0 (As := [_, _, _]) dX10_meet_28 cl_X10_51 rfl rfl rfl rfl (Nat.le_of_ble_eq_true rfl) (Nat.le_of_ble_eq_true rfl) (Nat.zero_le _) (Nat.zero_le _) ?_
      refine s10_isOutside ?_
      refine xv_if_neD (tgt := 44) dX10_meet_31 rfl (fun c_31 => ?_) (fun c_31 => ?_)
      · refine xv_ldc dX10_meet_44 ld_X10_55 ?_
        refine xv_iret dX10_meet_46 rfl (Nat.zero_le _) (Nat.zero_le _) ?_
        exact h2 ⟨c_8, c_19⟩ (by simp only [xn_lt, xn_le, xn_eq, hnt, hmt, Int32.reduceToInt] at *; omega)
      · refine xv_iload dX10_meet_34 rfl ?_
        refine xv_iconst (v := 0) dX10_meet_36 rfl ?_
        refine xv_iconst (v := 1) dX10_meet_37 rfl ?_
        refine xv_callS0 (As := [_, _, _]) dX10_meet_38 cl_X10_51 rfl rfl rfl rfl (Nat.le_of_ble_eq_true rfl) (Nat.le_of_ble_eq_true rfl) (Nat.zero_le _) (Nat.zero_le _) ?_
        refine s10_isOutside ?_
        refine xv_if_eqD (tgt := 47) dX10_meet_41 rfl (fun c_41 => ?_) (fun c_41 => ?_)
        · refine xv_iload_n dX10_meet_47 rfl rfl ?_
          refine xv_iload_n dX10_meet_48 rfl rfl ?_
          refine xv_icmp_ne (tgt := 55) dX10_meet_49 rfl (fun c_49 => ?_) (fun c_49 => ?_)
          · refine xv_aload_n dX10_meet_55 rfl rfl ?_
            refine xv_getr dX10_meet_56 fl_X10_10 (go_0 hG) rfl (gr_0_0 hG) ?_
            refine xv_geti dX10_meet_59 fl_X10_91 (go_1 hG) rfl ?_
            refine xv_nmI hm ?_
            refine xv_bipush (v := 20) dX10_meet_62 rfl ?_
            refine xv_icmp_lt (tgt := 70) dX10_meet_64 rfl (fun c_64 => ?_) (fun c_64 => ?_)
            · refine xv_aload_n dX10_meet_70 rfl rfl ?_
              refine xv_getr dX10_meet_71 fl_X10_10 (go_0 hG) rfl (gr_0_0 hG) ?_
              refine xv_iload_n dX10_meet_74 rfl rfl ?_
              refine xv_iload_n dX10_meet_75 rfl rfl ?_
              refine xv_iload_n dX10_meet_76 rfl rfl ?_
              refine xv_iload dX10_meet_77 rfl ?_
              refine xv_callV0 (As := [_, _, _, _]) dX10_meet_79 cl_X10_94 rfl rfl rfl rfl (go_1 hG) rfl rfl (Nat.le_of_ble_eq_true rfl) (Nat.le_of_ble_eq_true rfl) (Nat.zero_le _) (Nat.zero_le _) ?_
              have hlt : nm < 20 := (by simp only [xn_lt, xn_le, xn_eq, hnt, hmt, Int32.reduceToInt] at *; omega)
              refine s5_addMeeting hG hm hnm hlt ?_
              refine xv_iret dX10_meet_82 rfl (Nat.zero_le _) (Nat.zero_le _) ?_
              exact h5 ⟨c_8, c_19⟩ (by simp only [xn_lt, xn_le, xn_eq, hnt, hmt, Int32.reduceToInt] at *; omega) c_49 hlt
            · refine xv_ldc dX10_meet_67 ld_X10_63 ?_
              refine xv_iret dX10_meet_69 rfl (Nat.zero_le _) (Nat.zero_le _) ?_
              exact h4 ⟨c_8, c_19⟩ (by simp only [xn_lt, xn_le, xn_eq, hnt, hmt, Int32.reduceToInt] at *; omega) c_49 (by simp only [xn_lt, xn_le, xn_eq, hnt, hmt, Int32.reduceToInt] at *; omega)
          · refine xv_ldc dX10_meet_52 ld_X10_90 ?_
            refine xv_iret dX10_meet_54 rfl (Nat.zero_le _) (Nat.zero_le _) ?_
            exact h3 ⟨c_8, c_19⟩ (by simp only [xn_lt, xn_le, xn_eq, hnt, hmt, Int32.reduceToInt] at *; omega) c_49
        · refine xv_ldc dX10_meet_44 ld_X10_55 ?_
          refine xv_iret dX10_meet_46 rfl (Nat.zero_le _) (Nat.zero_le _) ?_
          exact h2 ⟨c_8, c_19⟩ (by simp only [xn_lt, xn_le, xn_eq, hnt, hmt, Int32.reduceToInt] at *; omega)
    · refine xv_ldc dX10_meet_22 ld_X10_75 ?_
      refine xv_iret dX10_meet_24 rfl (Nat.zero_le _) (Nat.zero_le _) ?_
      exact h1 (fun h => c_19 h.2)

theorem s11_meet {l : Launch} {D : va_G} {d : Nat} {G : xv_Gr} {I : xv_I} {J : xv_J} {Q : xv_Po} (hG : xg_ok G) {np : Nat} (hn : I 40 1 = nI np) (hnp : np ≤ 12) {nm : Nat} (hm : I 40 6 = nI nm) (hnm : nm ≤ 20) {a x b y : Int32} (h1 : ¬ ((0 ≤ a ∧ a < nI np) ∧ (0 ≤ b ∧ b < nI np)) → Q (some (.int (-900001))) G I J) (h2 : ((0 ≤ a ∧ a < nI np) ∧ (0 ≤ b ∧ b < nI np)) → ¬ ((0 ≤ x ∧ x ≤ 1) ∧ (0 ≤ y ∧ y ≤ 1)) → Q (some (.int (-900002))) G I J) (h3 : ((0 ≤ a ∧ a < nI np) ∧ (0 ≤ b ∧ b < nI np)) → ((0 ≤ x ∧ x ≤ 1) ∧ (0 ≤ y ∧ y ≤ 1)) → a = b → Q (some (.int (-900003))) G I J) (h4 : ((0 ≤ a ∧ a < nI np) ∧ (0 ≤ b ∧ b < nI np)) → ((0 ≤ x ∧ x ≤ 1) ∧ (0 ≤ y ∧ y ≤ 1)) → ¬ a = b → nm = 20 → Q (some (.int (-900004))) G I J) (h5 : ((0 ≤ a ∧ a < nI np) ∧ (0 ≤ b ∧ b < nI np)) → ((0 ≤ x ∧ x ≤ 1) ∧ (0 ≤ y ∧ y ≤ 1)) → ¬ a = b → nm < 20 → Q (some (.int (nI nm))) G (xv_ui (xv_ui (xv_ui (xv_ui (xv_ui I 57 nm a) 58 nm x) 59 nm b) 60 nm y) 40 6 (nI (nm + 1))) J) : xv_Ev l D (d + 2) mX11_meet none 0 [some (.ref 40), some (.int a), some (.int x), some (.int b), some (.int y)] [] G I J 0 0 Q := by
  have hnt : (nI np).toInt = (np : Int) := nI_toInt (by omega)
  have hmt : (nI nm).toInt = (nm : Int) := nI_toInt (by omega)
  refine xv_aload_n dX11_meet_0 rfl rfl ?_
  refine xv_iload_n dX11_meet_1 rfl rfl ?_
  refine xv_callV0 (As := [_]) dX11_meet_2 cl_X11_139 rfl rfl rfl rfl (go_40 hG) rfl rfl (Nat.le_of_ble_eq_true rfl) (Nat.le_of_ble_eq_true rfl) (Nat.zero_le _) (Nat.zero_le _) ?_
  refine s11_isPiece hG hn hnp ?_
  refine xv_if_eqD (tgt := 16) dX11_meet_5 rfl (fun c_5 => ?_) (fun c_5 => ?_)
  · refine xv_ldc dX11_meet_16 ld_X11_143 ?_
    refine xv_iret dX11_meet_18 rfl (Nat.zero_le _) (Nat.zero_le _) ?_
    exact h1 (fun h => c_5 h.1)
  · refine xv_aload_n dX11_meet_8 rfl rfl ?_
    refine xv_iload_n dX11_meet_9 rfl rfl ?_
    refine xv_callV0 (As := [_]) dX11_meet_10 cl_X11_139 rfl rfl rfl rfl (go_40 hG) rfl rfl (Nat.le_of_ble_eq_true rfl) (Nat.le_of_ble_eq_true rfl) (Nat.zero_le _) (Nat.zero_le _) ?_
    refine s11_isPiece hG hn hnp ?_
    refine xv_if_neD (tgt := 19) dX11_meet_13 rfl (fun c_13 => ?_) (fun c_13 => ?_)
    · refine xv_iload_n dX11_meet_19 rfl rfl ?_
      refine xv_i2l dX11_meet_20 ?_
      refine xv_lconst (v := 0) dX11_meet_21 rfl ?_
      refine xv_lconst (v := 1) dX11_meet_22 rfl ?_
      refine xv_callS0 (As := [_, _, _]) dX11_meet_23 cl_X11_126 rfl rfl rfl rfl (Nat.le_of_ble_eq_true rfl) (Nat.le_of_ble_eq_true rfl) (Nat.zero_le _) (Nat.zero_le _) ?_
      refine s11_in (a := 0) (b := 1) rfl rfl ?_
      refine xv_if_eqD (tgt := 40) dX11_meet_26 rfl (fun c_26 => ?_) (fun c_26 => ?_)
      · refine xv_ldc dX11_meet_40 ld_X11_130 ?_
        refine xv_iret dX11_meet_42 rfl (Nat.zero_le _) (Nat.zero_le _) ?_
        exact h2 ⟨c_5, c_13⟩ (fun h => c_26 h.1)
      · refine xv_iload dX11_meet_29 rfl ?_
        refine xv_i2l dX11_meet_31 ?_
        refine xv_lconst (v := 0) dX11_meet_32 rfl ?_
        refine xv_lconst (v := 1) dX11_meet_33 rfl ?_
        refine xv_callS0 (As := [_, _, _]) dX11_meet_34 cl_X11_126 rfl rfl rfl rfl (Nat.le_of_ble_eq_true rfl) (Nat.le_of_ble_eq_true rfl) (Nat.zero_le _) (Nat.zero_le _) ?_
        refine s11_in (a := 0) (b := 1) rfl rfl ?_
        refine xv_if_neD (tgt := 43) dX11_meet_37 rfl (fun c_37 => ?_) (fun c_37 => ?_)
        · refine xv_iload_n dX11_meet_43 rfl rfl ?_
          refine xv_iload_n dX11_meet_44 rfl rfl ?_
          refine xv_icmp_ne (tgt := 51) dX11_meet_45 rfl (fun c_45 => ?_) (fun c_45 => ?_)
          · refine xv_aload_n dX11_meet_51 rfl rfl ?_
            refine xv_geti dX11_meet_52 fl_X11_145 (go_40 hG) rfl ?_
            refine xv_nmI hm ?_
            refine xv_bipush (v := 20) dX11_meet_55 rfl ?_
            refine xv_icmp_ne (tgt := 63) dX11_meet_57 rfl (fun c_57 => ?_) (fun c_57 => ?_)
            · have hlt : nm < 20 := (by simp only [xn_lt, xn_le, xn_eq, hnt, hmt, Int32.reduceToInt] at *; omega)
              refine xv_aload_n dX11_meet_63 rfl rfl ?_
              refine xv_getr dX11_meet_64 fl_X11_27 (go_40 hG) rfl (gr_40_7 hG) ?_
              refine xv_aload_n dX11_meet_67 rfl rfl ?_
              refine xv_geti dX11_meet_68 fl_X11_145 (go_40 hG) rfl ?_
              refine xv_nmI hm ?_
              refine xv_iload_n dX11_meet_71 rfl rfl ?_
              refine xv_iastore dX11_meet_72 (go_57 hG) (xv_ixn (by omega) (by decide)) ?_
              refine xv_aload_n dX11_meet_73 rfl rfl ?_
              refine xv_getr dX11_meet_74 fl_X11_30 (go_40 hG) rfl (gr_40_8 hG) ?_
              refine xv_aload_n dX11_meet_77 rfl rfl ?_
              refine xv_geti dX11_meet_78 fl_X11_145 (go_40 hG) rfl ?_
              refine xv_nmI hm ?_
              refine xv_iload_n dX11_meet_81 rfl rfl ?_
              refine xv_iastore dX11_meet_82 (go_58 hG) (xv_ixn (by omega) (by decide)) ?_
              refine xv_aload_n dX11_meet_83 rfl rfl ?_
              refine xv_getr dX11_meet_84 fl_X11_33 (go_40 hG) rfl (gr_40_9 hG) ?_
              refine xv_aload_n dX11_meet_87 rfl rfl ?_
              refine xv_geti dX11_meet_88 fl_X11_145 (go_40 hG) rfl ?_
              refine xv_nmI hm ?_
              refine xv_iload_n dX11_meet_91 rfl rfl ?_
              refine xv_iastore dX11_meet_92 (go_59 hG) (xv_ixn (by omega) (by decide)) ?_
              refine xv_aload_n dX11_meet_93 rfl rfl ?_
              refine xv_getr dX11_meet_94 fl_X11_36 (go_40 hG) rfl (gr_40_10 hG) ?_
              refine xv_aload_n dX11_meet_97 rfl rfl ?_
              refine xv_geti dX11_meet_98 fl_X11_145 (go_40 hG) rfl ?_
              refine xv_nmI hm ?_
              refine xv_iload dX11_meet_101 rfl ?_
              refine xv_iastore dX11_meet_103 (go_60 hG) (xv_ixn (by omega) (by decide)) ?_
              refine xv_aload_n dX11_meet_104 rfl rfl ?_
              refine xv_dup dX11_meet_105 rfl ?_
              refine xv_geti dX11_meet_106 fl_X11_145 (go_40 hG) rfl ?_
              refine xv_nmI hm ?_
              refine xv_iconst (v := 1) dX11_meet_109 rfl ?_
              refine xv_iadd dX11_meet_110 ?_
              refine xv_nmI (nI_1 nm) ?_
              refine xv_puti dX11_meet_111 fl_X11_145 (go_40 hG) rfl rfl rfl ?_
              refine xv_aload_n dX11_meet_114 rfl rfl ?_
              refine xv_geti dX11_meet_115 fl_X11_145 (go_40 hG) rfl ?_
              refine xv_nmI (y := nI (nm + 1)) rfl ?_
              refine xv_iconst (v := 1) dX11_meet_118 rfl ?_
              refine xv_isub dX11_meet_119 ?_
              refine xv_nmI (nI_pred nm) ?_
              refine xv_iret dX11_meet_120 rfl (Nat.zero_le _) (Nat.zero_le _) ?_
              exact h5 ⟨c_5, c_13⟩ ⟨c_26, c_37⟩ c_45 hlt
            · refine xv_ldc dX11_meet_60 ld_X11_138 ?_
              refine xv_iret dX11_meet_62 rfl (Nat.zero_le _) (Nat.zero_le _) ?_
              exact h4 ⟨c_5, c_13⟩ ⟨c_26, c_37⟩ c_45 (by simp only [xn_lt, xn_le, xn_eq, hnt, hmt, Int32.reduceToInt] at *; omega)
          · refine xv_ldc dX11_meet_48 ld_X11_144 ?_
            refine xv_iret dX11_meet_50 rfl (Nat.zero_le _) (Nat.zero_le _) ?_
            exact h3 ⟨c_5, c_13⟩ ⟨c_26, c_37⟩ c_45
        · refine xv_ldc dX11_meet_40 ld_X11_130 ?_
          refine xv_iret dX11_meet_42 rfl (Nat.zero_le _) (Nat.zero_le _) ?_
          exact h2 ⟨c_5, c_13⟩ (fun h => c_37 h.2)
    · refine xv_ldc dX11_meet_16 ld_X11_143 ?_
      refine xv_iret dX11_meet_18 rfl (Nat.zero_le _) (Nat.zero_le _) ?_
      exact h1 (fun h => c_13 h.2)
