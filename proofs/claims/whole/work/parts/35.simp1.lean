/-! sort, saw, car, sure: class and model -/
theorem s10_sort {l : Launch} {D : va_G} {d : Nat} {G : xv_Gr} {I : xv_I} {J : xv_J} {Q : xv_Po} (hG : xg_ok G) {s q v : Int32} (h1 : ¬ (0 ≤ s ∧ s ≤ 3) → Q (some (.int (-900001))) G I J) (h2 : (0 ≤ s ∧ s ≤ 3) → ¬ ((0 ≤ q ∧ q ≤ 400) ∧ (0 ≤ v ∧ v ≤ 9999)) → Q (some (.int (-900002))) G I J) (h3 : ∀ j, j < 4 → s = nI j → ((0 ≤ q ∧ q ≤ 400) ∧ (0 ≤ v ∧ v ≤ 9999)) → Q (some (.int (I 130 j))) G (xv_ui (xv_ui (xv_ui I 130 j q) 131 j v) 3 3 1) J) : xv_Ev l D (d + 1) mX10_sort none 0 [some (.ref 0), some (.int s), some (.int q), some (.int v), none] [] G I J 0 0 Q := by
  refine xv_iload_n dX10_sort_0 rfl rfl ?_
  refine xv_iconst (v := 0) dX10_sort_1 rfl ?_
  refine xv_iconst (v := 3) dX10_sort_2 rfl ?_
  refine xv_callS0 (As := [_, _, _]) dX10_sort_3 cl_X10_51 rfl rfl rfl rfl (Nat.le_of_ble_eq_true rfl) (Nat.le_of_ble_eq_true rfl) (Nat.zero_le _) (Nat.zero_le _) ?_
  refine s10_isOutside ?_
  refine xv_if_eqD (tgt := 12) dX10_sort_6 rfl (fun c_6 => ?_) (fun c_6 => ?_)
  · refine xv_iload_n dX10_sort_12 rfl rfl ?_
    refine xv_iconst (v := 0) dX10_sort_13 rfl ?_
    refine xv_sipush (v := 400) dX10_sort_14 rfl ?_
    refine xv_callS0 (As := [_, _, _]) dX10_sort_17 cl_X10_51 rfl rfl rfl rfl (Nat.le_of_ble_eq_true rfl) (Nat.le_of_ble_eq_true rfl) (Nat.zero_le _) (Nat.zero_le _) ?_
    refine s10_isOutside ?_
    refine xv_if_neD (tgt := 34) dX10_sort_20 rfl (fun c_20 => ?_) (fun c_20 => ?_)
    · refine xv_ldc dX10_sort_34 ld_X10_55 ?_
      refine xv_iret dX10_sort_36 rfl (Nat.zero_le _) (Nat.zero_le _) ?_
      exact h2 (by simp only [xn_lt, xn_le, Int32.reduceToInt] at *; omega) (by simp only [xn_lt, xn_le, Int32.reduceToInt] at *; omega)
    · refine xv_iload_n dX10_sort_23 rfl rfl ?_
      refine xv_iconst (v := 0) dX10_sort_24 rfl ?_
      refine xv_sipush (v := 9999) dX10_sort_25 rfl ?_
      refine xv_callS0 (As := [_, _, _]) dX10_sort_28 cl_X10_51 rfl rfl rfl rfl (Nat.le_of_ble_eq_true rfl) (Nat.le_of_ble_eq_true rfl) (Nat.zero_le _) (Nat.zero_le _) ?_
      refine s10_isOutside ?_
      refine xv_if_eqD (tgt := 37) dX10_sort_31 rfl (fun c_31 => ?_) (fun c_31 => ?_)
      · have hLP : ((0 ≤ q ∧ q ≤ 400) ∧ (0 ≤ v ∧ v ≤ 9999)) := (by simp only [xn_lt, xn_le, Int32.reduceToInt] at *; omega)
        have hS : (0 ≤ s ∧ s ≤ 3) := (by simp only [xn_lt, xn_le, Int32.reduceToInt] at *; omega)
        obtain ⟨j, hj, rfl⟩ : ∃ j : Nat, j < 4 ∧ s = nI j := xn_nat (n := 4) (by have h := hS; simp only [xn_lt, xn_le, Int32.reduceToInt] at h; omega) (by have h := hS; simp only [xn_lt, xn_le, Int32.reduceToInt] at h; omega) (by omega)
        refine xv_aload_n dX10_sort_37 rfl rfl ?_
        refine xv_getr dX10_sort_38 fl_X10_26 (go_0 hG) rfl (gr_0_2 hG) ?_
        refine xv_getr dX10_sort_41 fl_X10_148 (go_3 hG) rfl (gr_3_0 hG) ?_
        refine xv_iload_n dX10_sort_44 rfl rfl ?_
        refine xv_iaload dX10_sort_45 (go_130 hG) (xv_ixn (by omega) (by decide)) ?_
        refine xv_istore dX10_sort_46 (Nat.le_of_ble_eq_true rfl) rfl ?_
        refine xv_aload_n dX10_sort_48 rfl rfl ?_
        refine xv_getr dX10_sort_49 fl_X10_26 (go_0 hG) rfl (gr_0_2 hG) ?_
        refine xv_getr dX10_sort_52 fl_X10_148 (go_3 hG) rfl (gr_3_0 hG) ?_
        refine xv_iload_n dX10_sort_55 rfl rfl ?_
        refine xv_iload_n dX10_sort_56 rfl rfl ?_
        refine xv_iastore dX10_sort_57 (go_130 hG) (xv_ixn (by omega) (by decide)) ?_
        refine xv_aload_n dX10_sort_58 rfl rfl ?_
        refine xv_getr dX10_sort_59 fl_X10_26 (go_0 hG) rfl (gr_0_2 hG) ?_
        refine xv_getr dX10_sort_62 fl_X10_151 (go_3 hG) rfl (gr_3_1 hG) ?_
        refine xv_iload_n dX10_sort_65 rfl rfl ?_
        refine xv_iload_n dX10_sort_66 rfl rfl ?_
        refine xv_iastore dX10_sort_67 (go_131 hG) (xv_ixn (by omega) (by decide)) ?_
        refine xv_aload_n dX10_sort_68 rfl rfl ?_
        refine xv_getr dX10_sort_69 fl_X10_26 (go_0 hG) rfl (gr_0_2 hG) ?_
        refine xv_iconst (v := 1) dX10_sort_72 rfl ?_
        refine xv_puti dX10_sort_73 fl_X10_154 (go_3 hG) rfl rfl rfl ?_
        refine xv_iload dX10_sort_76 rfl ?_
        refine xv_iret dX10_sort_78 rfl (Nat.zero_le _) (Nat.zero_le _) ?_
        exact h3 j hj rfl hLP
      · refine xv_ldc dX10_sort_34 ld_X10_55 ?_
        refine xv_iret dX10_sort_36 rfl (Nat.zero_le _) (Nat.zero_le _) ?_
        exact h2 (by simp only [xn_lt, xn_le, Int32.reduceToInt] at *; omega) (by simp only [xn_lt, xn_le, Int32.reduceToInt] at *; omega)
  · refine xv_ldc dX10_sort_9 ld_X10_75 ?_
    refine xv_iret dX10_sort_11 rfl (Nat.zero_le _) (Nat.zero_le _) ?_
    exact h1 (by simp only [xn_lt, xn_le, Int32.reduceToInt] at *; omega)

theorem s11_sort {l : Launch} {D : va_G} {d : Nat} {G : xv_Gr} {I : xv_I} {J : xv_J} {Q : xv_Po} (hG : xg_ok G) {s q v : Int32} (h1 : ¬ (0 ≤ s ∧ s ≤ 3) → Q (some (.int (-900001))) G I J) (h2 : (0 ≤ s ∧ s ≤ 3) → ¬ ((0 ≤ q ∧ q ≤ 400) ∧ (0 ≤ v ∧ v ≤ 9999)) → Q (some (.int (-900002))) G I J) (h3 : ∀ j, j < 4 → s = nI j → ((0 ≤ q ∧ q ≤ 400) ∧ (0 ≤ v ∧ v ≤ 9999)) → Q (some (.int (I 63 j))) G (xv_ui (xv_ui I 63 j q) 64 j v) J) : xv_Ev l D (d + 1) mX11_sort none 0 [some (.ref 40), some (.int s), some (.int q), some (.int v), none] [] G I J 0 0 Q := by
  refine xv_iload_n dX11_sort_0 rfl rfl ?_
  refine xv_i2l dX11_sort_1 ?_
  refine xv_lconst (v := 0) dX11_sort_2 rfl ?_
  refine xv_ldc2 dX11_sort_3 ld_X11_179 ?_
  refine xv_callS0 (As := [_, _, _]) dX11_sort_6 cl_X11_126 rfl rfl rfl rfl (Nat.le_of_ble_eq_true rfl) (Nat.le_of_ble_eq_true rfl) (Nat.zero_le _) (Nat.zero_le _) ?_
  refine s11_in (a := 0) (b := 3) rfl rfl ?_
  refine xv_if_neD (tgt := 15) dX11_sort_9 rfl (fun c_9 => ?_) (fun c_9 => ?_)
  · refine xv_iload_n dX11_sort_15 rfl rfl ?_
    refine xv_i2l dX11_sort_16 ?_
    refine xv_lconst (v := 0) dX11_sort_17 rfl ?_
    refine xv_ldc2 dX11_sort_18 ld_X11_124 ?_
    refine xv_callS0 (As := [_, _, _]) dX11_sort_21 cl_X11_126 rfl rfl rfl rfl (Nat.le_of_ble_eq_true rfl) (Nat.le_of_ble_eq_true rfl) (Nat.zero_le _) (Nat.zero_le _) ?_
    refine s11_in (a := 0) (b := 400) rfl rfl ?_
    refine xv_if_eqD (tgt := 39) dX11_sort_24 rfl (fun c_24 => ?_) (fun c_24 => ?_)
    · refine xv_ldc dX11_sort_39 ld_X11_130 ?_
      refine xv_iret dX11_sort_41 rfl (Nat.zero_le _) (Nat.zero_le _) ?_
      exact h2 c_9 (fun h => c_24 h.1)
    · refine xv_iload_n dX11_sort_27 rfl rfl ?_
      refine xv_i2l dX11_sort_28 ?_
      refine xv_lconst (v := 0) dX11_sort_29 rfl ?_
      refine xv_ldc2 dX11_sort_30 ld_X11_181 ?_
      refine xv_callS0 (As := [_, _, _]) dX11_sort_33 cl_X11_126 rfl rfl rfl rfl (Nat.le_of_ble_eq_true rfl) (Nat.le_of_ble_eq_true rfl) (Nat.zero_le _) (Nat.zero_le _) ?_
      refine s11_in (a := 0) (b := 9999) rfl rfl ?_
      refine xv_if_neD (tgt := 42) dX11_sort_36 rfl (fun c_36 => ?_) (fun c_36 => ?_)
      · have hS := c_9
        obtain ⟨j, hj, rfl⟩ : ∃ j : Nat, j < 4 ∧ s = nI j := xn_nat (n := 4) (by have h := hS; simp only [xn_lt, xn_le, Int32.reduceToInt] at h; omega) (by have h := hS; simp only [xn_lt, xn_le, Int32.reduceToInt] at h; omega) (by omega)
        refine xv_aload_n dX11_sort_42 rfl rfl ?_
        refine xv_getr dX11_sort_43 fl_X11_45 (go_40 hG) rfl (gr_40_13 hG) ?_
        refine xv_iload_n dX11_sort_46 rfl rfl ?_
        refine xv_iaload dX11_sort_47 (go_63 hG) (xv_ixn (by omega) (by decide)) ?_
        refine xv_istore dX11_sort_48 (Nat.le_of_ble_eq_true rfl) rfl ?_
        refine xv_aload_n dX11_sort_50 rfl rfl ?_
        refine xv_getr dX11_sort_51 fl_X11_45 (go_40 hG) rfl (gr_40_13 hG) ?_
        refine xv_iload_n dX11_sort_54 rfl rfl ?_
        refine xv_iload_n dX11_sort_55 rfl rfl ?_
        refine xv_iastore dX11_sort_56 (go_63 hG) (xv_ixn (by omega) (by decide)) ?_
        refine xv_aload_n dX11_sort_57 rfl rfl ?_
        refine xv_getr dX11_sort_58 fl_X11_48 (go_40 hG) rfl (gr_40_14 hG) ?_
        refine xv_iload_n dX11_sort_61 rfl rfl ?_
        refine xv_iload_n dX11_sort_62 rfl rfl ?_
        refine xv_iastore dX11_sort_63 (go_64 hG) (xv_ixn (by omega) (by decide)) ?_
        refine xv_iload dX11_sort_64 rfl ?_
        refine xv_iret dX11_sort_66 rfl (Nat.zero_le _) (Nat.zero_le _) ?_
        exact h3 j hj rfl ⟨c_24, c_36⟩
      · refine xv_ldc dX11_sort_39 ld_X11_130 ?_
        refine xv_iret dX11_sort_41 rfl (Nat.zero_le _) (Nat.zero_le _) ?_
        exact h2 c_9 (fun h => c_36 h.2)
  · refine xv_ldc dX11_sort_12 ld_X11_143 ?_
    refine xv_iret dX11_sort_14 rfl (Nat.zero_le _) (Nat.zero_le _) ?_
    exact h1 c_9

theorem s10_saw {l : Launch} {D : va_G} {d : Nat} {G : xv_Gr} {I : xv_I} {J : xv_J} {Q : xv_Po} (hG : xg_ok G) {v : Int32} (h1 : ¬ (0 ≤ v ∧ v ≤ 9) → Q (some (.int (-900002))) G I J) (h2 : (0 ≤ v ∧ v ≤ 9) → Q (some (.int (I 3 2))) G (xv_ui (xv_ui I 3 2 v) 3 3 1) J) : xv_Ev l D (d + 1) mX10_saw none 0 [some (.ref 0), some (.int v), none] [] G I J 0 0 Q := by
  refine xv_iload_n dX10_saw_0 rfl rfl ?_
  refine xv_iconst (v := 0) dX10_saw_1 rfl ?_
  refine xv_bipush (v := 9) dX10_saw_2 rfl ?_
  refine xv_callS0 (As := [_, _, _]) dX10_saw_4 cl_X10_51 rfl rfl rfl rfl (Nat.le_of_ble_eq_true rfl) (Nat.le_of_ble_eq_true rfl) (Nat.zero_le _) (Nat.zero_le _) ?_
  refine s10_isOutside ?_
  refine xv_if_eqD (tgt := 13) dX10_saw_7 rfl (fun c_7 => ?_) (fun c_7 => ?_)
  · refine xv_aload_n dX10_saw_13 rfl rfl ?_
    refine xv_getr dX10_saw_14 fl_X10_26 (go_0 hG) rfl (gr_0_2 hG) ?_
    refine xv_geti dX10_saw_17 fl_X10_155 (go_3 hG) rfl ?_
    refine xv_istore_n dX10_saw_20 rfl (Nat.le_of_ble_eq_true rfl) rfl ?_
    refine xv_aload_n dX10_saw_21 rfl rfl ?_
    refine xv_getr dX10_saw_22 fl_X10_26 (go_0 hG) rfl (gr_0_2 hG) ?_
    refine xv_iload_n dX10_saw_25 rfl rfl ?_
    refine xv_puti dX10_saw_26 fl_X10_155 (go_3 hG) rfl rfl rfl ?_
    refine xv_aload_n dX10_saw_29 rfl rfl ?_
    refine xv_getr dX10_saw_30 fl_X10_26 (go_0 hG) rfl (gr_0_2 hG) ?_
    refine xv_iconst (v := 1) dX10_saw_33 rfl ?_
    refine xv_puti dX10_saw_34 fl_X10_154 (go_3 hG) rfl rfl rfl ?_
    refine xv_iload_n dX10_saw_37 rfl rfl ?_
    refine xv_iret dX10_saw_38 rfl (Nat.zero_le _) (Nat.zero_le _) ?_
    exact h2 (by simp only [xn_lt, xn_le, Int32.reduceToInt] at *; omega)
  · refine xv_ldc dX10_saw_10 ld_X10_55 ?_
    refine xv_iret dX10_saw_12 rfl (Nat.zero_le _) (Nat.zero_le _) ?_
    exact h1 (by simp only [xn_lt, xn_le, Int32.reduceToInt] at *; omega)

theorem s11_saw {l : Launch} {D : va_G} {d : Nat} {G : xv_Gr} {I : xv_I} {J : xv_J} {Q : xv_Po} (hG : xg_ok G) {v : Int32} (h1 : ¬ (0 ≤ v ∧ v ≤ 9) → Q (some (.int (-900002))) G I J) (h2 : (0 ≤ v ∧ v ≤ 9) → Q (some (.int (I 40 15))) G (xv_ui I 40 15 v) J) : xv_Ev l D (d + 1) mX11_saw none 0 [some (.ref 40), some (.int v), none] [] G I J 0 0 Q := by
  refine xv_iload_n dX11_saw_0 rfl rfl ?_
  refine xv_i2l dX11_saw_1 ?_
  refine xv_lconst (v := 0) dX11_saw_2 rfl ?_
  refine xv_ldc2 dX11_saw_3 ld_X11_133 ?_
  refine xv_callS0 (As := [_, _, _]) dX11_saw_6 cl_X11_126 rfl rfl rfl rfl (Nat.le_of_ble_eq_true rfl) (Nat.le_of_ble_eq_true rfl) (Nat.zero_le _) (Nat.zero_le _) ?_
  refine s11_in (a := 0) (b := 9) rfl rfl ?_
  refine xv_if_neD (tgt := 15) dX11_saw_9 rfl (fun c_9 => ?_) (fun c_9 => ?_)
  · refine xv_aload_n dX11_saw_15 rfl rfl ?_
    refine xv_geti dX11_saw_16 fl_X11_51 (go_40 hG) rfl ?_
    refine xv_istore_n dX11_saw_19 rfl (Nat.le_of_ble_eq_true rfl) rfl ?_
    refine xv_aload_n dX11_saw_20 rfl rfl ?_
    refine xv_iload_n dX11_saw_21 rfl rfl ?_
    refine xv_puti dX11_saw_22 fl_X11_51 (go_40 hG) rfl rfl rfl ?_
    refine xv_iload_n dX11_saw_25 rfl rfl ?_
    refine xv_iret dX11_saw_26 rfl (Nat.zero_le _) (Nat.zero_le _) ?_
    exact h2 c_9
  · refine xv_ldc dX11_saw_12 ld_X11_130 ?_
    refine xv_iret dX11_saw_14 rfl (Nat.zero_le _) (Nat.zero_le _) ?_
    exact h1 c_9

theorem s10_sure {l : Launch} {D : va_G} {d : Nat} {G : xv_Gr} {I : xv_I} {J : xv_J} {Q : xv_Po} (hG : xg_ok G) {v : Int32} (h1 : ¬ (0 ≤ v ∧ v ≤ 100) → Q (some (.int (-900002))) G I J) (h2 : (0 ≤ v ∧ v ≤ 100) → Q (some (.int (I 5 1))) G (xv_ui (xv_ui I 5 1 v) 5 2 1) J) : xv_Ev l D (d + 1) mX10_sure none 0 [some (.ref 0), some (.int v), none] [] G I J 0 0 Q := by
  refine xv_iload_n dX10_sure_0 rfl rfl ?_
  refine xv_iconst (v := 0) dX10_sure_1 rfl ?_
  refine xv_bipush (v := 100) dX10_sure_2 rfl ?_
  refine xv_callS0 (As := [_, _, _]) dX10_sure_4 cl_X10_51 rfl rfl rfl rfl (Nat.le_of_ble_eq_true rfl) (Nat.le_of_ble_eq_true rfl) (Nat.zero_le _) (Nat.zero_le _) ?_
  refine s10_isOutside ?_
  refine xv_if_eqD (tgt := 13) dX10_sure_7 rfl (fun c_7 => ?_) (fun c_7 => ?_)
  · refine xv_aload_n dX10_sure_13 rfl rfl ?_
    refine xv_getr dX10_sure_14 fl_X10_40 (go_0 hG) rfl (gr_0_4 hG) ?_
    refine xv_geti dX10_sure_17 fl_X10_201 (go_5 hG) rfl ?_
    refine xv_istore_n dX10_sure_20 rfl (Nat.le_of_ble_eq_true rfl) rfl ?_
    refine xv_aload_n dX10_sure_21 rfl rfl ?_
    refine xv_getr dX10_sure_22 fl_X10_40 (go_0 hG) rfl (gr_0_4 hG) ?_
    refine xv_iload_n dX10_sure_25 rfl rfl ?_
    refine xv_puti dX10_sure_26 fl_X10_201 (go_5 hG) rfl rfl rfl ?_
    refine xv_aload_n dX10_sure_29 rfl rfl ?_
    refine xv_getr dX10_sure_30 fl_X10_40 (go_0 hG) rfl (gr_0_4 hG) ?_
    refine xv_iconst (v := 1) dX10_sure_33 rfl ?_
    refine xv_puti dX10_sure_34 fl_X10_204 (go_5 hG) rfl rfl rfl ?_
    refine xv_iload_n dX10_sure_37 rfl rfl ?_
    refine xv_iret dX10_sure_38 rfl (Nat.zero_le _) (Nat.zero_le _) ?_
    exact h2 (by simp only [xn_lt, xn_le, Int32.reduceToInt] at *; omega)
  · refine xv_ldc dX10_sure_10 ld_X10_55 ?_
    refine xv_iret dX10_sure_12 rfl (Nat.zero_le _) (Nat.zero_le _) ?_
    exact h1 (by simp only [xn_lt, xn_le, Int32.reduceToInt] at *; omega)

theorem s11_sure {l : Launch} {D : va_G} {d : Nat} {G : xv_Gr} {I : xv_I} {J : xv_J} {Q : xv_Po} (hG : xg_ok G) {v : Int32} (h1 : ¬ (0 ≤ v ∧ v ≤ 100) → Q (some (.int (-900002))) G I J) (h2 : (0 ≤ v ∧ v ≤ 100) → Q (some (.int (I 40 27))) G (xv_ui I 40 27 v) J) : xv_Ev l D (d + 1) mX11_sure none 0 [some (.ref 40), some (.int v), none] [] G I J 0 0 Q := by
  refine xv_iload_n dX11_sure_0 rfl rfl ?_
  refine xv_i2l dX11_sure_1 ?_
  refine xv_lconst (v := 0) dX11_sure_2 rfl ?_
  refine xv_ldc2 dX11_sure_3 ld_X11_161 ?_
  refine xv_callS0 (As := [_, _, _]) dX11_sure_6 cl_X11_126 rfl rfl rfl rfl (Nat.le_of_ble_eq_true rfl) (Nat.le_of_ble_eq_true rfl) (Nat.zero_le _) (Nat.zero_le _) ?_
  refine s11_in (a := 0) (b := 100) rfl rfl ?_
  refine xv_if_neD (tgt := 15) dX11_sure_9 rfl (fun c_9 => ?_) (fun c_9 => ?_)
  · refine xv_aload_n dX11_sure_15 rfl rfl ?_
    refine xv_geti dX11_sure_16 fl_X11_81 (go_40 hG) rfl ?_
    refine xv_istore_n dX11_sure_19 rfl (Nat.le_of_ble_eq_true rfl) rfl ?_
    refine xv_aload_n dX11_sure_20 rfl rfl ?_
    refine xv_iload_n dX11_sure_21 rfl rfl ?_
    refine xv_puti dX11_sure_22 fl_X11_81 (go_40 hG) rfl rfl rfl ?_
    refine xv_iload_n dX11_sure_25 rfl rfl ?_
    refine xv_iret dX11_sure_26 rfl (Nat.zero_le _) (Nat.zero_le _) ?_
    exact h2 c_9
  · refine xv_ldc dX11_sure_12 ld_X11_130 ?_
    refine xv_iret dX11_sure_14 rfl (Nat.zero_le _) (Nat.zero_le _) ?_
    exact h1 c_9

theorem s10_car {l : Launch} {D : va_G} {d : Nat} {G : xv_Gr} {I : xv_I} {J : xv_J} {Q : xv_Po} (hG : xg_ok G) {s v : Int32} (h1 : ¬ (0 ≤ s ∧ s ≤ 1) → Q (some (.int (-900001))) G I J) (h2 : (0 ≤ s ∧ s ≤ 1) → ¬ (1 ≤ v ∧ v ≤ 3000) → Q (some (.int (-900002))) G I J) (h3 : ∀ j, j < 2 → s = nI j → (1 ≤ v ∧ v ≤ 3000) → Q (some (.int (I 150 j))) G (xv_ui (xv_ui I 150 j v) 4 1 1) J) : xv_Ev l D (d + 1) mX10_car none 0 [some (.ref 0), some (.int s), some (.int v), none] [] G I J 0 0 Q := by
  refine xv_iload_n dX10_car_0 rfl rfl ?_
  refine xv_iconst (v := 0) dX10_car_1 rfl ?_
  refine xv_iconst (v := 1) dX10_car_2 rfl ?_
  refine xv_callS0 (As := [_, _, _]) dX10_car_3 cl_X10_51 rfl rfl rfl rfl (Nat.le_of_ble_eq_true rfl) (Nat.le_of_ble_eq_true rfl) (Nat.zero_le _) (Nat.zero_le _) ?_
  refine s10_isOutside ?_
  refine xv_if_eqD (tgt := 12) dX10_car_6 rfl (fun c_6 => ?_) (fun c_6 => ?_)
  · refine xv_iload_n dX10_car_12 rfl rfl ?_
    refine xv_iconst (v := 1) dX10_car_13 rfl ?_
    refine xv_sipush (v := 3000) dX10_car_14 rfl ?_
    refine xv_callS0 (As := [_, _, _]) dX10_car_17 cl_X10_51 rfl rfl rfl rfl (Nat.le_of_ble_eq_true rfl) (Nat.le_of_ble_eq_true rfl) (Nat.zero_le _) (Nat.zero_le _) ?_
    refine s10_isOutside ?_
    refine xv_if_eqD (tgt := 26) dX10_car_20 rfl (fun c_20 => ?_) (fun c_20 => ?_)
    · have hV : (1 ≤ v ∧ v ≤ 3000) := (by simp only [xn_lt, xn_le, Int32.reduceToInt] at *; omega)
      have hS : (0 ≤ s ∧ s ≤ 1) := (by simp only [xn_lt, xn_le, Int32.reduceToInt] at *; omega)
      obtain ⟨j, hj, rfl⟩ : ∃ j : Nat, j < 2 ∧ s = nI j := xn_nat (n := 2) (by have h := hS; simp only [xn_lt, xn_le, Int32.reduceToInt] at h; omega) (by have h := hS; simp only [xn_lt, xn_le, Int32.reduceToInt] at h; omega) (by omega)
      refine xv_aload_n dX10_car_26 rfl rfl ?_
      refine xv_getr dX10_car_27 fl_X10_33 (go_0 hG) rfl (gr_0_3 hG) ?_
      refine xv_getr dX10_car_30 fl_X10_179 (go_4 hG) rfl (gr_4_0 hG) ?_
      refine xv_iload_n dX10_car_33 rfl rfl ?_
      refine xv_iaload dX10_car_34 (go_150 hG) (xv_ixn (by omega) (by decide)) ?_
      refine xv_istore_n dX10_car_35 rfl (Nat.le_of_ble_eq_true rfl) rfl ?_
      refine xv_aload_n dX10_car_36 rfl rfl ?_
      refine xv_getr dX10_car_37 fl_X10_33 (go_0 hG) rfl (gr_0_3 hG) ?_
      refine xv_getr dX10_car_40 fl_X10_179 (go_4 hG) rfl (gr_4_0 hG) ?_
      refine xv_iload_n dX10_car_43 rfl rfl ?_
      refine xv_iload_n dX10_car_44 rfl rfl ?_
      refine xv_iastore dX10_car_45 (go_150 hG) (xv_ixn (by omega) (by decide)) ?_
      refine xv_aload_n dX10_car_46 rfl rfl ?_
      refine xv_getr dX10_car_47 fl_X10_33 (go_0 hG) rfl (gr_0_3 hG) ?_
      refine xv_iconst (v := 1) dX10_car_50 rfl ?_
      refine xv_puti dX10_car_51 fl_X10_124 (go_4 hG) rfl rfl rfl ?_
      refine xv_iload_n dX10_car_54 rfl rfl ?_
      refine xv_iret dX10_car_55 rfl (Nat.zero_le _) (Nat.zero_le _) ?_
      exact h3 j hj rfl hV
    · refine xv_ldc dX10_car_23 ld_X10_55 ?_
      refine xv_iret dX10_car_25 rfl (Nat.zero_le _) (Nat.zero_le _) ?_
      exact h2 (by simp only [xn_lt, xn_le, Int32.reduceToInt] at *; omega) (by simp only [xn_lt, xn_le, Int32.reduceToInt] at *; omega)
  · refine xv_ldc dX10_car_9 ld_X10_75 ?_
    refine xv_iret dX10_car_11 rfl (Nat.zero_le _) (Nat.zero_le _) ?_
    exact h1 (by simp only [xn_lt, xn_le, Int32.reduceToInt] at *; omega)

theorem s11_car {l : Launch} {D : va_G} {d : Nat} {G : xv_Gr} {I : xv_I} {J : xv_J} {Q : xv_Po} (hG : xg_ok G) {s v : Int32} (h1 : ¬ (0 ≤ s ∧ s ≤ 1) → Q (some (.int (-900001))) G I J) (h2 : (0 ≤ s ∧ s ≤ 1) → ¬ (1 ≤ v ∧ v ≤ 3000) → Q (some (.int (-900002))) G I J) (h3 : ∀ j, j < 2 → s = nI j → (1 ≤ v ∧ v ≤ 3000) → Q (some (.int (I 73 j))) G (xv_ui I 73 j v) J) : xv_Ev l D (d + 1) mX11_car none 0 [some (.ref 40), some (.int s), some (.int v), none] [] G I J 0 0 Q := by
  refine xv_iload_n dX11_car_0 rfl rfl ?_
  refine xv_i2l dX11_car_1 ?_
  refine xv_lconst (v := 0) dX11_car_2 rfl ?_
  refine xv_lconst (v := 1) dX11_car_3 rfl ?_
  refine xv_callS0 (As := [_, _, _]) dX11_car_4 cl_X11_126 rfl rfl rfl rfl (Nat.le_of_ble_eq_true rfl) (Nat.le_of_ble_eq_true rfl) (Nat.zero_le _) (Nat.zero_le _) ?_
  refine s11_in (a := 0) (b := 1) rfl rfl ?_
  refine xv_if_neD (tgt := 13) dX11_car_7 rfl (fun c_7 => ?_) (fun c_7 => ?_)
  · refine xv_iload_n dX11_car_13 rfl rfl ?_
    refine xv_i2l dX11_car_14 ?_
    refine xv_lconst (v := 1) dX11_car_15 rfl ?_
    refine xv_ldc2 dX11_car_16 ld_X11_206 ?_
    refine xv_callS0 (As := [_, _, _]) dX11_car_19 cl_X11_126 rfl rfl rfl rfl (Nat.le_of_ble_eq_true rfl) (Nat.le_of_ble_eq_true rfl) (Nat.zero_le _) (Nat.zero_le _) ?_
    refine s11_in (a := 1) (b := 3000) rfl rfl ?_
    refine xv_if_neD (tgt := 28) dX11_car_22 rfl (fun c_22 => ?_) (fun c_22 => ?_)
    · have hS := c_7
      obtain ⟨j, hj, rfl⟩ : ∃ j : Nat, j < 2 ∧ s = nI j := xn_nat (n := 2) (by have h := hS; simp only [xn_lt, xn_le, Int32.reduceToInt] at h; omega) (by have h := hS; simp only [xn_lt, xn_le, Int32.reduceToInt] at h; omega) (by omega)
      refine xv_aload_n dX11_car_28 rfl rfl ?_
      refine xv_getr dX11_car_29 fl_X11_72 (go_40 hG) rfl (gr_40_23 hG) ?_
      refine xv_iload_n dX11_car_32 rfl rfl ?_
      refine xv_iaload dX11_car_33 (go_73 hG) (xv_ixn (by omega) (by decide)) ?_
      refine xv_istore_n dX11_car_34 rfl (Nat.le_of_ble_eq_true rfl) rfl ?_
      refine xv_aload_n dX11_car_35 rfl rfl ?_
      refine xv_getr dX11_car_36 fl_X11_72 (go_40 hG) rfl (gr_40_23 hG) ?_
      refine xv_iload_n dX11_car_39 rfl rfl ?_
      refine xv_iload_n dX11_car_40 rfl rfl ?_
      refine xv_iastore dX11_car_41 (go_73 hG) (xv_ixn (by omega) (by decide)) ?_
      refine xv_iload_n dX11_car_42 rfl rfl ?_
      refine xv_iret dX11_car_43 rfl (Nat.zero_le _) (Nat.zero_le _) ?_
      exact h3 j hj rfl c_22
    · refine xv_ldc dX11_car_25 ld_X11_130 ?_
      refine xv_iret dX11_car_27 rfl (Nat.zero_le _) (Nat.zero_le _) ?_
      exact h2 c_7 c_22
  · refine xv_ldc dX11_car_10 ld_X11_143 ?_
    refine xv_iret dX11_car_12 rfl (Nat.zero_le _) (Nat.zero_le _) ?_
    exact h1 c_7
