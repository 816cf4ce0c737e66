/-! loans of the model -/
theorem s11_isLoan {l : Launch} {D : va_G} {d : Nat} {G : xv_Gr} {I : xv_I} {J : xv_J} {Q : xv_Po} (hG : xg_ok G) {nl : Nat} (hnl : I 40 29 = nI nl) (hl8 : nl ≤ 8) {x : Int32} (hQ : Q (some (.int (xb (decide (0 ≤ x ∧ x < nI nl))))) G I J) : xv_Ev l D (d + 1) mX11_isLoan none 0 [some (.ref 40), some (.int x)] [] G I J 0 0 Q := by
  refine xv_iload_n dX11_isLoan_0 rfl rfl ?_
  refine xv_i2l dX11_isLoan_1 ?_
  refine xv_lconst (v := 0) dX11_isLoan_2 rfl ?_
  refine xv_aload_n dX11_isLoan_3 rfl rfl ?_
  refine xv_geti dX11_isLoan_4 fl_X11_237 (go_40 hG) rfl ?_
  refine xv_nmI hnl ?_
  refine xv_iconst (v := 1) dX11_isLoan_7 rfl ?_
  refine xv_isub dX11_isLoan_8 ?_
  refine xv_i2l dX11_isLoan_9 ?_
  refine xv_callS0 (As := [_, _, _]) dX11_isLoan_10 cl_X11_126 rfl rfl rfl rfl (Nat.le_of_ble_eq_true rfl) (Nat.le_of_ble_eq_true rfl) (Nat.zero_le _) (Nat.zero_le _) ?_
  have e : (decide ((0 : Int32) ≤ x ∧ x ≤ nI nl - 1)) = decide (0 ≤ x ∧ x < nI nl) := by
    apply decide_eq_decide.mpr
    have h1 : (nI nl - 1).toInt = (nl : Int) - 1 := pk_sub_toInt (b := 1) (by omega) (by omega)
    have h2 : (nI nl).toInt = nl := nI_toInt (by omega)
    simp only [xn_le, xn_lt, h1, h2]
    omega
  rw [← e] at hQ
  refine s11_in (a := 0) (b := nI nl - 1) rfl rfl ?_
  refine xv_zretB dX11_isLoan_13 rfl (Nat.zero_le _) (Nat.zero_le _) ?_
  exact hQ

theorem s11_nowOf {l : Launch} {D : va_G} {d : Nat} {G : xv_Gr} {I : xv_I} {J : xv_J} {Q : xv_Po} (hG : xg_ok G) {mo : Nat} (hmo : I 40 28 = nI mo) (hm5 : mo ≤ 599) {i : Nat} (hQ : Q (some (.int (nI (600 * i + mo)))) G I J) : xv_Ev l D d mX11_nowOf none 0 [some (.ref 40), some (.int (nI i))] [] G I J 0 0 Q := by
  refine xv_sipush (v := nI 600) dX11_nowOf_0 rfl ?_
  refine xv_iload_n dX11_nowOf_3 rfl rfl ?_
  refine xv_imul dX11_nowOf_4 ?_
  refine xv_nmI (pk_mul _ _) ?_
  refine xv_aload_n dX11_nowOf_5 rfl rfl ?_
  refine xv_geti dX11_nowOf_6 fl_X11_240 (go_40 hG) rfl ?_
  refine xv_nmI hmo ?_
  refine xv_iadd dX11_nowOf_9 ?_
  refine xv_nmI (nI_add _ _) ?_
  refine xv_iret dX11_nowOf_10 rfl (Nat.zero_le _) (Nat.zero_le _) ?_
  exact hQ

def gm_d (d o : Int64) (p : Int32) : Int64 := if o < d + (if 0 < o then p.toInt64 else 0) then o else d + (if 0 < o then p.toInt64 else 0)
theorem xv_uj_u (J : xv_J) (a k : Nat) (v w : Int64) : xv_uj (xv_uj J a k v) a k w = xv_uj J a k w := by
  funext b j
  simp only [xv_uj_ap]
  grind
theorem s11_goMonth {l : Launch} {D : va_G} {d : Nat} {G : xv_Gr} {I : xv_I} {J : xv_J} {Q : xv_Po} (hG : xg_ok G) {i : Nat} (hi : i < 8) (hQ : Q none G I (xv_uj (xv_uj J 40 37 (ln_o (J 40 37) (I 80 i))) 40 38 (gm_d (J 40 38) (ln_o (J 40 37) (I 80 i)) (I 81 i)))) : xv_Ev l D d mX11_goMonth none 0 [some (.ref 40), some (.int (nI i))] [] G I J 0 0 Q := by
  refine xv_aload_n dX11_goMonth_0 rfl rfl ?_
  refine xv_dup dX11_goMonth_1 rfl ?_
  refine xv_getj dX11_goMonth_2 fl_X11_252 (go_40 hG) rfl ?_
  refine xv_aload_n dX11_goMonth_5 rfl rfl ?_
  refine xv_getj dX11_goMonth_6 fl_X11_252 (go_40 hG) rfl ?_
  refine xv_ldc2 dX11_goMonth_9 ld_X11_256 ?_
  refine xv_ldiv dX11_goMonth_12 (by decide) ?_
  refine xv_aload_n dX11_goMonth_13 rfl rfl ?_
  refine xv_getr dX11_goMonth_14 fl_X11_84 (go_40 hG) rfl (gr_40_30 hG) ?_
  refine xv_iload_n dX11_goMonth_17 rfl rfl ?_
  refine xv_iaload dX11_goMonth_18 (go_80 hG) (xv_ixn (by omega) (by decide)) ?_
  refine xv_i2l dX11_goMonth_19 ?_
  refine xv_lmul dX11_goMonth_20 ?_
  refine xv_aload_n dX11_goMonth_21 rfl rfl ?_
  refine xv_getj dX11_goMonth_22 fl_X11_252 (go_40 hG) rfl ?_
  refine xv_ldc2 dX11_goMonth_25 ld_X11_256 ?_
  refine xv_lrem dX11_goMonth_28 (by decide) ?_
  refine xv_aload_n dX11_goMonth_29 rfl rfl ?_
  refine xv_getr dX11_goMonth_30 fl_X11_84 (go_40 hG) rfl (gr_40_30 hG) ?_
  refine xv_iload_n dX11_goMonth_33 rfl rfl ?_
  refine xv_iaload dX11_goMonth_34 (go_80 hG) (xv_ixn (by omega) (by decide)) ?_
  refine xv_i2l dX11_goMonth_35 ?_
  refine xv_lmul dX11_goMonth_36 ?_
  refine xv_ldc2 dX11_goMonth_37 ld_X11_256 ?_
  refine xv_ldiv dX11_goMonth_40 (by decide) ?_
  refine xv_ladd dX11_goMonth_41 ?_
  refine xv_ladd dX11_goMonth_42 ?_
  refine xv_putj dX11_goMonth_43 fl_X11_252 (go_40 hG) rfl ?_
  refine xv_aload_n dX11_goMonth_46 rfl rfl ?_
  refine xv_dup dX11_goMonth_47 rfl ?_
  refine xv_getj dX11_goMonth_48 fl_X11_258 (go_40 hG) rfl ?_
  refine xv_nmJ (y := J 40 38) rfl ?_
  refine xv_aload_n dX11_goMonth_51 rfl rfl ?_
  refine xv_getj dX11_goMonth_52 fl_X11_252 (go_40 hG) rfl ?_
  refine xv_nmJ (y := (ln_o (J 40 37) (I 80 i))) rfl ?_
  refine xv_lconst (v := 0) dX11_goMonth_55 rfl ?_
  refine xv_lcmp dX11_goMonth_56 ?_
  refine xv_if_le (tgt := 70) dX11_goMonth_57 rfl (fun c_57 => ?_) (fun c_57 => ?_)
  · refine xv_lconst (v := 0) dX11_goMonth_70 rfl ?_
    refine xv_ladd dX11_goMonth_71 ?_
    refine xv_putj dX11_goMonth_72 fl_X11_258 (go_40 hG) rfl ?_
    refine xv_aload_n dX11_goMonth_75 rfl rfl ?_
    refine xv_aload_n dX11_goMonth_76 rfl rfl ?_
    refine xv_getj dX11_goMonth_77 fl_X11_258 (go_40 hG) rfl ?_
    refine xv_nmJ (y := J 40 38 + 0) rfl ?_
    refine xv_aload_n dX11_goMonth_80 rfl rfl ?_
    refine xv_getj dX11_goMonth_81 fl_X11_252 (go_40 hG) rfl ?_
    refine xv_nmJ (y := (ln_o (J 40 37) (I 80 i))) rfl ?_
    refine xv_lcmp dX11_goMonth_84 ?_
    refine xv_if_le (tgt := 95) dX11_goMonth_85 rfl (fun c_85 => ?_) (fun c_85 => ?_)
    · refine xv_aload_n dX11_goMonth_95 rfl rfl ?_
      refine xv_getj dX11_goMonth_96 fl_X11_258 (go_40 hG) rfl ?_
      refine xv_nmJ (y := J 40 38 + 0) rfl ?_
      refine xv_putj dX11_goMonth_99 fl_X11_258 (go_40 hG) rfl ?_
      refine xv_vret dX11_goMonth_102 rfl (Nat.zero_le _) (Nat.zero_le _) ?_
      have e1 : (if (0 : Int64) < (ln_o (J 40 37) (I 80 i)) then (I 81 i).toInt64 else 0) = 0 := if_neg (fun h => absurd ((xn_cmp_gt _ _).mpr h) (by simp only [xn_lt, xn_le] at *; omega))
      have e2 : gm_d (J 40 38) (ln_o (J 40 37) (I 80 i)) (I 81 i) = J 40 38 + 0 := by
        rw [gm_d, e1]
        exact if_neg (fun h => absurd ((xn_cmp_gt _ _).mpr h) (by simp only [xn_lt, xn_le] at *; omega))
      rw [e2, ← xv_uj_u _ 40 38 (J 40 38 + 0)] at hQ
      exact hQ
    · refine xv_aload_n dX11_goMonth_88 rfl rfl ?_
      refine xv_getj dX11_goMonth_89 fl_X11_252 (go_40 hG) rfl ?_
      refine xv_nmJ (y := (ln_o (J 40 37) (I 80 i))) rfl ?_
      refine xv_goto (tgt := 99) dX11_goMonth_92 rfl ?_
      refine xv_putj dX11_goMonth_99 fl_X11_258 (go_40 hG) rfl ?_
      refine xv_vret dX11_goMonth_102 rfl (Nat.zero_le _) (Nat.zero_le _) ?_
      have e1 : (if (0 : Int64) < (ln_o (J 40 37) (I 80 i)) then (I 81 i).toInt64 else 0) = 0 := if_neg (fun h => absurd ((xn_cmp_gt _ _).mpr h) (by simp only [xn_lt, xn_le] at *; omega))
      have e2 : gm_d (J 40 38) (ln_o (J 40 37) (I 80 i)) (I 81 i) = (ln_o (J 40 37) (I 80 i)) := by
        rw [gm_d, e1]
        exact if_pos ((xn_cmp_gt _ _).mp (by simp only [xn_lt, xn_le] at *; omega))
      rw [e2, ← xv_uj_u _ 40 38 (J 40 38 + 0)] at hQ
      exact hQ
  · refine xv_aload_n dX11_goMonth_60 rfl rfl ?_
    refine xv_getr dX11_goMonth_61 fl_X11_87 (go_40 hG) rfl (gr_40_31 hG) ?_
    refine xv_iload_n dX11_goMonth_64 rfl rfl ?_
    refine xv_iaload dX11_goMonth_65 (go_81 hG) (xv_ixn (by omega) (by decide)) ?_
    refine xv_i2l dX11_goMonth_66 ?_
    refine xv_goto (tgt := 71) dX11_goMonth_67 rfl ?_
    refine xv_ladd dX11_goMonth_71 ?_
    refine xv_putj dX11_goMonth_72 fl_X11_258 (go_40 hG) rfl ?_
    refine xv_aload_n dX11_goMonth_75 rfl rfl ?_
    refine xv_aload_n dX11_goMonth_76 rfl rfl ?_
    refine xv_getj dX11_goMonth_77 fl_X11_258 (go_40 hG) rfl ?_
    refine xv_nmJ (y := J 40 38 + (I 81 i).toInt64) rfl ?_
    refine xv_aload_n dX11_goMonth_80 rfl rfl ?_
    refine xv_getj dX11_goMonth_81 fl_X11_252 (go_40 hG) rfl ?_
    refine xv_nmJ (y := (ln_o (J 40 37) (I 80 i))) rfl ?_
    refine xv_lcmp dX11_goMonth_84 ?_
    refine xv_if_le (tgt := 95) dX11_goMonth_85 rfl (fun c_85 => ?_) (fun c_85 => ?_)
    · refine xv_aload_n dX11_goMonth_95 rfl rfl ?_
      refine xv_getj dX11_goMonth_96 fl_X11_258 (go_40 hG) rfl ?_
      refine xv_nmJ (y := J 40 38 + (I 81 i).toInt64) rfl ?_
      refine xv_putj dX11_goMonth_99 fl_X11_258 (go_40 hG) rfl ?_
      refine xv_vret dX11_goMonth_102 rfl (Nat.zero_le _) (Nat.zero_le _) ?_
      have e1 : (if (0 : Int64) < (ln_o (J 40 37) (I 80 i)) then (I 81 i).toInt64 else 0) = (I 81 i).toInt64 := if_pos ((xn_cmp_gt _ _).mp (by simp only [xn_lt, xn_le] at *; omega))
      have e2 : gm_d (J 40 38) (ln_o (J 40 37) (I 80 i)) (I 81 i) = J 40 38 + (I 81 i).toInt64 := by
        rw [gm_d, e1]
        exact if_neg (fun h => absurd ((xn_cmp_gt _ _).mpr h) (by simp only [xn_lt, xn_le] at *; omega))
      rw [e2, ← xv_uj_u _ 40 38 (J 40 38 + (I 81 i).toInt64)] at hQ
      exact hQ
    · refine xv_aload_n dX11_goMonth_88 rfl rfl ?_
      refine xv_getj dX11_goMonth_89 fl_X11_252 (go_40 hG) rfl ?_
      refine xv_nmJ (y := (ln_o (J 40 37) (I 80 i))) rfl ?_
      refine xv_goto (tgt := 99) dX11_goMonth_92 rfl ?_
      refine xv_putj dX11_goMonth_99 fl_X11_258 (go_40 hG) rfl ?_
      refine xv_vret dX11_goMonth_102 rfl (Nat.zero_le _) (Nat.zero_le _) ?_
      have e1 : (if (0 : Int64) < (ln_o (J 40 37) (I 80 i)) then (I 81 i).toInt64 else 0) = (I 81 i).toInt64 := if_pos ((xn_cmp_gt _ _).mp (by simp only [xn_lt, xn_le] at *; omega))
      have e2 : gm_d (J 40 38) (ln_o (J 40 37) (I 80 i)) (I 81 i) = (ln_o (J 40 37) (I 80 i)) := by
        rw [gm_d, e1]
        exact if_pos ((xn_cmp_gt _ _).mp (by simp only [xn_lt, xn_le] at *; omega))
      rw [e2, ← xv_uj_u _ 40 38 (J 40 38 + (I 81 i).toInt64)] at hQ
      exact hQ

noncomputable def pm_o (I : xv_I) (J : xv_J) (i k : Nat) : Int64 := @ite Int64 (I 86 (k - 1) = 1) (Classical.propDecidable _) (ln_o (J 84 (k - 1)) (I 80 i)) (J 84 (k - 1))
noncomputable def pm_d (I : xv_I) (J : xv_J) (i k : Nat) : Int64 := @ite Int64 (I 86 (k - 1) = 1) (Classical.propDecidable _) (gm_d (J 85 (k - 1)) (ln_o (J 84 (k - 1)) (I 80 i)) (I 81 i)) (J 85 (k - 1))
noncomputable def pm_sJ (I : xv_I) (J : xv_J) (i k : Nat) : xv_J := xv_uj (xv_uj (xv_uj (xv_uj J 40 37 (pm_o I J i k)) 40 38 (pm_d I J i k)) 84 k (pm_o I J i k)) 85 k (pm_d I J i k)
def pm_I (I : xv_I) (mo : Nat) : Nat → xv_I
  | 0 => I
  | i + 1 => xv_ui (pm_I I mo i) 86 (600 * i + mo) ((pm_I I mo i) 86 (600 * i + mo - 1))
noncomputable def pm_J (I : xv_I) (J : xv_J) (mo : Nat) : Nat → xv_J
  | 0 => J
  | i + 1 => pm_sJ (pm_I I mo i) (pm_J I J mo i) i (600 * i + mo)
theorem pm_I_ne {I : xv_I} {mo b : Nat} (h : b ≠ 86) : ∀ i, pm_I I mo i b = I b
  | 0 => rfl
  | i + 1 => by rw [pm_I, xv_ui_ne h, pm_I_ne h i]
noncomputable def pm_MI (I : xv_I) (mo nl : Nat) : Nat → xv_I
  | 0 => I
  | k + 1 => pm_I (xv_ui (pm_MI I mo nl k) 40 28 (nI (mo + (k + 1)))) (mo + (k + 1)) nl
noncomputable def pm_MJ (I : xv_I) (J : xv_J) (mo nl : Nat) : Nat → xv_J
  | 0 => J
  | k + 1 => pm_J (xv_ui (pm_MI I mo nl k) 40 28 (nI (mo + (k + 1)))) (pm_MJ I J mo nl k) (mo + (k + 1)) nl
theorem pm_MI_29 {I : xv_I} {mo nl : Nat} (k : Nat) {j : Nat} (hj : j ≠ 28) : pm_MI I mo nl k 40 j = I 40 j := by
  induction k with
  | zero => rfl
  | succ k ih => rw [pm_MI, pm_I_ne (by decide), xv_ui_o hj, ih]
theorem pm_MI_28 {I : xv_I} {mo nl : Nat} (h : I 40 28 = nI mo) (k : Nat) : pm_MI I mo nl k 40 28 = nI (mo + k) := by
  cases k with
  | zero => exact h
  | succ k => rw [pm_MI, pm_I_ne (by decide), xv_ui_s]
theorem s11_ps_i {l : Launch} {D : va_G} {d : Nat} {G : xv_Gr} {I : xv_I} {J : xv_J} {Q : xv_Po} (hG : xg_ok G) {nl : Nat} (hnl : I 40 29 = nI nl) (hl8 : nl ≤ 8) {mo : Nat} (hmo : I 40 28 = nI mo) (hm1 : 1 ≤ mo) (hm5 : mo ≤ 599) {v u : Int32} (kk : xv_Ev l D (d + 1) mX11_pass none 152 [some (.ref 40), some (.int v), some (.int u), some (.int (nI nl)), none] [] G (pm_I I mo nl) (pm_J I J mo nl) 0 0 Q) : ∀ (n i : Nat), i + n = nl → xv_Ev l D (d + 1) mX11_pass none 49 [some (.ref 40), some (.int v), some (.int u), some (.int (nI i)), none] [] G (pm_I I mo i) (pm_J I J mo i) 0 0 Q := by
  intro n
  induction n with
  | zero =>
    intro i hi
    refine xv_iload_n dX11_pass_49 rfl rfl ?_
    refine xv_aload_n dX11_pass_50 rfl rfl ?_
    refine xv_geti dX11_pass_51 fl_X11_237 (go_40 hG) rfl ?_
    refine xv_nmI (show (pm_I I mo i) 40 29 = nI nl from (congrFun (pm_I_ne (by decide) i) 29).trans hnl) ?_
    refine xv_icmp_geN (tgt := 152) dX11_pass_54 rfl (by omega) (by omega) (fun c_54 => ?_) (fun c_54 => absurd c_54 (by omega))
    have e : nl = i := by omega
    subst e
    exact kk
  | succ n ih =>
    intro i hi
    refine xv_iload_n dX11_pass_49 rfl rfl ?_
    refine xv_aload_n dX11_pass_50 rfl rfl ?_
    refine xv_geti dX11_pass_51 fl_X11_237 (go_40 hG) rfl ?_
    refine xv_nmI (show (pm_I I mo i) 40 29 = nI nl from (congrFun (pm_I_ne (by decide) i) 29).trans hnl) ?_
    refine xv_icmp_geN (tgt := 152) dX11_pass_54 rfl (by omega) (by omega) (fun c_54 => absurd c_54 (by omega)) (fun c_54 => ?_)
    refine xv_aload_n dX11_pass_57 rfl rfl ?_
    refine xv_iload_n dX11_pass_58 rfl rfl ?_
    refine xv_callV0 (As := [_]) dX11_pass_59 cl_X11_249 rfl rfl rfl rfl (go_40 hG) rfl rfl (Nat.le_of_ble_eq_true rfl) (Nat.le_of_ble_eq_true rfl) (Nat.zero_le _) (Nat.zero_le _) ?_
    refine s11_nowOf hG (I := (pm_I I mo i)) (mo := mo) ((congrFun (pm_I_ne (by decide) i) 28).trans hmo) (by omega) ?_
    refine xv_istore dX11_pass_62 (Nat.le_of_ble_eq_true rfl) rfl ?_
    refine xv_aload_n dX11_pass_64 rfl rfl ?_
    refine xv_aload_n dX11_pass_65 rfl rfl ?_
    refine xv_getr dX11_pass_66 fl_X11_96 (go_40 hG) rfl (gr_40_34 hG) ?_
    refine xv_iload dX11_pass_69 rfl ?_
    refine xv_iconst (v := nI 1) dX11_pass_71 rfl ?_
    refine xv_isub dX11_pass_72 ?_
    refine xv_nmI (pk_sub (by omega)) ?_
    refine xv_laload dX11_pass_73 (go_84 hG) (xv_ixn (by omega) (by decide)) ?_
    refine xv_putj dX11_pass_74 fl_X11_252 (go_40 hG) rfl ?_
    refine xv_aload_n dX11_pass_77 rfl rfl ?_
    refine xv_aload_n dX11_pass_78 rfl rfl ?_
    refine xv_getr dX11_pass_79 fl_X11_100 (go_40 hG) rfl (gr_40_35 hG) ?_
    refine xv_iload dX11_pass_82 rfl ?_
    refine xv_iconst (v := nI 1) dX11_pass_84 rfl ?_
    refine xv_isub dX11_pass_85 ?_
    refine xv_nmI (pk_sub (by omega)) ?_
    refine xv_laload dX11_pass_86 (go_85 hG) (xv_ixn (by omega) (by decide)) ?_
    refine xv_putj dX11_pass_87 fl_X11_258 (go_40 hG) rfl ?_
    refine xv_aload_n dX11_pass_90 rfl rfl ?_
    refine xv_getr dX11_pass_91 fl_X11_103 (go_40 hG) rfl (gr_40_36 hG) ?_
    refine xv_iload dX11_pass_94 rfl ?_
    refine xv_iconst (v := nI 1) dX11_pass_96 rfl ?_
    refine xv_isub dX11_pass_97 ?_
    refine xv_nmI (pk_sub (by omega)) ?_
    refine xv_iaload dX11_pass_98 (go_86 hG) (xv_ixn (by omega) (by decide)) ?_
    refine xv_iconst (v := 1) dX11_pass_99 rfl ?_
    refine xv_icmp_ne (tgt := 108) dX11_pass_100 rfl (fun c_100 => ?_) (fun c_100 => ?_)
    · refine xv_aload_n dX11_pass_108 rfl rfl ?_
      refine xv_getr dX11_pass_109 fl_X11_96 (go_40 hG) rfl (gr_40_34 hG) ?_
      refine xv_iload dX11_pass_112 rfl ?_
      refine xv_aload_n dX11_pass_114 rfl rfl ?_
      refine xv_getj dX11_pass_115 fl_X11_252 (go_40 hG) rfl ?_
      refine xv_lastore dX11_pass_118 (go_84 hG) (xv_ixn (by omega) (by decide)) ?_
      refine xv_aload_n dX11_pass_119 rfl rfl ?_
      refine xv_getr dX11_pass_120 fl_X11_100 (go_40 hG) rfl (gr_40_35 hG) ?_
      refine xv_iload dX11_pass_123 rfl ?_
      refine xv_aload_n dX11_pass_125 rfl rfl ?_
      refine xv_getj dX11_pass_126 fl_X11_258 (go_40 hG) rfl ?_
      refine xv_lastore dX11_pass_129 (go_85 hG) (xv_ixn (by omega) (by decide)) ?_
      refine xv_aload_n dX11_pass_130 rfl rfl ?_
      refine xv_getr dX11_pass_131 fl_X11_103 (go_40 hG) rfl (gr_40_36 hG) ?_
      refine xv_iload dX11_pass_134 rfl ?_
      refine xv_aload_n dX11_pass_136 rfl rfl ?_
      refine xv_getr dX11_pass_137 fl_X11_103 (go_40 hG) rfl (gr_40_36 hG) ?_
      refine xv_iload dX11_pass_140 rfl ?_
      refine xv_iconst (v := nI 1) dX11_pass_142 rfl ?_
      refine xv_isub dX11_pass_143 ?_
      refine xv_nmI (pk_sub (by omega)) ?_
      refine xv_iaload dX11_pass_144 (go_86 hG) (xv_ixn (by omega) (by decide)) ?_
      refine xv_iastore dX11_pass_145 (go_86 hG) (xv_ixn (by omega) (by decide)) ?_
      refine xv_iinc dX11_pass_146 rfl (xv_inc _) (Nat.le_of_ble_eq_true rfl) rfl ?_
      refine xv_goto (tgt := 49) dX11_pass_149 rfl ?_
      have e1 : pm_o (pm_I I mo i) (pm_J I J mo i) i (600 * i + mo) = (pm_J I J mo i) 84 (600 * i + mo - 1) := by rw [pm_o]; exact if_neg c_100
      have e2 : pm_d (pm_I I mo i) (pm_J I J mo i) i (600 * i + mo) = (pm_J I J mo i) 85 (600 * i + mo - 1) := by rw [pm_d]; exact if_neg c_100
      have ih2 := ih (i + 1) (by omega)
      refine xv_fg [true, true, true, true, false] ?_
      refine xv_nmK (J2 := (pm_J I J mo (i + 1))) ?_ ?_
      · rw [pm_J, pm_sJ, e1, e2]
        funext b j
        simp only [xv_uj_ap]
        grind
      · exact ih2
    · refine xv_aload_n dX11_pass_103 rfl rfl ?_
      refine xv_iload_n dX11_pass_104 rfl rfl ?_
      refine xv_callV0 (As := [_]) dX11_pass_105 cl_X11_263 rfl rfl rfl rfl (go_40 hG) rfl rfl (Nat.le_of_ble_eq_true rfl) (Nat.le_of_ble_eq_true rfl) (Nat.zero_le _) (Nat.zero_le _) ?_
      refine s11_goMonth hG (by omega) ?_
      refine xv_aload_n dX11_pass_108 rfl rfl ?_
      refine xv_getr dX11_pass_109 fl_X11_96 (go_40 hG) rfl (gr_40_34 hG) ?_
      refine xv_iload dX11_pass_112 rfl ?_
      refine xv_aload_n dX11_pass_114 rfl rfl ?_
      refine xv_getj dX11_pass_115 fl_X11_252 (go_40 hG) rfl ?_
      refine xv_lastore dX11_pass_118 (go_84 hG) (xv_ixn (by omega) (by decide)) ?_
      refine xv_aload_n dX11_pass_119 rfl rfl ?_
      refine xv_getr dX11_pass_120 fl_X11_100 (go_40 hG) rfl (gr_40_35 hG) ?_
      refine xv_iload dX11_pass_123 rfl ?_
      refine xv_aload_n dX11_pass_125 rfl rfl ?_
      refine xv_getj dX11_pass_126 fl_X11_258 (go_40 hG) rfl ?_
      refine xv_lastore dX11_pass_129 (go_85 hG) (xv_ixn (by omega) (by decide)) ?_
      refine xv_aload_n dX11_pass_130 rfl rfl ?_
      refine xv_getr dX11_pass_131 fl_X11_103 (go_40 hG) rfl (gr_40_36 hG) ?_
      refine xv_iload dX11_pass_134 rfl ?_
      refine xv_aload_n dX11_pass_136 rfl rfl ?_
      refine xv_getr dX11_pass_137 fl_X11_103 (go_40 hG) rfl (gr_40_36 hG) ?_
      refine xv_iload dX11_pass_140 rfl ?_
      refine xv_iconst (v := nI 1) dX11_pass_142 rfl ?_
      refine xv_isub dX11_pass_143 ?_
      refine xv_nmI (pk_sub (by omega)) ?_
      refine xv_iaload dX11_pass_144 (go_86 hG) (xv_ixn (by omega) (by decide)) ?_
      refine xv_iastore dX11_pass_145 (go_86 hG) (xv_ixn (by omega) (by decide)) ?_
      refine xv_iinc dX11_pass_146 rfl (xv_inc _) (Nat.le_of_ble_eq_true rfl) rfl ?_
      refine xv_goto (tgt := 49) dX11_pass_149 rfl ?_
      have e1 : pm_o (pm_I I mo i) (pm_J I J mo i) i (600 * i + mo) = (ln_o ((pm_J I J mo i) 84 (600 * i + mo - 1)) ((pm_I I mo i) 80 i)) := by rw [pm_o]; exact if_pos c_100
      have e2 : pm_d (pm_I I mo i) (pm_J I J mo i) i (600 * i + mo) = gm_d ((pm_J I J mo i) 85 (600 * i + mo - 1)) (ln_o ((pm_J I J mo i) 84 (600 * i + mo - 1)) ((pm_I I mo i) 80 i)) ((pm_I I mo i) 81 i) := by rw [pm_d]; exact if_pos c_100
      have ih2 := ih (i + 1) (by omega)
      refine xv_fg [true, true, true, true, false] ?_
      refine xv_nmK (J2 := (pm_J I J mo (i + 1))) ?_ ?_
      · rw [pm_J, pm_sJ, e1, e2]
        funext b j
        simp only [xv_uj_ap]
        grind
      · exact ih2

theorem s11_ps_l {l : Launch} {D : va_G} {d : Nat} {G : xv_Gr} {I : xv_I} {J : xv_J} {Q : xv_Po} (hG : xg_ok G) {nl : Nat} (hnl : I 40 29 = nI nl) (hl8 : nl ≤ 8) {mo : Nat} (hmo : I 40 28 = nI mo) (hm5 : mo ≤ 599) {nn : Nat} (hmn : mo + nn ≤ 599) (hQ : Q (some (.int (nI (mo + nn)))) G (pm_MI I mo nl nn) (pm_MJ I J mo nl nn)) : ∀ (n i : Nat), i + n = nn → xv_Ev l D (d + 1) mX11_pass none 32 [some (.ref 40), some (.int (nI nn)), some (.int (nI i)), none, none] [] G (pm_MI I mo nl i) (pm_MJ I J mo nl i) 0 0 Q := by
  intro n
  induction n with
  | zero =>
    intro i hi
    refine xv_iload_n dX11_pass_32 rfl rfl ?_
    refine xv_iload_n dX11_pass_33 rfl rfl ?_
    refine xv_icmp_geN (tgt := 158) dX11_pass_34 rfl (by omega) (by omega) (fun c_34 => ?_) (fun c_34 => absurd c_34 (by omega))
    refine xv_aload_n dX11_pass_158 rfl rfl ?_
    refine xv_geti dX11_pass_159 fl_X11_240 (go_40 hG) rfl ?_
    refine xv_nmI (pm_MI_28 hmo i) ?_
    refine xv_iret dX11_pass_162 rfl (Nat.zero_le _) (Nat.zero_le _) ?_
    have e : nn = i := by omega
    subst e
    exact hQ
  | succ n ih =>
    intro i hi
    refine xv_iload_n dX11_pass_32 rfl rfl ?_
    refine xv_iload_n dX11_pass_33 rfl rfl ?_
    refine xv_icmp_geN (tgt := 158) dX11_pass_34 rfl (by omega) (by omega) (fun c_34 => absurd c_34 (by omega)) (fun c_34 => ?_)
    refine xv_aload_n dX11_pass_37 rfl rfl ?_
    refine xv_dup dX11_pass_38 rfl ?_
    refine xv_geti dX11_pass_39 fl_X11_240 (go_40 hG) rfl ?_
    refine xv_nmI (pm_MI_28 hmo i) ?_
    refine xv_iconst (v := 1) dX11_pass_42 rfl ?_
    refine xv_iadd dX11_pass_43 ?_
    refine xv_nmI (nI_1 (mo + i)) ?_
    refine xv_puti dX11_pass_44 fl_X11_240 (go_40 hG) rfl rfl rfl ?_
    refine xv_iconst (v := 0) dX11_pass_47 rfl ?_
    refine xv_istore_n dX11_pass_48 rfl (Nat.le_of_ble_eq_true rfl) rfl ?_
    refine s11_ps_i hG (I := xv_ui (pm_MI I mo nl i) 40 28 (nI (mo + (i + 1)))) (J := (pm_MJ I J mo nl i)) (mo := mo + (i + 1)) ((xv_ui_o (by decide)).trans ((pm_MI_29 i (by decide)).trans hnl)) hl8 xv_ui_s (by omega) (by omega) ?_ nl 0 (by omega)
    refine xv_iinc dX11_pass_152 rfl (xv_inc _) (Nat.le_of_ble_eq_true rfl) rfl ?_
    refine xv_goto (tgt := 32) dX11_pass_155 rfl ?_
    refine xv_fg [true, true, true, false, false] ?_
    exact ih (i + 1) (by omega)

theorem s11_pass {l : Launch} {D : va_G} {d : Nat} {G : xv_Gr} {I : xv_I} {J : xv_J} {Q : xv_Po} (hG : xg_ok G) {nl : Nat} (hnl : I 40 29 = nI nl) (hl8 : nl ≤ 8) {mo : Nat} (hmo : I 40 28 = nI mo) (hm5 : mo ≤ 599) {v : Int32} (h1 : ¬ (1 ≤ v ∧ v ≤ 60) → Q (some (.int (-900002))) G I J) (h2 : ∀ nn, 1 ≤ nn → nn ≤ 60 → v = nI nn → 599 < mo + nn → Q (some (.int (-900004))) G I J) (h3 : ∀ nn, 1 ≤ nn → nn ≤ 60 → v = nI nn → mo + nn ≤ 599 → Q (some (.int (nI (mo + nn)))) G (pm_MI I mo nl nn) (pm_MJ I J mo nl nn)) : xv_Ev l D (d + 1) mX11_pass none 0 [some (.ref 40), some (.int v), none, none, none] [] G I J 0 0 Q := by
  refine xv_iload_n dX11_pass_0 rfl rfl ?_
  refine xv_i2l dX11_pass_1 ?_
  refine xv_lconst (v := 1) dX11_pass_2 rfl ?_
  refine xv_ldc2 dX11_pass_3 ld_X11_261 ?_
  refine xv_callS0 (As := [_, _, _]) dX11_pass_6 cl_X11_126 rfl rfl rfl rfl (Nat.le_of_ble_eq_true rfl) (Nat.le_of_ble_eq_true rfl) (Nat.zero_le _) (Nat.zero_le _) ?_
  refine s11_in (a := 1) (b := 60) rfl rfl ?_
  refine xv_if_neD (tgt := 15) dX11_pass_9 rfl (fun c_9 => ?_) (fun c_9 => ?_)
  · have hV := c_9
    obtain ⟨nn, hnn, rfl⟩ : ∃ j : Nat, j < 61 ∧ v = nI j := xn_nat (n := 61) (by have h := hV; simp only [xn_lt, xn_le, Int32.reduceToInt] at h; omega) (by have h := hV; simp only [xn_lt, xn_le, Int32.reduceToInt] at h; omega) (by omega)
    have h1n : 1 ≤ nn := by
      have h := hV.1
      simp only [xn_le, nI_toInt (show nn < 2 ^ 31 by omega), Int32.reduceToInt] at h
      omega
    refine xv_aload_n dX11_pass_15 rfl rfl ?_
    refine xv_geti dX11_pass_16 fl_X11_240 (go_40 hG) rfl ?_
    refine xv_nmI hmo ?_
    refine xv_iload_n dX11_pass_19 rfl rfl ?_
    refine xv_iadd dX11_pass_20 ?_
    refine xv_nmI (nI_add _ _) ?_
    refine xv_sipush (v := nI 599) dX11_pass_21 rfl ?_
    refine xv_icmp_leN (tgt := 30) dX11_pass_24 rfl (by omega) (by omega) (fun c_24 => ?_) (fun c_24 => ?_)
    · refine xv_iconst (v := 0) dX11_pass_30 rfl ?_
      refine xv_istore_n dX11_pass_31 rfl (Nat.le_of_ble_eq_true rfl) rfl ?_
      exact s11_ps_l hG hnl hl8 hmo hm5 c_24 (h3 nn h1n (by omega) rfl c_24) nn 0 (by omega)
    · refine xv_ldc dX11_pass_27 ld_X11_138 ?_
      refine xv_iret dX11_pass_29 rfl (Nat.zero_le _) (Nat.zero_le _) ?_
      exact h2 nn h1n (by omega) rfl c_24
  · refine xv_ldc dX11_pass_12 ld_X11_130 ?_
    refine xv_iret dX11_pass_14 rfl (Nat.zero_le _) (Nat.zero_le _) ?_
    exact h1 c_9
