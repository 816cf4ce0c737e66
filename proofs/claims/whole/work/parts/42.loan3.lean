/-! loans of the class: pay, work, as, arrears, count -/
theorem s10_pay {l : Launch} {D : va_G} {d : Nat} {G : xv_Gr} {I : xv_I} {J : xv_J} {Q : xv_Po} (hG : xg_ok G) {nl nt : Nat} (hD : xg_dy G nl nt) (hnl : I 6 1 = nI nl) (hl8 : nl ≤ 8) {mo : Nat} (hmo : I 6 0 = nI mo) (hm5 : mo ≤ 599) {x v : Int32} (h1 : ¬ (0 ≤ x ∧ x < nI nl) → Q (some (.int (-900001))) G I J) (h2 : ∀ i, i < nl → x = nI i → ¬ (1 ≤ v ∧ v ≤ 100000) → Q (some (.int (-900002))) G I J) (h3 : ∀ i, i < nl → x = nI i → (1 ≤ v ∧ v ≤ 100000) → ¬ I (200 + 4 * i) 2 = 1 → Q (some (.int (-900003))) G I J) (h4 : ∀ i, i < nl → x = nI i → (1 ≤ v ∧ v ≤ 100000) → I (200 + 4 * i) 2 = 1 → J (200 + 4 * i + 1) 0 - (ln_t v (J (200 + 4 * i + 1) 0)) = 0 → Q (some (.int (ln_t v (J (200 + 4 * i + 1) 0)).toInt32)) G (xv_ui (xv_ui I (200 + 4 * i) 2 2) (200 + 4 * i) 3 (nI mo)) (ln_p J (200 + 4 * i) mo v)) (h5 : ∀ i, i < nl → x = nI i → (1 ≤ v ∧ v ≤ 100000) → I (200 + 4 * i) 2 = 1 → ¬ J (200 + 4 * i + 1) 0 - (ln_t v (J (200 + 4 * i + 1) 0)) = 0 → Q (some (.int (ln_t v (J (200 + 4 * i + 1) 0)).toInt32)) G I (ln_p J (200 + 4 * i) mo v)) : xv_Ev l D (d + 2) mX10_pay none 0 [some (.ref 0), some (.int x), some (.int v), none] [] G I J 0 0 Q := by
  refine xv_aload_n dX10_pay_0 rfl rfl ?_
  refine xv_getr dX10_pay_1 fl_X10_47 (go_0 hG) rfl (gr_0_5 hG) ?_
  refine xv_iload_n dX10_pay_4 rfl rfl ?_
  refine xv_callV0 (As := [_]) dX10_pay_5 cl_X10_235 rfl rfl rfl rfl (go_6 hG) rfl rfl (Nat.le_of_ble_eq_true rfl) (Nat.le_of_ble_eq_true rfl) (Nat.zero_le _) (Nat.zero_le _) ?_
  refine s0_loanOf hG hD hnl hl8 (fun h => ?_) (fun i hi e => ?_)
  · refine xv_astore_nN dX10_pay_8 rfl (Nat.le_of_ble_eq_true rfl) rfl ?_
    refine xv_aload_nN dX10_pay_9 rfl rfl ?_
    refine xv_ifnonnullN dX10_pay_10 ?_
    refine xv_ldc dX10_pay_13 ld_X10_75 ?_
    refine xv_iret dX10_pay_15 rfl (Nat.zero_le _) (Nat.zero_le _) ?_
    exact h1 h
  · subst e
    refine xv_astore_n dX10_pay_8 rfl (Nat.le_of_ble_eq_true rfl) rfl ?_
    refine xv_aload_n dX10_pay_9 rfl rfl ?_
    refine xv_ifnonnull (tgt := 16) dX10_pay_10 rfl ?_
    refine xv_iload_n dX10_pay_16 rfl rfl ?_
    refine xv_iconst (v := 1) dX10_pay_17 rfl ?_
    refine xv_ldc dX10_pay_18 ld_X10_227 ?_
    refine xv_callS0 (As := [_, _, _]) dX10_pay_20 cl_X10_51 rfl rfl rfl rfl (Nat.le_of_ble_eq_true rfl) (Nat.le_of_ble_eq_true rfl) (Nat.zero_le _) (Nat.zero_le _) ?_
    refine s10_isOutside ?_
    refine xv_if_eqD (tgt := 29) dX10_pay_23 rfl (fun c_23 => ?_) (fun c_23 => ?_)
    · refine xv_aload_n dX10_pay_29 rfl rfl ?_
      refine xv_callV0 (As := []) dX10_pay_30 cl_X10_239 rfl rfl rfl rfl (hD.1 i hi).2.1 rfl rfl (Nat.le_of_ble_eq_true rfl) (Nat.le_of_ble_eq_true rfl) (Nat.zero_le _) (Nat.zero_le _) ?_
      refine s4_isOpen (hD.1 i hi).2 ?_
      refine xv_if_eqP (tgt := 51) dX10_pay_33 rfl (fun c_33 => ?_) (fun c_33 => ?_)
      · refine xv_ldc dX10_pay_51 ld_X10_90 ?_
        refine xv_iret dX10_pay_53 rfl (Nat.zero_le _) (Nat.zero_le _) ?_
        exact h3 i hi rfl (by simp only [xn_lt, xn_le, Int32.reduceToInt] at *; omega) c_33
      · refine xv_aload_n dX10_pay_36 rfl rfl ?_
        refine xv_iload_n dX10_pay_37 rfl rfl ?_
        refine xv_aload_n dX10_pay_38 rfl rfl ?_
        refine xv_getr dX10_pay_39 fl_X10_47 (go_0 hG) rfl (gr_0_5 hG) ?_
        refine xv_geti dX10_pay_42 fl_X10_221 (go_6 hG) rfl ?_
        refine xv_nmI hmo ?_
        refine xv_callV0 (As := [_, _]) dX10_pay_45 cl_X10_244 rfl rfl rfl rfl (hD.1 i hi).2.1 rfl rfl (Nat.le_of_ble_eq_true rfl) (Nat.le_of_ble_eq_true rfl) (Nat.zero_le _) (Nat.zero_le _) ?_
        refine s4_pay (hD.1 i hi).2 (mo := mo) (xv_ixn (by omega) (by decide)) (fun hz => ?_) (fun hz => ?_)
        · refine xv_goto (tgt := 53) dX10_pay_48 rfl ?_
          refine xv_iret dX10_pay_53 rfl (Nat.zero_le _) (Nat.zero_le _) ?_
          exact h4 i hi rfl (by simp only [xn_lt, xn_le, Int32.reduceToInt] at *; omega) c_33 hz
        · refine xv_goto (tgt := 53) dX10_pay_48 rfl ?_
          refine xv_iret dX10_pay_53 rfl (Nat.zero_le _) (Nat.zero_le _) ?_
          exact h5 i hi rfl (by simp only [xn_lt, xn_le, Int32.reduceToInt] at *; omega) c_33 hz
    · refine xv_ldc dX10_pay_26 ld_X10_55 ?_
      refine xv_iret dX10_pay_28 rfl (Nat.zero_le _) (Nat.zero_le _) ?_
      exact h2 i hi rfl (by simp only [xn_lt, xn_le, Int32.reduceToInt] at *; omega)

theorem s10_work {l : Launch} {D : va_G} {d : Nat} {G : xv_Gr} {I : xv_I} {J : xv_J} {Q : xv_Po} (hG : xg_ok G) {nl nt : Nat} (hD : xg_dy G nl nt) (hnl : I 6 1 = nI nl) (hl8 : nl ≤ 8) {x f : Int32} (hf : narrow .boolean (.int f) = .int f ∧ fits .boolean (.int f) = true) (h1 : ¬ (0 ≤ x ∧ x < nI nl) → Q (some (.int (-900001))) G I J) (h2 : ∀ i, i < nl → x = nI i → Q (some (.int (xbp (¬ I (200 + 4 * i + 1) 4 = 0)))) G (xv_ui I (200 + 4 * i + 1) 4 f) J) : xv_Ev l D (d + 1) mX10_work none 0 [some (.ref 0), some (.int x), some (.int f), none, none] [] G I J 0 0 Q := by
  refine xv_aload_n dX10_work_0 rfl rfl ?_
  refine xv_getr dX10_work_1 fl_X10_47 (go_0 hG) rfl (gr_0_5 hG) ?_
  refine xv_iload_n dX10_work_4 rfl rfl ?_
  refine xv_callV0 (As := [_]) dX10_work_5 cl_X10_235 rfl rfl rfl rfl (go_6 hG) rfl rfl (Nat.le_of_ble_eq_true rfl) (Nat.le_of_ble_eq_true rfl) (Nat.zero_le _) (Nat.zero_le _) ?_
  refine s0_loanOf hG hD hnl hl8 (fun h => ?_) (fun i hi e => ?_)
  · refine xv_astore_nN dX10_work_8 rfl (Nat.le_of_ble_eq_true rfl) rfl ?_
    refine xv_aload_nN dX10_work_9 rfl rfl ?_
    refine xv_ifnonnullN dX10_work_10 ?_
    refine xv_ldc dX10_work_13 ld_X10_75 ?_
    refine xv_iret dX10_work_15 rfl (Nat.zero_le _) (Nat.zero_le _) ?_
    exact h1 h
  · subst e
    refine xv_astore_n dX10_work_8 rfl (Nat.le_of_ble_eq_true rfl) rfl ?_
    refine xv_aload_n dX10_work_9 rfl rfl ?_
    refine xv_ifnonnull (tgt := 16) dX10_work_10 rfl ?_
    refine xv_aload_n dX10_work_16 rfl rfl ?_
    refine xv_getr dX10_work_17 fl_X10_247 (hD.1 i hi).2.1 rfl (hD.1 i hi).2.2.1 ?_
    refine xv_geti dX10_work_20 fl_X10_251 (hD.1 i hi).2.2.2.1 rfl ?_
    refine xv_if_eq (tgt := 30) dX10_work_23 rfl (fun c_23 => ?_) (fun c_23 => ?_)
    · refine xv_iconst (v := 0) dX10_work_30 rfl ?_
      refine xv_istore dX10_work_31 (Nat.le_of_ble_eq_true rfl) rfl ?_
      refine xv_aload_n dX10_work_33 rfl rfl ?_
      refine xv_getr dX10_work_34 fl_X10_247 (hD.1 i hi).2.1 rfl (hD.1 i hi).2.2.1 ?_
      refine xv_iload_n dX10_work_37 rfl rfl ?_
      refine xv_puti dX10_work_38 fl_X10_251 (hD.1 i hi).2.2.2.1 rfl hf.1 hf.2 ?_
      refine xv_iload dX10_work_41 rfl ?_
      refine xv_iret dX10_work_43 rfl (Nat.zero_le _) (Nat.zero_le _) ?_
      have h := h2 i hi rfl
      rw [xbp_F (fun q => q c_23)] at h
      exact h
    · refine xv_iconst (v := 1) dX10_work_26 rfl ?_
      refine xv_goto (tgt := 31) dX10_work_27 rfl ?_
      refine xv_istore dX10_work_31 (Nat.le_of_ble_eq_true rfl) rfl ?_
      refine xv_aload_n dX10_work_33 rfl rfl ?_
      refine xv_getr dX10_work_34 fl_X10_247 (hD.1 i hi).2.1 rfl (hD.1 i hi).2.2.1 ?_
      refine xv_iload_n dX10_work_37 rfl rfl ?_
      refine xv_puti dX10_work_38 fl_X10_251 (hD.1 i hi).2.2.2.1 rfl hf.1 hf.2 ?_
      refine xv_iload dX10_work_41 rfl ?_
      refine xv_iret dX10_work_43 rfl (Nat.zero_le _) (Nat.zero_le _) ?_
      have h := h2 i hi rfl
      rw [xbp_T c_23] at h
      exact h

theorem s10_arrears {l : Launch} {D : va_G} {d : Nat} {G : xv_Gr} {I : xv_I} {J : xv_J} {Q : xv_Po} (hG : xg_ok G) {nl nt : Nat} (hD : xg_dy G nl nt) (hnl : I 6 1 = nI nl) (hl8 : nl ≤ 8) {x : Int32} (hp : ∀ i, i < nl → 0 < I (200 + 4 * i + 1) 3) (h1 : ¬ (0 ≤ x ∧ x < nI nl) → Q (some (.int (-900001))) G I J) (h2 : ∀ i, i < nl → x = nI i → Q (some (.int (J (200 + 4 * i + 1) 1 / (I (200 + 4 * i + 1) 3).toInt64).toInt32)) G I J) : xv_Ev l D (d + 1) mX10_arrears none 0 [some (.ref 0), some (.int x), none] [] G I J 0 0 Q := by
  refine xv_aload_n dX10_arrears_0 rfl rfl ?_
  refine xv_getr dX10_arrears_1 fl_X10_47 (go_0 hG) rfl (gr_0_5 hG) ?_
  refine xv_iload_n dX10_arrears_4 rfl rfl ?_
  refine xv_callV0 (As := [_]) dX10_arrears_5 cl_X10_235 rfl rfl rfl rfl (go_6 hG) rfl rfl (Nat.le_of_ble_eq_true rfl) (Nat.le_of_ble_eq_true rfl) (Nat.zero_le _) (Nat.zero_le _) ?_
  refine s0_loanOf hG hD hnl hl8 (fun h => ?_) (fun i hi e => ?_)
  · refine xv_astore_nN dX10_arrears_8 rfl (Nat.le_of_ble_eq_true rfl) rfl ?_
    refine xv_aload_nN dX10_arrears_9 rfl rfl ?_
    refine xv_ifnonnullN dX10_arrears_10 ?_
    refine xv_ldc dX10_arrears_13 ld_X10_75 ?_
    refine xv_goto (tgt := 26) dX10_arrears_15 rfl ?_
    refine xv_iret dX10_arrears_26 rfl (Nat.zero_le _) (Nat.zero_le _) ?_
    exact h1 h
  · subst e
    refine xv_astore_n dX10_arrears_8 rfl (Nat.le_of_ble_eq_true rfl) rfl ?_
    refine xv_aload_n dX10_arrears_9 rfl rfl ?_
    refine xv_ifnonnull (tgt := 18) dX10_arrears_10 rfl ?_
    refine xv_aload_n dX10_arrears_18 rfl rfl ?_
    refine xv_getr dX10_arrears_19 fl_X10_247 (hD.1 i hi).2.1 rfl (hD.1 i hi).2.2.1 ?_
    refine xv_callV0 (As := []) dX10_arrears_22 cl_X10_270 rfl rfl rfl rfl (hD.1 i hi).2.2.2.1 rfl rfl (Nat.le_of_ble_eq_true rfl) (Nat.le_of_ble_eq_true rfl) (Nat.zero_le _) (Nat.zero_le _) ?_
    refine s7_parts (hD.1 i hi).2.2.2.1 (hp i hi) ?_
    refine xv_l2i dX10_arrears_25 ?_
    refine xv_iret dX10_arrears_26 rfl (Nat.zero_le _) (Nat.zero_le _) ?_
    exact h2 i hi rfl

theorem s10_as {l : Launch} {D : va_G} {d : Nat} {G : xv_Gr} {I : xv_I} {J : xv_J} {Q : xv_Po} (hG : xg_ok G) {nl nt : Nat} (hD : xg_dy G nl nt) (hnl : I 6 1 = nI nl) (hl8 : nl ≤ 8) {mo : Nat} (hmo : I 6 0 = nI mo) (hm5 : mo ≤ 599) {x y w : Int32} {kf : Nat → Nat} (hk : ∀ i, i < nl → (0 ≤ y ∧ y ≤ nI mo) → xv_ix (if I (200 + 4 * i) 3 < y then I (200 + 4 * i) 3 else y) 600 (kf i)) (h1 : ¬ (0 ≤ x ∧ x < nI nl) → Q (some (.long (-900001))) G I J) (h2 : ∀ i, i < nl → x = nI i → ¬ (0 ≤ y ∧ y ≤ nI mo) → Q (some (.long (-900002))) G I J) (h3 : ∀ i, i < nl → x = nI i → (0 ≤ y ∧ y ≤ nI mo) → w = 0 → y < I (200 + 4 * i) 0 → Q (some (.long 0)) G I J) (h4 : ∀ i, i < nl → x = nI i → (0 ≤ y ∧ y ≤ nI mo) → w = 0 → ¬ y < I (200 + 4 * i) 0 → Q (some (.long (J (200 + 4 * i + 2) (kf i)))) G I J) (h5 : ∀ i, i < nl → x = nI i → (0 ≤ y ∧ y ≤ nI mo) → w = 1 → y < I (200 + 4 * i) 0 → Q (some (.long 0)) G I J) (h6 : ∀ i, i < nl → x = nI i → (0 ≤ y ∧ y ≤ nI mo) → w = 1 → ¬ y < I (200 + 4 * i) 0 → Q (some (.long (J (200 + 4 * i + 3) (kf i)))) G I J) (h7 : ∀ i, i < nl → x = nI i → (0 ≤ y ∧ y ≤ nI mo) → w = 2 → y < I (200 + 4 * i) 0 → Q (some (.long (0 : Int32).toInt64)) G I J) (h8 : ∀ i, i < nl → x = nI i → (0 ≤ y ∧ y ≤ nI mo) → w = 2 → ¬ y < I (200 + 4 * i) 0 → y < I (200 + 4 * i) 3 → Q (some (.long (1 : Int32).toInt64)) G I J) (hA : ∀ i, i < nl → x = nI i → (0 ≤ y ∧ y ≤ nI mo) → w = 2 → ¬ y < I (200 + 4 * i) 0 → ¬ y < I (200 + 4 * i) 3 → Q (some (.long (I (200 + 4 * i) 2).toInt64)) G I J) (h9 : ∀ i, i < nl → x = nI i → (0 ≤ y ∧ y ≤ nI mo) → ¬ (0 ≤ w ∧ w ≤ 2) → Q (some (.long (-900002))) G I J) : xv_Ev l D (d + 1) mX10_as none 0 [some (.ref 0), some (.int x), some (.int y), some (.int w), none] [] G I J 0 0 Q := by
  refine xv_aload_n dX10_as_0 rfl rfl ?_
  refine xv_getr dX10_as_1 fl_X10_47 (go_0 hG) rfl (gr_0_5 hG) ?_
  refine xv_iload_n dX10_as_4 rfl rfl ?_
  refine xv_callV0 (As := [_]) dX10_as_5 cl_X10_235 rfl rfl rfl rfl (go_6 hG) rfl rfl (Nat.le_of_ble_eq_true rfl) (Nat.le_of_ble_eq_true rfl) (Nat.zero_le _) (Nat.zero_le _) ?_
  refine s0_loanOf hG hD hnl hl8 (fun h => ?_) (fun i hi e => ?_)
  · refine xv_astoreN dX10_as_8 (Nat.le_of_ble_eq_true rfl) rfl ?_
    refine xv_aloadN dX10_as_10 rfl ?_
    refine xv_ifnonnullN dX10_as_12 ?_
    refine xv_ldc2 dX10_as_15 ld_X10_256 ?_
    refine xv_lret dX10_as_18 rfl (Nat.zero_le _) (Nat.zero_le _) ?_
    exact h1 h
  · subst e
    refine xv_astore dX10_as_8 (Nat.le_of_ble_eq_true rfl) rfl ?_
    refine xv_aload dX10_as_10 rfl ?_
    refine xv_ifnonnull (tgt := 19) dX10_as_12 rfl ?_
    refine xv_iload_n dX10_as_19 rfl rfl ?_
    refine xv_iconst (v := 0) dX10_as_20 rfl ?_
    refine xv_aload_n dX10_as_21 rfl rfl ?_
    refine xv_getr dX10_as_22 fl_X10_47 (go_0 hG) rfl (gr_0_5 hG) ?_
    refine xv_geti dX10_as_25 fl_X10_221 (go_6 hG) rfl ?_
    refine xv_nmI hmo ?_
    refine xv_callS0 (As := [_, _, _]) dX10_as_28 cl_X10_51 rfl rfl rfl rfl (Nat.le_of_ble_eq_true rfl) (Nat.le_of_ble_eq_true rfl) (Nat.zero_le _) (Nat.zero_le _) ?_
    refine s10_isOutside ?_
    refine xv_if_eqD (tgt := 38) dX10_as_31 rfl (fun c_31 => ?_) (fun c_31 => ?_)
    · refine xv_iload_n dX10_as_38 rfl rfl ?_
      have hy : (0 ≤ y ∧ y ≤ nI mo) := (by simp only [xn_lt, xn_le, Int32.reduceToInt] at *; omega)
      rcases xn_sw2 w with rfl | rfl | rfl | hw
      · refine xv_tabIn (tgt := 64) dX10_as_39 (by decide) (by decide) rfl rfl ?_
        refine xv_aload dX10_as_64 rfl ?_
        refine xv_iload_n dX10_as_66 rfl rfl ?_
        refine xv_callV0 (As := [_]) dX10_as_67 cl_X10_260 rfl rfl rfl rfl (hD.1 i hi).2.1 rfl rfl (Nat.le_of_ble_eq_true rfl) (Nat.le_of_ble_eq_true rfl) (Nat.zero_le _) (Nat.zero_le _) ?_
        refine s4_owedIn (hD.1 i hi).2 (fun q => ?_) (hk i hi hy) (fun q => ?_)
        · refine xv_lret dX10_as_70 rfl (Nat.zero_le _) (Nat.zero_le _) ?_
          exact h3 i hi rfl hy rfl q
        · refine xv_lret dX10_as_70 rfl (Nat.zero_le _) (Nat.zero_le _) ?_
          exact h4 i hi rfl hy rfl q
      · refine xv_tabIn (tgt := 71) dX10_as_39 (by decide) (by decide) rfl rfl ?_
        refine xv_aload dX10_as_71 rfl ?_
        refine xv_iload_n dX10_as_73 rfl rfl ?_
        refine xv_callV0 (As := [_]) dX10_as_74 cl_X10_264 rfl rfl rfl rfl (hD.1 i hi).2.1 rfl rfl (Nat.le_of_ble_eq_true rfl) (Nat.le_of_ble_eq_true rfl) (Nat.zero_le _) (Nat.zero_le _) ?_
        refine s4_dueIn (hD.1 i hi).2 (fun q => ?_) (hk i hi hy) (fun q => ?_)
        · refine xv_lret dX10_as_77 rfl (Nat.zero_le _) (Nat.zero_le _) ?_
          exact h5 i hi rfl hy rfl q
        · refine xv_lret dX10_as_77 rfl (Nat.zero_le _) (Nat.zero_le _) ?_
          exact h6 i hi rfl hy rfl q
      · refine xv_tabIn (tgt := 78) dX10_as_39 (by decide) (by decide) rfl rfl ?_
        refine xv_aload dX10_as_78 rfl ?_
        refine xv_iload_n dX10_as_80 rfl rfl ?_
        refine xv_callV0 (As := [_]) dX10_as_81 cl_X10_267 rfl rfl rfl rfl (hD.1 i hi).2.1 rfl rfl (Nat.le_of_ble_eq_true rfl) (Nat.le_of_ble_eq_true rfl) (Nat.zero_le _) (Nat.zero_le _) ?_
        refine s4_howIn (hD.1 i hi).2 (fun q => ?_) (fun q q2 => ?_) (fun q q2 => ?_)
        · refine xv_i2l dX10_as_84 ?_
          refine xv_lret dX10_as_85 rfl (Nat.zero_le _) (Nat.zero_le _) ?_
          exact h7 i hi rfl hy rfl q
        · refine xv_i2l dX10_as_84 ?_
          refine xv_lret dX10_as_85 rfl (Nat.zero_le _) (Nat.zero_le _) ?_
          exact h8 i hi rfl hy rfl q q2
        · refine xv_i2l dX10_as_84 ?_
          refine xv_lret dX10_as_85 rfl (Nat.zero_le _) (Nat.zero_le _) ?_
          exact hA i hi rfl hy rfl q q2
      · refine xv_tabOut (tgt := 86) dX10_as_39 hw rfl ?_
        refine xv_ldc2 dX10_as_86 ld_X10_258 ?_
        refine xv_lret dX10_as_89 rfl (Nat.zero_le _) (Nat.zero_le _) ?_
        exact h9 i hi rfl hy (by simp only [xn_lt, xn_le, Int32.reduceToInt] at *; omega)
    · refine xv_ldc2 dX10_as_34 ld_X10_258 ?_
      refine xv_lret dX10_as_37 rfl (Nat.zero_le _) (Nat.zero_le _) ?_
      exact h2 i hi rfl (by simp only [xn_lt, xn_le, Int32.reduceToInt] at *; omega)

theorem s10_count {l : Launch} {D : va_G} {d : Nat} {G : xv_Gr} {I : xv_I} {J : xv_J} {Q : xv_Po} (hG : xg_ok G) {nl nt : Nat} (hD : xg_dy G nl nt) (hnl : I 6 1 = nI nl) (hl8 : nl ≤ 8) {w : Int32} (h0 : w = 0 → Q (some (.int (I 1 1))) G I J) (h1 : w = 1 → Q (some (.int (I 1 2))) G I J) (h2 : w = 2 → Q (some (.int (I 5 0))) G I J) (h3 : w = 3 → Q (some (.int (I 6 1))) G I J) (h4 : w = 4 → Q (some (.int (nI (xcn (fun i => I (200 + 4 * i) 2 = 1) nl)))) G I J) (h5 : w = 5 → Q (some (.int (I 6 2))) G I J) (h6 : w = 6 → Q (some (.int (I 6 0))) G I J) (h7 : w = 7 → Q (some (.int (I 1 0))) G I J) (h8 : ¬ (0 ≤ w ∧ w ≤ 7) → Q (some (.int (-900002))) G I J) : xv_Ev l D (d + 2) mX10_count none 0 [some (.ref 0), some (.int w)] [] G I J 0 0 Q := by
  refine xv_iload_n dX10_count_0 rfl rfl ?_
  rcases xn_sw7 w with rfl | rfl | rfl | rfl | rfl | rfl | rfl | rfl | hw
  · refine xv_tabIn (tgt := 48) dX10_count_1 (by decide) (by decide) rfl rfl ?_
    refine xv_aload_n dX10_count_48 rfl rfl ?_
    refine xv_getr dX10_count_49 fl_X10_10 (go_0 hG) rfl (gr_0_0 hG) ?_
    refine xv_geti dX10_count_52 fl_X10_60 (go_1 hG) rfl ?_
    refine xv_iret dX10_count_55 rfl (Nat.zero_le _) (Nat.zero_le _) ?_
    exact h0 rfl
  · refine xv_tabIn (tgt := 56) dX10_count_1 (by decide) (by decide) rfl rfl ?_
    refine xv_aload_n dX10_count_56 rfl rfl ?_
    refine xv_getr dX10_count_57 fl_X10_10 (go_0 hG) rfl (gr_0_0 hG) ?_
    refine xv_geti dX10_count_60 fl_X10_91 (go_1 hG) rfl ?_
    refine xv_iret dX10_count_63 rfl (Nat.zero_le _) (Nat.zero_le _) ?_
    exact h1 rfl
  · refine xv_tabIn (tgt := 64) dX10_count_1 (by decide) (by decide) rfl rfl ?_
    refine xv_aload_n dX10_count_64 rfl rfl ?_
    refine xv_getr dX10_count_65 fl_X10_40 (go_0 hG) rfl (gr_0_4 hG) ?_
    refine xv_geti dX10_count_68 fl_X10_194 (go_5 hG) rfl ?_
    refine xv_iret dX10_count_71 rfl (Nat.zero_le _) (Nat.zero_le _) ?_
    exact h2 rfl
  · refine xv_tabIn (tgt := 72) dX10_count_1 (by decide) (by decide) rfl rfl ?_
    refine xv_aload_n dX10_count_72 rfl rfl ?_
    refine xv_getr dX10_count_73 fl_X10_47 (go_0 hG) rfl (gr_0_5 hG) ?_
    refine xv_geti dX10_count_76 fl_X10_228 (go_6 hG) rfl ?_
    refine xv_iret dX10_count_79 rfl (Nat.zero_le _) (Nat.zero_le _) ?_
    exact h3 rfl
  · refine xv_tabIn (tgt := 80) dX10_count_1 (by decide) (by decide) rfl rfl ?_
    refine xv_aload_n dX10_count_80 rfl rfl ?_
    refine xv_getr dX10_count_81 fl_X10_47 (go_0 hG) rfl (gr_0_5 hG) ?_
    refine xv_callV0 (As := []) dX10_count_84 cl_X10_316 rfl rfl rfl rfl (go_6 hG) rfl rfl (Nat.le_of_ble_eq_true rfl) (Nat.le_of_ble_eq_true rfl) (Nat.zero_le _) (Nat.zero_le _) ?_
    refine s0_openLoans hG hD hnl hl8 ?_
    refine xv_iret dX10_count_87 rfl (Nat.zero_le _) (Nat.zero_le _) ?_
    exact h4 rfl
  · refine xv_tabIn (tgt := 88) dX10_count_1 (by decide) (by decide) rfl rfl ?_
    refine xv_aload_n dX10_count_88 rfl rfl ?_
    refine xv_getr dX10_count_89 fl_X10_47 (go_0 hG) rfl (gr_0_5 hG) ?_
    refine xv_geti dX10_count_92 fl_X10_274 (go_6 hG) rfl ?_
    refine xv_iret dX10_count_95 rfl (Nat.zero_le _) (Nat.zero_le _) ?_
    exact h5 rfl
  · refine xv_tabIn (tgt := 96) dX10_count_1 (by decide) (by decide) rfl rfl ?_
    refine xv_aload_n dX10_count_96 rfl rfl ?_
    refine xv_getr dX10_count_97 fl_X10_47 (go_0 hG) rfl (gr_0_5 hG) ?_
    refine xv_geti dX10_count_100 fl_X10_221 (go_6 hG) rfl ?_
    refine xv_iret dX10_count_103 rfl (Nat.zero_le _) (Nat.zero_le _) ?_
    exact h6 rfl
  · refine xv_tabIn (tgt := 104) dX10_count_1 (by decide) (by decide) rfl rfl ?_
    refine xv_aload_n dX10_count_104 rfl rfl ?_
    refine xv_getr dX10_count_105 fl_X10_10 (go_0 hG) rfl (gr_0_0 hG) ?_
    refine xv_geti dX10_count_108 fl_X10_56 (go_1 hG) rfl ?_
    refine xv_iret dX10_count_111 rfl (Nat.zero_le _) (Nat.zero_le _) ?_
    exact h7 rfl
  · refine xv_tabOut (tgt := 112) dX10_count_1 hw rfl ?_
    refine xv_ldc dX10_count_112 ld_X10_55 ?_
    refine xv_iret dX10_count_114 rfl (Nat.zero_le _) (Nat.zero_le _) ?_
    exact h8 (by simp only [xn_lt, xn_le, Int32.reduceToInt] at *; omega)
