/-! standings and loans -/
theorem s7_grow {l : Launch} {D : va_G} {d : Nat} {G : xv_Gr} {I : xv_I} {J : xv_J} {Q : xv_Po} {b : Nat} (hb : G.1 b = some (.inl 7)) (hQ : Q none G I (xv_uj (xv_uj J b 0 (ln_o (J b 0) (I b 2))) b 1 (ln_d (J b 1) (ln_o (J b 0) (I b 2)) (I b 3)))) : xv_Ev l D d mX7_growByMonth none 0 [some (.ref b)] [] G I J 0 0 Q := by
  refine xv_aload_n dX7_growByMonth_0 rfl rfl ?_
  refine xv_dup dX7_growByMonth_1 rfl ?_
  refine xv_getj dX7_growByMonth_2 fl_X7_7 hb rfl ?_
  refine xv_aload_n dX7_growByMonth_5 rfl rfl ?_
  refine xv_getj dX7_growByMonth_6 fl_X7_7 hb rfl ?_
  refine xv_ldc2 dX7_growByMonth_9 ld_X7_27 ?_
  refine xv_ldiv dX7_growByMonth_12 (by decide) ?_
  refine xv_aload_n dX7_growByMonth_13 rfl rfl ?_
  refine xv_geti dX7_growByMonth_14 fl_X7_16 hb rfl ?_
  refine xv_i2l dX7_growByMonth_17 ?_
  refine xv_lmul dX7_growByMonth_18 ?_
  refine xv_aload_n dX7_growByMonth_19 rfl rfl ?_
  refine xv_getj dX7_growByMonth_20 fl_X7_7 hb rfl ?_
  refine xv_ldc2 dX7_growByMonth_23 ld_X7_27 ?_
  refine xv_lrem dX7_growByMonth_26 (by decide) ?_
  refine xv_aload_n dX7_growByMonth_27 rfl rfl ?_
  refine xv_geti dX7_growByMonth_28 fl_X7_16 hb rfl ?_
  refine xv_i2l dX7_growByMonth_31 ?_
  refine xv_lmul dX7_growByMonth_32 ?_
  refine xv_ldc2 dX7_growByMonth_33 ld_X7_27 ?_
  refine xv_ldiv dX7_growByMonth_36 (by decide) ?_
  refine xv_ladd dX7_growByMonth_37 ?_
  refine xv_ladd dX7_growByMonth_38 ?_
  refine xv_putj dX7_growByMonth_39 fl_X7_7 hb rfl ?_
  refine xv_aload_n dX7_growByMonth_42 rfl rfl ?_
  refine xv_aload_n dX7_growByMonth_43 rfl rfl ?_
  refine xv_getj dX7_growByMonth_44 fl_X7_13 hb rfl ?_
  refine xv_nmJ (xv_uj_o (by decide)) ?_
  refine xv_aload_n dX7_growByMonth_47 rfl rfl ?_
  refine xv_geti dX7_growByMonth_48 fl_X7_20 hb rfl ?_
  refine xv_i2l dX7_growByMonth_51 ?_
  refine xv_ladd dX7_growByMonth_52 ?_
  refine xv_aload_n dX7_growByMonth_53 rfl rfl ?_
  refine xv_getj dX7_growByMonth_54 fl_X7_7 hb rfl ?_
  refine xv_nmJ xv_uj_s ?_
  refine xv_minJ dX7_growByMonth_57 ml_X7_29 ms_J9_min_f86c9 my_minL mi_J9 (Nat.le_of_ble_eq_true rfl) (Nat.zero_le _) (Nat.zero_le _) ?_
  refine xv_putj dX7_growByMonth_60 fl_X7_13 hb rfl ?_
  refine xv_vret dX7_growByMonth_63 rfl (Nat.zero_le _) (Nat.zero_le _) ?_
  exact hQ

theorem s7_parts {l : Launch} {D : va_G} {d : Nat} {G : xv_Gr} {I : xv_I} {J : xv_J} {Q : xv_Po} {b : Nat} (hb : G.1 b = some (.inl 7)) (hp : 0 < I b 3) (hQ : Q (some (.long (J b 1 / (I b 3).toInt64))) G I J) : xv_Ev l D d mX7_partsDue none 0 [some (.ref b)] [] G I J 0 0 Q := by
  refine xv_aload_n dX7_partsDue_0 rfl rfl ?_
  refine xv_geti dX7_partsDue_1 fl_X7_20 hb rfl ?_
  refine xv_if_le (tgt := 20) dX7_partsDue_4 rfl (fun c_4 => absurd hp (by simp only [xn_lt, xn_le] at *; omega)) (fun c_4 => ?_)
  refine xv_aload_n dX7_partsDue_7 rfl rfl ?_
  refine xv_getj dX7_partsDue_8 fl_X7_13 hb rfl ?_
  refine xv_aload_n dX7_partsDue_11 rfl rfl ?_
  refine xv_geti dX7_partsDue_12 fl_X7_20 hb rfl ?_
  refine xv_i2l dX7_partsDue_15 ?_
  refine xv_ldiv dX7_partsDue_16 (fun h => by have h1 := congrArg Int64.toInt h; rw [xn_wide] at h1; simp only [xn_lt, Int32.reduceToInt, Int64.reduceToInt] at *; omega) ?_
  refine xv_goto (tgt := 21) dX7_partsDue_17 rfl ?_
  refine xv_lret dX7_partsDue_21 rfl (Nat.zero_le _) (Nat.zero_le _) ?_
  exact hQ

theorem s7_copy {l : Launch} {D : va_G} {d : Nat} {G : xv_Gr} {I : xv_I} {J : xv_J} {Q : xv_Po} {b : Nat} (hb : G.1 b = some (.inl 7)) {c : Nat} (hc : G.1 c = some (.inl 7)) (hne : c ≠ b) (hw : narrow .boolean (.int (I c 4)) = .int (I c 4) ∧ fits .boolean (.int (I c 4)) = true) (hQ : Q none G (xv_ui (xv_ui (xv_ui I b 2 (I c 2)) b 3 (I c 3)) b 4 (I c 4)) (xv_uj (xv_uj J b 0 (J c 0)) b 1 (J c 1))) : xv_Ev l D d mX7_copyFrom none 0 [some (.ref b), some (.ref c)] [] G I J 0 0 Q := by
  refine xv_aload_n dX7_copyFrom_0 rfl rfl ?_
  refine xv_aload_n dX7_copyFrom_1 rfl rfl ?_
  refine xv_getj dX7_copyFrom_2 fl_X7_7 hc rfl ?_
  refine xv_putj dX7_copyFrom_5 fl_X7_7 hb rfl ?_
  refine xv_aload_n dX7_copyFrom_8 rfl rfl ?_
  refine xv_aload_n dX7_copyFrom_9 rfl rfl ?_
  refine xv_getj dX7_copyFrom_10 fl_X7_13 hc rfl ?_
  refine xv_nmJ (xv_uj_a hne) ?_
  refine xv_putj dX7_copyFrom_13 fl_X7_13 hb rfl ?_
  refine xv_aload_n dX7_copyFrom_16 rfl rfl ?_
  refine xv_aload_n dX7_copyFrom_17 rfl rfl ?_
  refine xv_geti dX7_copyFrom_18 fl_X7_16 hc rfl ?_
  refine xv_puti dX7_copyFrom_21 fl_X7_16 hb rfl rfl rfl ?_
  refine xv_aload_n dX7_copyFrom_24 rfl rfl ?_
  refine xv_aload_n dX7_copyFrom_25 rfl rfl ?_
  refine xv_geti dX7_copyFrom_26 fl_X7_20 hc rfl ?_
  refine xv_nmI (xv_ui_a hne) ?_
  refine xv_puti dX7_copyFrom_29 fl_X7_20 hb rfl rfl rfl ?_
  refine xv_aload_n dX7_copyFrom_32 rfl rfl ?_
  refine xv_aload_n dX7_copyFrom_33 rfl rfl ?_
  refine xv_geti dX7_copyFrom_34 fl_X7_23 hc rfl ?_
  refine xv_nmI ((xv_ui_a hne).trans (xv_ui_a hne)) ?_
  refine xv_puti dX7_copyFrom_37 fl_X7_23 hb rfl hw.1 hw.2 ?_
  refine xv_vret dX7_copyFrom_40 rfl (Nat.zero_le _) (Nat.zero_le _) ?_
  exact hQ

theorem s4_isOpen {l : Launch} {D : va_G} {d : Nat} {G : xv_Gr} {I : xv_I} {J : xv_J} {Q : xv_Po} {a : Nat} (hL : xg_ln G a) (hQ : Q (some (.int (xbp (I a 2 = 1)))) G I J) : xv_Ev l D d mX4_isOpen none 0 [some (.ref a)] [] G I J 0 0 Q := by
  refine xv_aload_n dX4_isOpen_0 rfl rfl ?_
  refine xv_geti dX4_isOpen_1 fl_X4_18 hL.1 rfl ?_
  refine xv_iconst (v := 1) dX4_isOpen_4 rfl ?_
  refine xv_icmp_ne (tgt := 12) dX4_isOpen_5 rfl (fun c_5 => ?_) (fun c_5 => ?_)
  · refine xv_iconst (v := 0) dX4_isOpen_12 rfl ?_
    refine xv_zret dX4_isOpen_13 rfl rfl (Nat.zero_le _) (Nat.zero_le _) ?_
    exact xqp_F (Q := fun v => Q (some v) G I J) hQ c_5
  · refine xv_iconst (v := 1) dX4_isOpen_8 rfl ?_
    refine xv_goto (tgt := 13) dX4_isOpen_9 rfl ?_
    refine xv_zret dX4_isOpen_13 rfl rfl (Nat.zero_le _) (Nat.zero_le _) ?_
    exact xqp_T (Q := fun v => Q (some v) G I J) hQ c_5

theorem s4_write {l : Launch} {D : va_G} {d : Nat} {G : xv_Gr} {I : xv_I} {J : xv_J} {Q : xv_Po} {a : Nat} (hL : xg_ln G a) {x : Int32} {mo : Nat} (hx : xv_ix x 600 mo) (hQ : Q none G I (xv_uj (xv_uj J (a + 2) mo (J (a + 1) 0)) (a + 3) mo (J (a + 1) 1))) : xv_Ev l D d mX4_writeDown none 0 [some (.ref a), some (.int x)] [] G I J 0 0 Q := by
  refine xv_aload_n dX4_writeDown_0 rfl rfl ?_
  refine xv_getr dX4_writeDown_1 fl_X4_25 hL.1 rfl hL.2.2.2.1 ?_
  refine xv_iload_n dX4_writeDown_4 rfl rfl ?_
  refine xv_aload_n dX4_writeDown_5 rfl rfl ?_
  refine xv_getr dX4_writeDown_6 fl_X4_12 hL.1 rfl hL.2.1 ?_
  refine xv_getj dX4_writeDown_9 fl_X4_35 hL.2.2.1 rfl ?_
  refine xv_lastore dX4_writeDown_12 hL.2.2.2.2.1 hx ?_
  refine xv_aload_n dX4_writeDown_13 rfl rfl ?_
  refine xv_getr dX4_writeDown_14 fl_X4_29 hL.1 rfl hL.2.2.2.2.2.1 ?_
  refine xv_iload_n dX4_writeDown_17 rfl rfl ?_
  refine xv_aload_n dX4_writeDown_18 rfl rfl ?_
  refine xv_getr dX4_writeDown_19 fl_X4_12 hL.1 rfl hL.2.1 ?_
  refine xv_getj dX4_writeDown_22 fl_X4_58 hL.2.2.1 rfl ?_
  refine xv_nmJ (xv_uj_a (by omega)) ?_
  refine xv_lastore dX4_writeDown_25 hL.2.2.2.2.2.2 hx ?_
  refine xv_vret dX4_writeDown_26 rfl (Nat.zero_le _) (Nat.zero_le _) ?_
  exact hQ

/-- a loan grows by a month -/
def ln_g (I : xv_I) (J : xv_J) (a mo : Nat) : xv_J := (xv_uj (xv_uj ((xv_uj (xv_uj J (a + 1) 0 (ln_o (J (a + 1) 0) (I (a + 1) 2))) (a + 1) 1 (ln_d (J (a + 1) 1) (ln_o (J (a + 1) 0) (I (a + 1) 2)) (I (a + 1) 3)))) (a + 2) mo (((xv_uj (xv_uj J (a + 1) 0 (ln_o (J (a + 1) 0) (I (a + 1) 2))) (a + 1) 1 (ln_d (J (a + 1) 1) (ln_o (J (a + 1) 0) (I (a + 1) 2)) (I (a + 1) 3)))) (a + 1) 0)) (a + 3) mo (((xv_uj (xv_uj J (a + 1) 0 (ln_o (J (a + 1) 0) (I (a + 1) 2))) (a + 1) 1 (ln_d (J (a + 1) 1) (ln_o (J (a + 1) 0) (I (a + 1) 2)) (I (a + 1) 3)))) (a + 1) 1))
theorem s4_grow {l : Launch} {D : va_G} {d : Nat} {G : xv_Gr} {I : xv_I} {J : xv_J} {Q : xv_Po} {a : Nat} (hL : xg_ln G a) {x : Int32} {mo : Nat} (hx : xv_ix x 600 mo) (hQ : Q none G I (ln_g I J a mo)) : xv_Ev l D (d + 1) mX4_grow none 0 [some (.ref a), some (.int x)] [] G I J 0 0 Q := by
  refine xv_aload_n dX4_grow_0 rfl rfl ?_
  refine xv_getr dX4_grow_1 fl_X4_12 hL.1 rfl hL.2.1 ?_
  refine xv_callV0 (As := []) dX4_grow_4 cl_X4_45 rfl rfl rfl rfl hL.2.2.1 rfl rfl (Nat.le_of_ble_eq_true rfl) (Nat.le_of_ble_eq_true rfl) (Nat.zero_le _) (Nat.zero_le _) ?_
  refine s7_grow hL.2.2.1 ?_
  refine xv_aload_n dX4_grow_7 rfl rfl ?_
  refine xv_iload_n dX4_grow_8 rfl rfl ?_
  refine xv_callV0 (As := [_]) dX4_grow_9 cl_X4_48 rfl rfl rfl rfl hL.1 rfl rfl (Nat.le_of_ble_eq_true rfl) (Nat.le_of_ble_eq_true rfl) (Nat.zero_le _) (Nat.zero_le _) ?_
  refine s4_write hL hx ?_
  refine xv_vret dX4_grow_12 rfl (Nat.zero_le _) (Nat.zero_le _) ?_
  exact hQ

theorem s4_close {l : Launch} {D : va_G} {d : Nat} {G : xv_Gr} {I : xv_I} {J : xv_J} {Q : xv_Po} {a : Nat} (hL : xg_ln G a) {h x : Int32} (hQ : Q none G (xv_ui (xv_ui I a 2 h) a 3 x) J) : xv_Ev l D d mX4_close none 0 [some (.ref a), some (.int h), some (.int x)] [] G I J 0 0 Q := by
  refine xv_aload_n dX4_close_0 rfl rfl ?_
  refine xv_iload_n dX4_close_1 rfl rfl ?_
  refine xv_puti dX4_close_2 fl_X4_18 hL.1 rfl rfl rfl ?_
  refine xv_aload_n dX4_close_5 rfl rfl ?_
  refine xv_iload_n dX4_close_6 rfl rfl ?_
  refine xv_puti dX4_close_7 fl_X4_22 hL.1 rfl rfl rfl ?_
  refine xv_vret dX4_close_10 rfl (Nat.zero_le _) (Nat.zero_le _) ?_
  exact hQ

theorem s4_owedIn {l : Launch} {D : va_G} {d : Nat} {G : xv_Gr} {I : xv_I} {J : xv_J} {Q : xv_Po} {a : Nat} (hL : xg_ln G a) {x : Int32} {k : Nat} (h1 : x < I a 0 → Q (some (.long 0)) G I J) (hk : xv_ix (if I a 3 < x then I a 3 else x) 600 k) (h2 : ¬ x < I a 0 → Q (some (.long (J (a + 2) k))) G I J) : xv_Ev l D d mX4_owedIn none 0 [some (.ref a), some (.int x)] [] G I J 0 0 Q := by
  refine xv_iload_n dX4_owedIn_0 rfl rfl ?_
  refine xv_aload_n dX4_owedIn_1 rfl rfl ?_
  refine xv_geti dX4_owedIn_2 fl_X4_32 hL.1 rfl ?_
  refine xv_icmp_ge (tgt := 12) dX4_owedIn_5 rfl (fun c_5 => ?_) (fun c_5 => ?_)
  · refine xv_aload_n dX4_owedIn_12 rfl rfl ?_
    refine xv_getr dX4_owedIn_13 fl_X4_25 hL.1 rfl hL.2.2.2.1 ?_
    refine xv_iload_n dX4_owedIn_16 rfl rfl ?_
    refine xv_aload_n dX4_owedIn_17 rfl rfl ?_
    refine xv_geti dX4_owedIn_18 fl_X4_22 hL.1 rfl ?_
    refine xv_minI dX4_owedIn_21 ml_X4_68 ms_J9_min_7cf53 my_min mi_J9 (Nat.le_of_ble_eq_true rfl) (Nat.zero_le _) (Nat.zero_le _) ?_
    refine xv_laload dX4_owedIn_24 hL.2.2.2.2.1 hk ?_
    refine xv_lret dX4_owedIn_25 rfl (Nat.zero_le _) (Nat.zero_le _) ?_
    exact h2 (by simp only [xn_lt, xn_le] at *; omega)
  · refine xv_lconst (v := 0) dX4_owedIn_8 rfl ?_
    refine xv_goto (tgt := 25) dX4_owedIn_9 rfl ?_
    refine xv_lret dX4_owedIn_25 rfl (Nat.zero_le _) (Nat.zero_le _) ?_
    exact h1 (by simp only [xn_lt, xn_le] at *; omega)

theorem s4_dueIn {l : Launch} {D : va_G} {d : Nat} {G : xv_Gr} {I : xv_I} {J : xv_J} {Q : xv_Po} {a : Nat} (hL : xg_ln G a) {x : Int32} {k : Nat} (h1 : x < I a 0 → Q (some (.long 0)) G I J) (hk : xv_ix (if I a 3 < x then I a 3 else x) 600 k) (h2 : ¬ x < I a 0 → Q (some (.long (J (a + 3) k))) G I J) : xv_Ev l D d mX4_dueIn none 0 [some (.ref a), some (.int x)] [] G I J 0 0 Q := by
  refine xv_iload_n dX4_dueIn_0 rfl rfl ?_
  refine xv_aload_n dX4_dueIn_1 rfl rfl ?_
  refine xv_geti dX4_dueIn_2 fl_X4_32 hL.1 rfl ?_
  refine xv_icmp_ge (tgt := 12) dX4_dueIn_5 rfl (fun c_5 => ?_) (fun c_5 => ?_)
  · refine xv_aload_n dX4_dueIn_12 rfl rfl ?_
    refine xv_getr dX4_dueIn_13 fl_X4_29 hL.1 rfl hL.2.2.2.2.2.1 ?_
    refine xv_iload_n dX4_dueIn_16 rfl rfl ?_
    refine xv_aload_n dX4_dueIn_17 rfl rfl ?_
    refine xv_geti dX4_dueIn_18 fl_X4_22 hL.1 rfl ?_
    refine xv_minI dX4_dueIn_21 ml_X4_68 ms_J9_min_7cf53 my_min mi_J9 (Nat.le_of_ble_eq_true rfl) (Nat.zero_le _) (Nat.zero_le _) ?_
    refine xv_laload dX4_dueIn_24 hL.2.2.2.2.2.2 hk ?_
    refine xv_lret dX4_dueIn_25 rfl (Nat.zero_le _) (Nat.zero_le _) ?_
    exact h2 (by simp only [xn_lt, xn_le] at *; omega)
  · refine xv_lconst (v := 0) dX4_dueIn_8 rfl ?_
    refine xv_goto (tgt := 25) dX4_dueIn_9 rfl ?_
    refine xv_lret dX4_dueIn_25 rfl (Nat.zero_le _) (Nat.zero_le _) ?_
    exact h1 (by simp only [xn_lt, xn_le] at *; omega)

theorem s4_howIn {l : Launch} {D : va_G} {d : Nat} {G : xv_Gr} {I : xv_I} {J : xv_J} {Q : xv_Po} {a : Nat} (hL : xg_ln G a) {x : Int32} (h1 : x < I a 0 → Q (some (.int 0)) G I J) (h2 : ¬ x < I a 0 → x < I a 3 → Q (some (.int 1)) G I J) (h3 : ¬ x < I a 0 → ¬ x < I a 3 → Q (some (.int (I a 2))) G I J) : xv_Ev l D d mX4_howIn none 0 [some (.ref a), some (.int x)] [] G I J 0 0 Q := by
  refine xv_iload_n dX4_howIn_0 rfl rfl ?_
  refine xv_aload_n dX4_howIn_1 rfl rfl ?_
  refine xv_geti dX4_howIn_2 fl_X4_32 hL.1 rfl ?_
  refine xv_icmp_ge (tgt := 10) dX4_howIn_5 rfl (fun c_5 => ?_) (fun c_5 => ?_)
  · refine xv_iload_n dX4_howIn_10 rfl rfl ?_
    refine xv_aload_n dX4_howIn_11 rfl rfl ?_
    refine xv_geti dX4_howIn_12 fl_X4_22 hL.1 rfl ?_
    refine xv_icmp_ge (tgt := 22) dX4_howIn_15 rfl (fun c_15 => ?_) (fun c_15 => ?_)
    · refine xv_aload_n dX4_howIn_22 rfl rfl ?_
      refine xv_geti dX4_howIn_23 fl_X4_18 hL.1 rfl ?_
      refine xv_iret dX4_howIn_26 rfl (Nat.zero_le _) (Nat.zero_le _) ?_
      exact h3 (by simp only [xn_lt, xn_le] at *; omega) (by simp only [xn_lt, xn_le] at *; omega)
    · refine xv_iconst (v := 1) dX4_howIn_18 rfl ?_
      refine xv_goto (tgt := 26) dX4_howIn_19 rfl ?_
      refine xv_iret dX4_howIn_26 rfl (Nat.zero_le _) (Nat.zero_le _) ?_
      exact h2 (by simp only [xn_lt, xn_le] at *; omega) (by simp only [xn_lt, xn_le] at *; omega)
  · refine xv_iconst (v := 0) dX4_howIn_8 rfl ?_
    refine xv_iret dX4_howIn_9 rfl (Nat.zero_le _) (Nat.zero_le _) ?_
    exact h1 (by simp only [xn_lt, xn_le] at *; omega)

def ln_t (v : Int32) (o : Int64) : Int64 := if o < v.toInt64 then o else v.toInt64
def ln_z (d t : Int64) : Int64 := if d - t < 0 then 0 else d - t
def ln_p (J : xv_J) (a mo : Nat) (v : Int32) : xv_J := (xv_uj (xv_uj (xv_uj (xv_uj J (a + 1) 0 (J (a + 1) 0 - ln_t v (J (a + 1) 0))) (a + 1) 1 (ln_z (J (a + 1) 1) (ln_t v (J (a + 1) 0)))) (a + 2) mo ((xv_uj (xv_uj J (a + 1) 0 (J (a + 1) 0 - ln_t v (J (a + 1) 0))) (a + 1) 1 (ln_z (J (a + 1) 1) (ln_t v (J (a + 1) 0)))) (a + 1) 0)) (a + 3) mo ((xv_uj (xv_uj J (a + 1) 0 (J (a + 1) 0 - ln_t v (J (a + 1) 0))) (a + 1) 1 (ln_z (J (a + 1) 1) (ln_t v (J (a + 1) 0)))) (a + 1) 1))
theorem s4_pay {l : Launch} {D : va_G} {d : Nat} {G : xv_Gr} {I : xv_I} {J : xv_J} {Q : xv_Po} {a : Nat} (hL : xg_ln G a) {v x : Int32} {mo : Nat} (hx : xv_ix x 600 mo) (h1 : J (a + 1) 0 - ln_t v (J (a + 1) 0) = 0 → Q (some (.int (ln_t v (J (a + 1) 0)).toInt32)) G (xv_ui (xv_ui I a 2 2) a 3 x) (ln_p J a mo v)) (h2 : ¬ J (a + 1) 0 - ln_t v (J (a + 1) 0) = 0 → Q (some (.int (ln_t v (J (a + 1) 0)).toInt32)) G I (ln_p J a mo v)) : xv_Ev l D (d + 1) mX4_payIn none 0 [some (.ref a), some (.int v), some (.int x), none, none] [] G I J 0 0 Q := by
  have e0 : (ln_p J a mo v) (a + 1) 0 = J (a + 1) 0 - ln_t v (J (a + 1) 0) := by simp [ln_p, xv_uj_ap]
  refine xv_iload_n dX4_payIn_0 rfl rfl ?_
  refine xv_i2l dX4_payIn_1 ?_
  refine xv_aload_n dX4_payIn_2 rfl rfl ?_
  refine xv_getr dX4_payIn_3 fl_X4_12 hL.1 rfl hL.2.1 ?_
  refine xv_getj dX4_payIn_6 fl_X4_35 hL.2.2.1 rfl ?_
  refine xv_minJ dX4_payIn_9 ml_X4_52 ms_J9_min_f86c9 my_minL mi_J9 (Nat.le_of_ble_eq_true rfl) (Nat.zero_le _) (Nat.zero_le _) ?_
  refine xv_lstore_n dX4_payIn_12 rfl (Nat.le_of_ble_eq_true rfl) rfl ?_
  refine xv_aload_n dX4_payIn_13 rfl rfl ?_
  refine xv_getr dX4_payIn_14 fl_X4_12 hL.1 rfl hL.2.1 ?_
  refine xv_dup dX4_payIn_17 rfl ?_
  refine xv_getj dX4_payIn_18 fl_X4_35 hL.2.2.1 rfl ?_
  refine xv_lload_n dX4_payIn_21 rfl rfl ?_
  refine xv_lsub dX4_payIn_22 ?_
  refine xv_putj dX4_payIn_23 fl_X4_35 hL.2.2.1 rfl ?_
  refine xv_aload_n dX4_payIn_26 rfl rfl ?_
  refine xv_getr dX4_payIn_27 fl_X4_12 hL.1 rfl hL.2.1 ?_
  refine xv_lconst (v := 0) dX4_payIn_30 rfl ?_
  refine xv_aload_n dX4_payIn_31 rfl rfl ?_
  refine xv_getr dX4_payIn_32 fl_X4_12 hL.1 rfl hL.2.1 ?_
  refine xv_getj dX4_payIn_35 fl_X4_58 hL.2.2.1 rfl ?_
  refine xv_nmJ (xv_uj_o (by decide)) ?_
  refine xv_lload_n dX4_payIn_38 rfl rfl ?_
  refine xv_lsub dX4_payIn_39 ?_
  refine xv_maxJ dX4_payIn_40 ml_X4_61 ms_J9_max_f86c9 my_maxL mi_J9 (Nat.le_of_ble_eq_true rfl) (Nat.zero_le _) (Nat.zero_le _) ?_
  refine xv_putj dX4_payIn_43 fl_X4_58 hL.2.2.1 rfl ?_
  refine xv_aload_n dX4_payIn_46 rfl rfl ?_
  refine xv_iload_n dX4_payIn_47 rfl rfl ?_
  refine xv_callV0 (As := [_]) dX4_payIn_48 cl_X4_48 rfl rfl rfl rfl hL.1 rfl rfl (Nat.le_of_ble_eq_true rfl) (Nat.le_of_ble_eq_true rfl) (Nat.zero_le _) (Nat.zero_le _) ?_
  refine s4_write hL hx ?_
  refine xv_aload_n dX4_payIn_51 rfl rfl ?_
  refine xv_getr dX4_payIn_52 fl_X4_12 hL.1 rfl hL.2.1 ?_
  refine xv_getj dX4_payIn_55 fl_X4_35 hL.2.2.1 rfl ?_
  refine xv_nmJ e0 ?_
  refine xv_lconst (v := 0) dX4_payIn_58 rfl ?_
  refine xv_lcmp dX4_payIn_59 ?_
  refine xv_if_ne (tgt := 69) dX4_payIn_60 rfl (fun c_60 => ?_) (fun c_60 => ?_)
  · refine xv_lload_n dX4_payIn_69 rfl rfl ?_
    refine xv_l2i dX4_payIn_70 ?_
    refine xv_iret dX4_payIn_71 rfl (Nat.zero_le _) (Nat.zero_le _) ?_
    exact h2 (fun h => c_60 ((xn_cmp_eq _ _).mpr h))
  · refine xv_aload_n dX4_payIn_63 rfl rfl ?_
    refine xv_iconst (v := 2) dX4_payIn_64 rfl ?_
    refine xv_iload_n dX4_payIn_65 rfl rfl ?_
    refine xv_callV0 (As := [_, _]) dX4_payIn_66 cl_X4_64 rfl rfl rfl rfl hL.1 rfl rfl (Nat.le_of_ble_eq_true rfl) (Nat.le_of_ble_eq_true rfl) (Nat.zero_le _) (Nat.zero_le _) ?_
    refine s4_close hL ?_
    refine xv_lload_n dX4_payIn_69 rfl rfl ?_
    refine xv_l2i dX4_payIn_70 ?_
    refine xv_iret dX4_payIn_71 rfl (Nat.zero_le _) (Nat.zero_le _) ?_
    exact h1 ((xn_cmp_eq _ _).mp c_60)
