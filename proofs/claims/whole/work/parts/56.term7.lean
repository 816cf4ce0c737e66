/-! feed, fault, force (class); loans and terms made -/
theorem s10_fault {l : Launch} {D : va_G} {d : Nat} {G : xv_Gr} {I : xv_I} {J : xv_J} {Q : xv_Po} (hG : xg_ok G) {nl nt : Nat} (hD : xg_dy G nl nt) (hnt2 : I 6 2 = nI nt) (ht4 : nt ≤ 4) {x : Int32} (h1 : ¬ (0 ≤ x ∧ x < nI nt) → Q (some (.int (-900001))) G I J) (h2 : ∀ t, t < nt → x = nI t → Q (some (.int (I (300 + 2 * t) 2))) G I J) : xv_Ev l D (d + 1) mX10_fault none 0 [some (.ref 0), some (.int x), none] [] G I J 0 0 Q := by
  refine xv_aload_n dX10_fault_0 rfl rfl ?_
  refine xv_getr dX10_fault_1 fl_X10_47 (go_0 hG) rfl (gr_0_5 hG) ?_
  refine xv_iload_n dX10_fault_4 rfl rfl ?_
  refine xv_callV0 (As := [_]) dX10_fault_5 cl_X10_280 rfl rfl rfl rfl (go_6 hG) rfl rfl (Nat.le_of_ble_eq_true rfl) (Nat.le_of_ble_eq_true rfl) (Nat.zero_le _) (Nat.zero_le _) ?_
  refine s0_termOf hG hD hnt2 ht4 (fun h => ?_) (fun t ht e => ?_)
  · refine xv_astore_nN dX10_fault_8 rfl (Nat.le_of_ble_eq_true rfl) rfl ?_
    refine xv_aload_nN dX10_fault_9 rfl rfl ?_
    refine xv_ifnonnullN dX10_fault_10 ?_
    refine xv_ldc dX10_fault_13 ld_X10_75 ?_
    refine xv_goto (tgt := 22) dX10_fault_15 rfl ?_
    refine xv_iret dX10_fault_22 rfl (Nat.zero_le _) (Nat.zero_le _) ?_
    exact h1 h
  · subst e
    refine xv_astore_n dX10_fault_8 rfl (Nat.le_of_ble_eq_true rfl) rfl ?_
    refine xv_aload_n dX10_fault_9 rfl rfl ?_
    refine xv_ifnonnull (tgt := 18) dX10_fault_10 rfl ?_
    refine xv_aload_n dX10_fault_18 rfl rfl ?_
    refine xv_geti dX10_fault_19 fl_X10_292 (hD.2.1 t ht).2.1 rfl ?_
    refine xv_iret dX10_fault_22 rfl (Nat.zero_le _) (Nat.zero_le _) ?_
    exact h2 t ht rfl

theorem s10_feed {l : Launch} {D : va_G} {d : Nat} {G : xv_Gr} {I : xv_I} {J : xv_J} {Q : xv_Po} (hG : xg_ok G) {nl nt : Nat} (hD : xg_dy G nl nt) (hnt2 : I 6 2 = nI nt) (ht4 : nt ≤ 4) {szf dgf : Nat → Nat} (hsf : ∀ t, t < nt → I (300 + 2 * t) 1 = nI (szf t) ∧ szf t ≤ 60) (hdf : ∀ t, t < nt → I (300 + 2 * t) 5 = nI (dgf t) ∧ dgf t ≤ 6) {x : Int32} {y : Int64} (h1 : ¬ (0 ≤ x ∧ x < nI nt) → Q (some (.int (-900001))) G I J) (h2 : ∀ t, t < nt → x = nI t → 60 < szf t + tm_mn y → Q (some (.int (-900004))) G I J) (h3 : ∀ t, t < nt → x = nI t → szf t + tm_mn y ≤ 60 → Q (some (.int (nI (szf t + tm_mn y)))) G (xv_ui (tm_M (xv_ui (tm_cp I ((300 + 2 * t) + 1) (szf t) y (tm_mn y)) (300 + 2 * t) 1 (nI ((szf t) + tm_mn y))) (300 + 2 * t) (tm_st ((xv_ui (tm_cp I ((300 + 2 * t) + 1) (szf t) y (tm_mn y)) (300 + 2 * t) 1 (nI ((szf t) + tm_mn y))) ((300 + 2 * t) + 1)) (dgf t) (tm_wr ((xv_ui (tm_cp I ((300 + 2 * t) + 1) (szf t) y (tm_mn y)) (300 + 2 * t) 1 (nI ((szf t) + tm_mn y))) ((300 + 2 * t) + 1)) (dgf t) ((szf t) + tm_mn y) ((szf t) + tm_mn y) 0).2).2.1 (tm_st ((xv_ui (tm_cp I ((300 + 2 * t) + 1) (szf t) y (tm_mn y)) (300 + 2 * t) 1 (nI ((szf t) + tm_mn y))) ((300 + 2 * t) + 1)) (dgf t) (tm_wr ((xv_ui (tm_cp I ((300 + 2 * t) + 1) (szf t) y (tm_mn y)) (300 + 2 * t) 1 (nI ((szf t) + tm_mn y))) ((300 + 2 * t) + 1)) (dgf t) ((szf t) + tm_mn y) ((szf t) + tm_mn y) 0).2).2.2) (300 + 2 * t) 2 (tm_wr ((xv_ui (tm_cp I ((300 + 2 * t) + 1) (szf t) y (tm_mn y)) (300 + 2 * t) 1 (nI ((szf t) + tm_mn y))) ((300 + 2 * t) + 1)) (dgf t) ((szf t) + tm_mn y) ((szf t) + tm_mn y) 0).1) J) : xv_Ev l D (d + 5) mX10_feed none 0 [some (.ref 0), some (.int x), some (.long y), none, none] [] G I J 0 0 Q := by
  refine xv_aload_n dX10_feed_0 rfl rfl ?_
  refine xv_getr dX10_feed_1 fl_X10_47 (go_0 hG) rfl (gr_0_5 hG) ?_
  refine xv_iload_n dX10_feed_4 rfl rfl ?_
  refine xv_callV0 (As := [_]) dX10_feed_5 cl_X10_280 rfl rfl rfl rfl (go_6 hG) rfl rfl (Nat.le_of_ble_eq_true rfl) (Nat.le_of_ble_eq_true rfl) (Nat.zero_le _) (Nat.zero_le _) ?_
  refine s0_termOf hG hD hnt2 ht4 (fun h => ?_) (fun t ht e => ?_)
  · refine xv_astoreN dX10_feed_8 (Nat.le_of_ble_eq_true rfl) rfl ?_
    refine xv_aloadN dX10_feed_10 rfl ?_
    refine xv_ifnonnullN dX10_feed_12 ?_
    refine xv_ldc dX10_feed_15 ld_X10_75 ?_
    refine xv_iret dX10_feed_17 rfl (Nat.zero_le _) (Nat.zero_le _) ?_
    exact h1 h
  · subst e
    refine xv_astore dX10_feed_8 (Nat.le_of_ble_eq_true rfl) rfl ?_
    refine xv_aload dX10_feed_10 rfl ?_
    refine xv_ifnonnull (tgt := 18) dX10_feed_12 rfl ?_
    refine xv_aload dX10_feed_18 rfl ?_
    refine xv_lload_n dX10_feed_20 rfl rfl ?_
    refine xv_callV0 (As := [_]) dX10_feed_21 cl_X10_284 rfl rfl rfl rfl (hD.2.1 t ht).2.1 rfl rfl (Nat.le_of_ble_eq_true rfl) (Nat.le_of_ble_eq_true rfl) (Nat.zero_le _) (Nat.zero_le _) ?_
    refine s8_takeBytes (hD.2.1 t ht).2 (hsf t ht).1 (hsf t ht).2 (hdf t ht).1 (hdf t ht).2 (fun q => ?_) (fun q => ?_)
    · refine xv_if_eq (tgt := 35) dX10_feed_24 rfl (fun c_24 => ?_) (fun c_24 => absurd (by decide) c_24)
      refine xv_ldc dX10_feed_35 ld_X10_63 ?_
      refine xv_iret dX10_feed_37 rfl (Nat.zero_le _) (Nat.zero_le _) ?_
      exact h2 t ht rfl q
    · refine xv_if_eq (tgt := 35) dX10_feed_24 rfl (fun c_24 => absurd c_24 (by decide)) (fun c_24 => ?_)
      refine xv_aload dX10_feed_27 rfl ?_
      refine xv_geti dX10_feed_29 fl_X10_290 (hD.2.1 t ht).2.1 rfl ?_
      refine xv_nmI (show _ = nI (szf t + tm_mn y) from by simp [xv_ui_ap, tm_M]) ?_
      refine xv_goto (tgt := 37) dX10_feed_32 rfl ?_
      refine xv_iret dX10_feed_37 rfl (Nat.zero_le _) (Nat.zero_le _) ?_
      exact h3 t ht rfl q

theorem s10_force {l : Launch} {D : va_G} {d : Nat} {G : xv_Gr} {I : xv_I} {J : xv_J} {Q : xv_Po} (hG : xg_ok G) {nl nt : Nat} (hD : xg_dy G nl nt) (hnt2 : I 6 2 = nI nt) (ht4 : nt ≤ 4) {x : Int32} (h1 : ¬ (0 ≤ x ∧ x ≤ 599) → Q (some (.int (-900002))) G I J) (h2 : (0 ≤ x ∧ x ≤ 599) → Q (some (.int (ti_st I x nt).1)) G I J) : xv_Ev l D (d + 1) mX10_force none 0 [some (.ref 0), some (.int x)] [] G I J 0 0 Q := by
  refine xv_iload_n dX10_force_0 rfl rfl ?_
  refine xv_iconst (v := 0) dX10_force_1 rfl ?_
  refine xv_sipush (v := 599) dX10_force_2 rfl ?_
  refine xv_callS0 (As := [_, _, _]) dX10_force_5 cl_X10_51 rfl rfl rfl rfl (Nat.le_of_ble_eq_true rfl) (Nat.le_of_ble_eq_true rfl) (Nat.zero_le _) (Nat.zero_le _) ?_
  refine s10_isOutside ?_
  refine xv_if_eqD (tgt := 16) dX10_force_8 rfl (fun c_8 => ?_) (fun c_8 => ?_)
  · refine xv_aload_n dX10_force_16 rfl rfl ?_
    refine xv_getr dX10_force_17 fl_X10_47 (go_0 hG) rfl (gr_0_5 hG) ?_
    refine xv_iload_n dX10_force_20 rfl rfl ?_
    refine xv_callV0 (As := [_]) dX10_force_21 cl_X10_295 rfl rfl rfl rfl (go_6 hG) rfl rfl (Nat.le_of_ble_eq_true rfl) (Nat.le_of_ble_eq_true rfl) (Nat.zero_le _) (Nat.zero_le _) ?_
    refine s0_termIn hG hD hnt2 ht4 ?_
    refine xv_iret dX10_force_24 rfl (Nat.zero_le _) (Nat.zero_le _) ?_
    exact h2 (by simp only [xn_lt, xn_le, Int32.reduceToInt] at *; omega)
  · refine xv_ldc dX10_force_11 ld_X10_55 ?_
    refine xv_goto (tgt := 24) dX10_force_13 rfl ?_
    refine xv_iret dX10_force_24 rfl (Nat.zero_le _) (Nat.zero_le _) ?_
    exact h1 (by simp only [xn_lt, xn_le, Int32.reduceToInt] at *; omega)

theorem s7_init {l : Launch} {D : va_G} {d : Nat} {G : xv_Gr} {I : xv_I} {J : xv_J} {Q : xv_Po} {b : Nat} (hb : G.1 b = some (.inl 7)) (hQ : Q none G (xv_ui (xv_ui (xv_ui I b 2 0) b 3 1) b 4 1) (xv_uj (xv_uj J b 0 0) b 1 0)) : xv_Ev l D d mX7_init none 0 [some (.ref b)] [] G I J 0 0 Q := by
  refine xv_aload_n dX7_init_0 rfl rfl ?_
  refine xv_objI dX7_init_1 ol_X7_1 ow_i ow_c (Nat.le_of_ble_eq_true rfl) ?_
  refine xv_aload_n dX7_init_4 rfl rfl ?_
  refine xv_lconst (v := 0) dX7_init_5 rfl ?_
  refine xv_putj dX7_init_6 fl_X7_7 hb rfl ?_
  refine xv_aload_n dX7_init_9 rfl rfl ?_
  refine xv_lconst (v := 0) dX7_init_10 rfl ?_
  refine xv_putj dX7_init_11 fl_X7_13 hb rfl ?_
  refine xv_aload_n dX7_init_14 rfl rfl ?_
  refine xv_iconst (v := 0) dX7_init_15 rfl ?_
  refine xv_puti dX7_init_16 fl_X7_16 hb rfl rfl rfl ?_
  refine xv_aload_n dX7_init_19 rfl rfl ?_
  refine xv_iconst (v := 1) dX7_init_20 rfl ?_
  refine xv_puti dX7_init_21 fl_X7_20 hb rfl rfl rfl ?_
  refine xv_aload_n dX7_init_24 rfl rfl ?_
  refine xv_iconst (v := 1) dX7_init_25 rfl ?_
  refine xv_puti dX7_init_26 fl_X7_23 hb rfl rfl rfl ?_
  refine xv_vret dX7_init_29 rfl (Nat.zero_le _) (Nat.zero_le _) ?_
  exact hQ

def li_r (a mo : Nat) (pr rt pt : Int32) (G : xv_Gr) (I : xv_I) (J : xv_J) (G2 : xv_Gr) (I2 : xv_I) (J2 : xv_J) : Prop :=
  (xg_ln G2 a) ∧
  (∀ b, b < a ∨ a + 4 ≤ b → G2.1 b = G.1 b) ∧
  (∀ b, b < a ∨ a + 4 ≤ b → G2.2 b = G.2 b) ∧
  (∀ b, b < a ∨ a + 4 ≤ b → I2 b = I b) ∧
  (∀ b, b < a ∨ a + 4 ≤ b → J2 b = J b) ∧
  (I2 a 0 = nI mo) ∧
  (I2 a 2 = 1) ∧
  (I2 a 3 = 599) ∧
  (I2 (a + 1) 2 = rt) ∧
  (I2 (a + 1) 3 = pt) ∧
  (I2 (a + 1) 4 = 1) ∧
  (J2 (a + 1) 0 = pr.toInt64) ∧
  (J2 (a + 1) 1 = 0) ∧
  (J2 (a + 2) = fun k => if k = mo then pr.toInt64 else 0) ∧
  (J2 (a + 3) = fun _ => 0)
theorem li_r.sh {a mo : Nat} {pr rt pt : Int32} {G : xv_Gr} {I : xv_I} {J : xv_J} {G2 : xv_Gr} {I2 : xv_I} {J2 : xv_J} (h : li_r a mo pr rt pt G I J G2 I2 J2) : xg_ln G2 a := h.1
theorem li_r.g1 {a mo : Nat} {pr rt pt : Int32} {G : xv_Gr} {I : xv_I} {J : xv_J} {G2 : xv_Gr} {I2 : xv_I} {J2 : xv_J} (h : li_r a mo pr rt pt G I J G2 I2 J2) : ∀ b, b < a ∨ a + 4 ≤ b → G2.1 b = G.1 b := h.2.1
theorem li_r.g2 {a mo : Nat} {pr rt pt : Int32} {G : xv_Gr} {I : xv_I} {J : xv_J} {G2 : xv_Gr} {I2 : xv_I} {J2 : xv_J} (h : li_r a mo pr rt pt G I J G2 I2 J2) : ∀ b, b < a ∨ a + 4 ≤ b → G2.2 b = G.2 b := h.2.2.1
theorem li_r.fi {a mo : Nat} {pr rt pt : Int32} {G : xv_Gr} {I : xv_I} {J : xv_J} {G2 : xv_Gr} {I2 : xv_I} {J2 : xv_J} (h : li_r a mo pr rt pt G I J G2 I2 J2) : ∀ b, b < a ∨ a + 4 ≤ b → I2 b = I b := h.2.2.2.1
theorem li_r.fj {a mo : Nat} {pr rt pt : Int32} {G : xv_Gr} {I : xv_I} {J : xv_J} {G2 : xv_Gr} {I2 : xv_I} {J2 : xv_J} (h : li_r a mo pr rt pt G I J G2 I2 J2) : ∀ b, b < a ∨ a + 4 ≤ b → J2 b = J b := h.2.2.2.2.1
theorem li_r.i0 {a mo : Nat} {pr rt pt : Int32} {G : xv_Gr} {I : xv_I} {J : xv_J} {G2 : xv_Gr} {I2 : xv_I} {J2 : xv_J} (h : li_r a mo pr rt pt G I J G2 I2 J2) : I2 a 0 = nI mo := h.2.2.2.2.2.1
theorem li_r.i2 {a mo : Nat} {pr rt pt : Int32} {G : xv_Gr} {I : xv_I} {J : xv_J} {G2 : xv_Gr} {I2 : xv_I} {J2 : xv_J} (h : li_r a mo pr rt pt G I J G2 I2 J2) : I2 a 2 = 1 := h.2.2.2.2.2.2.1
theorem li_r.i3 {a mo : Nat} {pr rt pt : Int32} {G : xv_Gr} {I : xv_I} {J : xv_J} {G2 : xv_Gr} {I2 : xv_I} {J2 : xv_J} (h : li_r a mo pr rt pt G I J G2 I2 J2) : I2 a 3 = 599 := h.2.2.2.2.2.2.2.1
theorem li_r.s2 {a mo : Nat} {pr rt pt : Int32} {G : xv_Gr} {I : xv_I} {J : xv_J} {G2 : xv_Gr} {I2 : xv_I} {J2 : xv_J} (h : li_r a mo pr rt pt G I J G2 I2 J2) : I2 (a + 1) 2 = rt := h.2.2.2.2.2.2.2.2.1
theorem li_r.s3 {a mo : Nat} {pr rt pt : Int32} {G : xv_Gr} {I : xv_I} {J : xv_J} {G2 : xv_Gr} {I2 : xv_I} {J2 : xv_J} (h : li_r a mo pr rt pt G I J G2 I2 J2) : I2 (a + 1) 3 = pt := h.2.2.2.2.2.2.2.2.2.1
theorem li_r.s4 {a mo : Nat} {pr rt pt : Int32} {G : xv_Gr} {I : xv_I} {J : xv_J} {G2 : xv_Gr} {I2 : xv_I} {J2 : xv_J} (h : li_r a mo pr rt pt G I J G2 I2 J2) : I2 (a + 1) 4 = 1 := h.2.2.2.2.2.2.2.2.2.2.1
theorem li_r.j0 {a mo : Nat} {pr rt pt : Int32} {G : xv_Gr} {I : xv_I} {J : xv_J} {G2 : xv_Gr} {I2 : xv_I} {J2 : xv_J} (h : li_r a mo pr rt pt G I J G2 I2 J2) : J2 (a + 1) 0 = pr.toInt64 := h.2.2.2.2.2.2.2.2.2.2.2.1
theorem li_r.j1 {a mo : Nat} {pr rt pt : Int32} {G : xv_Gr} {I : xv_I} {J : xv_J} {G2 : xv_Gr} {I2 : xv_I} {J2 : xv_J} (h : li_r a mo pr rt pt G I J G2 I2 J2) : J2 (a + 1) 1 = 0 := h.2.2.2.2.2.2.2.2.2.2.2.2.1
theorem li_r.jo {a mo : Nat} {pr rt pt : Int32} {G : xv_Gr} {I : xv_I} {J : xv_J} {G2 : xv_Gr} {I2 : xv_I} {J2 : xv_J} (h : li_r a mo pr rt pt G I J G2 I2 J2) : J2 (a + 2) = fun k => if k = mo then pr.toInt64 else 0 := h.2.2.2.2.2.2.2.2.2.2.2.2.2.1
theorem li_r.jd {a mo : Nat} {pr rt pt : Int32} {G : xv_Gr} {I : xv_I} {J : xv_J} {G2 : xv_Gr} {I2 : xv_I} {J2 : xv_J} (h : li_r a mo pr rt pt G I J G2 I2 J2) : J2 (a + 3) = fun _ => 0 := h.2.2.2.2.2.2.2.2.2.2.2.2.2.2
theorem s4_init {l : Launch} {D : va_G} {d : Nat} {G : xv_Gr} {I : xv_I} {J : xv_J} {Q : xv_Po} {a mo : Nat} (ha : G.1 a = some (.inl 4)) (h1 : G.1 (a + 1) = none) (h2 : G.1 (a + 2) = none) (h3 : G.1 (a + 3) = none) (h9 : a < 1000) (hmo : mo < 600) {pr rt pt : Int32} (hQ : ∀ G2 I2 J2, li_r a mo pr rt pt G I J G2 I2 J2 → Q none G2 I2 J2) : xv_Ev l D (d + 1) mX4_init none 0 [some (.ref a), some (.int (nI mo)), some (.int pr), some (.int rt), some (.int pt)] [] G I J 0 0 Q := by
  refine xv_aload_n dX4_init_0 rfl rfl ?_
  refine xv_objI dX4_init_1 ol_X4_3 ow_i ow_c (Nat.le_of_ble_eq_true rfl) ?_
  refine xv_aload_n dX4_init_4 rfl rfl ?_
  refine xv_new (a := (a + 1)) dX4_init_5 nl_X4_9 (by simp [xv_gn, xv_ur, va_up, h1]) (by unfold xv_SC; omega) (Nat.le_of_ble_eq_true rfl) (Nat.le_of_ble_eq_true rfl) ?_
  refine xv_dup dX4_init_8 rfl ?_
  refine xv_callN (As := []) dX4_init_9 cl_X4_11 rfl rfl (Nat.le_of_ble_eq_true rfl) (Nat.le_of_ble_eq_true rfl) (Nat.le_of_ble_eq_true rfl) (Nat.le_of_ble_eq_true rfl) ?_
  refine s7_init (by simp [xv_gn, xv_ur, va_up]) ?_
  refine xv_putrF dX4_init_12 fl_X4_12 rfl rfl (by simp [xv_gn, xv_ur, va_up, ha]) rfl (by simp [xv_gn, xv_ur, va_up]) ?_
  refine xv_aload_n dX4_init_15 rfl rfl ?_
  refine xv_iconst (v := 1) dX4_init_16 rfl ?_
  refine xv_puti dX4_init_17 fl_X4_18 (by simp [xv_gn, xv_ur, va_up, ha]) rfl rfl rfl ?_
  refine xv_aload_n dX4_init_20 rfl rfl ?_
  refine xv_sipush (v := 599) dX4_init_21 rfl ?_
  refine xv_puti dX4_init_24 fl_X4_22 (by simp [xv_gn, xv_ur, va_up, ha]) rfl rfl rfl ?_
  refine xv_aload_n dX4_init_27 rfl rfl ?_
  refine xv_sipush (v := 600) dX4_init_28 rfl ?_
  refine xv_newa (a := (a + 2)) (N := 600) (t := 3) dX4_init_31 aw_long rfl rfl (by decide) (by decide) rfl (by decide) (by simp [xv_gn, xv_ur, va_up, h2]) (by unfold xv_SC; omega) (Nat.le_of_ble_eq_true rfl) (Nat.le_of_ble_eq_true rfl) ?_
  refine xv_putrF dX4_init_33 fl_X4_25 rfl rfl (by simp [xv_gn, xv_ur, va_up, ha]) rfl (by simp [xv_gn, xv_ur, va_up]) ?_
  refine xv_aload_n dX4_init_36 rfl rfl ?_
  refine xv_sipush (v := 600) dX4_init_37 rfl ?_
  refine xv_newa (a := (a + 3)) (N := 600) (t := 3) dX4_init_40 aw_long rfl rfl (by decide) (by decide) rfl (by decide) (by simp [xv_gn, xv_ur, va_up, h3]) (by unfold xv_SC; omega) (Nat.le_of_ble_eq_true rfl) (Nat.le_of_ble_eq_true rfl) ?_
  refine xv_putrF dX4_init_42 fl_X4_29 rfl rfl (by simp [xv_gn, xv_ur, va_up, ha]) rfl (by simp [xv_gn, xv_ur, va_up]) ?_
  refine xv_aload_n dX4_init_45 rfl rfl ?_
  refine xv_iload_n dX4_init_46 rfl rfl ?_
  refine xv_putiF dX4_init_47 fl_X4_32 rfl rfl (by simp [xv_gn, xv_ur, va_up, ha]) rfl rfl rfl ?_
  refine xv_aload_n dX4_init_50 rfl rfl ?_
  refine xv_getr dX4_init_51 fl_X4_12 (by simp [xv_gn, xv_ur, va_up, ha]) rfl (show _ = some (a + 1) from (by simp [xv_gn, xv_ur, va_up])) ?_
  refine xv_iload_n dX4_init_54 rfl rfl ?_
  refine xv_i2l dX4_init_55 ?_
  refine xv_putj dX4_init_56 fl_X4_35 (by simp [xv_gn, xv_ur, va_up]) rfl ?_
  refine xv_aload_n dX4_init_59 rfl rfl ?_
  refine xv_getr dX4_init_60 fl_X4_12 (by simp [xv_gn, xv_ur, va_up, ha]) rfl (show _ = some (a + 1) from (by simp [xv_gn, xv_ur, va_up])) ?_
  refine xv_iload_n dX4_init_63 rfl rfl ?_
  refine xv_puti dX4_init_64 fl_X4_39 (by simp [xv_gn, xv_ur, va_up]) rfl rfl rfl ?_
  refine xv_aload_n dX4_init_67 rfl rfl ?_
  refine xv_getr dX4_init_68 fl_X4_12 (by simp [xv_gn, xv_ur, va_up, ha]) rfl (show _ = some (a + 1) from (by simp [xv_gn, xv_ur, va_up])) ?_
  refine xv_iload dX4_init_71 rfl ?_
  refine xv_puti dX4_init_73 fl_X4_42 (by simp [xv_gn, xv_ur, va_up]) rfl rfl rfl ?_
  refine xv_aload_n dX4_init_76 rfl rfl ?_
  refine xv_getr dX4_init_77 fl_X4_25 (by simp [xv_gn, xv_ur, va_up, ha]) rfl (show _ = some (a + 2) from (by simp [xv_gn, xv_ur, va_up])) ?_
  refine xv_iload_n dX4_init_80 rfl rfl ?_
  refine xv_iload_n dX4_init_81 rfl rfl ?_
  refine xv_i2l dX4_init_82 ?_
  refine xv_lastore dX4_init_83 (show _ = some (Sum.inr (3, 600)) from (by simp [xv_gn, xv_ur, va_up])) (xv_ixn (by omega) (by decide)) ?_
  refine xv_vret dX4_init_84 rfl (Nat.le_of_ble_eq_true rfl) (Nat.le_of_ble_eq_true rfl) ?_
  refine hQ _ _ _ ⟨⟨?_, ?_, ?_, ?_, ?_, ?_, ?_⟩, ?_, ?_, ?_, ?_, ?_, ?_, ?_, ?_, ?_, ?_, ?_, ?_, ?_, ?_⟩
  · simp [xv_gn, xv_ur, va_up, ha]
  · simp [xv_gn, xv_ur, va_up, ha]
  · simp [xv_gn, xv_ur, va_up, ha]
  · simp [xv_gn, xv_ur, va_up, ha]
  · simp [xv_gn, xv_ur, va_up, ha]
  · simp [xv_gn, xv_ur, va_up, ha]
  · simp [xv_gn, xv_ur, va_up, ha]
  · intro b hb; have e0 : b ≠ a := by omega
    have e1 : b ≠ a + 1 := by omega
    have e2 : b ≠ a + 2 := by omega
    have e3 : b ≠ a + 3 := by omega
    simp [xv_gn, xv_ur, va_up, e0, e1, e2, e3]
  · intro b hb; have e0 : b ≠ a := by omega
    have e1 : b ≠ a + 1 := by omega
    have e2 : b ≠ a + 2 := by omega
    have e3 : b ≠ a + 3 := by omega
    simp [xv_gn, xv_ur, va_up, e0, e1, e2, e3]
  · intro b hb; have e0 : b ≠ a := by omega
    have e1 : b ≠ a + 1 := by omega
    have e2 : b ≠ a + 2 := by omega
    have e3 : b ≠ a + 3 := by omega
    funext k; simp [xv_ui_ap, va_up, e0, e1, e2, e3]
  · intro b hb; have e0 : b ≠ a := by omega
    have e1 : b ≠ a + 1 := by omega
    have e2 : b ≠ a + 2 := by omega
    have e3 : b ≠ a + 3 := by omega
    funext k; simp [xv_uj_ap, va_up, e0, e1, e2, e3]
  · simp [xv_ui_ap, va_up]
  · simp [xv_ui_ap, va_up]
  · simp [xv_ui_ap, va_up]
  · simp [xv_ui_ap, va_up]
  · simp [xv_ui_ap, va_up]
  · simp [xv_ui_ap, va_up]
  · simp [xv_uj_ap, va_up]
  · simp [xv_uj_ap, va_up]
  · funext k; simp [xv_uj_ap, va_up]
  · funext k; simp [xv_uj_ap, va_up]

def ti_r (a : Nat) (wh : Int32) (G : xv_Gr) (I : xv_I) (J : xv_J) (G2 : xv_Gr) (I2 : xv_I) (J2 : xv_J) : Prop :=
  (xg_tm G2 a) ∧
  (∀ b, b < a ∨ a + 2 ≤ b → G2.1 b = G.1 b) ∧
  (∀ b, b < a ∨ a + 2 ≤ b → G2.2 b = G.2 b) ∧
  (∀ b, b < a ∨ a + 2 ≤ b → I2 b = I b) ∧
  (∀ b, b < a ∨ a + 2 ≤ b → J2 b = J b) ∧
  (I2 a 0 = wh) ∧
  (I2 a 1 = 0) ∧
  (I2 a 2 = 0) ∧
  (I2 a 4 = 0) ∧
  (I2 a 5 = 0) ∧
  (I2 (a + 1) = fun _ => 0)
theorem ti_r.sh {a : Nat} {wh : Int32} {G : xv_Gr} {I : xv_I} {J : xv_J} {G2 : xv_Gr} {I2 : xv_I} {J2 : xv_J} (h : ti_r a wh G I J G2 I2 J2) : (xg_tm G2 a) := h.1
theorem ti_r.g1 {a : Nat} {wh : Int32} {G : xv_Gr} {I : xv_I} {J : xv_J} {G2 : xv_Gr} {I2 : xv_I} {J2 : xv_J} (h : ti_r a wh G I J G2 I2 J2) : (∀ b, b < a ∨ a + 2 ≤ b → G2.1 b = G.1 b) := h.2.1
theorem ti_r.g2 {a : Nat} {wh : Int32} {G : xv_Gr} {I : xv_I} {J : xv_J} {G2 : xv_Gr} {I2 : xv_I} {J2 : xv_J} (h : ti_r a wh G I J G2 I2 J2) : (∀ b, b < a ∨ a + 2 ≤ b → G2.2 b = G.2 b) := h.2.2.1
theorem ti_r.fi {a : Nat} {wh : Int32} {G : xv_Gr} {I : xv_I} {J : xv_J} {G2 : xv_Gr} {I2 : xv_I} {J2 : xv_J} (h : ti_r a wh G I J G2 I2 J2) : (∀ b, b < a ∨ a + 2 ≤ b → I2 b = I b) := h.2.2.2.1
theorem ti_r.fj {a : Nat} {wh : Int32} {G : xv_Gr} {I : xv_I} {J : xv_J} {G2 : xv_Gr} {I2 : xv_I} {J2 : xv_J} (h : ti_r a wh G I J G2 I2 J2) : (∀ b, b < a ∨ a + 2 ≤ b → J2 b = J b) := h.2.2.2.2.1
theorem ti_r.i0 {a : Nat} {wh : Int32} {G : xv_Gr} {I : xv_I} {J : xv_J} {G2 : xv_Gr} {I2 : xv_I} {J2 : xv_J} (h : ti_r a wh G I J G2 I2 J2) : (I2 a 0 = wh) := h.2.2.2.2.2.1
theorem ti_r.i1 {a : Nat} {wh : Int32} {G : xv_Gr} {I : xv_I} {J : xv_J} {G2 : xv_Gr} {I2 : xv_I} {J2 : xv_J} (h : ti_r a wh G I J G2 I2 J2) : (I2 a 1 = 0) := h.2.2.2.2.2.2.1
theorem ti_r.i2 {a : Nat} {wh : Int32} {G : xv_Gr} {I : xv_I} {J : xv_J} {G2 : xv_Gr} {I2 : xv_I} {J2 : xv_J} (h : ti_r a wh G I J G2 I2 J2) : (I2 a 2 = 0) := h.2.2.2.2.2.2.2.1
theorem ti_r.i4 {a : Nat} {wh : Int32} {G : xv_Gr} {I : xv_I} {J : xv_J} {G2 : xv_Gr} {I2 : xv_I} {J2 : xv_J} (h : ti_r a wh G I J G2 I2 J2) : (I2 a 4 = 0) := h.2.2.2.2.2.2.2.2.1
theorem ti_r.i5 {a : Nat} {wh : Int32} {G : xv_Gr} {I : xv_I} {J : xv_J} {G2 : xv_Gr} {I2 : xv_I} {J2 : xv_J} (h : ti_r a wh G I J G2 I2 J2) : (I2 a 5 = 0) := h.2.2.2.2.2.2.2.2.2.1
theorem ti_r.it {a : Nat} {wh : Int32} {G : xv_Gr} {I : xv_I} {J : xv_J} {G2 : xv_Gr} {I2 : xv_I} {J2 : xv_J} (h : ti_r a wh G I J G2 I2 J2) : (I2 (a + 1) = fun _ => 0) := h.2.2.2.2.2.2.2.2.2.2
theorem s8_init {l : Launch} {D : va_G} {d : Nat} {G : xv_Gr} {I : xv_I} {J : xv_J} {Q : xv_Po} {a : Nat} (ha : G.1 a = some (.inl 8)) (h1 : G.1 (a + 1) = none) (h9 : a < 1000) {wh : Int32} (hQ : ∀ G2 I2 J2, ti_r a wh G I J G2 I2 J2 → Q none G2 I2 J2) : xv_Ev l D d mX8_init none 0 [some (.ref a), some (.int wh)] [] G I J 0 0 Q := by
  refine xv_aload_n dX8_init_0 rfl rfl ?_
  refine xv_objI dX8_init_1 ol_X8_3 ow_i ow_c (Nat.le_of_ble_eq_true rfl) ?_
  refine xv_aload_n dX8_init_4 rfl rfl ?_
  refine xv_iconst (v := 0) dX8_init_5 rfl ?_
  refine xv_puti dX8_init_6 fl_X8_9 (by simp [xv_gn, xv_ur, va_up, ha]) rfl rfl rfl ?_
  refine xv_aload_n dX8_init_9 rfl rfl ?_
  refine xv_iconst (v := 0) dX8_init_10 rfl ?_
  refine xv_puti dX8_init_11 fl_X8_15 (by simp [xv_gn, xv_ur, va_up, ha]) rfl rfl rfl ?_
  refine xv_aload_n dX8_init_14 rfl rfl ?_
  refine xv_bipush (v := 60) dX8_init_15 rfl ?_
  refine xv_newa (a := (a + 1)) (N := 60) (t := 1) dX8_init_17 aw_byte rfl rfl (by decide) (by decide) rfl (by decide) (by simp [xv_gn, xv_ur, va_up, h1]) (by unfold xv_SC; omega) (Nat.le_of_ble_eq_true rfl) (Nat.le_of_ble_eq_true rfl) ?_
  refine xv_putrF dX8_init_19 fl_X8_18 rfl rfl (by simp [xv_gn, xv_ur, va_up, ha]) rfl (by simp [xv_gn, xv_ur, va_up]) ?_
  refine xv_aload_n dX8_init_22 rfl rfl ?_
  refine xv_iconst (v := 0) dX8_init_23 rfl ?_
  refine xv_puti dX8_init_24 fl_X8_22 (by simp [xv_gn, xv_ur, va_up, ha]) rfl rfl rfl ?_
  refine xv_aload_n dX8_init_27 rfl rfl ?_
  refine xv_iconst (v := 0) dX8_init_28 rfl ?_
  refine xv_puti dX8_init_29 fl_X8_25 (by simp [xv_gn, xv_ur, va_up, ha]) rfl rfl rfl ?_
  refine xv_aload_n dX8_init_32 rfl rfl ?_
  refine xv_iload_n dX8_init_33 rfl rfl ?_
  refine xv_putiF dX8_init_34 fl_X8_28 rfl rfl (by simp [xv_gn, xv_ur, va_up, ha]) rfl rfl rfl ?_
  refine xv_vret dX8_init_37 rfl (Nat.le_of_ble_eq_true rfl) (Nat.le_of_ble_eq_true rfl) ?_
  refine hQ _ _ _ ⟨⟨?_, ?_, ?_⟩, ?_, ?_, ?_, ?_, ?_, ?_, ?_, ?_, ?_, ?_⟩
  · simp [xv_gn, xv_ur, va_up, ha]
  · simp [xv_gn, xv_ur, va_up, ha]
  · simp [xv_gn, xv_ur, va_up, ha]
  · intro b hb; have e0 : b ≠ a := by omega
    have e1 : b ≠ a + 1 := by omega
    simp [xv_gn, xv_ur, va_up, e0, e1]
  · intro b hb; have e0 : b ≠ a := by omega
    have e1 : b ≠ a + 1 := by omega
    simp [xv_gn, xv_ur, va_up, e0, e1]
  · intro b hb; have e0 : b ≠ a := by omega
    have e1 : b ≠ a + 1 := by omega
    funext k; simp [xv_ui_ap, va_up, e0, e1]
  · intro b hb; have e0 : b ≠ a := by omega
    have e1 : b ≠ a + 1 := by omega
    funext k; simp [xv_uj_ap, va_up, e0, e1]
  · simp [xv_ui_ap, va_up]
  · simp [xv_ui_ap, va_up]
  · simp [xv_ui_ap, va_up]
  · simp [xv_ui_ap, va_up]
  · simp [xv_ui_ap, va_up]
  · funext k; simp [xv_ui_ap, va_up]

theorem vu_ne {α : Type} {f : Nat → α} {a b : Nat} {x : α} (h : b ≠ a) : va_up f a x b = f b := by simp [va_up, h]
theorem vu_eq {α : Type} {f : Nat → α} {a : Nat} {x : α} : va_up f a x a = x := by simp [va_up]
theorem xg_ok_fr {G G2 : xv_Gr} (h : xg_ok G) (h1 : ∀ b, b < 200 → G2.1 b = G.1 b) (h2 : ∀ b, b < 173 → G2.2 b = G.2 b) : xg_ok G2 := by
  have e1 : ∀ q ∈ xg_sl, q.1 < 200 := by decide
  have e2 : ∀ q ∈ xg_rl, q.1 < 173 := by decide
  exact ⟨fun q hq => (h1 _ (e1 q hq)).trans (h.1 q hq), fun q hq => (congrFun (h2 _ (e2 q hq)) _).trans (h.2 q hq)⟩
def le_r (nl nt mo : Nat) (pr rt pt : Int32) (I : xv_I) (J : xv_J) (G2 : xv_Gr) (I2 : xv_I) (J2 : xv_J) : Prop :=
  (xg_ok G2) ∧
  (xg_dy G2 (nl + 1) nt) ∧
  (∀ b, b < 200 + 4 * nl ∨ 200 + 4 * nl + 4 ≤ b → I2 b = if b = 6 then va_up (I 6) 1 (nI (nl + 1)) else I b) ∧
  (∀ b, b < 200 + 4 * nl ∨ 200 + 4 * nl + 4 ≤ b → J2 b = J b) ∧
  (I2 (200 + 4 * nl) 0 = nI mo) ∧
  (I2 (200 + 4 * nl) 2 = 1) ∧
  (I2 (200 + 4 * nl) 3 = 599) ∧
  (I2 (200 + 4 * nl + 1) 2 = rt) ∧
  (I2 (200 + 4 * nl + 1) 3 = pt) ∧
  (I2 (200 + 4 * nl + 1) 4 = 1) ∧
  (J2 (200 + 4 * nl + 1) 0 = pr.toInt64) ∧
  (J2 (200 + 4 * nl + 1) 1 = 0) ∧
  (J2 (200 + 4 * nl + 2) = fun k => if k = mo then pr.toInt64 else 0) ∧
  (J2 (200 + 4 * nl + 3) = fun _ => 0)
theorem s0_lend {l : Launch} {D : va_G} {d : Nat} {G : xv_Gr} {I : xv_I} {J : xv_J} {Q : xv_Po} (hG : xg_ok G) {nl nt : Nat} (hD : xg_dy G nl nt) (hnl : I 6 1 = nI nl) (hl7 : nl < 8) (ht4 : nt ≤ 4) {mo : Nat} (hmo : I 6 0 = nI mo) (hm6 : mo < 600) {pr rt pt : Int32} (hQ : ∀ G2 I2 J2, le_r nl nt mo pr rt pt I J G2 I2 J2 → Q (some (.int (nI nl))) G2 I2 J2) : xv_Ev l D (d + 2) mX0_lend none 0 [some (.ref 6), some (.int pr), some (.int rt), some (.int pt), none] [] G I J 0 0 Q := by
  refine xv_aload_n dX0_lend_0 rfl rfl ?_
  refine xv_geti dX0_lend_1 fl_X0_15 (go_6 hG) rfl ?_
  refine xv_nmI hnl ?_
  refine xv_istore dX0_lend_4 (Nat.le_of_ble_eq_true rfl) rfl ?_
  refine xv_aload_n dX0_lend_6 rfl rfl ?_
  refine xv_getr dX0_lend_7 fl_X0_23 (go_6 hG) rfl (gr_6_3 hG) ?_
  refine xv_iload dX0_lend_10 rfl ?_
  refine xv_new (a := (200 + 4 * nl)) dX0_lend_12 nl_X0_21 (hD.2.2.1 (200 + 4 * nl) (by omega) (by omega)) (by unfold xv_SC; omega) (Nat.le_of_ble_eq_true rfl) (Nat.le_of_ble_eq_true rfl) ?_
  refine xv_dup dX0_lend_15 rfl ?_
  refine xv_aload_n dX0_lend_16 rfl rfl ?_
  refine xv_geti dX0_lend_17 fl_X0_9 ((vu_ne (by omega)).trans (go_6 hG)) rfl ?_
  refine xv_nmI ((congrFun (vu_ne (by omega)) 0).trans hmo) ?_
  refine xv_iload_n dX0_lend_20 rfl rfl ?_
  refine xv_iload_n dX0_lend_21 rfl rfl ?_
  refine xv_iload_n dX0_lend_22 rfl rfl ?_
  refine xv_callI (As := [_, _, _, _]) dX0_lend_23 cl_X0_47 rfl rfl (Nat.le_of_ble_eq_true rfl) (Nat.le_of_ble_eq_true rfl) (Nat.le_of_ble_eq_true rfl) (Nat.le_of_ble_eq_true rfl) ?_
  refine s4_init (a := (200 + 4 * nl)) vu_eq ((vu_ne (by omega)).trans (hD.2.2.1 _ (by omega) (by omega))) ((vu_ne (by omega)).trans (hD.2.2.1 _ (by omega) (by omega))) ((vu_ne (by omega)).trans (hD.2.2.1 _ (by omega) (by omega))) (by omega) hm6 (fun G2 I2 J2 hr => ?_)
  refine xv_aastore dX0_lend_26 ((hr.g1 173 (by omega)).trans ((vu_ne (by omega)).trans (go_173 hG))) xv_ci4 (xv_ixn (by omega) (by decide)) hr.sh.1 ?_
  refine xv_aload_n dX0_lend_27 rfl rfl ?_
  refine xv_iload dX0_lend_28 rfl ?_
  refine xv_iconst (v := nI 1) dX0_lend_30 rfl ?_
  refine xv_iadd dX0_lend_31 ?_
  refine xv_nmI (nI_add _ _) ?_
  refine xv_puti dX0_lend_32 fl_X0_15 ((hr.g1 6 (by omega)).trans ((vu_ne (by omega)).trans (go_6 hG))) rfl rfl rfl ?_
  refine xv_iload dX0_lend_35 rfl ?_
  refine xv_iret dX0_lend_37 rfl (Nat.le_of_ble_eq_true rfl) (Nat.le_of_ble_eq_true rfl) ?_
  refine hQ _ _ _ ⟨?_, ⟨?_, ?_, ?_, ?_⟩, ?_, ?_, ?_, ?_, ?_, ?_, ?_, ?_, ?_, ?_, ?_, ?_⟩
  · exact xg_ok_fr hG (fun b hb => (hr.g1 b (by omega)).trans (vu_ne (by omega))) (fun b hb => by
      show (if b = 173 then _ else G2.2 b) = _
      rw [if_neg (by omega), hr.g2 b (by omega)]
      exact vu_ne (by omega))
  · intro i hi
    by_cases e : i = nl
    · subst e
      refine ⟨by simp [xv_ur, va_up], ?_⟩
      have h := hr.sh
      refine ⟨h.1, ?_, h.2.2.1, ?_, h.2.2.2.2.1, ?_, h.2.2.2.2.2.2⟩
      · show (if (200 + 4 * i) = 173 then _ else G2.2 (200 + 4 * i)) 1 = _
        rw [if_neg (by omega)]; exact h.2.1
      · show (if (200 + 4 * i) = 173 then _ else G2.2 (200 + 4 * i)) 4 = _
        rw [if_neg (by omega)]; exact h.2.2.2.1
      · show (if (200 + 4 * i) = 173 then _ else G2.2 (200 + 4 * i)) 5 = _
        rw [if_neg (by omega)]; exact h.2.2.2.2.2.1
    · obtain ⟨p1, p2, p3, p4, p5, p6, p7, p8⟩ := hD.1 i (by omega)
      have g1 : ∀ b, b < 200 + 4 * nl → G2.1 b = G.1 b := fun b hb => (hr.g1 b (by omega)).trans (vu_ne (by omega))
      have g2 : G2.2 (200 + 4 * i) = G.2 (200 + 4 * i) := (hr.g2 _ (by omega)).trans (vu_ne (by omega))
      have g3 : G2.2 173 = G.2 173 := (hr.g2 _ (by omega)).trans (vu_ne (by omega))
      have g4 : (if (200 + 4 * i) = 173 then va_up (G2.2 173) nl (some (200 + 4 * nl)) else G2.2 (200 + 4 * i)) = G.2 (200 + 4 * i) := by rw [if_neg (by omega), g2]
      refine ⟨?_, (g1 _ (by omega)).trans p2, (congrFun g4 1).trans p3, (g1 _ (by omega)).trans p4, (congrFun g4 4).trans p5, (g1 _ (by omega)).trans p6, (congrFun g4 5).trans p7, (g1 _ (by omega)).trans p8⟩
      show va_up (G2.2 173) nl (some (200 + 4 * nl)) i = _
      rw [vu_ne e, g3]; exact p1
  · intro t ht
    obtain ⟨p1, p2, p3, p4⟩ := hD.2.1 t ht
    have g1 : ∀ b, 232 ≤ b → G2.1 b = G.1 b := fun b hb => (hr.g1 b (by omega)).trans (vu_ne (by omega))
    have g2 : ∀ b, b < 200 ∨ 232 ≤ b → b ≠ 173 → (if b = 173 then va_up (G2.2 173) nl (some (200 + 4 * nl)) else G2.2 b) = G.2 b := fun b hb h3 => by rw [if_neg h3, hr.g2 b (by omega)]; exact vu_ne (by omega)
    exact ⟨(congrFun (g2 174 (by omega) (by decide)) t).trans p1, (g1 _ (by omega)).trans p2, (congrFun (g2 _ (by omega) (by omega)) 3).trans p3, (g1 _ (by omega)).trans p4⟩
  · intro a h1 h2
    exact (hr.g1 a (by omega)).trans ((vu_ne (by omega)).trans (hD.2.2.1 a (by omega) h2))
  · intro a h1 h2
    exact (hr.g1 a (by omega)).trans ((vu_ne (by omega)).trans (hD.2.2.2 a h1 h2))
  · intro b hb
    by_cases e : b = 6
    · subst e
      rw [if_pos rfl]
      funext k
      by_cases ek : k = 1
      · subst ek; rw [xv_ui_s, vu_eq]
      · rw [xv_ui_o ek, vu_ne ek, hr.fi 6 (by omega), vu_ne (by omega)]
    · rw [if_neg e, xv_ui_ne e, hr.fi b hb, vu_ne (by omega)]
  · intro b hb
    rw [hr.fj b hb, vu_ne (by omega)]
  · rw [xv_ui_ne (by omega)]; exact hr.i0
  · rw [xv_ui_ne (by omega)]; exact hr.i2
  · rw [xv_ui_ne (by omega)]; exact hr.i3
  · rw [xv_ui_ne (by omega)]; exact hr.s2
  · rw [xv_ui_ne (by omega)]; exact hr.s3
  · rw [xv_ui_ne (by omega)]; exact hr.s4
  · exact hr.j0
  · exact hr.j1
  · exact hr.jo
  · exact hr.jd

def ag_r (nl nt : Nat) (wh : Int32) (I : xv_I) (J : xv_J) (G2 : xv_Gr) (I2 : xv_I) (J2 : xv_J) : Prop :=
  (xg_ok G2) ∧
  (xg_dy G2 nl (nt + 1)) ∧
  (∀ b, b < 300 + 2 * nt ∨ 300 + 2 * nt + 2 ≤ b → I2 b = if b = 6 then va_up (I 6) 2 (nI (nt + 1)) else I b) ∧
  (∀ b, b < 300 + 2 * nt ∨ 300 + 2 * nt + 2 ≤ b → J2 b = J b) ∧
  (I2 (300 + 2 * nt) 0 = wh) ∧
  (I2 (300 + 2 * nt) 1 = 0) ∧
  (I2 (300 + 2 * nt) 2 = 0) ∧
  (I2 (300 + 2 * nt) 4 = 0) ∧
  (I2 (300 + 2 * nt) 5 = 0) ∧
  (I2 (300 + 2 * nt + 1) = fun _ => 0)
theorem s0_agree {l : Launch} {D : va_G} {d : Nat} {G : xv_Gr} {I : xv_I} {J : xv_J} {Q : xv_Po} (hG : xg_ok G) {nl nt : Nat} (hD : xg_dy G nl nt) (hl8 : nl ≤ 8) (hnt2 : I 6 2 = nI nt) (ht3 : nt < 4) {wh : Int32} (hQ : ∀ G2 I2 J2, ag_r nl nt wh I J G2 I2 J2 → Q (some (.int (nI nt))) G2 I2 J2) : xv_Ev l D (d + 1) mX0_agree none 0 [some (.ref 6), some (.int wh), none] [] G I J 0 0 Q := by
  refine xv_aload_n dX0_agree_0 rfl rfl ?_
  refine xv_geti dX0_agree_1 fl_X0_18 (go_6 hG) rfl ?_
  refine xv_nmI hnt2 ?_
  refine xv_istore_n dX0_agree_4 rfl (Nat.le_of_ble_eq_true rfl) rfl ?_
  refine xv_aload_n dX0_agree_5 rfl rfl ?_
  refine xv_getr dX0_agree_6 fl_X0_29 (go_6 hG) rfl (gr_6_4 hG) ?_
  refine xv_iload_n dX0_agree_9 rfl rfl ?_
  refine xv_new (a := (300 + 2 * nt)) dX0_agree_10 nl_X0_27 (hD.2.2.2 (300 + 2 * nt) (by omega) (by omega)) (by unfold xv_SC; omega) (Nat.le_of_ble_eq_true rfl) (Nat.le_of_ble_eq_true rfl) ?_
  refine xv_dup dX0_agree_13 rfl ?_
  refine xv_iload_n dX0_agree_14 rfl rfl ?_
  refine xv_callI (As := [_]) dX0_agree_15 cl_X0_50 rfl rfl (Nat.le_of_ble_eq_true rfl) (Nat.le_of_ble_eq_true rfl) (Nat.le_of_ble_eq_true rfl) (Nat.le_of_ble_eq_true rfl) ?_
  refine s8_init (a := (300 + 2 * nt)) vu_eq ((vu_ne (by omega)).trans (hD.2.2.2 _ (by omega) (by omega))) (by omega) (fun G2 I2 J2 hr => ?_)
  refine xv_aastore dX0_agree_18 ((hr.g1 174 (by omega)).trans ((vu_ne (by omega)).trans (go_174 hG))) xv_ci8 (xv_ixn (by omega) (by decide)) hr.sh.1 ?_
  refine xv_aload_n dX0_agree_19 rfl rfl ?_
  refine xv_iload_n dX0_agree_20 rfl rfl ?_
  refine xv_iconst (v := nI 1) dX0_agree_21 rfl ?_
  refine xv_iadd dX0_agree_22 ?_
  refine xv_nmI (nI_add _ _) ?_
  refine xv_puti dX0_agree_23 fl_X0_18 ((hr.g1 6 (by omega)).trans ((vu_ne (by omega)).trans (go_6 hG))) rfl rfl rfl ?_
  refine xv_iload_n dX0_agree_26 rfl rfl ?_
  refine xv_iret dX0_agree_27 rfl (Nat.le_of_ble_eq_true rfl) (Nat.le_of_ble_eq_true rfl) ?_
  refine hQ _ _ _ ⟨?_, ⟨?_, ?_, ?_, ?_⟩, ?_, ?_, ?_, ?_, ?_, ?_, ?_, ?_⟩
  · exact xg_ok_fr hG (fun b hb => (hr.g1 b (by omega)).trans (vu_ne (by omega))) (fun b hb => by
      show (if b = 174 then _ else G2.2 b) = _
      rw [if_neg (by omega), hr.g2 b (by omega)]
      exact vu_ne (by omega))
  · intro i hi
    obtain ⟨p1, p2, p3, p4, p5, p6, p7, p8⟩ := hD.1 i hi
    have g1 : ∀ b, b < 300 → G2.1 b = G.1 b := fun b hb => (hr.g1 b (by omega)).trans (vu_ne (by omega))
    have g2 : ∀ b, b < 300 → b ≠ 174 → (if b = 174 then va_up (G2.2 174) nt (some (300 + 2 * nt)) else G2.2 b) = G.2 b := fun b hb h3 => by rw [if_neg h3, hr.g2 b (by omega)]; exact vu_ne (by omega)
    have g4 := g2 (200 + 4 * i) (by omega) (by omega)
    exact ⟨(congrFun (g2 173 (by omega) (by decide)) i).trans p1, (g1 _ (by omega)).trans p2, (congrFun g4 1).trans p3, (g1 _ (by omega)).trans p4, (congrFun g4 4).trans p5, (g1 _ (by omega)).trans p6, (congrFun g4 5).trans p7, (g1 _ (by omega)).trans p8⟩
  · intro t ht
    by_cases e : t = nt
    · subst e
      refine ⟨by simp [xv_ur, va_up], ?_⟩
      have h := hr.sh
      refine ⟨h.1, ?_, h.2.2⟩
      show (if (300 + 2 * t) = 174 then _ else G2.2 (300 + 2 * t)) 3 = _
      rw [if_neg (by omega)]; exact h.2.1
    · obtain ⟨p1, p2, p3, p4⟩ := hD.2.1 t (by omega)
      have g1 : ∀ b, b < 300 + 2 * nt → G2.1 b = G.1 b := fun b hb => (hr.g1 b (by omega)).trans (vu_ne (by omega))
      have g2 : G2.2 (300 + 2 * t) = G.2 (300 + 2 * t) := (hr.g2 _ (by omega)).trans (vu_ne (by omega))
      have g3 : G2.2 174 = G.2 174 := (hr.g2 _ (by omega)).trans (vu_ne (by omega))
      have g4 : (if (300 + 2 * t) = 174 then va_up (G2.2 174) nt (some (300 + 2 * nt)) else G2.2 (300 + 2 * t)) = G.2 (300 + 2 * t) := by rw [if_neg (by omega), g2]
      refine ⟨?_, (g1 _ (by omega)).trans p2, (congrFun g4 3).trans p3, (g1 _ (by omega)).trans p4⟩
      show va_up (G2.2 174) nt (some (300 + 2 * nt)) t = _
      rw [vu_ne e, g3]; exact p1
  · intro a h1 h2
    exact (hr.g1 a (by omega)).trans ((vu_ne (by omega)).trans (hD.2.2.1 a h1 h2))
  · intro a h1 h2
    exact (hr.g1 a (by omega)).trans ((vu_ne (by omega)).trans (hD.2.2.2 a (by omega) h2))
  · intro b hb
    by_cases e : b = 6
    · subst e
      rw [if_pos rfl]
      funext k
      by_cases ek : k = 2
      · subst ek; rw [xv_ui_s, vu_eq]
      · rw [xv_ui_o ek, vu_ne ek, hr.fi 6 (by omega), vu_ne (by omega)]
    · rw [if_neg e, xv_ui_ne e, hr.fi b hb, vu_ne (by omega)]
  · intro b hb
    rw [hr.fj b hb, vu_ne (by omega)]
  · rw [xv_ui_ne (by omega)]; exact hr.i0
  · rw [xv_ui_ne (by omega)]; exact hr.i1
  · rw [xv_ui_ne (by omega)]; exact hr.i2
  · rw [xv_ui_ne (by omega)]; exact hr.i4
  · rw [xv_ui_ne (by omega)]; exact hr.i5
  · rw [xv_ui_ne (by omega)]; exact hr.it

theorem s10_loan {l : Launch} {D : va_G} {d : Nat} {G : xv_Gr} {I : xv_I} {J : xv_J} {Q : xv_Po} (hG : xg_ok G) {nl nt : Nat} (hD : xg_dy G nl nt) (hnl : I 6 1 = nI nl) (hl8 : nl ≤ 8) (ht4 : nt ≤ 4) {mo : Nat} (hmo : I 6 0 = nI mo) (hm6 : mo < 600) {pr rt pt : Int32} (h1 : ¬ ((1 ≤ pr ∧ pr ≤ 100000) ∧ (0 ≤ rt ∧ rt ≤ 50) ∧ (1 ≤ pt ∧ pt ≤ 10000)) → Q (some (.int (-900002))) G I J) (h2 : ((1 ≤ pr ∧ pr ≤ 100000) ∧ (0 ≤ rt ∧ rt ≤ 50) ∧ (1 ≤ pt ∧ pt ≤ 10000)) → nl = 8 → Q (some (.int (-900004))) G I J) (h3 : ((1 ≤ pr ∧ pr ≤ 100000) ∧ (0 ≤ rt ∧ rt ≤ 50) ∧ (1 ≤ pt ∧ pt ≤ 10000)) → nl < 8 → ∀ G2 I2 J2, le_r nl nt mo pr rt pt I J G2 I2 J2 → Q (some (.int (nI nl))) G2 I2 J2) : xv_Ev l D (d + 3) mX10_loan none 0 [some (.ref 0), some (.int pr), some (.int rt), some (.int pt)] [] G I J 0 0 Q := by
  refine xv_iload_n dX10_loan_0 rfl rfl ?_
  refine xv_iconst (v := 1) dX10_loan_1 rfl ?_
  refine xv_ldc dX10_loan_2 ld_X10_227 ?_
  refine xv_callS0 (As := [_, _, _]) dX10_loan_4 cl_X10_51 rfl rfl rfl rfl (Nat.le_of_ble_eq_true rfl) (Nat.le_of_ble_eq_true rfl) (Nat.zero_le _) (Nat.zero_le _) ?_
  refine s10_isOutside ?_
  refine xv_if_neD (tgt := 31) dX10_loan_7 rfl (fun c_7 => ?_) (fun c_7 => ?_)
  · refine xv_ldc dX10_loan_31 ld_X10_55 ?_
    refine xv_iret dX10_loan_33 rfl (Nat.le_of_ble_eq_true rfl) (Nat.le_of_ble_eq_true rfl) ?_
    exact h1 (by simp only [xn_lt, xn_le, Int32.reduceToInt] at *; omega)
  · refine xv_iload_n dX10_loan_10 rfl rfl ?_
    refine xv_iconst (v := 0) dX10_loan_11 rfl ?_
    refine xv_bipush (v := 50) dX10_loan_12 rfl ?_
    refine xv_callS0 (As := [_, _, _]) dX10_loan_14 cl_X10_51 rfl rfl rfl rfl (Nat.le_of_ble_eq_true rfl) (Nat.le_of_ble_eq_true rfl) (Nat.zero_le _) (Nat.zero_le _) ?_
    refine s10_isOutside ?_
    refine xv_if_neD (tgt := 31) dX10_loan_17 rfl (fun c_17 => ?_) (fun c_17 => ?_)
    · refine xv_ldc dX10_loan_31 ld_X10_55 ?_
      refine xv_iret dX10_loan_33 rfl (Nat.le_of_ble_eq_true rfl) (Nat.le_of_ble_eq_true rfl) ?_
      exact h1 (by simp only [xn_lt, xn_le, Int32.reduceToInt] at *; omega)
    · refine xv_iload_n dX10_loan_20 rfl rfl ?_
      refine xv_iconst (v := 1) dX10_loan_21 rfl ?_
      refine xv_sipush (v := 10000) dX10_loan_22 rfl ?_
      refine xv_callS0 (As := [_, _, _]) dX10_loan_25 cl_X10_51 rfl rfl rfl rfl (Nat.le_of_ble_eq_true rfl) (Nat.le_of_ble_eq_true rfl) (Nat.zero_le _) (Nat.zero_le _) ?_
      refine s10_isOutside ?_
      refine xv_if_eqD (tgt := 34) dX10_loan_28 rfl (fun c_28 => ?_) (fun c_28 => ?_)
      · refine xv_aload_n dX10_loan_34 rfl rfl ?_
        refine xv_getr dX10_loan_35 fl_X10_47 (go_0 hG) rfl (gr_0_5 hG) ?_
        refine xv_geti dX10_loan_38 fl_X10_228 (go_6 hG) rfl ?_
        refine xv_nmI hnl ?_
        refine xv_bipush (v := nI 8) dX10_loan_41 rfl ?_
        refine xv_icmp_ltN (tgt := 49) dX10_loan_43 rfl (by omega) (by omega) (fun c_43 => ?_) (fun c_43 => ?_)
        · refine xv_aload_n dX10_loan_49 rfl rfl ?_
          refine xv_getr dX10_loan_50 fl_X10_47 (go_0 hG) rfl (gr_0_5 hG) ?_
          refine xv_iload_n dX10_loan_53 rfl rfl ?_
          refine xv_iload_n dX10_loan_54 rfl rfl ?_
          refine xv_iload_n dX10_loan_55 rfl rfl ?_
          refine xv_callV (As := [_, _, _]) dX10_loan_56 cl_X10_231 rfl rfl (go_6 hG) rfl rfl (Nat.le_of_ble_eq_true rfl) (Nat.le_of_ble_eq_true rfl) (Nat.le_of_ble_eq_true rfl) (Nat.le_of_ble_eq_true rfl) ?_
          refine s0_lend hG hD hnl c_43 ht4 hmo hm6 (fun G2 I2 J2 hr => ?_)
          · refine xv_iret dX10_loan_59 rfl (Nat.le_of_ble_eq_true rfl) (Nat.le_of_ble_eq_true rfl) ?_
            exact h3 (by simp only [xn_lt, xn_le, Int32.reduceToInt] at *; omega) c_43 _ _ _ hr
        · refine xv_ldc dX10_loan_46 ld_X10_63 ?_
          refine xv_iret dX10_loan_48 rfl (Nat.le_of_ble_eq_true rfl) (Nat.le_of_ble_eq_true rfl) ?_
          exact h2 (by simp only [xn_lt, xn_le, Int32.reduceToInt] at *; omega) (by omega)
      · refine xv_ldc dX10_loan_31 ld_X10_55 ?_
        refine xv_iret dX10_loan_33 rfl (Nat.le_of_ble_eq_true rfl) (Nat.le_of_ble_eq_true rfl) ?_
        exact h1 (by simp only [xn_lt, xn_le, Int32.reduceToInt] at *; omega)

theorem s10_term {l : Launch} {D : va_G} {d : Nat} {G : xv_Gr} {I : xv_I} {J : xv_J} {Q : xv_Po} (hG : xg_ok G) {nl nt : Nat} (hD : xg_dy G nl nt) (hl8 : nl ≤ 8) (hnt2 : I 6 2 = nI nt) (ht4 : nt ≤ 4) {x : Int32} (h1 : ¬ (0 ≤ x ∧ x ≤ 599) → Q (some (.int (-900002))) G I J) (h2 : (0 ≤ x ∧ x ≤ 599) → nt = 4 → Q (some (.int (-900004))) G I J) (h3 : (0 ≤ x ∧ x ≤ 599) → nt < 4 → ∀ G2 I2 J2, ag_r nl nt x I J G2 I2 J2 → Q (some (.int (nI nt))) G2 I2 J2) : xv_Ev l D (d + 2) mX10_term none 0 [some (.ref 0), some (.int x)] [] G I J 0 0 Q := by
  refine xv_iload_n dX10_term_0 rfl rfl ?_
  refine xv_iconst (v := 0) dX10_term_1 rfl ?_
  refine xv_sipush (v := 599) dX10_term_2 rfl ?_
  refine xv_callS0 (As := [_, _, _]) dX10_term_5 cl_X10_51 rfl rfl rfl rfl (Nat.le_of_ble_eq_true rfl) (Nat.le_of_ble_eq_true rfl) (Nat.zero_le _) (Nat.zero_le _) ?_
  refine s10_isOutside ?_
  refine xv_if_eqD (tgt := 14) dX10_term_8 rfl (fun c_8 => ?_) (fun c_8 => ?_)
  · refine xv_aload_n dX10_term_14 rfl rfl ?_
    refine xv_getr dX10_term_15 fl_X10_47 (go_0 hG) rfl (gr_0_5 hG) ?_
    refine xv_geti dX10_term_18 fl_X10_274 (go_6 hG) rfl ?_
    refine xv_nmI hnt2 ?_
    refine xv_iconst (v := nI 4) dX10_term_21 rfl ?_
    refine xv_icmp_ltN (tgt := 30) dX10_term_22 rfl (by omega) (by omega) (fun c_22 => ?_) (fun c_22 => ?_)
    · refine xv_aload_n dX10_term_30 rfl rfl ?_
      refine xv_getr dX10_term_31 fl_X10_47 (go_0 hG) rfl (gr_0_5 hG) ?_
      refine xv_iload_n dX10_term_34 rfl rfl ?_
      refine xv_callV (As := [_]) dX10_term_35 cl_X10_277 rfl rfl (go_6 hG) rfl rfl (Nat.le_of_ble_eq_true rfl) (Nat.le_of_ble_eq_true rfl) (Nat.le_of_ble_eq_true rfl) (Nat.le_of_ble_eq_true rfl) ?_
      refine s0_agree hG hD hl8 hnt2 c_22 (fun G2 I2 J2 hr => ?_)
      · refine xv_iret dX10_term_38 rfl (Nat.le_of_ble_eq_true rfl) (Nat.le_of_ble_eq_true rfl) ?_
        exact h3 (by simp only [xn_lt, xn_le, Int32.reduceToInt] at *; omega) c_22 _ _ _ hr
    · refine xv_ldc dX10_term_25 ld_X10_63 ?_
      refine xv_goto (tgt := 38) dX10_term_27 rfl ?_
      refine xv_iret dX10_term_38 rfl (Nat.le_of_ble_eq_true rfl) (Nat.le_of_ble_eq_true rfl) ?_
      exact h2 (by simp only [xn_lt, xn_le, Int32.reduceToInt] at *; omega) (by omega)
  · refine xv_ldc dX10_term_11 ld_X10_55 ?_
    refine xv_iret dX10_term_13 rfl (Nat.le_of_ble_eq_true rfl) (Nat.le_of_ble_eq_true rfl) ?_
    exact h1 (by simp only [xn_lt, xn_le, Int32.reduceToInt] at *; omega)
