/-! boards (class): price, boards, board, ofBoard, other -/
def ct_g (I I2 : xv_I) (J J2 : xv_J) : Prop := (∀ b, b ≠ 3 → b ≠ 137 → b ≠ 138 → b ≠ 139 → b ≠ 140 → I2 b = I b) ∧ (∀ j, j ≠ 3 → j ≠ 4 → j ≠ 5 → j ≠ 6 → I2 3 j = I 3 j) ∧ I2 3 3 = 0 ∧ I2 140 0 = 0 ∧ (∀ b, b ≠ 141 → J2 b = J b) ∧ J2 141 0 = 0
theorem ct_st {I I2 : xv_I} {np lo : Nat} {sz : Nat → Nat} {v : Int32} (h : ct_ok I I2 np sz lo) : ct_ok I (xv_ui I2 3 3 v) np sz lo := by
  refine ⟨(xv_ui_o (by decide)).trans h.1, fun g => ?_⟩
  obtain ⟨w, h1, h2, h3, h4, h5, h6⟩ := h.2 g
  refine ⟨w, h1, h2, (xv_ui_o (by decide)).trans h3, (xv_ui_o (by decide)).trans h4, fun p hp => (congrFun (xv_ui_ne (by decide)) p).trans (h5 p hp), fun b hb => ?_⟩
  rw [xv_ui_ne (by decide), xv_ui_ne (by decide)]
  exact h6 b hb
theorem s10_isCut {l : Launch} {D : va_G} {d : Nat} {G : xv_Gr} {I : xv_I} {J : xv_J} {Q : xv_Po} (hG : xg_ok G) {np : Nat} (hn : I 1 1 = nI np) (hnp : np ≤ 12) {sz : Nat → Nat} (hsz : ∀ p, p < np → I 104 p = nI (sz p)) {lo : Nat} (hlo : I 3 2 = nI lo) (hpr : ∀ j, j < 4 → ∃ p, p ≤ 9999 ∧ I 131 j = nI p) (h40 : I 140 0 = 0) (h41 : J 141 0 = 0) (hcc : I 3 3 = 0 → ct_ok I I np sz lo) (hQ : ∀ I2 J2, ct_g I I2 J J2 → ct_ok I I2 np sz lo → Q (some (.int (xbp (ct_P I sz np)))) G I2 J2) : xv_Ev l D (d + 4) mX10_isCut none 0 [some (.ref 0)] [] G I J 0 0 Q := by
  refine xv_aload_n dX10_isCut_0 rfl rfl ?_
  refine xv_getr dX10_isCut_1 fl_X10_26 (go_0 hG) rfl (gr_0_2 hG) ?_
  refine xv_geti dX10_isCut_4 fl_X10_154 (go_3 hG) rfl ?_
  refine xv_if_eq (tgt := 39) dX10_isCut_7 rfl (fun c_7 => ?_) (fun c_7 => ?_)
  · refine xv_aload_n dX10_isCut_39 rfl rfl ?_
    refine xv_getr dX10_isCut_40 fl_X10_26 (go_0 hG) rfl (gr_0_2 hG) ?_
    refine xv_geti dX10_isCut_43 fl_X10_323 (go_3 hG) rfl ?_
    refine xv_nmI (hcc c_7).1 ?_
    refine xv_zretP dX10_isCut_46 rfl (Nat.zero_le _) (Nat.zero_le _) ?_
    exact hQ I J ⟨fun _ _ _ _ _ _ => rfl, fun _ _ _ _ _ => rfl, c_7, h40, fun _ _ => rfl, h41⟩ (hcc c_7)
  · refine xv_aload_n dX10_isCut_10 rfl rfl ?_
    refine xv_getr dX10_isCut_11 fl_X10_26 (go_0 hG) rfl (gr_0_2 hG) ?_
    refine xv_aload_n dX10_isCut_14 rfl rfl ?_
    refine xv_getr dX10_isCut_15 fl_X10_10 (go_0 hG) rfl (gr_0_0 hG) ?_
    refine xv_geti dX10_isCut_18 fl_X10_60 (go_1 hG) rfl ?_
    refine xv_nmI hn ?_
    refine xv_aload_n dX10_isCut_21 rfl rfl ?_
    refine xv_getr dX10_isCut_22 fl_X10_10 (go_0 hG) rfl (gr_0_0 hG) ?_
    refine xv_getr dX10_isCut_25 fl_X10_80 (go_1 hG) rfl (gr_1_4 hG) ?_
    refine xv_callV0 (As := [_, _]) dX10_isCut_28 cl_X10_319 rfl rfl rfl rfl (go_3 hG) rfl rfl (Nat.le_of_ble_eq_true rfl) (Nat.le_of_ble_eq_true rfl) (Nat.zero_le _) (Nat.zero_le _) ?_
    refine s2_seekBest hG hnp hsz hlo hpr h40 h41 (fun I2 J2 hf hk => ?_)
    · refine xv_aload_n dX10_isCut_31 rfl rfl ?_
      refine xv_getr dX10_isCut_32 fl_X10_26 (go_0 hG) rfl (gr_0_2 hG) ?_
      refine xv_iconst (v := 0) dX10_isCut_35 rfl ?_
      refine xv_puti dX10_isCut_36 fl_X10_154 (go_3 hG) rfl rfl rfl ?_
      refine xv_aload_n dX10_isCut_39 rfl rfl ?_
      refine xv_getr dX10_isCut_40 fl_X10_26 (go_0 hG) rfl (gr_0_2 hG) ?_
      refine xv_geti dX10_isCut_43 fl_X10_323 (go_3 hG) rfl ?_
      refine xv_nmI ((xv_ui_o (by decide)).trans hk.1) ?_
      refine xv_zretP dX10_isCut_46 rfl (Nat.zero_le _) (Nat.zero_le _) ?_
      refine hQ _ J2 ⟨fun b g1 g2 g3 g4 g5 => ?_, fun j g1 g2 g3 g4 => ?_, xv_ui_s, ?_, hf.2.2.2.1, hf.2.2.2.2⟩ (ct_st hk)
      · rw [xv_ui_ne g1]; exact hf.1 b g1 g2 g3 g4 g5
      · rw [xv_ui_o g1]; exact hf.2.1 j g2 g3 g4
      · rw [xv_ui_ne (by decide)]; exact hf.2.2.1

theorem s10_price {l : Launch} {D : va_G} {d : Nat} {G : xv_Gr} {I : xv_I} {J : xv_J} {Q : xv_Po} (hG : xg_ok G) {np : Nat} (hn : I 1 1 = nI np) (hnp : np ≤ 12) {sz : Nat → Nat} (hsz : ∀ p, p < np → I 104 p = nI (sz p)) {lo : Nat} (hlo : I 3 2 = nI lo) (hpr : ∀ j, j < 4 → ∃ p, p ≤ 9999 ∧ I 131 j = nI p) (h40 : I 140 0 = 0) (h41 : J 141 0 = 0) (hcc : I 3 3 = 0 → ct_ok I I np sz lo) (h1 : ¬ ct_P I sz np → ∀ I2 J2, ct_g I I2 J J2 → ct_ok I I2 np sz lo → Q (some (.int (-900009))) G I2 J2) (h2 : ct_P I sz np → ∀ I2 J2, ct_g I I2 J J2 → ct_ok I I2 np sz lo → ∀ v, v ≤ 1600000000000000000 → ct_v (pvf I sz lo) np v → ct_r I I2 np sz lo v → Q (some (.int (nI (v / 743008370688 / 13)))) G I2 J2) : xv_Ev l D (d + 5) mX10_price none 0 [some (.ref 0)] [] G I J 0 0 Q := by
  refine xv_aload_n dX10_price_0 rfl rfl ?_
  refine xv_callV0 (As := []) dX10_price_1 cl_X10_158 rfl rfl rfl rfl (go_0 hG) rfl rfl (Nat.le_of_ble_eq_true rfl) (Nat.le_of_ble_eq_true rfl) (Nat.zero_le _) (Nat.zero_le _) ?_
  refine s10_isCut hG hn hnp hsz hlo hpr h40 h41 hcc (fun I2 J2 hf hk => ?_)
  · refine xv_if_eqP (tgt := 17) dX10_price_4 rfl (fun c_4 => ?_) (fun c_4 => ?_)
    · refine xv_ldc dX10_price_17 ld_X10_101 ?_
      refine xv_iret dX10_price_19 rfl (Nat.zero_le _) (Nat.zero_le _) ?_
      exact h1 c_4 I2 J2 hf hk
    · obtain ⟨v, hv6, hv, hr⟩ := hk.2 c_4
      refine xv_aload_n dX10_price_7 rfl rfl ?_
      refine xv_getr dX10_price_8 fl_X10_26 (go_0 hG) rfl (gr_0_2 hG) ?_
      refine xv_geti dX10_price_11 fl_X10_161 (go_3 hG) rfl ?_
      refine xv_nmI hr.1 ?_
      refine xv_goto (tgt := 19) dX10_price_14 rfl ?_
      refine xv_iret dX10_price_19 rfl (Nat.zero_le _) (Nat.zero_le _) ?_
      exact h2 c_4 I2 J2 hf hk v hv6 hv hr

theorem s10_boards {l : Launch} {D : va_G} {d : Nat} {G : xv_Gr} {I : xv_I} {J : xv_J} {Q : xv_Po} (hG : xg_ok G) {np : Nat} (hn : I 1 1 = nI np) (hnp : np ≤ 12) {sz : Nat → Nat} (hsz : ∀ p, p < np → I 104 p = nI (sz p)) {lo : Nat} (hlo : I 3 2 = nI lo) (hpr : ∀ j, j < 4 → ∃ p, p ≤ 9999 ∧ I 131 j = nI p) (h40 : I 140 0 = 0) (h41 : J 141 0 = 0) (hcc : I 3 3 = 0 → ct_ok I I np sz lo) (h1 : ¬ ct_P I sz np → ∀ I2 J2, ct_g I I2 J J2 → ct_ok I I2 np sz lo → Q (some (.int (-900009))) G I2 J2) (h2 : ct_P I sz np → ∀ I2 J2, ct_g I I2 J J2 → ct_ok I I2 np sz lo → ∀ v, v ≤ 1600000000000000000 → ct_v (pvf I sz lo) np v → ct_r I I2 np sz lo v → Q (some (.int (nI (v / 743008370688 % 13)))) G I2 J2) : xv_Ev l D (d + 5) mX10_boards none 0 [some (.ref 0)] [] G I J 0 0 Q := by
  refine xv_aload_n dX10_boards_0 rfl rfl ?_
  refine xv_callV0 (As := []) dX10_boards_1 cl_X10_158 rfl rfl rfl rfl (go_0 hG) rfl rfl (Nat.le_of_ble_eq_true rfl) (Nat.le_of_ble_eq_true rfl) (Nat.zero_le _) (Nat.zero_le _) ?_
  refine s10_isCut hG hn hnp hsz hlo hpr h40 h41 hcc (fun I2 J2 hf hk => ?_)
  · refine xv_if_eqP (tgt := 17) dX10_boards_4 rfl (fun c_4 => ?_) (fun c_4 => ?_)
    · refine xv_ldc dX10_boards_17 ld_X10_101 ?_
      refine xv_iret dX10_boards_19 rfl (Nat.zero_le _) (Nat.zero_le _) ?_
      exact h1 c_4 I2 J2 hf hk
    · obtain ⟨v, hv6, hv, hr⟩ := hk.2 c_4
      refine xv_aload_n dX10_boards_7 rfl rfl ?_
      refine xv_getr dX10_boards_8 fl_X10_26 (go_0 hG) rfl (gr_0_2 hG) ?_
      refine xv_geti dX10_boards_11 fl_X10_164 (go_3 hG) rfl ?_
      refine xv_nmI hr.2.1 ?_
      refine xv_goto (tgt := 19) dX10_boards_14 rfl ?_
      refine xv_iret dX10_boards_19 rfl (Nat.zero_le _) (Nat.zero_le _) ?_
      exact h2 c_4 I2 J2 hf hk v hv6 hv hr

theorem s10_board {l : Launch} {D : va_G} {d : Nat} {G : xv_Gr} {I : xv_I} {J : xv_J} {Q : xv_Po} (hG : xg_ok G) {np : Nat} (hn : I 1 1 = nI np) (hnp : np ≤ 12) {sz : Nat → Nat} (hsz : ∀ p, p < np → I 104 p = nI (sz p)) {lo : Nat} (hlo : I 3 2 = nI lo) (hpr : ∀ j, j < 4 → ∃ p, p ≤ 9999 ∧ I 131 j = nI p) (h40 : I 140 0 = 0) (h41 : J 141 0 = 0) (hcc : I 3 3 = 0 → ct_ok I I np sz lo) {x : Int32} (h0 : ¬ (0 ≤ x ∧ x < nI np) → Q (some (.int (-900001))) G I J) (h1 : ∀ j, j < np → x = nI j → ¬ ct_P I sz np → ∀ I2 J2, ct_g I I2 J J2 → ct_ok I I2 np sz lo → Q (some (.int (-900009))) G I2 J2) (h2 : ∀ j, j < np → x = nI j → ct_P I sz np → ∀ I2 J2, ct_g I I2 J J2 → ct_ok I I2 np sz lo → ∀ v, v ≤ 1600000000000000000 → ct_v (pvf I sz lo) np v → ct_r I I2 np sz lo v → Q (some (.int (nI (dg_ v j)))) G I2 J2) : xv_Ev l D (d + 5) mX10_board none 0 [some (.ref 0), some (.int x)] [] G I J 0 0 Q := by
  have hnt : (nI np).toInt = (np : Int) := nI_toInt (by omega)
  refine xv_aload_n dX10_board_0 rfl rfl ?_
  refine xv_getr dX10_board_1 fl_X10_10 (go_0 hG) rfl (gr_0_0 hG) ?_
  refine xv_iload_n dX10_board_4 rfl rfl ?_
  refine xv_callV0 (As := [_]) dX10_board_5 cl_X10_71 rfl rfl rfl rfl (go_1 hG) rfl rfl (Nat.le_of_ble_eq_true rfl) (Nat.le_of_ble_eq_true rfl) (Nat.zero_le _) (Nat.zero_le _) ?_
  refine s5_hasN hG hn ?_
  refine xv_if_neD (tgt := 14) dX10_board_8 rfl (fun c_8 => ?_) (fun c_8 => ?_)
  · have hr := c_8
    obtain ⟨j, hj, rfl⟩ : ∃ j : Nat, j < np ∧ x = nI j := xn_nat (n := np) (by have h := hr; simp only [xn_lt, xn_le, hnt, Int32.reduceToInt] at h; omega) (by have h := hr; simp only [xn_lt, xn_le, hnt, Int32.reduceToInt] at h; omega) (by omega)
    refine xv_aload_n dX10_board_14 rfl rfl ?_
    refine xv_callV0 (As := []) dX10_board_15 cl_X10_158 rfl rfl rfl rfl (go_0 hG) rfl rfl (Nat.le_of_ble_eq_true rfl) (Nat.le_of_ble_eq_true rfl) (Nat.zero_le _) (Nat.zero_le _) ?_
    refine s10_isCut hG hn hnp hsz hlo hpr h40 h41 hcc (fun I2 J2 hf hk => ?_)
    · refine xv_if_eqP (tgt := 33) dX10_board_18 rfl (fun c_18 => ?_) (fun c_18 => ?_)
      · refine xv_ldc dX10_board_33 ld_X10_101 ?_
        refine xv_iret dX10_board_35 rfl (Nat.zero_le _) (Nat.zero_le _) ?_
        exact h1 j hj rfl c_18 I2 J2 hf hk
      · obtain ⟨v, hv6, hv, hr⟩ := hk.2 c_18
        refine xv_aload_n dX10_board_21 rfl rfl ?_
        refine xv_getr dX10_board_22 fl_X10_26 (go_0 hG) rfl (gr_0_2 hG) ?_
        refine xv_getr dX10_board_25 fl_X10_167 (go_3 hG) rfl (gr_3_7 hG) ?_
        refine xv_iload_n dX10_board_28 rfl rfl ?_
        refine xv_iaload dX10_board_29 (go_137 hG) (xv_ixn (by omega) (by decide)) ?_
        refine xv_nmI (hr.2.2.1 j (by omega)) ?_
        refine xv_goto (tgt := 35) dX10_board_30 rfl ?_
        refine xv_iret dX10_board_35 rfl (Nat.zero_le _) (Nat.zero_le _) ?_
        exact h2 j hj rfl c_18 I2 J2 hf hk v hv6 hv hr
  · refine xv_ldc dX10_board_11 ld_X10_75 ?_
    refine xv_iret dX10_board_13 rfl (Nat.zero_le _) (Nat.zero_le _) ?_
    exact h0 c_8

theorem s10_ofBoard {l : Launch} {D : va_G} {d : Nat} {G : xv_Gr} {I : xv_I} {J : xv_J} {Q : xv_Po} (hG : xg_ok G) {np : Nat} (hn : I 1 1 = nI np) (hnp : np ≤ 12) {sz : Nat → Nat} (hsz : ∀ p, p < np → I 104 p = nI (sz p)) {lo : Nat} (hlo : I 3 2 = nI lo) (hpr : ∀ j, j < 4 → ∃ p, p ≤ 9999 ∧ I 131 j = nI p) (h40 : I 140 0 = 0) (h41 : J 141 0 = 0) (hcc : I 3 3 = 0 → ct_ok I I np sz lo) {x w : Int32} (h1 : ¬ ct_P I sz np → ∀ I2 J2, ct_g I I2 J J2 → ct_ok I I2 np sz lo → Q (some (.int (-900001))) G I2 J2) (h2 : ct_P I sz np → ∀ I2 J2, ct_g I I2 J J2 → ct_ok I I2 np sz lo → ∀ v, v ≤ 1600000000000000000 → ct_v (pvf I sz lo) np v → ct_r I I2 np sz lo v → ¬ (0 ≤ x ∧ x < nI (v / 743008370688 % 13)) → Q (some (.int (-900001))) G I2 J2) (h3 : ct_P I sz np → ∀ I2 J2, ct_g I I2 J J2 → ct_ok I I2 np sz lo → ∀ v, v ≤ 1600000000000000000 → ct_v (pvf I sz lo) np v → ct_r I I2 np sz lo v → ∀ b, b < (v / 743008370688 % 13) → x = nI b → ¬ (0 ≤ w ∧ w ≤ 1) → Q (some (.int (-900002))) G I2 J2) (h4 : ct_P I sz np → ∀ I2 J2, ct_g I I2 J J2 → ct_ok I I2 np sz lo → ∀ v, v ≤ 1600000000000000000 → ct_v (pvf I sz lo) np v → ct_r I I2 np sz lo v → ∀ b, b < (v / 743008370688 % 13) → x = nI b → w = 0 → Q (some (.int (I2 138 b))) G I2 J2) (h5 : ct_P I sz np → ∀ I2 J2, ct_g I I2 J J2 → ct_ok I I2 np sz lo → ∀ v, v ≤ 1600000000000000000 → ct_v (pvf I sz lo) np v → ct_r I I2 np sz lo v → ∀ b, b < (v / 743008370688 % 13) → x = nI b → w = 1 → Q (some (.int (I2 139 b))) G I2 J2) : xv_Ev l D (d + 5) mX10_ofBoard none 0 [some (.ref 0), some (.int x), some (.int w)] [] G I J 0 0 Q := by
  refine xv_aload_n dX10_ofBoard_0 rfl rfl ?_
  refine xv_callV0 (As := []) dX10_ofBoard_1 cl_X10_158 rfl rfl rfl rfl (go_0 hG) rfl rfl (Nat.le_of_ble_eq_true rfl) (Nat.le_of_ble_eq_true rfl) (Nat.zero_le _) (Nat.zero_le _) ?_
  refine s10_isCut hG hn hnp hsz hlo hpr h40 h41 hcc (fun I2 J2 hf hk => ?_)
  · refine xv_if_eqP (tgt := 24) dX10_ofBoard_4 rfl (fun c_4 => ?_) (fun c_4 => ?_)
    · refine xv_ldc dX10_ofBoard_24 ld_X10_75 ?_
      refine xv_iret dX10_ofBoard_26 rfl (Nat.zero_le _) (Nat.zero_le _) ?_
      exact h1 c_4 I2 J2 hf hk
    · obtain ⟨v, hv6, hv, hr⟩ := hk.2 c_4
      have hus : (v / 743008370688 % 13) < 13 := Nat.mod_lt _ (by decide)
      refine xv_iload_n dX10_ofBoard_7 rfl rfl ?_
      refine xv_iconst (v := 0) dX10_ofBoard_8 rfl ?_
      refine xv_aload_n dX10_ofBoard_9 rfl rfl ?_
      refine xv_getr dX10_ofBoard_10 fl_X10_26 (go_0 hG) rfl (gr_0_2 hG) ?_
      refine xv_geti dX10_ofBoard_13 fl_X10_164 (go_3 hG) rfl ?_
      refine xv_nmI hr.2.1 ?_
      refine xv_iconst (v := 1) dX10_ofBoard_16 rfl ?_
      refine xv_isub dX10_ofBoard_17 ?_
      have hB : (0 ≤ x ∧ x < nI (v / 743008370688 % 13)) ↔ ¬ (x < 0 ∨ nI (v / 743008370688 % 13) - 1 < x) := by
        have q1 : (nI (v / 743008370688 % 13) - 1).toInt = (((v / 743008370688 % 13) : Nat) : Int) - 1 := pk_sub_toInt (b := 1) (by omega) (by omega)
        have q2 : (nI (v / 743008370688 % 13)).toInt = (((v / 743008370688 % 13) : Nat) : Int) := nI_toInt (by omega)
        simp only [xn_lt, xn_le, q1, q2]
        omega
      refine xv_callS0 (As := [_, _, _]) dX10_ofBoard_18 cl_X10_51 rfl rfl rfl rfl (Nat.le_of_ble_eq_true rfl) (Nat.le_of_ble_eq_true rfl) (Nat.zero_le _) (Nat.zero_le _) ?_
      refine s10_isOutside ?_
      refine xv_if_eqD (tgt := 27) dX10_ofBoard_21 rfl (fun c_21 => ?_) (fun c_21 => ?_)
      · obtain ⟨b, hb, rfl⟩ : ∃ b : Nat, b < (v / 743008370688 % 13) ∧ x = nI b := xn_nat (n := (v / 743008370688 % 13)) (by have h := hB.mpr c_21; have q2 : (nI (v / 743008370688 % 13)).toInt = (((v / 743008370688 % 13) : Nat) : Int) := nI_toInt (by omega); simp only [xn_lt, xn_le, q2, Int32.reduceToInt] at h; omega) (by have h := hB.mpr c_21; have q2 : (nI (v / 743008370688 % 13)).toInt = (((v / 743008370688 % 13) : Nat) : Int) := nI_toInt (by omega); simp only [xn_lt, xn_le, q2, Int32.reduceToInt] at h; omega) (by omega)
        refine xv_iload_n dX10_ofBoard_27 rfl rfl ?_
        refine xv_iconst (v := 0) dX10_ofBoard_28 rfl ?_
        refine xv_iconst (v := 1) dX10_ofBoard_29 rfl ?_
        refine xv_callS0 (As := [_, _, _]) dX10_ofBoard_30 cl_X10_51 rfl rfl rfl rfl (Nat.le_of_ble_eq_true rfl) (Nat.le_of_ble_eq_true rfl) (Nat.zero_le _) (Nat.zero_le _) ?_
        refine s10_isOutside ?_
        refine xv_if_eqD (tgt := 39) dX10_ofBoard_33 rfl (fun c_33 => ?_) (fun c_33 => ?_)
        · refine xv_iload_n dX10_ofBoard_39 rfl rfl ?_
          refine xv_if_ne (tgt := 55) dX10_ofBoard_40 rfl (fun c_40 => ?_) (fun c_40 => ?_)
          · have hw : w = 1 := by
              have c3 := c_33
              have c4 := c_40
              simp only [xn_lt, xn_eq, Int32.reduceToInt] at *
              omega
            refine xv_aload_n dX10_ofBoard_55 rfl rfl ?_
            refine xv_getr dX10_ofBoard_56 fl_X10_26 (go_0 hG) rfl (gr_0_2 hG) ?_
            refine xv_getr dX10_ofBoard_59 fl_X10_173 (go_3 hG) rfl (gr_3_9 hG) ?_
            refine xv_iload_n dX10_ofBoard_62 rfl rfl ?_
            refine xv_iaload dX10_ofBoard_63 (go_139 hG) (xv_ixn (by omega) (by decide)) ?_
            refine xv_iret dX10_ofBoard_64 rfl (Nat.zero_le _) (Nat.zero_le _) ?_
            exact h5 c_4 I2 J2 hf hk v hv6 hv hr b hb rfl hw
          · refine xv_aload_n dX10_ofBoard_43 rfl rfl ?_
            refine xv_getr dX10_ofBoard_44 fl_X10_26 (go_0 hG) rfl (gr_0_2 hG) ?_
            refine xv_getr dX10_ofBoard_47 fl_X10_170 (go_3 hG) rfl (gr_3_8 hG) ?_
            refine xv_iload_n dX10_ofBoard_50 rfl rfl ?_
            refine xv_iaload dX10_ofBoard_51 (go_138 hG) (xv_ixn (by omega) (by decide)) ?_
            refine xv_goto (tgt := 64) dX10_ofBoard_52 rfl ?_
            refine xv_iret dX10_ofBoard_64 rfl (Nat.zero_le _) (Nat.zero_le _) ?_
            exact h4 c_4 I2 J2 hf hk v hv6 hv hr b hb rfl c_40
        · refine xv_ldc dX10_ofBoard_36 ld_X10_55 ?_
          refine xv_iret dX10_ofBoard_38 rfl (Nat.zero_le _) (Nat.zero_le _) ?_
          exact h3 c_4 I2 J2 hf hk v hv6 hv hr b hb rfl (by simp only [xn_lt, xn_le] at *; omega)
      · refine xv_ldc dX10_ofBoard_24 ld_X10_75 ?_
        refine xv_iret dX10_ofBoard_26 rfl (Nat.zero_le _) (Nat.zero_le _) ?_
        exact h2 c_4 I2 J2 hf hk v hv6 hv hr (fun z => hB.mp z c_21)

theorem s10_other {l : Launch} {D : va_G} {d : Nat} {G : xv_Gr} {I : xv_I} {J : xv_J} {Q : xv_Po} (hG : xg_ok G) {np : Nat} (hn : I 1 1 = nI np) (hnp : np ≤ 12) {sz : Nat → Nat} (hsz : ∀ p, p < np → I 104 p = nI (sz p)) {lo : Nat} (hlo : I 3 2 = nI lo) (hpr : ∀ j, j < 4 → ∃ p, p ≤ 9999 ∧ I 131 j = nI p) (h40 : I 140 0 = 0) (h41 : J 141 0 = 0) (hcc : I 3 3 = 0 → ct_ok I I np sz lo) {x : Int32} (h0 : ¬ (1 ≤ x ∧ x ≤ 400) → Q (some (.int (-900002))) G I J) (h1 : (1 ≤ x ∧ x ≤ 400) → ¬ ct_P I sz np → ∀ I2 J2, ct_g I I2 J J2 → ct_ok I I2 np sz lo → Q (some (.int (-900009))) G I2 J2) (h2 : (1 ≤ x ∧ x ≤ 400) → ct_P I sz np → ∀ I2 J2, ct_g I I2 J J2 → ct_ok I I2 np sz lo → ∀ v, v ≤ 1600000000000000000 → ct_v (pvf I sz lo) np v → ct_r I I2 np sz lo v → Q (some (.int (ob_ (-900009) (fl_ (fun k => x ≤ I2 139 k) (I2 139) (v / 743008370688 % 13))))) G I2 J2) : xv_Ev l D (d + 5) mX10_other none 0 [some (.ref 0), some (.int x)] [] G I J 0 0 Q := by
  refine xv_iload_n dX10_other_0 rfl rfl ?_
  refine xv_iconst (v := 1) dX10_other_1 rfl ?_
  refine xv_sipush (v := 400) dX10_other_2 rfl ?_
  refine xv_callS0 (As := [_, _, _]) dX10_other_5 cl_X10_51 rfl rfl rfl rfl (Nat.le_of_ble_eq_true rfl) (Nat.le_of_ble_eq_true rfl) (Nat.zero_le _) (Nat.zero_le _) ?_
  refine s10_isOutside ?_
  refine xv_if_eqD (tgt := 14) dX10_other_8 rfl (fun c_8 => ?_) (fun c_8 => ?_)
  · have hX : (1 ≤ x ∧ x ≤ 400) := by simp only [xn_lt, xn_le] at *; omega
    refine xv_aload_n dX10_other_14 rfl rfl ?_
    refine xv_callV0 (As := []) dX10_other_15 cl_X10_158 rfl rfl rfl rfl (go_0 hG) rfl rfl (Nat.le_of_ble_eq_true rfl) (Nat.le_of_ble_eq_true rfl) (Nat.zero_le _) (Nat.zero_le _) ?_
    refine s10_isCut hG hn hnp hsz hlo hpr h40 h41 hcc (fun I2 J2 hf hk => ?_)
    · refine xv_if_eqP (tgt := 32) dX10_other_18 rfl (fun c_18 => ?_) (fun c_18 => ?_)
      · refine xv_ldc dX10_other_32 ld_X10_101 ?_
        refine xv_iret dX10_other_34 rfl (Nat.zero_le _) (Nat.zero_le _) ?_
        exact h1 hX c_18 I2 J2 hf hk
      · obtain ⟨v, hv6, hv, hr⟩ := hk.2 c_18
        have hus : (v / 743008370688 % 13) < 13 := Nat.mod_lt _ (by decide)
        refine xv_aload_n dX10_other_21 rfl rfl ?_
        refine xv_getr dX10_other_22 fl_X10_26 (go_0 hG) rfl (gr_0_2 hG) ?_
        refine xv_iload_n dX10_other_25 rfl rfl ?_
        refine xv_callV0 (As := [_]) dX10_other_26 cl_X10_176 rfl rfl rfl rfl (go_3 hG) rfl rfl (Nat.le_of_ble_eq_true rfl) (Nat.le_of_ble_eq_true rfl) (Nat.zero_le _) (Nat.zero_le _) ?_
        refine s2_shortestRest (us := (v / 743008370688 % 13)) hG hr.2.1 (by omega) ?_
        refine xv_goto (tgt := 34) dX10_other_29 rfl ?_
        refine xv_iret dX10_other_34 rfl (Nat.zero_le _) (Nat.zero_le _) ?_
        exact h2 hX c_18 I2 J2 hf hk v hv6 hv hr
  · refine xv_ldc dX10_other_11 ld_X10_55 ?_
    refine xv_iret dX10_other_13 rfl (Nat.zero_le _) (Nat.zero_le _) ?_
    exact h0 (by simp only [xn_lt, xn_le] at *; omega)
