/-! boards (model): price, boards, board, ofBoard, other -/
theorem s11_price {l : Launch} {D : va_G} {d : Nat} {G : xv_Gr} {I : xv_I} {J : xv_J} {Q : xv_Po} (hG : xg_ok G) {np : Nat} (hn : I 40 1 = nI np) (hnp : np ≤ 12) {sz : Nat → Nat} (hsz : ∀ p, p < np → I 53 p = nI (sz p)) {lo : Nat} (hlo : I 40 15 = nI lo) {pr : Nat → Nat} (hpr : ∀ j, j < 4 → I 64 j = nI (pr j) ∧ pr j ≤ 9999) (h1 : ∀ I2 mn, lc_o I I2 (onf I pr sz lo np) mn np → ¬ mn (2 ^ np - 1) < 100000000 → Q (some (.int (-900009))) G I2 J) (h2 : ∀ I2 mn, lc_o I I2 (onf I pr sz lo np) mn np → mn (2 ^ np - 1) < 100000000 → Q (some (.int (nI (mn (2 ^ np - 1) / 16)))) G I2 J) : xv_Ev l D (d + 3) mX11_price none 0 [some (.ref 40), none] [] G I J 0 0 Q := by
  have h2p : 2 ^ np ≤ 2 ^ 12 := Nat.pow_le_pow_right (by decide) hnp
  have h24 : (2 : Nat) ^ 12 = 4096 := by decide
  have h1p : 1 ≤ 2 ^ np := Nat.one_le_two_pow
  refine xv_aload_n dX11_price_0 rfl rfl ?_
  refine xv_callV0 (As := []) dX11_price_1 cl_X11_193 rfl rfl rfl rfl (go_40 hG) rfl rfl (Nat.le_of_ble_eq_true rfl) (Nat.le_of_ble_eq_true rfl) (Nat.zero_le _) (Nat.zero_le _) ?_
  refine s11_layCosts (d := d) hG hn hnp hsz hlo hpr (fun I2 mn hl => ?_)
  · have hmb := mn_b hl.2.2.2 (show (2 ^ np - 1) < 2 ^ np by omega)
    refine xv_aload_n dX11_price_4 rfl rfl ?_
    refine xv_getr dX11_price_5 fl_X11_57 (go_40 hG) rfl (gr_40_17 hG) ?_
    refine xv_iconst (v := nI 1) dX11_price_8 rfl ?_
    refine xv_aload_n dX11_price_9 rfl rfl ?_
    refine xv_geti dX11_price_10 fl_X11_135 (go_40 hG) rfl ?_
    refine xv_nmI ((congrFun (hl.1 40 (by decide) (by decide)) 1).trans hn) ?_
    refine xv_ishl dX11_price_13 ?_
    refine xv_nmI (xi_one (by omega)) ?_
    refine xv_iconst (v := nI 1) dX11_price_14 rfl ?_
    refine xv_isub dX11_price_15 ?_
    refine xv_nmI (pk_sub h1p) ?_
    refine xv_iaload dX11_price_16 (go_67 hG) (xv_ixn (by omega) (by decide)) ?_
    refine xv_nmI (hl.2.2.1 (2 ^ np - 1) (by omega)) ?_
    refine xv_istore_n dX11_price_17 rfl (Nat.le_of_ble_eq_true rfl) rfl ?_
    refine xv_iload_n dX11_price_18 rfl rfl ?_
    refine xv_ldc dX11_price_19 ld_X11_189 ?_
    refine xv_nmI (show (100000000 : Int32) = nI 100000000 from rfl) ?_
    refine xv_icmp_ltN (tgt := 29) dX11_price_21 rfl (by omega) (by omega) (fun c_21 => ?_) (fun c_21 => ?_)
    · refine xv_iload_n dX11_price_29 rfl rfl ?_
      refine xv_bipush (v := nI 16) dX11_price_30 rfl ?_
      refine xv_idiv dX11_price_32 (by decide) ?_
      refine xv_nmI (pk_div (by omega) (by decide) (by decide)) ?_
      refine xv_iret dX11_price_33 rfl (Nat.zero_le _) (Nat.zero_le _) ?_
      exact h2 I2 mn hl c_21
    · refine xv_ldc dX11_price_24 ld_X11_152 ?_
      refine xv_goto (tgt := 33) dX11_price_26 rfl ?_
      refine xv_iret dX11_price_33 rfl (Nat.zero_le _) (Nat.zero_le _) ?_
      exact h1 I2 mn hl (by omega)

theorem s11_boards {l : Launch} {D : va_G} {d : Nat} {G : xv_Gr} {I : xv_I} {J : xv_J} {Q : xv_Po} (hG : xg_ok G) {np : Nat} (hn : I 40 1 = nI np) (hnp : np ≤ 12) {sz : Nat → Nat} (hsz : ∀ p, p < np → I 53 p = nI (sz p)) {lo : Nat} (hlo : I 40 15 = nI lo) {pr : Nat → Nat} (hpr : ∀ j, j < 4 → I 64 j = nI (pr j) ∧ pr j ≤ 9999) (h1 : ∀ I2 mn, lc_o I I2 (onf I pr sz lo np) mn np → ¬ mn (2 ^ np - 1) < 100000000 → Q (some (.int (-900009))) G I2 J) (h2 : ∀ I2 mn, lc_o I I2 (onf I pr sz lo np) mn np → mn (2 ^ np - 1) < 100000000 → Q (some (.int (nI (mn (2 ^ np - 1) % 16)))) G I2 J) : xv_Ev l D (d + 3) mX11_boards none 0 [some (.ref 40), none] [] G I J 0 0 Q := by
  have h2p : 2 ^ np ≤ 2 ^ 12 := Nat.pow_le_pow_right (by decide) hnp
  have h24 : (2 : Nat) ^ 12 = 4096 := by decide
  have h1p : 1 ≤ 2 ^ np := Nat.one_le_two_pow
  refine xv_aload_n dX11_boards_0 rfl rfl ?_
  refine xv_callV0 (As := []) dX11_boards_1 cl_X11_193 rfl rfl rfl rfl (go_40 hG) rfl rfl (Nat.le_of_ble_eq_true rfl) (Nat.le_of_ble_eq_true rfl) (Nat.zero_le _) (Nat.zero_le _) ?_
  refine s11_layCosts (d := d) hG hn hnp hsz hlo hpr (fun I2 mn hl => ?_)
  · have hmb := mn_b hl.2.2.2 (show (2 ^ np - 1) < 2 ^ np by omega)
    refine xv_aload_n dX11_boards_4 rfl rfl ?_
    refine xv_getr dX11_boards_5 fl_X11_57 (go_40 hG) rfl (gr_40_17 hG) ?_
    refine xv_iconst (v := nI 1) dX11_boards_8 rfl ?_
    refine xv_aload_n dX11_boards_9 rfl rfl ?_
    refine xv_geti dX11_boards_10 fl_X11_135 (go_40 hG) rfl ?_
    refine xv_nmI ((congrFun (hl.1 40 (by decide) (by decide)) 1).trans hn) ?_
    refine xv_ishl dX11_boards_13 ?_
    refine xv_nmI (xi_one (by omega)) ?_
    refine xv_iconst (v := nI 1) dX11_boards_14 rfl ?_
    refine xv_isub dX11_boards_15 ?_
    refine xv_nmI (pk_sub h1p) ?_
    refine xv_iaload dX11_boards_16 (go_67 hG) (xv_ixn (by omega) (by decide)) ?_
    refine xv_nmI (hl.2.2.1 (2 ^ np - 1) (by omega)) ?_
    refine xv_istore_n dX11_boards_17 rfl (Nat.le_of_ble_eq_true rfl) rfl ?_
    refine xv_iload_n dX11_boards_18 rfl rfl ?_
    refine xv_ldc dX11_boards_19 ld_X11_189 ?_
    refine xv_nmI (show (100000000 : Int32) = nI 100000000 from rfl) ?_
    refine xv_icmp_ltN (tgt := 29) dX11_boards_21 rfl (by omega) (by omega) (fun c_21 => ?_) (fun c_21 => ?_)
    · refine xv_iload_n dX11_boards_29 rfl rfl ?_
      refine xv_bipush (v := nI 16) dX11_boards_30 rfl ?_
      refine xv_irem dX11_boards_32 (by decide) ?_
      refine xv_nmI (pk_rem (by omega) (by decide) (by decide)) ?_
      refine xv_iret dX11_boards_33 rfl (Nat.zero_le _) (Nat.zero_le _) ?_
      exact h2 I2 mn hl c_21
    · refine xv_ldc dX11_boards_24 ld_X11_152 ?_
      refine xv_goto (tgt := 33) dX11_boards_26 rfl ?_
      refine xv_iret dX11_boards_33 rfl (Nat.zero_le _) (Nat.zero_le _) ?_
      exact h1 I2 mn hl (by omega)

theorem s11_board {l : Launch} {D : va_G} {d : Nat} {G : xv_Gr} {I : xv_I} {J : xv_J} {Q : xv_Po} (hG : xg_ok G) {np : Nat} (hn : I 40 1 = nI np) (hnp : np ≤ 12) {sz : Nat → Nat} (hsz : ∀ p, p < np → I 53 p = nI (sz p)) {lo : Nat} (hlo : I 40 15 = nI lo) {pr : Nat → Nat} (hpr : ∀ j, j < 4 → I 64 j = nI (pr j) ∧ pr j ≤ 9999) (IV : (Nat → Nat) → Nat → Nat → (Nat → Nat) → (Nat → Nat) → Prop) (hI0 : ∀ mn gr bo, mn_k (onf I pr sz lo np) mn (2 ^ np) → mn (2 ^ np - 1) < 100000000 → IV mn 0 0 gr bo) (hIb : ∀ mn p k gr bo, IV mn p k gr bo → k ≤ p ∧ ∀ g, g < k → gr g < 2 ^ np) (hIs : ∀ mn p k gr bo, mn_k (onf I pr sz lo np) mn (2 ^ np) → mn (2 ^ np - 1) < 100000000 → p < np → IV mn p k gr bo → ∃ g, ch_ (onf I pr sz lo np) mn np (mn (2 ^ np - 1)) p k gr g ∧ IV mn (p + 1) (gk_ k g) (gu_ gr g p k) (bo_u bo p g)) {x : Int32} (h0 : ¬ (0 ≤ x ∧ x < nI np) → Q (some (.int (-900001))) G I J) (h1 : ∀ j, j < np → x = nI j → ∀ I2 mn, mn_k (onf I pr sz lo np) mn (2 ^ np) → ¬ mn (2 ^ np - 1) < 100000000 → lk_f I I2 → Q (some (.int (-900009))) G I2 J) (h2 : ∀ j, j < np → x = nI j → ∀ I2 mn k gr bo, mn_k (onf I pr sz lo np) mn (2 ^ np) → mn (2 ^ np - 1) < 100000000 → lk_f I I2 → lk_g I2 k gr bo np → IV mn np k gr bo → Q (some (.int (nI (bo j)))) G I2 J) : xv_Ev l D (d + 4) mX11_board none 0 [some (.ref 40), some (.int x)] [] G I J 0 0 Q := by
  have hnt : (nI np).toInt = (np : Int) := nI_toInt (by omega)
  refine xv_aload_n dX11_board_0 rfl rfl ?_
  refine xv_iload_n dX11_board_1 rfl rfl ?_
  refine xv_callV0 (As := [_]) dX11_board_2 cl_X11_139 rfl rfl rfl rfl (go_40 hG) rfl rfl (Nat.le_of_ble_eq_true rfl) (Nat.le_of_ble_eq_true rfl) (Nat.zero_le _) (Nat.zero_le _) ?_
  refine s11_isPiece (d := d + 2) hG hn hnp ?_
  refine xv_if_neD (tgt := 11) dX11_board_5 rfl (fun c_5 => ?_) (fun c_5 => ?_)
  · have hr := c_5
    obtain ⟨j, hj, rfl⟩ : ∃ j : Nat, j < np ∧ x = nI j := xn_nat (n := np) (by have h := hr; simp only [xn_lt, xn_le, hnt, Int32.reduceToInt] at h; omega) (by have h := hr; simp only [xn_lt, xn_le, hnt, Int32.reduceToInt] at h; omega) (by omega)
    refine xv_aload_n dX11_board_11 rfl rfl ?_
    refine xv_callV0 (As := []) dX11_board_12 cl_X11_199 rfl rfl rfl rfl (go_40 hG) rfl rfl (Nat.le_of_ble_eq_true rfl) (Nat.le_of_ble_eq_true rfl) (Nat.zero_le _) (Nat.zero_le _) ?_
    refine s11_layCut (d := d) hG hn hnp hsz hlo hpr IV hI0 hIb hIs (fun I2 mn hk1 hk2 hlf => ?_) (fun I2 mn k gr bo hk1 hk2 hlf hlg hIV => ?_)
    · refine xv_if_eq (tgt := 27) dX11_board_15 rfl (fun c_15 => ?_) (fun c_15 => absurd (by decide) c_15)
      refine xv_ldc dX11_board_27 ld_X11_152 ?_
      refine xv_iret dX11_board_29 rfl (Nat.zero_le _) (Nat.zero_le _) ?_
      exact h1 j hj rfl I2 mn hk1 hk2 hlf
    · refine xv_if_eq (tgt := 27) dX11_board_15 rfl (fun c_15 => absurd c_15 (by decide)) (fun c_15 => ?_)
      refine xv_aload_n dX11_board_18 rfl rfl ?_
      refine xv_getr dX11_board_19 fl_X11_69 (go_40 hG) rfl (gr_40_22 hG) ?_
      refine xv_iload_n dX11_board_22 rfl rfl ?_
      refine xv_iaload dX11_board_23 (go_72 hG) (xv_ixn (by omega) (by decide)) ?_
      refine xv_nmI (hlg.2.2 j hj) ?_
      refine xv_goto (tgt := 29) dX11_board_24 rfl ?_
      refine xv_iret dX11_board_29 rfl (Nat.zero_le _) (Nat.zero_le _) ?_
      exact h2 j hj rfl I2 mn k gr bo hk1 hk2 hlf hlg hIV
  · refine xv_ldc dX11_board_8 ld_X11_143 ?_
    refine xv_iret dX11_board_10 rfl (Nat.zero_le _) (Nat.zero_le _) ?_
    exact h0 c_5

noncomputable def lv_ (I : xv_I) (lo : Nat) (x : Int32) : Int32 := match ms_ I x with
  | none => 0
  | some s => if nI lo < I 63 s - x then I 63 s - x - nI lo else 0
theorem lv_cg {I I2 : xv_I} {lo : Nat} (h : I2 63 = I 63) (h2 : I2 64 = I 64) (x : Int32) : lv_ I2 lo x = lv_ I lo x := by rw [lv_, lv_, ms_cg h h2, h]
theorem s11_leftOf {l : Launch} {D : va_G} {d : Nat} {G : xv_Gr} {I : xv_I} {J : xv_J} {Q : xv_Po} (hG : xg_ok G) {np : Nat} (hn : I 40 1 = nI np) (hnp : np ≤ 12) {sz : Nat → Nat} (hsz : ∀ p, p < np → I 53 p = nI (sz p)) {lo : Nat} (hlo : I 40 15 = nI lo) {b S s : Nat} (hb : b < 12) (hgb : I 70 b = nI S) (hS : S < 4096) (hs : ms_ I (-(nI lo) + nI (ws_ sz lo S np)) = some s) (hQ : Q (some (.int (lv_ I lo (-(nI lo) + nI (ws_ sz lo S np))))) G I J) : xv_Ev l D (d + 2) mX11_leftOf none 0 [some (.ref 40), some (.int (nI b)), none] [] G I J 0 0 Q := by
  have hs4 := (fl_lt hs).1
  refine xv_aload_n dX11_leftOf_0 rfl rfl ?_
  refine xv_getr dX11_leftOf_1 fl_X11_45 (go_40 hG) rfl (gr_40_13 hG) ?_
  refine xv_aload_n dX11_leftOf_4 rfl rfl ?_
  refine xv_aload_n dX11_leftOf_5 rfl rfl ?_
  refine xv_getr dX11_leftOf_6 fl_X11_66 (go_40 hG) rfl (gr_40_20 hG) ?_
  refine xv_iload_n dX11_leftOf_9 rfl rfl ?_
  refine xv_iaload dX11_leftOf_10 (go_70 hG) (xv_ixn (by omega) (by decide)) ?_
  refine xv_nmI hgb ?_
  refine xv_callV0 (As := [_]) dX11_leftOf_11 cl_X11_186 rfl rfl rfl rfl (go_40 hG) rfl rfl (Nat.le_of_ble_eq_true rfl) (Nat.le_of_ble_eq_true rfl) (Nat.zero_le _) (Nat.zero_le _) ?_
  refine s11_sortFor (d := d) hG hn hnp hsz hlo (S := S) (by omega) ?_
  rw [hs]
  show xv_Ev l D (d + 2) mX11_leftOf none 14 [some (.ref 40), some (.int (nI b)), none] [.int (nI s), .ref 63] G I J 0 0 Q
  refine xv_iaload dX11_leftOf_14 (go_63 hG) (xv_ixn (by omega) (by decide)) ?_
  refine xv_aload_n dX11_leftOf_15 rfl rfl ?_
  refine xv_aload_n dX11_leftOf_16 rfl rfl ?_
  refine xv_getr dX11_leftOf_17 fl_X11_66 (go_40 hG) rfl (gr_40_20 hG) ?_
  refine xv_iload_n dX11_leftOf_20 rfl rfl ?_
  refine xv_iaload dX11_leftOf_21 (go_70 hG) (xv_ixn (by omega) (by decide)) ?_
  refine xv_nmI hgb ?_
  refine xv_callV0 (As := [_]) dX11_leftOf_22 cl_X11_183 rfl rfl rfl rfl (go_40 hG) rfl rfl (Nat.le_of_ble_eq_true rfl) (Nat.le_of_ble_eq_true rfl) (Nat.zero_le _) (Nat.zero_le _) ?_
  refine s11_needOf (d := d + 1) hG hn hnp hsz hlo (S := S) (by omega) ?_
  refine xv_isub dX11_leftOf_25 ?_
  refine xv_istore_n dX11_leftOf_26 rfl (Nat.le_of_ble_eq_true rfl) rfl ?_
  refine xv_iload_n dX11_leftOf_27 rfl rfl ?_
  refine xv_aload_n dX11_leftOf_28 rfl rfl ?_
  refine xv_geti dX11_leftOf_29 fl_X11_51 (go_40 hG) rfl ?_
  refine xv_nmI hlo ?_
  refine xv_icmp_le (tgt := 44) dX11_leftOf_32 rfl (fun c_32 => ?_) (fun c_32 => ?_)
  · refine xv_iconst (v := 0) dX11_leftOf_44 rfl ?_
    refine xv_iret dX11_leftOf_45 rfl (Nat.zero_le _) (Nat.zero_le _) ?_
    have e : lv_ I lo (-(nI lo) + nI (ws_ sz lo S np)) = 0 := by
      rw [lv_, hs]
      exact if_neg (by simp only [xn_lt, xn_le] at *; omega)
    rw [e] at hQ
    exact hQ
  · refine xv_iload_n dX11_leftOf_35 rfl rfl ?_
    refine xv_aload_n dX11_leftOf_36 rfl rfl ?_
    refine xv_geti dX11_leftOf_37 fl_X11_51 (go_40 hG) rfl ?_
    refine xv_nmI hlo ?_
    refine xv_isub dX11_leftOf_40 ?_
    refine xv_goto (tgt := 45) dX11_leftOf_41 rfl ?_
    refine xv_iret dX11_leftOf_45 rfl (Nat.zero_le _) (Nat.zero_le _) ?_
    have e : lv_ I lo (-(nI lo) + nI (ws_ sz lo S np)) = I 63 s - (-(nI lo) + nI (ws_ sz lo S np)) - nI lo := by
      rw [lv_, hs]
      exact if_pos (by simp only [xn_lt, xn_le] at *; omega)
    rw [e] at hQ
    exact hQ

theorem s11_ofBoard {l : Launch} {D : va_G} {d : Nat} {G : xv_Gr} {I : xv_I} {J : xv_J} {Q : xv_Po} (hG : xg_ok G) {np : Nat} (hn : I 40 1 = nI np) (hnp : np ≤ 12) {sz : Nat → Nat} (hsz : ∀ p, p < np → I 53 p = nI (sz p)) {lo : Nat} (hlo : I 40 15 = nI lo) {pr : Nat → Nat} (hpr : ∀ j, j < 4 → I 64 j = nI (pr j) ∧ pr j ≤ 9999) (IV : (Nat → Nat) → Nat → Nat → (Nat → Nat) → (Nat → Nat) → Prop) (hI0 : ∀ mn gr bo, mn_k (onf I pr sz lo np) mn (2 ^ np) → mn (2 ^ np - 1) < 100000000 → IV mn 0 0 gr bo) (hIb : ∀ mn p k gr bo, IV mn p k gr bo → k ≤ p ∧ ∀ g, g < k → gr g < 2 ^ np) (hIs : ∀ mn p k gr bo, mn_k (onf I pr sz lo np) mn (2 ^ np) → mn (2 ^ np - 1) < 100000000 → p < np → IV mn p k gr bo → ∃ g, ch_ (onf I pr sz lo np) mn np (mn (2 ^ np - 1)) p k gr g ∧ IV mn (p + 1) (gk_ k g) (gu_ gr g p k) (bo_u bo p g)) (hIv : ∀ mn k gr bo, mn_k (onf I pr sz lo np) mn (2 ^ np) → mn (2 ^ np - 1) < 100000000 → IV mn np k gr bo → ∀ g, g < k → ∃ s, ms_ I (-(nI lo) + nI (ws_ sz lo (gr g) np)) = some s) {x w : Int32} (h1 : ∀ I2 mn, mn_k (onf I pr sz lo np) mn (2 ^ np) → ¬ mn (2 ^ np - 1) < 100000000 → lk_f I I2 → Q (some (.int (-900001))) G I2 J) (h2 : ∀ I2 mn k gr bo, mn_k (onf I pr sz lo np) mn (2 ^ np) → mn (2 ^ np - 1) < 100000000 → lk_f I I2 → lk_g I2 k gr bo np → IV mn np k gr bo → ¬ (0 ≤ x ∧ x < nI k) → Q (some (.int (-900001))) G I2 J) (h3 : ∀ I2 mn k gr bo, mn_k (onf I pr sz lo np) mn (2 ^ np) → mn (2 ^ np - 1) < 100000000 → lk_f I I2 → lk_g I2 k gr bo np → IV mn np k gr bo → ∀ b, b < k → x = nI b → ¬ w = 0 → ¬ w = 1 → Q (some (.int (-900002))) G I2 J) (h4 : ∀ I2 mn k gr bo, mn_k (onf I pr sz lo np) mn (2 ^ np) → mn (2 ^ np - 1) < 100000000 → lk_f I I2 → lk_g I2 k gr bo np → IV mn np k gr bo → ∀ b, b < k → x = nI b → w = 0 → Q (some (.int (ob_ (-900009) (ms_ I (-(nI lo) + nI (ws_ sz lo (gr b) np)))))) G I2 J) (h5 : ∀ I2 mn k gr bo, mn_k (onf I pr sz lo np) mn (2 ^ np) → mn (2 ^ np - 1) < 100000000 → lk_f I I2 → lk_g I2 k gr bo np → IV mn np k gr bo → ∀ b, b < k → x = nI b → w = 1 → Q (some (.int (lv_ I lo (-(nI lo) + nI (ws_ sz lo (gr b) np))))) G I2 J) : xv_Ev l D (d + 4) mX11_ofBoard none 0 [some (.ref 40), some (.int x), some (.int w)] [] G I J 0 0 Q := by
  have h2p : 2 ^ np ≤ 2 ^ 12 := Nat.pow_le_pow_right (by decide) hnp
  have h24 : (2 : Nat) ^ 12 = 4096 := by decide
  have h1p : 1 ≤ 2 ^ np := Nat.one_le_two_pow
  refine xv_aload_n dX11_ofBoard_0 rfl rfl ?_
  refine xv_callV0 (As := []) dX11_ofBoard_1 cl_X11_199 rfl rfl rfl rfl (go_40 hG) rfl rfl (Nat.le_of_ble_eq_true rfl) (Nat.le_of_ble_eq_true rfl) (Nat.zero_le _) (Nat.zero_le _) ?_
  refine s11_layCut (d := d) hG hn hnp hsz hlo hpr IV hI0 hIb hIs (fun I2 mn hk1 hk2 hlf => ?_) (fun I2 mn k gr bo hk1 hk2 hlf hlg hIV => ?_)
  · refine xv_if_eq (tgt := 23) dX11_ofBoard_4 rfl (fun c_4 => ?_) (fun c_4 => absurd (by decide) c_4)
    refine xv_ldc dX11_ofBoard_23 ld_X11_143 ?_
    refine xv_iret dX11_ofBoard_25 rfl (Nat.zero_le _) (Nat.zero_le _) ?_
    exact h1 I2 mn hk1 hk2 hlf
  · refine xv_if_eq (tgt := 23) dX11_ofBoard_4 rfl (fun c_4 => absurd c_4 (by decide)) (fun c_4 => ?_)
    have hkb := hIb mn np k gr bo hIV
    have e63 : I2 63 = I 63 := hlf.1 63 (by decide) (by decide) (by decide) (by decide) (by decide) (by decide) (by decide)
    have e64 : I2 64 = I 64 := hlf.1 64 (by decide) (by decide) (by decide) (by decide) (by decide) (by decide) (by decide)
    have hknt : (nI k).toInt = (k : Int) := nI_toInt (by omega)
    refine xv_iload_n dX11_ofBoard_7 rfl rfl ?_
    refine xv_i2l dX11_ofBoard_8 ?_
    refine xv_lconst (v := 0) dX11_ofBoard_9 rfl ?_
    refine xv_aload_n dX11_ofBoard_10 rfl rfl ?_
    refine xv_geti dX11_ofBoard_11 fl_X11_190 (go_40 hG) rfl ?_
    refine xv_nmI hlg.1 ?_
    refine xv_iconst (v := nI 1) dX11_ofBoard_14 rfl ?_
    refine xv_isub dX11_ofBoard_15 ?_
    refine xv_i2l dX11_ofBoard_16 ?_
    refine xv_callS0 (As := [_, _, _]) dX11_ofBoard_17 cl_X11_126 rfl rfl rfl rfl (Nat.le_of_ble_eq_true rfl) (Nat.le_of_ble_eq_true rfl) (Nat.zero_le _) (Nat.zero_le _) ?_
    have e : (decide ((0 : Int32) ≤ x ∧ x ≤ nI k - 1)) = decide (0 ≤ x ∧ x < nI k) := by
      apply decide_eq_decide.mpr
      have h1 : (nI k - 1).toInt = (k : Int) - 1 := pk_sub_toInt (b := 1) (by omega) (by omega)
      simp only [xn_le, xn_lt, h1, hknt]
      omega
    refine s11_in (a := 0) (b := nI k - 1) rfl rfl ?_
    rw [e]
    refine xv_if_neD (tgt := 26) dX11_ofBoard_20 rfl (fun c_20 => ?_) (fun c_20 => ?_)
    · obtain ⟨b, hb, rfl⟩ : ∃ b : Nat, b < k ∧ x = nI b := xn_nat (n := k) (by have h := c_20; simp only [xn_lt, xn_le, hknt, Int32.reduceToInt] at h; omega) (by have h := c_20; simp only [xn_lt, xn_le, hknt, Int32.reduceToInt] at h; omega) (by omega)
      refine xv_iload_n dX11_ofBoard_26 rfl rfl ?_
      refine xv_if_ne (tgt := 43) dX11_ofBoard_27 rfl (fun c_27 => ?_) (fun c_27 => ?_)
      · refine xv_iload_n dX11_ofBoard_43 rfl rfl ?_
        refine xv_iconst (v := 1) dX11_ofBoard_44 rfl ?_
        refine xv_icmp_ne (tgt := 56) dX11_ofBoard_45 rfl (fun c_45 => ?_) (fun c_45 => ?_)
        · refine xv_ldc dX11_ofBoard_56 ld_X11_130 ?_
          refine xv_iret dX11_ofBoard_58 rfl (Nat.zero_le _) (Nat.zero_le _) ?_
          exact h3 I2 mn k gr bo hk1 hk2 hlf hlg hIV b hb rfl c_27 c_45
        · refine xv_aload_n dX11_ofBoard_48 rfl rfl ?_
          refine xv_iload_n dX11_ofBoard_49 rfl rfl ?_
          refine xv_callV0 (As := [_]) dX11_ofBoard_50 cl_X11_203 rfl rfl rfl rfl (go_40 hG) rfl rfl (Nat.le_of_ble_eq_true rfl) (Nat.le_of_ble_eq_true rfl) (Nat.zero_le _) (Nat.zero_le _) ?_
          obtain ⟨s, hsm⟩ := hIv mn k gr bo hk1 hk2 hIV b hb
          refine s11_leftOf (d := d + 1) hG (I := I2) ((hlf.2 1 (by decide)).trans hn) hnp (sz := sz) (fun p hp => by rw [hlf.1 53 (by decide) (by decide) (by decide) (by decide) (by decide) (by decide) (by decide)]; exact hsz p hp) (lo := lo) ((hlf.2 15 (by decide)).trans hlo) (b := b) (S := gr b) (s := s) (by omega) (hlg.2.1 b hb) (by have := hkb.2 b hb; omega) ((ms_cg e63 e64 _).trans hsm) ?_
          rw [lv_cg e63 e64]
          refine xv_goto (tgt := 58) dX11_ofBoard_53 rfl ?_
          refine xv_iret dX11_ofBoard_58 rfl (Nat.zero_le _) (Nat.zero_le _) ?_
          exact h5 I2 mn k gr bo hk1 hk2 hlf hlg hIV b hb rfl c_45
      · refine xv_aload_n dX11_ofBoard_30 rfl rfl ?_
        refine xv_aload_n dX11_ofBoard_31 rfl rfl ?_
        refine xv_getr dX11_ofBoard_32 fl_X11_66 (go_40 hG) rfl (gr_40_20 hG) ?_
        refine xv_iload_n dX11_ofBoard_35 rfl rfl ?_
        refine xv_iaload dX11_ofBoard_36 (go_70 hG) (xv_ixn (by omega) (by decide)) ?_
        refine xv_nmI (hlg.2.1 b hb) ?_
        refine xv_callV0 (As := [_]) dX11_ofBoard_37 cl_X11_186 rfl rfl rfl rfl (go_40 hG) rfl rfl (Nat.le_of_ble_eq_true rfl) (Nat.le_of_ble_eq_true rfl) (Nat.zero_le _) (Nat.zero_le _) ?_
        refine s11_sortFor (d := d + 2) hG (I := I2) ((hlf.2 1 (by decide)).trans hn) hnp (sz := sz) (fun p hp => by rw [hlf.1 53 (by decide) (by decide) (by decide) (by decide) (by decide) (by decide) (by decide)]; exact hsz p hp) (lo := lo) ((hlf.2 15 (by decide)).trans hlo) (S := gr b) (by have := hkb.2 b hb; omega) ?_
        rw [ms_cg e63 e64]
        refine xv_goto (tgt := 58) dX11_ofBoard_40 rfl ?_
        refine xv_iret dX11_ofBoard_58 rfl (Nat.zero_le _) (Nat.zero_le _) ?_
        exact h4 I2 mn k gr bo hk1 hk2 hlf hlg hIV b hb rfl c_27
    · refine xv_ldc dX11_ofBoard_23 ld_X11_143 ?_
      refine xv_iret dX11_ofBoard_25 rfl (Nat.zero_le _) (Nat.zero_le _) ?_
      exact h2 I2 mn k gr bo hk1 hk2 hlf hlg hIV c_20

theorem s11_ot_l {l : Launch} {D : va_G} {d : Nat} {G : xv_Gr} {I : xv_I} {J : xv_J} {Q : xv_Po} (hG : xg_ok G) {np k : Nat} {sz gr : Nat → Nat} {lo : Nat} (hn : I 40 1 = nI np) (hnp : np ≤ 12) (hsz : ∀ p, p < np → I 53 p = nI (sz p)) (hlo : I 40 15 = nI lo) (hk : I 40 21 = nI k) (hk2 : k ≤ 12) (hg : ∀ i, i < k → I 70 i = nI (gr i) ∧ gr i < 4096) (hv : ∀ g, g < k → ∃ s, ms_ I (-(nI lo) + nI (ws_ sz lo (gr g) np)) = some s) {x : Int32} (hQ : Q (some (.int (ob_ (-900009) (fl_ (fun g => x ≤ lv_ I lo (-(nI lo) + nI (ws_ sz lo (gr g) np))) (fun g => lv_ I lo (-(nI lo) + nI (ws_ sz lo (gr g) np))) k)))) G I J) : ∀ (n s : Nat), s + n = k → xv_Ev l D (d + 3) mX11_other none 26 [some (.ref 40), some (.int x), some (.int (ob_ (-900009) (fl_ (fun g => x ≤ lv_ I lo (-(nI lo) + nI (ws_ sz lo (gr g) np))) (fun g => lv_ I lo (-(nI lo) + nI (ws_ sz lo (gr g) np))) s))), some (.int 1), some (.int (nI s)), none] [] G I J 0 0 Q := by
  intro n
  induction n with
  | zero =>
    intro s hs
    refine xv_iload dX11_other_26 rfl ?_
    refine xv_aload_n dX11_other_28 rfl rfl ?_
    refine xv_geti dX11_other_29 fl_X11_190 (go_40 hG) rfl ?_
    refine xv_nmI hk ?_
    refine xv_icmp_geN (tgt := 82) dX11_other_32 rfl (by omega) (by omega) (fun c_32 => ?_) (fun c_32 => absurd c_32 (by omega))
    refine xv_iload_n dX11_other_82 rfl rfl ?_
    refine xv_iret dX11_other_83 rfl (Nat.zero_le _) (Nat.zero_le _) ?_
    have e : s = k := by omega
    subst e
    exact hQ
  | succ n ih =>
    intro s hs
    cases e : (fl_ (fun g => x ≤ lv_ I lo (-(nI lo) + nI (ws_ sz lo (gr g) np))) (fun g => lv_ I lo (-(nI lo) + nI (ws_ sz lo (gr g) np))) s) with
    | none =>
      show xv_Ev l D (d + 3) mX11_other none 26 [some (.ref 40), some (.int x), some (.int (-900009)), some (.int 1), some (.int (nI s)), none] [] G I J 0 0 Q
      refine xv_iload dX11_other_26 rfl ?_
      refine xv_aload_n dX11_other_28 rfl rfl ?_
      refine xv_geti dX11_other_29 fl_X11_190 (go_40 hG) rfl ?_
      refine xv_nmI hk ?_
      refine xv_icmp_geN (tgt := 82) dX11_other_32 rfl (by omega) (by omega) (fun c_32 => absurd c_32 (by omega)) (fun c_32 => ?_)
      refine xv_iload_n dX11_other_35 rfl rfl ?_
      refine xv_if_eq (tgt := 82) dX11_other_36 rfl (fun c_36 => absurd c_36 (by decide)) (fun c_36 => ?_)
      refine xv_aload_n dX11_other_39 rfl rfl ?_
      refine xv_iload dX11_other_40 rfl ?_
      refine xv_callV0 (As := [_]) dX11_other_42 cl_X11_203 rfl rfl rfl rfl (go_40 hG) rfl rfl (Nat.le_of_ble_eq_true rfl) (Nat.le_of_ble_eq_true rfl) (Nat.zero_le _) (Nat.zero_le _) ?_
      obtain ⟨ta, hta⟩ := hv s (by omega)
      refine s11_leftOf (d := d) hG hn hnp hsz hlo (b := s) (S := gr s) (s := ta) (by omega) (hg s (by omega)).1 (hg s (by omega)).2 hta ?_
      refine xv_istore dX11_other_45 (Nat.le_of_ble_eq_true rfl) rfl ?_
      refine xv_iload dX11_other_47 rfl ?_
      refine xv_iload_n dX11_other_49 rfl rfl ?_
      refine xv_icmp_lt (tgt := 74) dX11_other_50 rfl (fun c_50 => ?_) (fun c_50 => ?_)
      · refine xv_iload_n dX11_other_74 rfl rfl ?_
        refine xv_istore_n dX11_other_75 rfl (Nat.le_of_ble_eq_true rfl) rfl ?_
        refine xv_iinc dX11_other_76 rfl (xv_inc _) (Nat.le_of_ble_eq_true rfl) rfl ?_
        refine xv_goto (tgt := 26) dX11_other_79 rfl ?_
        have hc : ¬ fl_c (fun g => x ≤ lv_ I lo (-(nI lo) + nI (ws_ sz lo (gr g) np))) (fun g => lv_ I lo (-(nI lo) + nI (ws_ sz lo (gr g) np))) s (fl_ (fun g => x ≤ lv_ I lo (-(nI lo) + nI (ws_ sz lo (gr g) np))) (fun g => lv_ I lo (-(nI lo) + nI (ws_ sz lo (gr g) np))) s) := fun h => absurd h.1 (by simp only [xn_lt, xn_le] at *; omega)
        have h := ih (s + 1) (by omega)
        rw [fl_n hc, e] at h
        refine xv_fg [true, true, true, true, true, false] ?_
        exact h
      · refine xv_iload_n dX11_other_53 rfl rfl ?_
        refine xv_ldc dX11_other_54 ld_X11_152 ?_
        refine xv_icmp_eq (tgt := 69) dX11_other_56 rfl (fun c_56 => ?_) (fun c_56 => absurd rfl c_56)
        refine xv_iload dX11_other_69 rfl ?_
        refine xv_goto (tgt := 75) dX11_other_71 rfl ?_
        refine xv_istore_n dX11_other_75 rfl (Nat.le_of_ble_eq_true rfl) rfl ?_
        refine xv_iinc dX11_other_76 rfl (xv_inc _) (Nat.le_of_ble_eq_true rfl) rfl ?_
        refine xv_goto (tgt := 26) dX11_other_79 rfl ?_
        have hc : fl_c (fun g => x ≤ lv_ I lo (-(nI lo) + nI (ws_ sz lo (gr g) np))) (fun g => lv_ I lo (-(nI lo) + nI (ws_ sz lo (gr g) np))) s (fl_ (fun g => x ≤ lv_ I lo (-(nI lo) + nI (ws_ sz lo (gr g) np))) (fun g => lv_ I lo (-(nI lo) + nI (ws_ sz lo (gr g) np))) s) := ⟨(by simp only [xn_lt, xn_le] at *; omega), fun j hj => (by rw [e] at hj; cases hj)⟩
        have h := ih (s + 1) (by omega)
        rw [fl_y hc] at h
        refine xv_fg [true, true, true, true, true, false] ?_
        exact h
    | some q =>
      have hq := (fl_lt e).1
      show xv_Ev l D (d + 3) mX11_other none 26 [some (.ref 40), some (.int x), some (.int (nI q)), some (.int 1), some (.int (nI s)), none] [] G I J 0 0 Q
      refine xv_iload dX11_other_26 rfl ?_
      refine xv_aload_n dX11_other_28 rfl rfl ?_
      refine xv_geti dX11_other_29 fl_X11_190 (go_40 hG) rfl ?_
      refine xv_nmI hk ?_
      refine xv_icmp_geN (tgt := 82) dX11_other_32 rfl (by omega) (by omega) (fun c_32 => absurd c_32 (by omega)) (fun c_32 => ?_)
      refine xv_iload_n dX11_other_35 rfl rfl ?_
      refine xv_if_eq (tgt := 82) dX11_other_36 rfl (fun c_36 => absurd c_36 (by decide)) (fun c_36 => ?_)
      refine xv_aload_n dX11_other_39 rfl rfl ?_
      refine xv_iload dX11_other_40 rfl ?_
      refine xv_callV0 (As := [_]) dX11_other_42 cl_X11_203 rfl rfl rfl rfl (go_40 hG) rfl rfl (Nat.le_of_ble_eq_true rfl) (Nat.le_of_ble_eq_true rfl) (Nat.zero_le _) (Nat.zero_le _) ?_
      obtain ⟨ta, hta⟩ := hv s (by omega)
      refine s11_leftOf (d := d) hG hn hnp hsz hlo (b := s) (S := gr s) (s := ta) (by omega) (hg s (by omega)).1 (hg s (by omega)).2 hta ?_
      refine xv_istore dX11_other_45 (Nat.le_of_ble_eq_true rfl) rfl ?_
      refine xv_iload dX11_other_47 rfl ?_
      refine xv_iload_n dX11_other_49 rfl rfl ?_
      refine xv_icmp_lt (tgt := 74) dX11_other_50 rfl (fun c_50 => ?_) (fun c_50 => ?_)
      · refine xv_iload_n dX11_other_74 rfl rfl ?_
        refine xv_istore_n dX11_other_75 rfl (Nat.le_of_ble_eq_true rfl) rfl ?_
        refine xv_iinc dX11_other_76 rfl (xv_inc _) (Nat.le_of_ble_eq_true rfl) rfl ?_
        refine xv_goto (tgt := 26) dX11_other_79 rfl ?_
        have hc : ¬ fl_c (fun g => x ≤ lv_ I lo (-(nI lo) + nI (ws_ sz lo (gr g) np))) (fun g => lv_ I lo (-(nI lo) + nI (ws_ sz lo (gr g) np))) s (fl_ (fun g => x ≤ lv_ I lo (-(nI lo) + nI (ws_ sz lo (gr g) np))) (fun g => lv_ I lo (-(nI lo) + nI (ws_ sz lo (gr g) np))) s) := fun h => absurd h.1 (by simp only [xn_lt, xn_le] at *; omega)
        have h := ih (s + 1) (by omega)
        rw [fl_n hc, e] at h
        refine xv_fg [true, true, true, true, true, false] ?_
        exact h
      · refine xv_iload_n dX11_other_53 rfl rfl ?_
        refine xv_ldc dX11_other_54 ld_X11_152 ?_
        refine xv_icmp_eq (tgt := 69) dX11_other_56 rfl (fun c_56 => absurd c_56 (nI_nNONE (by omega))) (fun c_56 => ?_)
        refine xv_iload dX11_other_59 rfl ?_
        refine xv_aload_n dX11_other_61 rfl rfl ?_
        refine xv_iload_n dX11_other_62 rfl rfl ?_
        refine xv_callV0 (As := [_]) dX11_other_63 cl_X11_203 rfl rfl rfl rfl (go_40 hG) rfl rfl (Nat.le_of_ble_eq_true rfl) (Nat.le_of_ble_eq_true rfl) (Nat.zero_le _) (Nat.zero_le _) ?_
        obtain ⟨tb, htb⟩ := hv q (by omega)
        refine s11_leftOf (d := d) hG hn hnp hsz hlo (b := q) (S := gr q) (s := tb) (by omega) (hg q (by omega)).1 (hg q (by omega)).2 htb ?_
        refine xv_icmp_ge (tgt := 74) dX11_other_66 rfl (fun c_66 => ?_) (fun c_66 => ?_)
        · refine xv_iload_n dX11_other_74 rfl rfl ?_
          refine xv_istore_n dX11_other_75 rfl (Nat.le_of_ble_eq_true rfl) rfl ?_
          refine xv_iinc dX11_other_76 rfl (xv_inc _) (Nat.le_of_ble_eq_true rfl) rfl ?_
          refine xv_goto (tgt := 26) dX11_other_79 rfl ?_
          have hc : ¬ fl_c (fun g => x ≤ lv_ I lo (-(nI lo) + nI (ws_ sz lo (gr g) np))) (fun g => lv_ I lo (-(nI lo) + nI (ws_ sz lo (gr g) np))) s (fl_ (fun g => x ≤ lv_ I lo (-(nI lo) + nI (ws_ sz lo (gr g) np))) (fun g => lv_ I lo (-(nI lo) + nI (ws_ sz lo (gr g) np))) s) := fun h => absurd (h.2 q e) (by simp only [xn_lt, xn_le] at *; omega)
          have h := ih (s + 1) (by omega)
          rw [fl_n hc, e] at h
          refine xv_fg [true, true, true, true, true, false] ?_
          exact h
        · refine xv_iload dX11_other_69 rfl ?_
          refine xv_goto (tgt := 75) dX11_other_71 rfl ?_
          refine xv_istore_n dX11_other_75 rfl (Nat.le_of_ble_eq_true rfl) rfl ?_
          refine xv_iinc dX11_other_76 rfl (xv_inc _) (Nat.le_of_ble_eq_true rfl) rfl ?_
          refine xv_goto (tgt := 26) dX11_other_79 rfl ?_
          have hc : fl_c (fun g => x ≤ lv_ I lo (-(nI lo) + nI (ws_ sz lo (gr g) np))) (fun g => lv_ I lo (-(nI lo) + nI (ws_ sz lo (gr g) np))) s (fl_ (fun g => x ≤ lv_ I lo (-(nI lo) + nI (ws_ sz lo (gr g) np))) (fun g => lv_ I lo (-(nI lo) + nI (ws_ sz lo (gr g) np))) s) := ⟨(by simp only [xn_lt, xn_le] at *; omega), fun j hj => (by rw [e] at hj; cases hj; simp only [xn_lt, xn_le] at *; omega)⟩
          have h := ih (s + 1) (by omega)
          rw [fl_y hc] at h
          refine xv_fg [true, true, true, true, true, false] ?_
          exact h

theorem s11_other {l : Launch} {D : va_G} {d : Nat} {G : xv_Gr} {I : xv_I} {J : xv_J} {Q : xv_Po} (hG : xg_ok G) {np : Nat} (hn : I 40 1 = nI np) (hnp : np ≤ 12) {sz : Nat → Nat} (hsz : ∀ p, p < np → I 53 p = nI (sz p)) {lo : Nat} (hlo : I 40 15 = nI lo) {pr : Nat → Nat} (hpr : ∀ j, j < 4 → I 64 j = nI (pr j) ∧ pr j ≤ 9999) (IV : (Nat → Nat) → Nat → Nat → (Nat → Nat) → (Nat → Nat) → Prop) (hI0 : ∀ mn gr bo, mn_k (onf I pr sz lo np) mn (2 ^ np) → mn (2 ^ np - 1) < 100000000 → IV mn 0 0 gr bo) (hIb : ∀ mn p k gr bo, IV mn p k gr bo → k ≤ p ∧ ∀ g, g < k → gr g < 2 ^ np) (hIs : ∀ mn p k gr bo, mn_k (onf I pr sz lo np) mn (2 ^ np) → mn (2 ^ np - 1) < 100000000 → p < np → IV mn p k gr bo → ∃ g, ch_ (onf I pr sz lo np) mn np (mn (2 ^ np - 1)) p k gr g ∧ IV mn (p + 1) (gk_ k g) (gu_ gr g p k) (bo_u bo p g)) (hIv : ∀ mn k gr bo, mn_k (onf I pr sz lo np) mn (2 ^ np) → mn (2 ^ np - 1) < 100000000 → IV mn np k gr bo → ∀ g, g < k → ∃ s, ms_ I (-(nI lo) + nI (ws_ sz lo (gr g) np)) = some s) {x : Int32} (h0 : ¬ (1 ≤ x ∧ x ≤ 400) → Q (some (.int (-900002))) G I J) (h1 : (1 ≤ x ∧ x ≤ 400) → ∀ I2 mn, mn_k (onf I pr sz lo np) mn (2 ^ np) → ¬ mn (2 ^ np - 1) < 100000000 → lk_f I I2 → Q (some (.int (-900009))) G I2 J) (h2 : (1 ≤ x ∧ x ≤ 400) → ∀ I2 mn k gr bo, mn_k (onf I pr sz lo np) mn (2 ^ np) → mn (2 ^ np - 1) < 100000000 → lk_f I I2 → lk_g I2 k gr bo np → IV mn np k gr bo → Q (some (.int (ob_ (-900009) (fl_ (fun g => x ≤ lv_ I lo (-(nI lo) + nI (ws_ sz lo (gr g) np))) (fun g => lv_ I lo (-(nI lo) + nI (ws_ sz lo (gr g) np))) k)))) G I2 J) : xv_Ev l D (d + 4) mX11_other none 0 [some (.ref 40), some (.int x), none, none, none, none] [] G I J 0 0 Q := by
  have h2p : 2 ^ np ≤ 2 ^ 12 := Nat.pow_le_pow_right (by decide) hnp
  have h24 : (2 : Nat) ^ 12 = 4096 := by decide
  have h1p : 1 ≤ 2 ^ np := Nat.one_le_two_pow
  refine xv_iload_n dX11_other_0 rfl rfl ?_
  refine xv_i2l dX11_other_1 ?_
  refine xv_lconst (v := 1) dX11_other_2 rfl ?_
  refine xv_ldc2 dX11_other_3 ld_X11_124 ?_
  refine xv_callS0 (As := [_, _, _]) dX11_other_6 cl_X11_126 rfl rfl rfl rfl (Nat.le_of_ble_eq_true rfl) (Nat.le_of_ble_eq_true rfl) (Nat.zero_le _) (Nat.zero_le _) ?_
  refine s11_in (a := 1) (b := 400) rfl rfl ?_
  refine xv_if_neD (tgt := 15) dX11_other_9 rfl (fun c_9 => ?_) (fun c_9 => ?_)
  · refine xv_ldc dX11_other_15 ld_X11_152 ?_
    refine xv_istore_n dX11_other_17 rfl (Nat.le_of_ble_eq_true rfl) rfl ?_
    refine xv_aload_n dX11_other_18 rfl rfl ?_
    refine xv_callV0 (As := []) dX11_other_19 cl_X11_199 rfl rfl rfl rfl (go_40 hG) rfl rfl (Nat.le_of_ble_eq_true rfl) (Nat.le_of_ble_eq_true rfl) (Nat.zero_le _) (Nat.zero_le _) ?_
    refine s11_layCut (d := d) hG hn hnp hsz hlo hpr IV hI0 hIb hIs (fun I2 mn hk1 hk2 hlf => ?_) (fun I2 mn k gr bo hk1 hk2 hlf hlg hIV => ?_)
    · refine xv_istore_n dX11_other_22 rfl (Nat.le_of_ble_eq_true rfl) rfl ?_
      refine xv_iconst (v := nI 0) dX11_other_23 rfl ?_
      refine xv_istore dX11_other_24 (Nat.le_of_ble_eq_true rfl) rfl ?_
      refine xv_iload dX11_other_26 rfl ?_
      refine xv_aload_n dX11_other_28 rfl rfl ?_
      refine xv_geti dX11_other_29 fl_X11_190 (go_40 hG) rfl ?_
      refine xv_icmp_ge (tgt := 82) dX11_other_32 rfl (fun c_32 => ?_) (fun c_32 => ?_)
      · refine xv_iload_n dX11_other_82 rfl rfl ?_
        refine xv_iret dX11_other_83 rfl (Nat.zero_le _) (Nat.zero_le _) ?_
        exact h1 c_9 I2 mn hk1 hk2 hlf
      · refine xv_iload_n dX11_other_35 rfl rfl ?_
        refine xv_if_eq (tgt := 82) dX11_other_36 rfl (fun c_36 => ?_) (fun c_36 => absurd (by decide) c_36)
        refine xv_iload_n dX11_other_82 rfl rfl ?_
        refine xv_iret dX11_other_83 rfl (Nat.zero_le _) (Nat.zero_le _) ?_
        exact h1 c_9 I2 mn hk1 hk2 hlf
    · refine xv_istore_n dX11_other_22 rfl (Nat.le_of_ble_eq_true rfl) rfl ?_
      refine xv_iconst (v := nI 0) dX11_other_23 rfl ?_
      refine xv_istore dX11_other_24 (Nat.le_of_ble_eq_true rfl) rfl ?_
      have hkb := hIb mn np k gr bo hIV
      have e63 : I2 63 = I 63 := hlf.1 63 (by decide) (by decide) (by decide) (by decide) (by decide) (by decide) (by decide)
      have e64 : I2 64 = I 64 := hlf.1 64 (by decide) (by decide) (by decide) (by decide) (by decide) (by decide) (by decide)
      have hknt : (nI k).toInt = (k : Int) := nI_toInt (by omega)
      have eF : (fun g => lv_ I2 lo (-(nI lo) + nI (ws_ sz lo (gr g) np))) = (fun g => lv_ I lo (-(nI lo) + nI (ws_ sz lo (gr g) np))) := funext fun g => lv_cg e63 e64 _
      have eR : (fun g => x ≤ lv_ I2 lo (-(nI lo) + nI (ws_ sz lo (gr g) np))) = (fun g => x ≤ lv_ I lo (-(nI lo) + nI (ws_ sz lo (gr g) np))) := funext fun g => by rw [lv_cg e63 e64]
      have hq := h2 c_9 I2 mn k gr bo hk1 hk2 hlf hlg hIV
      rw [← eF, ← eR] at hq
      exact s11_ot_l (d := d + 1) hG (I := I2) (np := np) (k := k) (sz := sz) (gr := gr) (lo := lo) ((hlf.2 1 (by decide)).trans hn) hnp (fun p hp => by rw [hlf.1 53 (by decide) (by decide) (by decide) (by decide) (by decide) (by decide) (by decide)]; exact hsz p hp) ((hlf.2 15 (by decide)).trans hlo) hlg.1 (by omega) (fun i q => ⟨hlg.2.1 i q, by have := hkb.2 i q; omega⟩) (fun g q => by rw [ms_cg e63 e64]; exact hIv mn k gr bo hk1 hk2 hIV g q) hq k 0 (by omega)
  · refine xv_ldc dX11_other_12 ld_X11_130 ?_
    refine xv_iret dX11_other_14 rfl (Nat.zero_le _) (Nat.zero_le _) ?_
    exact h0 c_9
