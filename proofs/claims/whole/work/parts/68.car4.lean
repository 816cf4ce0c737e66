/-! packing, carOf, turned (class) -/
noncomputable def od_ (on : Nat → Nat) (np i : Nat) : Nat := lo_n on np (lo_b on np i)
def pk_k (np : Nat) (sz ot rm : Nat → Nat) (I : xv_I) : Prop := cr_ok np sz ot rm I ∧ bs_ I (pf sz ot rm np 0 0 0 (fun _ => 0) none)
def pk_f (I I2 : xv_I) : Prop := (∀ b, b ≠ 121 → b ≠ 155 → b ≠ 156 → b ≠ 157 → b ≠ 4 → I2 b = I b) ∧ (∀ j, j ≠ 1 → j ≠ 2 → j ≠ 3 → j ≠ 4 → I2 4 j = I 4 j) ∧ I2 4 1 = 0
theorem cr_st {np : Nat} {sz ot rm : Nat → Nat} {I : xv_I} {v : Int32} (h : pk_k np sz ot rm I) : pk_k np sz ot rm (xv_ui I 4 1 v) := by
  refine ⟨⟨?_, fun p hp => ?_, fun c hc => ?_⟩, ?_⟩
  · rw [xv_ui_o (by decide)]; exact h.1.1
  · rw [xv_ui_ne (by decide), xv_ui_ne (by decide)]; exact h.1.2.1 p hp
  · rw [xv_ui_ne (by decide)]; exact h.1.2.2 c hc
  · have q := h.2
    revert q
    generalize pf sz ot rm np 0 0 0 (fun _ => 0) none = b
    intro q
    cases b with
    | none => show xv_ui I 4 1 v 4 2 = _; rw [xv_ui_o (by decide)]; exact q
    | some r => show xv_ui I 4 1 v 4 2 = _ ∧ xv_ui I 4 1 v 4 3 = _ ∧ _; rw [xv_ui_o (by decide), xv_ui_o (by decide)]; exact q
theorem s10_packIfStale {l : Launch} {D : va_G} {d : Nat} {G : xv_Gr} {I : xv_I} {J : xv_J} {Q : xv_Po} (hG : xg_ok G) {np : Nat} (hn : I 1 1 = nI np) (hnp : np ≤ 12) {on : Nat → Nat} (ho : ∀ p, p < 12 → I 120 p = nI (on p) ∧ on p < 2 ^ 12) {ot sz rm : Nat → Nat} (hol : ∀ i, i < np → od_ on np i < np) (hinj : ∀ i j, i < np → j < np → od_ on np i = od_ on np j → i = j) (hsur : ∀ p, p < np → ∃ i, i < np ∧ od_ on np i = p) (hot : ∀ i, i < np → ot (od_ on np i) = xdf (2 ^ od_ on np i - 1) (dn_f (od_ on np) i)) (hsz : ∀ p, p < np → I 104 p = nI (sz p) ∧ sz p ≤ 1000000) (hrm : ∀ c, c < 2 → I 150 c = nI (rm c) ∧ rm c ≤ 3000) (hcc : I 4 1 = 0 → pk_k np sz ot rm I) (hQ : ∀ I2, pk_f I I2 → pk_k np sz ot rm I2 → Q none G I2 J) : xv_Ev l D (d + 16) mX10_packIfStale none 0 [some (.ref 0)] [] G I J 0 0 Q := by
  refine xv_aload_n dX10_packIfStale_0 rfl rfl ?_
  refine xv_getr dX10_packIfStale_1 fl_X10_33 (go_0 hG) rfl (gr_0_3 hG) ?_
  refine xv_geti dX10_packIfStale_4 fl_X10_124 (go_4 hG) rfl ?_
  refine xv_if_eq (tgt := 60) dX10_packIfStale_7 rfl (fun c_7 => ?_) (fun c_7 => ?_)
  · refine xv_vret dX10_packIfStale_60 rfl (Nat.zero_le _) (Nat.zero_le _) ?_
    exact hQ I ⟨fun _ _ _ _ _ _ => rfl, fun _ _ _ _ _ => rfl, c_7⟩ (hcc c_7)
  · refine xv_aload_n dX10_packIfStale_10 rfl rfl ?_
    refine xv_getr dX10_packIfStale_11 fl_X10_19 (go_0 hG) rfl (gr_0_1 hG) ?_
    refine xv_aload_n dX10_packIfStale_14 rfl rfl ?_
    refine xv_getr dX10_packIfStale_15 fl_X10_10 (go_0 hG) rfl (gr_0_0 hG) ?_
    refine xv_geti dX10_packIfStale_18 fl_X10_60 (go_1 hG) rfl ?_
    refine xv_nmI hn ?_
    refine xv_callV0 (As := [_]) dX10_packIfStale_21 cl_X10_132 rfl rfl rfl rfl (go_2 hG) rfl rfl (Nat.le_of_ble_eq_true rfl) (Nat.le_of_ble_eq_true rfl) (Nat.zero_le _) (Nat.zero_le _) ?_
    refine s3_lineUp hG ho hnp ?_
    refine xv_aload_n dX10_packIfStale_24 rfl rfl ?_
    refine xv_getr dX10_packIfStale_25 fl_X10_33 (go_0 hG) rfl (gr_0_3 hG) ?_
    refine xv_aload_n dX10_packIfStale_28 rfl rfl ?_
    refine xv_getr dX10_packIfStale_29 fl_X10_10 (go_0 hG) rfl (gr_0_0 hG) ?_
    refine xv_geti dX10_packIfStale_32 fl_X10_60 (go_1 hG) rfl ?_
    refine xv_nmI ((congrFun (xfl_ne (by decide)) 1).trans hn) ?_
    refine xv_aload_n dX10_packIfStale_35 rfl rfl ?_
    refine xv_getr dX10_packIfStale_36 fl_X10_10 (go_0 hG) rfl (gr_0_0 hG) ?_
    refine xv_getr dX10_packIfStale_39 fl_X10_80 (go_1 hG) rfl (gr_1_4 hG) ?_
    refine xv_aload_n dX10_packIfStale_42 rfl rfl ?_
    refine xv_getr dX10_packIfStale_43 fl_X10_19 (go_0 hG) rfl (gr_0_1 hG) ?_
    refine xv_getr dX10_packIfStale_46 fl_X10_136 (go_2 hG) rfl (gr_2_1 hG) ?_
    refine xv_callV0 (As := [_, _, _]) dX10_packIfStale_49 cl_X10_326 rfl rfl rfl rfl (go_4 hG) rfl rfl (Nat.le_of_ble_eq_true rfl) (Nat.le_of_ble_eq_true rfl) (Nat.zero_le _) (Nat.zero_le _) ?_
    refine s1_seekBest hG (I := (xfl I 121 (lo_w on np) np)) hnp (od := od_ on np) (ot := ot) (sz := sz) (rm := rm) (fun i hi => ⟨by simp only [xfl, hi, and_self, if_true]; rfl, hol i hi⟩) hinj hsur hot (fun p hp => by rw [xfl_ne (by decide)]; exact hsz p hp) (fun c hc => by rw [xfl_ne (by decide)]; exact hrm c hc) (fun I2 g1 g2 g3 g4 => ?_)
    · refine xv_aload_n dX10_packIfStale_52 rfl rfl ?_
      refine xv_getr dX10_packIfStale_53 fl_X10_33 (go_0 hG) rfl (gr_0_3 hG) ?_
      refine xv_iconst (v := 0) dX10_packIfStale_56 rfl ?_
      refine xv_puti dX10_packIfStale_57 fl_X10_124 (go_4 hG) rfl rfl rfl ?_
      refine xv_vret dX10_packIfStale_60 rfl (Nat.zero_le _) (Nat.zero_le _) ?_
      refine hQ _ ⟨fun b k0 k1 k2 k3 k4 => ?_, fun j k1 k2 k3 k4 => ?_, xv_ui_s⟩ (cr_st ⟨g3, g4⟩)
      · rw [xv_ui_ne k4, g1 b k1 k2 k3 k4, xfl_ne k0]
      · rw [xv_ui_o k1, g2 j k2 k3 k4, xfl_ne (by decide)]

theorem s10_packing {l : Launch} {D : va_G} {d : Nat} {G : xv_Gr} {I : xv_I} {J : xv_J} {Q : xv_Po} (hG : xg_ok G) {np : Nat} (hn : I 1 1 = nI np) (hnp : np ≤ 12) {on : Nat → Nat} (ho : ∀ p, p < 12 → I 120 p = nI (on p) ∧ on p < 2 ^ 12) {ot sz rm : Nat → Nat} (hol : ∀ i, i < np → od_ on np i < np) (hinj : ∀ i j, i < np → j < np → od_ on np i = od_ on np j → i = j) (hsur : ∀ p, p < np → ∃ i, i < np ∧ od_ on np i = p) (hot : ∀ i, i < np → ot (od_ on np i) = xdf (2 ^ od_ on np i - 1) (dn_f (od_ on np) i)) (hsz : ∀ p, p < np → I 104 p = nI (sz p) ∧ sz p ≤ 1000000) (hrm : ∀ c, c < 2 → I 150 c = nI (rm c) ∧ rm c ≤ 3000) (hcc : I 4 1 = 0 → pk_k np sz ot rm I) (hQ : ∀ I2, pk_f I I2 → pk_k np sz ot rm I2 → Q (some (.int (I2 4 2))) G I2 J) : xv_Ev l D (d + 17) mX10_packing none 0 [some (.ref 0)] [] G I J 0 0 Q := by
  refine xv_aload_n dX10_packing_0 rfl rfl ?_
  refine xv_callV0 (As := []) dX10_packing_1 cl_X10_182 rfl rfl rfl rfl (go_0 hG) rfl rfl (Nat.le_of_ble_eq_true rfl) (Nat.le_of_ble_eq_true rfl) (Nat.zero_le _) (Nat.zero_le _) ?_
  refine s10_packIfStale hG hn hnp ho hol hinj hsur hot hsz hrm hcc (fun I2 hf hk => ?_)
  · refine xv_aload_n dX10_packing_4 rfl rfl ?_
    refine xv_getr dX10_packing_5 fl_X10_33 (go_0 hG) rfl (gr_0_3 hG) ?_
    refine xv_geti dX10_packing_8 fl_X10_185 (go_4 hG) rfl ?_
    refine xv_iret dX10_packing_11 rfl (Nat.zero_le _) (Nat.zero_le _) ?_
    exact hQ I2 hf hk

theorem s10_carOf {l : Launch} {D : va_G} {d : Nat} {G : xv_Gr} {I : xv_I} {J : xv_J} {Q : xv_Po} (hG : xg_ok G) {np : Nat} (hn : I 1 1 = nI np) (hnp : np ≤ 12) {on : Nat → Nat} (ho : ∀ p, p < 12 → I 120 p = nI (on p) ∧ on p < 2 ^ 12) {ot sz rm : Nat → Nat} (hol : ∀ i, i < np → od_ on np i < np) (hinj : ∀ i j, i < np → j < np → od_ on np i = od_ on np j → i = j) (hsur : ∀ p, p < np → ∃ i, i < np ∧ od_ on np i = p) (hot : ∀ i, i < np → ot (od_ on np i) = xdf (2 ^ od_ on np i - 1) (dn_f (od_ on np) i)) (hsz : ∀ p, p < np → I 104 p = nI (sz p) ∧ sz p ≤ 1000000) (hrm : ∀ c, c < 2 → I 150 c = nI (rm c) ∧ rm c ≤ 3000) (hcc : I 4 1 = 0 → pk_k np sz ot rm I) {x : Int32} (h1 : ¬ (0 ≤ x ∧ x < nI np) → Q (some (.int (-900001))) G I J) (h2 : ∀ j, j < np → x = nI j → ∀ I2, pk_f I I2 → pk_k np sz ot rm I2 → I2 4 2 = -900009 → Q (some (.int (-900009))) G I2 J) (h3 : ∀ j, j < np → x = nI j → ∀ I2, pk_f I I2 → pk_k np sz ot rm I2 → ¬ I2 4 2 = -900009 → Q (some (.int ((I2 4 3 >>> (nI j &&& 31)) &&& 1))) G I2 J) : xv_Ev l D (d + 17) mX10_carOf none 0 [some (.ref 0), some (.int x)] [] G I J 0 0 Q := by
  have hnt : (nI np).toInt = (np : Int) := nI_toInt (by omega)
  refine xv_aload_n dX10_carOf_0 rfl rfl ?_
  refine xv_getr dX10_carOf_1 fl_X10_10 (go_0 hG) rfl (gr_0_0 hG) ?_
  refine xv_iload_n dX10_carOf_4 rfl rfl ?_
  refine xv_callV0 (As := [_]) dX10_carOf_5 cl_X10_71 rfl rfl rfl rfl (go_1 hG) rfl rfl (Nat.le_of_ble_eq_true rfl) (Nat.le_of_ble_eq_true rfl) (Nat.zero_le _) (Nat.zero_le _) ?_
  refine s5_hasN hG hn ?_
  refine xv_if_neD (tgt := 14) dX10_carOf_8 rfl (fun c_8 => ?_) (fun c_8 => ?_)
  · have hr := c_8
    obtain ⟨j, hj, rfl⟩ : ∃ j : Nat, j < np ∧ x = nI j := xn_nat (n := np) (by have h := hr; simp only [xn_lt, xn_le, hnt, Int32.reduceToInt] at h; omega) (by have h := hr; simp only [xn_lt, xn_le, hnt, Int32.reduceToInt] at h; omega) (by omega)
    refine xv_aload_n dX10_carOf_14 rfl rfl ?_
    refine xv_callV0 (As := []) dX10_carOf_15 cl_X10_182 rfl rfl rfl rfl (go_0 hG) rfl rfl (Nat.le_of_ble_eq_true rfl) (Nat.le_of_ble_eq_true rfl) (Nat.zero_le _) (Nat.zero_le _) ?_
    refine s10_packIfStale hG hn hnp ho hol hinj hsur hot hsz hrm hcc (fun I2 hf hk => ?_)
    · refine xv_aload_n dX10_carOf_18 rfl rfl ?_
      refine xv_getr dX10_carOf_19 fl_X10_33 (go_0 hG) rfl (gr_0_3 hG) ?_
      refine xv_geti dX10_carOf_22 fl_X10_185 (go_4 hG) rfl ?_
      refine xv_ldc dX10_carOf_25 ld_X10_101 ?_
      refine xv_icmp_ne (tgt := 35) dX10_carOf_27 rfl (fun c_27 => ?_) (fun c_27 => ?_)
      · refine xv_aload_n dX10_carOf_35 rfl rfl ?_
        refine xv_getr dX10_carOf_36 fl_X10_33 (go_0 hG) rfl (gr_0_3 hG) ?_
        refine xv_geti dX10_carOf_39 fl_X10_188 (go_4 hG) rfl ?_
        refine xv_iload_n dX10_carOf_42 rfl rfl ?_
        refine xv_ishr dX10_carOf_43 ?_
        refine xv_iconst (v := 1) dX10_carOf_44 rfl ?_
        refine xv_iand dX10_carOf_45 ?_
        refine xv_iret dX10_carOf_46 rfl (Nat.zero_le _) (Nat.zero_le _) ?_
        exact h3 j hj rfl I2 hf hk c_27
      · refine xv_ldc dX10_carOf_30 ld_X10_101 ?_
        refine xv_goto (tgt := 46) dX10_carOf_32 rfl ?_
        refine xv_iret dX10_carOf_46 rfl (Nat.zero_le _) (Nat.zero_le _) ?_
        exact h2 j hj rfl I2 hf hk c_27
  · refine xv_ldc dX10_carOf_11 ld_X10_75 ?_
    refine xv_iret dX10_carOf_13 rfl (Nat.zero_le _) (Nat.zero_le _) ?_
    exact h1 c_8

theorem xi_of (x : Int32) : ∃ n, n < 2 ^ 32 ∧ x = nI n := ⟨x.toBitVec.toNat, x.toBitVec.isLt, xi_inj (by rw [xi_tb]; simp)⟩
theorem xi_sub {x : Int32} {np : Nat} (hnp : np ≤ 12) (h : x &&& (nI (2 ^ np - 1) ^^^ (-1)) = 0) : ∃ S, S < 2 ^ np ∧ x = nI S := by
  obtain ⟨n, hn, rfl⟩ := xi_of x
  rw [xi_andn] at h
  have z := (xi_0 (Nat.lt_of_le_of_lt (xdf_le _ _) hn)).mp h
  have t : 0 < 2 ^ np := Nat.two_pow_pos np
  exact ⟨n, sb_lt (sb_df z) (by omega), rfl⟩
theorem xi_sub2 {S np : Nat} (hnp : np ≤ 12) (h : S < 2 ^ np) : nI S &&& (nI (2 ^ np - 1) ^^^ (-1)) = 0 := by
  rw [xi_andn]
  have e : xdf S (2 ^ np - 1) = 0 := Nat.eq_of_testBit_eq fun i => by
    rw [xdf_bit, Nat.zero_testBit, Nat.testBit_two_pow_sub_one]
    by_cases q : i < np
    · simp [q]
    · rw [Nat.testBit_lt_two_pow (Nat.lt_of_lt_of_le h (Nat.pow_le_pow_right (by decide) (by omega)))]; rfl
  rw [e]; rfl
theorem s10_turned {l : Launch} {D : va_G} {d : Nat} {G : xv_Gr} {I : xv_I} {J : xv_J} {Q : xv_Po} (hG : xg_ok G) {np : Nat} (hn : I 1 1 = nI np) (hnp : np ≤ 12) {on : Nat → Nat} (ho : ∀ p, p < 12 → I 120 p = nI (on p) ∧ on p < 2 ^ 12) {ot sz rm : Nat → Nat} (hol : ∀ i, i < np → od_ on np i < np) (hinj : ∀ i j, i < np → j < np → od_ on np i = od_ on np j → i = j) (hsur : ∀ p, p < np → ∃ i, i < np ∧ od_ on np i = p) (hot : ∀ i, i < np → ot (od_ on np i) = xdf (2 ^ od_ on np i - 1) (dn_f (od_ on np) i)) (hsz : ∀ p, p < np → I 104 p = nI (sz p) ∧ sz p ≤ 1000000) (hrm : ∀ c, c < 2 → I 150 c = nI (rm c) ∧ rm c ≤ 3000) (hcc : I 4 1 = 0 → pk_k np sz ot rm I) {x : Int32} (h1 : ¬ (∃ S, S < 2 ^ np ∧ x = nI S) → Q (some (.int (-900002))) G I J) (h2 : ∀ S, S < 2 ^ np → x = nI S → ¬ (tb_l sz S 0 np ≤ rm 0 ∧ tb_l sz S 1 np ≤ rm 1) → ∀ I2 I3, pk_f I I2 → pk_k np sz ot rm I2 → (∀ b, b ≠ 157 → I3 b = I2 b) → Q (some (.int (-900009))) G I3 J) (h3 : ∀ S, S < 2 ^ np → x = nI S → (tb_l sz S 0 np ≤ rm 0 ∧ tb_l sz S 1 np ≤ rm 1) → ∀ I2 I3, pk_f I I2 → pk_k np sz ot rm I2 → (∀ b, b ≠ 157 → I3 b = I2 b) → Q (some (.int (nI (tb_s ot S np)))) G I3 J) : xv_Ev l D (d + 17) mX10_turned none 0 [some (.ref 0), some (.int x)] [] G I J 0 0 Q := by
  refine xv_iload_n dX10_turned_0 rfl rfl ?_
  refine xv_iconst (v := 1) dX10_turned_1 rfl ?_
  refine xv_aload_n dX10_turned_2 rfl rfl ?_
  refine xv_getr dX10_turned_3 fl_X10_10 (go_0 hG) rfl (gr_0_0 hG) ?_
  refine xv_geti dX10_turned_6 fl_X10_60 (go_1 hG) rfl ?_
  refine xv_nmI hn ?_
  refine xv_ishl dX10_turned_9 ?_
  refine xv_nmI (xi_one (by omega)) ?_
  refine xv_iconst (v := nI 1) dX10_turned_10 rfl ?_
  refine xv_isub dX10_turned_11 ?_
  refine xv_nmI (pk_sub Nat.one_le_two_pow) ?_
  refine xv_iconst (v := -1) dX10_turned_12 rfl ?_
  refine xv_ixor dX10_turned_13 ?_
  refine xv_iand dX10_turned_14 ?_
  refine xv_if_eq (tgt := 21) dX10_turned_15 rfl (fun c_15 => ?_) (fun c_15 => ?_)
  · obtain ⟨S, hS, rfl⟩ := xi_sub hnp c_15
    have h2 := h2 S hS rfl
    have h3 := h3 S hS rfl
    have hS4 : S < 4096 := Nat.lt_of_lt_of_le hS (Nat.pow_le_pow_right (by decide) hnp)
    refine xv_aload_n dX10_turned_21 rfl rfl ?_
    refine xv_callV0 (As := []) dX10_turned_22 cl_X10_182 rfl rfl rfl rfl (go_0 hG) rfl rfl (Nat.le_of_ble_eq_true rfl) (Nat.le_of_ble_eq_true rfl) (Nat.zero_le _) (Nat.zero_le _) ?_
    refine s10_packIfStale hG hn hnp ho hol hinj hsur hot hsz hrm hcc (fun I2 hf hk => ?_)
    · refine xv_aload_n dX10_turned_25 rfl rfl ?_
      refine xv_getr dX10_turned_26 fl_X10_33 (go_0 hG) rfl (gr_0_3 hG) ?_
      refine xv_iload_n dX10_turned_29 rfl rfl ?_
      refine xv_callV0 (As := [_]) dX10_turned_30 cl_X10_191 rfl rfl rfl rfl (go_4 hG) rfl rfl (Nat.le_of_ble_eq_true rfl) (Nat.le_of_ble_eq_true rfl) (Nat.zero_le _) (Nat.zero_le _) ?_
      refine s1_turnedBy (d := d + 14) hG hnp hk.1 (S := S) (by omega) (fun q I3 g => ?_) (fun q I3 g => ?_)
      · refine xv_iret dX10_turned_33 rfl (Nat.zero_le _) (Nat.zero_le _) ?_
        exact h2 q I2 I3 hf hk g
      · refine xv_iret dX10_turned_33 rfl (Nat.zero_le _) (Nat.zero_le _) ?_
        exact h3 q I2 I3 hf hk g
  · refine xv_ldc dX10_turned_18 ld_X10_55 ?_
    refine xv_iret dX10_turned_20 rfl (Nat.zero_le _) (Nat.zero_le _) ?_
    exact h1 (fun ⟨S, g1, g2⟩ => c_15 (by rw [g2]; exact xi_sub2 hnp g1))
