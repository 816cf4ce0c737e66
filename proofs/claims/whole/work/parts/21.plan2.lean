/-! plans: loops -/
theorem s5_can_l {l : Launch} {D : va_G} {d : Nat} {G : xv_Gr} {I : xv_I} {J : xv_J} {Q : xv_Po} (hG : xg_ok G) {np : Nat} (hn : I 1 1 = nI np) (hnp : np ≤ 12) (hQ : Q (some (.int (xbp (∀ p, p < np → ¬ (I 1 0 - (I 103 p + I 104 p) < 0))))) G I J) : ∀ (n i : Nat), i + n = np → (∀ p, p < i → ¬ (I 1 0 - (I 103 p + I 104 p) < 0)) → xv_Ev l D (d + 1) mX5_canTurnRound none 2 [some (.ref 1), some (.int (nI i))] [] G I J 0 0 Q := by
  intro n
  induction n with
  | zero =>
    intro i hi hA
    refine xv_iload_n dX5_canTurnRound_2 rfl rfl ?_
    refine xv_aload_n dX5_canTurnRound_3 rfl rfl ?_
    refine xv_geti dX5_canTurnRound_4 fl_X5_15 (go_1 hG) rfl ?_
    refine xv_nmI hn ?_
    refine xv_icmp_geN (tgt := 32) dX5_canTurnRound_7 rfl (by omega) (by omega) (fun c_7 => ?_) (fun c_7 => absurd c_7 (by omega))
    refine xv_iconst (v := 1) dX5_canTurnRound_32 rfl ?_
    refine xv_zret dX5_canTurnRound_33 rfl rfl (Nat.zero_le _) (Nat.zero_le _) ?_
    exact xqp_T (Q := fun v => Q (some v) G I J) hQ (fun p hp => hA p (by omega))
  | succ n ih =>
    intro i hi hA
    refine xv_iload_n dX5_canTurnRound_2 rfl rfl ?_
    refine xv_aload_n dX5_canTurnRound_3 rfl rfl ?_
    refine xv_geti dX5_canTurnRound_4 fl_X5_15 (go_1 hG) rfl ?_
    refine xv_nmI hn ?_
    refine xv_icmp_geN (tgt := 32) dX5_canTurnRound_7 rfl (by omega) (by omega) (fun c_7 => absurd c_7 (by omega)) (fun c_7 => ?_)
    refine xv_aload_n dX5_canTurnRound_10 rfl rfl ?_
    refine xv_geti dX5_canTurnRound_11 fl_X5_9 (go_1 hG) rfl ?_
    refine xv_aload_n dX5_canTurnRound_14 rfl rfl ?_
    refine xv_iload_n dX5_canTurnRound_15 rfl rfl ?_
    refine xv_iconst (v := 1) dX5_canTurnRound_16 rfl ?_
    refine xv_callV0 (As := [_, _]) dX5_canTurnRound_17 cl_X5_47 rfl rfl rfl rfl (go_1 hG) rfl rfl (Nat.le_of_ble_eq_true rfl) (Nat.le_of_ble_eq_true rfl) (Nat.zero_le _) (Nat.zero_le _) ?_
    refine s5_endOf hG (xv_ixn (by omega) (by decide)) ?_
    refine xv_nmI (pl_end1 _ _ _) ?_
    refine xv_isub dX5_canTurnRound_20 ?_
    refine xv_if_ge (tgt := 26) dX5_canTurnRound_21 rfl (fun c_21 => ?_) (fun c_21 => ?_)
    · refine xv_iinc dX5_canTurnRound_26 rfl (xv_inc _) (Nat.le_of_ble_eq_true rfl) rfl ?_
      refine xv_goto (tgt := 2) dX5_canTurnRound_29 rfl ?_
      exact ih (i + 1) (by omega) (fun p hp => by
            rcases Nat.lt_or_ge p i with q | q
            · exact hA p q
            · have e : p = i := by omega
              subst e
              simp only [xn_lt, xn_le] at *
              omega)
    · refine xv_iconst (v := 0) dX5_canTurnRound_24 rfl ?_
      refine xv_zret dX5_canTurnRound_25 rfl rfl (Nat.zero_le _) (Nat.zero_le _) ?_
      exact xqp_F (Q := fun v => Q (some v) G I J) hQ (fun h => h i (by omega) (by simp only [xn_lt, xn_le] at *; omega))

theorem s5_can {l : Launch} {D : va_G} {d : Nat} {G : xv_Gr} {I : xv_I} {J : xv_J} {Q : xv_Po} (hG : xg_ok G) {np : Nat} (hn : I 1 1 = nI np) (hnp : np ≤ 12) (hQ : Q (some (.int (xbp (∀ p, p < np → ¬ (I 1 0 - (I 103 p + I 104 p) < 0))))) G I J) : xv_Ev l D (d + 1) mX5_canTurnRound none 0 [some (.ref 1), none] [] G I J 0 0 Q := by
  refine xv_iconst (v := 0) dX5_canTurnRound_0 rfl ?_
  refine xv_istore_n dX5_canTurnRound_1 rfl (Nat.le_of_ble_eq_true rfl) rfl ?_
  exact s5_can_l hG hn hnp hQ np 0 (by omega) (fun p hp => absurd hp (by omega))

def pl_trn (I : xv_I) (p : Nat) : Int32 := I 1 0 - (I 103 p + I 104 p)
theorem s5_trn_m {l : Launch} {D : va_G} {d : Nat} {G : xv_Gr} {I : xv_I} {J : xv_J} {Q : xv_Po} (hG : xg_ok G) {np : Nat} (hn : I 1 1 = nI np) (hnp : np ≤ 12) {nm : Nat} (hm : I 1 2 = nI nm) (hnm : nm ≤ 20) (hQ : Q (some (.int (nI (xcn (fun p => ¬ pl_trn I p = I 103 p) np)))) G (xfl (xfl (xfl I 103 (pl_trn I) np) 108 (fun k => 1 - I 108 k) nm) 110 (fun k => 1 - I 110 k) nm) J) : ∀ (n i : Nat), i + n = nm → xv_Ev l D d mX5_turnRound none 52 [some (.ref 1), some (.int (nI (xcn (fun p => ¬ pl_trn I p = I 103 p) np))), some (.int (nI i)), none] [] G (xfl (xfl (xfl I 103 (pl_trn I) np) 108 (fun k => 1 - I 108 k) i) 110 (fun k => 1 - I 110 k) i) J 0 0 Q := by
  intro n
  induction n with
  | zero =>
    intro i hi
    refine xv_iload_n dX5_turnRound_52 rfl rfl ?_
    refine xv_aload_n dX5_turnRound_53 rfl rfl ?_
    refine xv_geti dX5_turnRound_54 fl_X5_18 (go_1 hG) rfl ?_
    refine xv_nmI (show (xfl (xfl (xfl I 103 (pl_trn I) np) 108 (fun k => 1 - I 108 k) i) 110 (fun k => 1 - I 110 k) i) 1 2 = nI nm from hm) ?_
    refine xv_icmp_geN (tgt := 94) dX5_turnRound_57 rfl (by omega) (by omega) (fun c_57 => ?_) (fun c_57 => absurd c_57 (by omega))
    refine xv_iload_n dX5_turnRound_94 rfl rfl ?_
    refine xv_iret dX5_turnRound_95 rfl (Nat.zero_le _) (Nat.zero_le _) ?_
    have e : nm = i := by omega
    subst e
    exact hQ
  | succ n ih =>
    intro i hi
    refine xv_iload_n dX5_turnRound_52 rfl rfl ?_
    refine xv_aload_n dX5_turnRound_53 rfl rfl ?_
    refine xv_geti dX5_turnRound_54 fl_X5_18 (go_1 hG) rfl ?_
    refine xv_nmI (show (xfl (xfl (xfl I 103 (pl_trn I) np) 108 (fun k => 1 - I 108 k) i) 110 (fun k => 1 - I 110 k) i) 1 2 = nI nm from hm) ?_
    refine xv_icmp_geN (tgt := 94) dX5_turnRound_57 rfl (by omega) (by omega) (fun c_57 => absurd c_57 (by omega)) (fun c_57 => ?_)
    refine xv_aload_n dX5_turnRound_60 rfl rfl ?_
    refine xv_getr dX5_turnRound_61 fl_X5_38 (go_1 hG) rfl (gr_1_8 hG) ?_
    refine xv_iload_n dX5_turnRound_64 rfl rfl ?_
    refine xv_iconst (v := 1) dX5_turnRound_65 rfl ?_
    refine xv_aload_n dX5_turnRound_66 rfl rfl ?_
    refine xv_getr dX5_turnRound_67 fl_X5_38 (go_1 hG) rfl (gr_1_8 hG) ?_
    refine xv_iload_n dX5_turnRound_70 rfl rfl ?_
    refine xv_iaload dX5_turnRound_71 (go_108 hG) (xv_ixn (by omega) (by decide)) ?_
    refine xv_isub dX5_turnRound_72 ?_
    refine xv_iastore dX5_turnRound_73 (go_108 hG) (xv_ixn (by omega) (by decide)) ?_
    refine xv_aload_n dX5_turnRound_74 rfl rfl ?_
    refine xv_getr dX5_turnRound_75 fl_X5_44 (go_1 hG) rfl (gr_1_10 hG) ?_
    refine xv_iload_n dX5_turnRound_78 rfl rfl ?_
    refine xv_iconst (v := 1) dX5_turnRound_79 rfl ?_
    refine xv_aload_n dX5_turnRound_80 rfl rfl ?_
    refine xv_getr dX5_turnRound_81 fl_X5_44 (go_1 hG) rfl (gr_1_10 hG) ?_
    refine xv_iload_n dX5_turnRound_84 rfl rfl ?_
    refine xv_iaload dX5_turnRound_85 (go_110 hG) (xv_ixn (by omega) (by decide)) ?_
    refine xv_isub dX5_turnRound_86 ?_
    refine xv_iastore dX5_turnRound_87 (go_110 hG) (xv_ixn (by omega) (by decide)) ?_
    refine xv_iinc dX5_turnRound_88 rfl (xv_inc _) (Nat.le_of_ble_eq_true rfl) rfl ?_
    refine xv_goto (tgt := 52) dX5_turnRound_91 rfl ?_
    refine xv_nmM (I2 := (xfl (xfl (xfl I 103 (pl_trn I) np) 108 (fun k => 1 - I 108 k) (i + 1)) 110 (fun k => 1 - I 110 k) (i + 1))) ?_ ?_
    · funext a k
      simp only [xv_ui_ap, xfl]
      grind
    · exact ih (i + 1) (by omega)

theorem s5_trn_l {l : Launch} {D : va_G} {d : Nat} {G : xv_Gr} {I : xv_I} {J : xv_J} {Q : xv_Po} (hG : xg_ok G) {np : Nat} (hn : I 1 1 = nI np) (hnp : np ≤ 12) {nm : Nat} (hm : I 1 2 = nI nm) (hnm : nm ≤ 20) (hQ : Q (some (.int (nI (xcn (fun p => ¬ pl_trn I p = I 103 p) np)))) G (xfl (xfl (xfl I 103 (pl_trn I) np) 108 (fun k => 1 - I 108 k) nm) 110 (fun k => 1 - I 110 k) nm) J) : ∀ (n i : Nat), i + n = np → xv_Ev l D (d + 1) mX5_turnRound none 4 [some (.ref 1), some (.int (nI (xcn (fun p => ¬ pl_trn I p = I 103 p) i))), some (.int (nI i)), none] [] G (xfl I 103 (pl_trn I) i) J 0 0 Q := by
  intro n
  induction n with
  | zero =>
    intro i hi
    refine xv_iload_n dX5_turnRound_4 rfl rfl ?_
    refine xv_aload_n dX5_turnRound_5 rfl rfl ?_
    refine xv_geti dX5_turnRound_6 fl_X5_15 (go_1 hG) rfl ?_
    refine xv_nmI (show (xfl I 103 (pl_trn I) i) 1 1 = nI np from hn) ?_
    refine xv_icmp_geN (tgt := 50) dX5_turnRound_9 rfl (by omega) (by omega) (fun c_9 => ?_) (fun c_9 => absurd c_9 (by omega))
    refine xv_iconst (v := 0) dX5_turnRound_50 rfl ?_
    refine xv_istore_n dX5_turnRound_51 rfl (Nat.le_of_ble_eq_true rfl) rfl ?_
    have e : np = i := by omega
    subst e
    refine xv_nmM (I2 := (xfl (xfl (xfl I 103 (pl_trn I) np) 108 (fun k => 1 - I 108 k) 0) 110 (fun k => 1 - I 110 k) 0)) ?_ ?_
    · rw [xfl_0, xfl_0]
    · exact s5_trn_m hG hn hnp hm hnm hQ nm 0 (by omega)
  | succ n ih =>
    intro i hi
    refine xv_iload_n dX5_turnRound_4 rfl rfl ?_
    refine xv_aload_n dX5_turnRound_5 rfl rfl ?_
    refine xv_geti dX5_turnRound_6 fl_X5_15 (go_1 hG) rfl ?_
    refine xv_nmI (show (xfl I 103 (pl_trn I) i) 1 1 = nI np from hn) ?_
    refine xv_icmp_geN (tgt := 50) dX5_turnRound_9 rfl (by omega) (by omega) (fun c_9 => absurd c_9 (by omega)) (fun c_9 => ?_)
    refine xv_aload_n dX5_turnRound_12 rfl rfl ?_
    refine xv_geti dX5_turnRound_13 fl_X5_9 (go_1 hG) rfl ?_
    refine xv_aload_n dX5_turnRound_16 rfl rfl ?_
    refine xv_iload_n dX5_turnRound_17 rfl rfl ?_
    refine xv_iconst (v := 1) dX5_turnRound_18 rfl ?_
    refine xv_callV0 (As := [_, _]) dX5_turnRound_19 cl_X5_47 rfl rfl rfl rfl (go_1 hG) rfl rfl (Nat.le_of_ble_eq_true rfl) (Nat.le_of_ble_eq_true rfl) (Nat.zero_le _) (Nat.zero_le _) ?_
    refine s5_endOf hG (xv_ixn (by omega) (by decide)) ?_
    refine xv_isub dX5_turnRound_22 ?_
    refine xv_istore_n dX5_turnRound_23 rfl (Nat.le_of_ble_eq_true rfl) rfl ?_
    refine xv_iload_n dX5_turnRound_24 rfl rfl ?_
    refine xv_aload_n dX5_turnRound_25 rfl rfl ?_
    refine xv_getr dX5_turnRound_26 fl_X5_21 (go_1 hG) rfl (gr_1_3 hG) ?_
    refine xv_iload_n dX5_turnRound_29 rfl rfl ?_
    refine xv_iaload dX5_turnRound_30 (go_103 hG) (xv_ixn (by omega) (by decide)) ?_
    refine xv_icmp_eq (tgt := 37) dX5_turnRound_31 rfl (fun c_31 => ?_) (fun c_31 => ?_)
    · refine xv_aload_n dX5_turnRound_37 rfl rfl ?_
      refine xv_getr dX5_turnRound_38 fl_X5_21 (go_1 hG) rfl (gr_1_3 hG) ?_
      refine xv_iload_n dX5_turnRound_41 rfl rfl ?_
      refine xv_iload_n dX5_turnRound_42 rfl rfl ?_
      refine xv_iastore dX5_turnRound_43 (go_103 hG) (xv_ixn (by omega) (by decide)) ?_
      refine xv_iinc dX5_turnRound_44 rfl (xv_inc _) (Nat.le_of_ble_eq_true rfl) rfl ?_
      refine xv_goto (tgt := 4) dX5_turnRound_47 rfl ?_
      have e : (xfl I 103 (pl_trn I) i) 1 0 - pl_end ((xfl I 103 (pl_trn I) i) 103) ((xfl I 103 (pl_trn I) i) 104) i 1 = pl_trn I i := by
            rw [pl_end1]
            show I 1 0 - ((xfl I 103 (pl_trn I) i) 103 i + I 104 i) = _
            rw [xfl_ge (Nat.le_refl i)]
            rfl
      have hc := c_31
      rw [e, xfl_ge (Nat.le_refl i)] at hc
      refine xv_nmM (I2 := (xfl I 103 (pl_trn I) (i + 1))) (xfl_put e) ?_
      have ih2 := ih (i + 1) (by omega)
      rw [xcn_n (P := fun p => ¬ pl_trn I p = I 103 p) (n := i) (by simpa using hc)] at ih2
      exact xv_fg [true, true, true, false] ih2
    · refine xv_iinc dX5_turnRound_34 rfl (xv_inc _) (Nat.le_of_ble_eq_true rfl) rfl ?_
      refine xv_aload_n dX5_turnRound_37 rfl rfl ?_
      refine xv_getr dX5_turnRound_38 fl_X5_21 (go_1 hG) rfl (gr_1_3 hG) ?_
      refine xv_iload_n dX5_turnRound_41 rfl rfl ?_
      refine xv_iload_n dX5_turnRound_42 rfl rfl ?_
      refine xv_iastore dX5_turnRound_43 (go_103 hG) (xv_ixn (by omega) (by decide)) ?_
      refine xv_iinc dX5_turnRound_44 rfl (xv_inc _) (Nat.le_of_ble_eq_true rfl) rfl ?_
      refine xv_goto (tgt := 4) dX5_turnRound_47 rfl ?_
      have e : (xfl I 103 (pl_trn I) i) 1 0 - pl_end ((xfl I 103 (pl_trn I) i) 103) ((xfl I 103 (pl_trn I) i) 104) i 1 = pl_trn I i := by
            rw [pl_end1]
            show I 1 0 - ((xfl I 103 (pl_trn I) i) 103 i + I 104 i) = _
            rw [xfl_ge (Nat.le_refl i)]
            rfl
      have hc := c_31
      rw [e, xfl_ge (Nat.le_refl i)] at hc
      refine xv_nmM (I2 := (xfl I 103 (pl_trn I) (i + 1))) (xfl_put e) ?_
      have ih2 := ih (i + 1) (by omega)
      rw [xcn_y (P := fun p => ¬ pl_trn I p = I 103 p) (n := i) (by simpa using hc)] at ih2
      exact xv_fg [true, true, true, false] ih2

theorem s5_trn {l : Launch} {D : va_G} {d : Nat} {G : xv_Gr} {I : xv_I} {J : xv_J} {Q : xv_Po} (hG : xg_ok G) {np : Nat} (hn : I 1 1 = nI np) (hnp : np ≤ 12) {nm : Nat} (hm : I 1 2 = nI nm) (hnm : nm ≤ 20) (hQ : Q (some (.int (nI (xcn (fun p => ¬ pl_trn I p = I 103 p) np)))) G (xfl (xfl (xfl I 103 (pl_trn I) np) 108 (fun k => 1 - I 108 k) nm) 110 (fun k => 1 - I 110 k) nm) J) : xv_Ev l D (d + 1) mX5_turnRound none 0 [some (.ref 1), none, none, none] [] G I J 0 0 Q := by
  refine xv_iconst (v := 0) dX5_turnRound_0 rfl ?_
  refine xv_istore_n dX5_turnRound_1 rfl (Nat.le_of_ble_eq_true rfl) rfl ?_
  refine xv_iconst (v := 0) dX5_turnRound_2 rfl ?_
  refine xv_istore_n dX5_turnRound_3 rfl (Nat.le_of_ble_eq_true rfl) rfl ?_
  have h := s5_trn_l (d := d) (l := l) (D := D) hG hn hnp hm hnm hQ np 0 (by omega)
  rw [xfl_0] at h
  exact h
