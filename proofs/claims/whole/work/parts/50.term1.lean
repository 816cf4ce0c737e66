/-! terms of the class: where a text goes wrong -/
def tm_let (c : Int32) : Prop := (c = 97 ∨ c = 100 ∨ c = 111 ∨ c = 109 ∨ c = 119)
def tm_dig (c : Int32) : Prop := (48 ≤ c ∧ c ≤ 57)
def tm_end (c : Int32) : Prop := (c = 38 ∨ c = 124 ∨ c = 41)
theorem s8_isLetter {l : Launch} {D : va_G} {d : Nat} {G : xv_Gr} {I : xv_I} {J : xv_J} {Q : xv_Po} {c : Int32} (hQ : Q (some (.int (xbp (tm_let c)))) G I J) : xv_Ev l D d mX8_isLetter none 0 [some (.int c)] [] G I J 0 0 Q := by
  refine xv_iload_n dX8_isLetter_0 rfl rfl ?_
  refine xv_bipush (v := 97) dX8_isLetter_1 rfl ?_
  refine xv_icmp_eq (tgt := 30) dX8_isLetter_3 rfl (fun c_3 => ?_) (fun c_3 => ?_)
  · refine xv_iconst (v := 1) dX8_isLetter_30 rfl ?_
    refine xv_goto (tgt := 35) dX8_isLetter_31 rfl ?_
    refine xv_zret dX8_isLetter_35 rfl rfl (Nat.zero_le _) (Nat.zero_le _) ?_
    first | exact xqp_T (Q := fun v => Q (some v) G I J) hQ (by unfold tm_let; simp_all) | exact xqp_F (Q := fun v => Q (some v) G I J) hQ (by unfold tm_let; simp_all)
  · refine xv_iload_n dX8_isLetter_6 rfl rfl ?_
    refine xv_bipush (v := 100) dX8_isLetter_7 rfl ?_
    refine xv_icmp_eq (tgt := 30) dX8_isLetter_9 rfl (fun c_9 => ?_) (fun c_9 => ?_)
    · refine xv_iconst (v := 1) dX8_isLetter_30 rfl ?_
      refine xv_goto (tgt := 35) dX8_isLetter_31 rfl ?_
      refine xv_zret dX8_isLetter_35 rfl rfl (Nat.zero_le _) (Nat.zero_le _) ?_
      first | exact xqp_T (Q := fun v => Q (some v) G I J) hQ (by unfold tm_let; simp_all) | exact xqp_F (Q := fun v => Q (some v) G I J) hQ (by unfold tm_let; simp_all)
    · refine xv_iload_n dX8_isLetter_12 rfl rfl ?_
      refine xv_bipush (v := 111) dX8_isLetter_13 rfl ?_
      refine xv_icmp_eq (tgt := 30) dX8_isLetter_15 rfl (fun c_15 => ?_) (fun c_15 => ?_)
      · refine xv_iconst (v := 1) dX8_isLetter_30 rfl ?_
        refine xv_goto (tgt := 35) dX8_isLetter_31 rfl ?_
        refine xv_zret dX8_isLetter_35 rfl rfl (Nat.zero_le _) (Nat.zero_le _) ?_
        first | exact xqp_T (Q := fun v => Q (some v) G I J) hQ (by unfold tm_let; simp_all) | exact xqp_F (Q := fun v => Q (some v) G I J) hQ (by unfold tm_let; simp_all)
      · refine xv_iload_n dX8_isLetter_18 rfl rfl ?_
        refine xv_bipush (v := 109) dX8_isLetter_19 rfl ?_
        refine xv_icmp_eq (tgt := 30) dX8_isLetter_21 rfl (fun c_21 => ?_) (fun c_21 => ?_)
        · refine xv_iconst (v := 1) dX8_isLetter_30 rfl ?_
          refine xv_goto (tgt := 35) dX8_isLetter_31 rfl ?_
          refine xv_zret dX8_isLetter_35 rfl rfl (Nat.zero_le _) (Nat.zero_le _) ?_
          first | exact xqp_T (Q := fun v => Q (some v) G I J) hQ (by unfold tm_let; simp_all) | exact xqp_F (Q := fun v => Q (some v) G I J) hQ (by unfold tm_let; simp_all)
        · refine xv_iload_n dX8_isLetter_24 rfl rfl ?_
          refine xv_bipush (v := 119) dX8_isLetter_25 rfl ?_
          refine xv_icmp_ne (tgt := 34) dX8_isLetter_27 rfl (fun c_27 => ?_) (fun c_27 => ?_)
          · refine xv_iconst (v := 0) dX8_isLetter_34 rfl ?_
            refine xv_zret dX8_isLetter_35 rfl rfl (Nat.zero_le _) (Nat.zero_le _) ?_
            first | exact xqp_T (Q := fun v => Q (some v) G I J) hQ (by unfold tm_let; simp_all) | exact xqp_F (Q := fun v => Q (some v) G I J) hQ (by unfold tm_let; simp_all)
          · refine xv_iconst (v := 1) dX8_isLetter_30 rfl ?_
            refine xv_goto (tgt := 35) dX8_isLetter_31 rfl ?_
            refine xv_zret dX8_isLetter_35 rfl rfl (Nat.zero_le _) (Nat.zero_le _) ?_
            first | exact xqp_T (Q := fun v => Q (some v) G I J) hQ (by unfold tm_let; simp_all) | exact xqp_F (Q := fun v => Q (some v) G I J) hQ (by unfold tm_let; simp_all)

theorem s8_isEnd {l : Launch} {D : va_G} {d : Nat} {G : xv_Gr} {I : xv_I} {J : xv_J} {Q : xv_Po} {c : Int32} (hQ : Q (some (.int (xbp (tm_end c)))) G I J) : xv_Ev l D d mX8_isEndOfOne none 0 [some (.int c)] [] G I J 0 0 Q := by
  refine xv_iload_n dX8_isEndOfOne_0 rfl rfl ?_
  refine xv_bipush (v := 38) dX8_isEndOfOne_1 rfl ?_
  refine xv_icmp_eq (tgt := 18) dX8_isEndOfOne_3 rfl (fun c_3 => ?_) (fun c_3 => ?_)
  · refine xv_iconst (v := 1) dX8_isEndOfOne_18 rfl ?_
    refine xv_goto (tgt := 23) dX8_isEndOfOne_19 rfl ?_
    refine xv_zret dX8_isEndOfOne_23 rfl rfl (Nat.zero_le _) (Nat.zero_le _) ?_
    first | exact xqp_T (Q := fun v => Q (some v) G I J) hQ (by unfold tm_end; simp_all) | exact xqp_F (Q := fun v => Q (some v) G I J) hQ (by unfold tm_end; simp_all)
  · refine xv_iload_n dX8_isEndOfOne_6 rfl rfl ?_
    refine xv_bipush (v := 124) dX8_isEndOfOne_7 rfl ?_
    refine xv_icmp_eq (tgt := 18) dX8_isEndOfOne_9 rfl (fun c_9 => ?_) (fun c_9 => ?_)
    · refine xv_iconst (v := 1) dX8_isEndOfOne_18 rfl ?_
      refine xv_goto (tgt := 23) dX8_isEndOfOne_19 rfl ?_
      refine xv_zret dX8_isEndOfOne_23 rfl rfl (Nat.zero_le _) (Nat.zero_le _) ?_
      first | exact xqp_T (Q := fun v => Q (some v) G I J) hQ (by unfold tm_end; simp_all) | exact xqp_F (Q := fun v => Q (some v) G I J) hQ (by unfold tm_end; simp_all)
    · refine xv_iload_n dX8_isEndOfOne_12 rfl rfl ?_
      refine xv_bipush (v := 41) dX8_isEndOfOne_13 rfl ?_
      refine xv_icmp_ne (tgt := 22) dX8_isEndOfOne_15 rfl (fun c_15 => ?_) (fun c_15 => ?_)
      · refine xv_iconst (v := 0) dX8_isEndOfOne_22 rfl ?_
        refine xv_zret dX8_isEndOfOne_23 rfl rfl (Nat.zero_le _) (Nat.zero_le _) ?_
        first | exact xqp_T (Q := fun v => Q (some v) G I J) hQ (by unfold tm_end; simp_all) | exact xqp_F (Q := fun v => Q (some v) G I J) hQ (by unfold tm_end; simp_all)
      · refine xv_iconst (v := 1) dX8_isEndOfOne_18 rfl ?_
        refine xv_goto (tgt := 23) dX8_isEndOfOne_19 rfl ?_
        refine xv_zret dX8_isEndOfOne_23 rfl rfl (Nat.zero_le _) (Nat.zero_le _) ?_
        first | exact xqp_T (Q := fun v => Q (some v) G I J) hQ (by unfold tm_end; simp_all) | exact xqp_F (Q := fun v => Q (some v) G I J) hQ (by unfold tm_end; simp_all)

theorem s8_isDigit {l : Launch} {D : va_G} {d : Nat} {G : xv_Gr} {I : xv_I} {J : xv_J} {Q : xv_Po} {c : Int32} (hQ : Q (some (.int (xbp (tm_dig c)))) G I J) : xv_Ev l D d mX8_isDigit none 0 [some (.int c)] [] G I J 0 0 Q := by
  refine xv_iload_n dX8_isDigit_0 rfl rfl ?_
  refine xv_bipush (v := 48) dX8_isDigit_1 rfl ?_
  refine xv_icmp_lt (tgt := 16) dX8_isDigit_3 rfl (fun c_3 => ?_) (fun c_3 => ?_)
  · refine xv_iconst (v := 0) dX8_isDigit_16 rfl ?_
    refine xv_zret dX8_isDigit_17 rfl rfl (Nat.zero_le _) (Nat.zero_le _) ?_
    first | exact xqp_T (Q := fun v => Q (some v) G I J) hQ (by unfold tm_dig; simp only [xn_lt, xn_le] at *; omega) | exact xqp_F (Q := fun v => Q (some v) G I J) hQ (by unfold tm_dig; simp only [xn_lt, xn_le] at *; omega)
  · refine xv_iload_n dX8_isDigit_6 rfl rfl ?_
    refine xv_bipush (v := 57) dX8_isDigit_7 rfl ?_
    refine xv_icmp_gt (tgt := 16) dX8_isDigit_9 rfl (fun c_9 => ?_) (fun c_9 => ?_)
    · refine xv_iconst (v := 0) dX8_isDigit_16 rfl ?_
      refine xv_zret dX8_isDigit_17 rfl rfl (Nat.zero_le _) (Nat.zero_le _) ?_
      first | exact xqp_T (Q := fun v => Q (some v) G I J) hQ (by unfold tm_dig; simp only [xn_lt, xn_le] at *; omega) | exact xqp_F (Q := fun v => Q (some v) G I J) hQ (by unfold tm_dig; simp only [xn_lt, xn_le] at *; omega)
    · refine xv_iconst (v := 1) dX8_isDigit_12 rfl ?_
      refine xv_goto (tgt := 17) dX8_isDigit_13 rfl ?_
      refine xv_zret dX8_isDigit_17 rfl rfl (Nat.zero_le _) (Nat.zero_le _) ?_
      first | exact xqp_T (Q := fun v => Q (some v) G I J) hQ (by unfold tm_dig; simp only [xn_lt, xn_le] at *; omega) | exact xqp_F (Q := fun v => Q (some v) G I J) hQ (by unfold tm_dig; simp only [xn_lt, xn_le] at *; omega)

noncomputable def tm_nx (c : Int32) (s : Nat × Nat × Nat) : Nat × Nat × Nat :=
  @ite _ (c = 32) (Classical.propDecidable _) (if s.1 = 3 then 4 else s.1, s.2.1, s.2.2) (match s.1 with
    | 0 => @ite _ (c = 33) (Classical.propDecidable _) (0, s.2.1, s.2.2) (@ite _ (c = 40) (Classical.propDecidable _) (0, s.2.1 + 1, s.2.2) (@ite _ (tm_let c) (Classical.propDecidable _) (1, s.2.1, s.2.2) (5, s.2.1, s.2.2)))
    | 1 => @ite _ (c = 60 ∨ c = 61 ∨ c = 62) (Classical.propDecidable _) (2, s.2.1, s.2.2) (5, s.2.1, s.2.2)
    | 2 => @ite _ (tm_dig c) (Classical.propDecidable _) (3, s.2.1, 1) (5, s.2.1, 0)
    | 3 => @ite _ (tm_dig c) (Classical.propDecidable _) (if 5 < s.2.2 + 1 then 5 else 3, s.2.1, s.2.2 + 1) (@ite _ (c = 38 ∨ c = 124) (Classical.propDecidable _) (0, s.2.1, s.2.2) (@ite _ (c = 41 ∧ 0 < s.2.1) (Classical.propDecidable _) (4, s.2.1 - 1, s.2.2) (5, s.2.1, s.2.2)))
    | _ => @ite _ (c = 38 ∨ c = 124) (Classical.propDecidable _) (0, s.2.1, s.2.2) (@ite _ (c = 41 ∧ 0 < s.2.1) (Classical.propDecidable _) (4, s.2.1 - 1, s.2.2) (5, s.2.1, s.2.2)))
noncomputable def tm_one (c : Int32) (op dg : Nat) : Nat × Nat × Nat := @ite _ (c = 38 ∨ c = 124) (Classical.propDecidable _) (0, op, dg) (@ite _ (c = 41 ∧ 0 < op) (Classical.propDecidable _) (4, op - 1, dg) (5, op, dg))
theorem nx_one3 {c : Int32} {op dg : Nat} (h : ¬ c = 32) (h2 : ¬ tm_dig c) : tm_nx c (3, op, dg) = tm_one c op dg := by
  rw [tm_nx, if_neg h]
  exact if_neg h2
theorem nx_one4 {c : Int32} {op dg : Nat} (h : ¬ c = 32) : tm_nx c (4, op, dg) = tm_one c op dg := by
  rw [tm_nx, if_neg h]
  rfl
def tm_M (I : xv_I) (a op dg : Nat) : xv_I := xv_ui (xv_ui I a 4 (nI op)) a 5 (nI dg)
theorem tm_M4 {I : xv_I} {a op dg : Nat} : tm_M I a op dg a 4 = nI op := by simp [tm_M, xv_ui_ap]
theorem tm_M5 {I : xv_I} {a op dg : Nat} : tm_M I a op dg a 5 = nI dg := by simp [tm_M, xv_ui_ap]
theorem tm_M1 {I : xv_I} {a op dg : Nat} : tm_M I a op dg a 1 = I a 1 := by simp [tm_M, xv_ui_ap]
theorem tm_Mt {I : xv_I} {a op dg : Nat} (k : Nat) : tm_M I a op dg (a + 1) k = I (a + 1) k := by simp [tm_M, xv_ui_ap]
theorem tm_Mu4 {I : xv_I} {a op dg n : Nat} : xv_ui (tm_M I a op dg) a 4 (nI n) = tm_M I a n dg := by
  funext b j
  simp only [tm_M, xv_ui_ap]
  grind
theorem tm_Mu5 {I : xv_I} {a op dg n : Nat} : xv_ui (tm_M I a op dg) a 5 (nI n) = tm_M I a op n := by
  funext b j
  simp only [tm_M, xv_ui_ap]
  grind
theorem s8_afterDigit {l : Launch} {D : va_G} {d : Nat} {G : xv_Gr} {I : xv_I} {J : xv_J} {Q : xv_Po} {a : Nat} (hT : xg_tm G a) {op dg : Nat} (hdg : dg < 100) (hQ : Q (some (.int (nI (if 5 < dg + 1 then 5 else 3)))) G (tm_M I a op (dg + 1)) J) : xv_Ev l D d mX8_afterDigit none 0 [some (.ref a)] [] G (tm_M I a op dg) J 0 0 Q := by
  refine xv_aload_n dX8_afterDigit_0 rfl rfl ?_
  refine xv_dup dX8_afterDigit_1 rfl ?_
  refine xv_geti dX8_afterDigit_2 fl_X8_25 hT.1 rfl ?_
  refine xv_nmI tm_M5 ?_
  refine xv_iconst (v := 1) dX8_afterDigit_5 rfl ?_
  refine xv_iadd dX8_afterDigit_6 ?_
  refine xv_nmI (nI_1 dg) ?_
  refine xv_puti dX8_afterDigit_7 fl_X8_25 hT.1 rfl rfl rfl ?_
  refine xv_nmM tm_Mu5 ?_
  refine xv_aload_n dX8_afterDigit_10 rfl rfl ?_
  refine xv_geti dX8_afterDigit_11 fl_X8_25 hT.1 rfl ?_
  refine xv_nmI tm_M5 ?_
  refine xv_iconst (v := nI 5) dX8_afterDigit_14 rfl ?_
  refine xv_icmp_leN (tgt := 22) dX8_afterDigit_15 rfl (by omega) (by omega) (fun c_15 => ?_) (fun c_15 => ?_)
  · refine xv_iconst (v := 3) dX8_afterDigit_22 rfl ?_
    refine xv_iret dX8_afterDigit_23 rfl (Nat.zero_le _) (Nat.zero_le _) ?_
    rw [if_neg (by omega)] at hQ
    exact hQ
  · refine xv_iconst (v := 5) dX8_afterDigit_18 rfl ?_
    refine xv_goto (tgt := 23) dX8_afterDigit_19 rfl ?_
    refine xv_iret dX8_afterDigit_23 rfl (Nat.zero_le _) (Nat.zero_le _) ?_
    rw [if_pos (by omega)] at hQ
    exact hQ

theorem s8_afterOne {l : Launch} {D : va_G} {d : Nat} {G : xv_Gr} {I : xv_I} {J : xv_J} {Q : xv_Po} {a : Nat} (hT : xg_tm G a) {op dg : Nat} (hop : op < 100) {c : Int32} (hQ : Q (some (.int (nI (tm_one c op dg).1))) G (tm_M I a (tm_one c op dg).2.1 (tm_one c op dg).2.2) J) : xv_Ev l D d mX8_afterOne none 0 [some (.ref a), some (.int c)] [] G (tm_M I a op dg) J 0 0 Q := by
  refine xv_iload_n dX8_afterOne_0 rfl rfl ?_
  refine xv_bipush (v := 38) dX8_afterOne_1 rfl ?_
  refine xv_icmp_eq (tgt := 12) dX8_afterOne_3 rfl (fun c_3 => ?_) (fun c_3 => ?_)
  · refine xv_iconst (v := 0) dX8_afterOne_12 rfl ?_
    refine xv_iret dX8_afterOne_13 rfl (Nat.zero_le _) (Nat.zero_le _) ?_
    rw [tm_one, if_pos (Or.inl c_3)] at hQ
    exact hQ
  · refine xv_iload_n dX8_afterOne_6 rfl rfl ?_
    refine xv_bipush (v := 124) dX8_afterOne_7 rfl ?_
    refine xv_icmp_ne (tgt := 14) dX8_afterOne_9 rfl (fun c_9 => ?_) (fun c_9 => ?_)
    · refine xv_iload_n dX8_afterOne_14 rfl rfl ?_
      refine xv_bipush (v := 41) dX8_afterOne_15 rfl ?_
      refine xv_icmp_ne (tgt := 39) dX8_afterOne_17 rfl (fun c_17 => ?_) (fun c_17 => ?_)
      · refine xv_iconst (v := 5) dX8_afterOne_39 rfl ?_
        refine xv_iret dX8_afterOne_40 rfl (Nat.zero_le _) (Nat.zero_le _) ?_
        rw [tm_one, if_neg (fun h => h.elim c_3 c_9), if_neg (fun h => c_17 h.1)] at hQ
        exact hQ
      · refine xv_aload_n dX8_afterOne_20 rfl rfl ?_
        refine xv_geti dX8_afterOne_21 fl_X8_22 hT.1 rfl ?_
        refine xv_nmI tm_M4 ?_
        refine xv_if_le (tgt := 39) dX8_afterOne_24 rfl (fun c_24 => ?_) (fun c_24 => ?_)
        · refine xv_iconst (v := 5) dX8_afterOne_39 rfl ?_
          refine xv_iret dX8_afterOne_40 rfl (Nat.zero_le _) (Nat.zero_le _) ?_
          rw [tm_one, if_neg (fun h => h.elim c_3 c_9), if_neg (fun h => absurd h.2 (by have q := c_24; simp only [xn_lt, xn_le, nI_toInt (show op < 2 ^ 31 by omega), Int32.reduceToInt] at q; omega))] at hQ
          exact hQ
        · refine xv_aload_n dX8_afterOne_27 rfl rfl ?_
          refine xv_dup dX8_afterOne_28 rfl ?_
          refine xv_geti dX8_afterOne_29 fl_X8_22 hT.1 rfl ?_
          refine xv_nmI tm_M4 ?_
          refine xv_iconst (v := nI 1) dX8_afterOne_32 rfl ?_
          refine xv_isub dX8_afterOne_33 ?_
          have h0 : 0 < op := by
            have h := c_24
            simp only [xn_lt, xn_le, nI_toInt (show op < 2 ^ 31 by omega), Int32.reduceToInt] at h
            omega
          refine xv_nmI (pk_sub (by omega)) ?_
          refine xv_puti dX8_afterOne_34 fl_X8_22 hT.1 rfl rfl rfl ?_
          refine xv_nmM tm_Mu4 ?_
          refine xv_iconst (v := 4) dX8_afterOne_37 rfl ?_
          refine xv_iret dX8_afterOne_38 rfl (Nat.zero_le _) (Nat.zero_le _) ?_
          rw [tm_one, if_neg (fun h => h.elim c_3 c_9), if_pos ⟨c_17, h0⟩] at hQ
          exact hQ
    · refine xv_iconst (v := 0) dX8_afterOne_12 rfl ?_
      refine xv_iret dX8_afterOne_13 rfl (Nat.zero_le _) (Nat.zero_le _) ?_
      rw [tm_one, if_pos (Or.inr c_9)] at hQ
      exact hQ

theorem s8_afterStart {l : Launch} {D : va_G} {d : Nat} {G : xv_Gr} {I : xv_I} {J : xv_J} {Q : xv_Po} {a : Nat} (hT : xg_tm G a) {op dg : Nat} {c : Int32} (hc : ¬ c = 32) (hQ : Q (some (.int (nI (tm_nx c (0, op, dg)).1))) G (tm_M I a (tm_nx c (0, op, dg)).2.1 (tm_nx c (0, op, dg)).2.2) J) : xv_Ev l D (d + 1) mX8_afterStart none 0 [some (.ref a), some (.int c)] [] G (tm_M I a op dg) J 0 0 Q := by
  refine xv_iload_n dX8_afterStart_0 rfl rfl ?_
  refine xv_bipush (v := 33) dX8_afterStart_1 rfl ?_
  refine xv_icmp_ne (tgt := 8) dX8_afterStart_3 rfl (fun c_3 => ?_) (fun c_3 => ?_)
  · refine xv_iload_n dX8_afterStart_8 rfl rfl ?_
    refine xv_bipush (v := 40) dX8_afterStart_9 rfl ?_
    refine xv_icmp_ne (tgt := 26) dX8_afterStart_11 rfl (fun c_11 => ?_) (fun c_11 => ?_)
    · refine xv_iload_n dX8_afterStart_26 rfl rfl ?_
      refine xv_callS0 (As := [_]) dX8_afterStart_27 cl_X8_54 rfl rfl rfl rfl (Nat.le_of_ble_eq_true rfl) (Nat.le_of_ble_eq_true rfl) (Nat.zero_le _) (Nat.zero_le _) ?_
      refine s8_isLetter ?_
      refine xv_if_eqP (tgt := 37) dX8_afterStart_30 rfl (fun c_30 => ?_) (fun c_30 => ?_)
      · refine xv_iconst (v := 5) dX8_afterStart_37 rfl ?_
        refine xv_iret dX8_afterStart_38 rfl (Nat.zero_le _) (Nat.zero_le _) ?_
        simp only [tm_nx, if_neg hc, if_neg c_3, if_neg c_11, if_neg c_30] at hQ
        exact hQ
      · refine xv_iconst (v := 1) dX8_afterStart_33 rfl ?_
        refine xv_goto (tgt := 38) dX8_afterStart_34 rfl ?_
        refine xv_iret dX8_afterStart_38 rfl (Nat.zero_le _) (Nat.zero_le _) ?_
        simp only [tm_nx, if_neg hc, if_neg c_3, if_neg c_11, if_pos c_30] at hQ
        exact hQ
    · refine xv_aload_n dX8_afterStart_14 rfl rfl ?_
      refine xv_dup dX8_afterStart_15 rfl ?_
      refine xv_geti dX8_afterStart_16 fl_X8_22 hT.1 rfl ?_
      refine xv_nmI tm_M4 ?_
      refine xv_iconst (v := 1) dX8_afterStart_19 rfl ?_
      refine xv_iadd dX8_afterStart_20 ?_
      refine xv_nmI (nI_1 op) ?_
      refine xv_puti dX8_afterStart_21 fl_X8_22 hT.1 rfl rfl rfl ?_
      refine xv_nmM tm_Mu4 ?_
      refine xv_iconst (v := 0) dX8_afterStart_24 rfl ?_
      refine xv_iret dX8_afterStart_25 rfl (Nat.zero_le _) (Nat.zero_le _) ?_
      simp only [tm_nx, if_neg hc, if_neg c_3, if_pos c_11] at hQ
      exact hQ
  · refine xv_iconst (v := 0) dX8_afterStart_6 rfl ?_
    refine xv_iret dX8_afterStart_7 rfl (Nat.zero_le _) (Nat.zero_le _) ?_
    simp only [tm_nx, if_neg hc, if_pos c_3] at hQ
    exact hQ

theorem s8_wantsAfter {l : Launch} {D : va_G} {d : Nat} {G : xv_Gr} {I : xv_I} {J : xv_J} {Q : xv_Po} {a : Nat} (hT : xg_tm G a) {op dg w : Nat} (hop : op < 100) (hdg : dg < 99) (hw : w < 5) {c : Int32} (hQ : Q (some (.int (nI (tm_nx c (w, op, dg)).1))) G (tm_M I a (tm_nx c (w, op, dg)).2.1 (tm_nx c (w, op, dg)).2.2) J) : xv_Ev l D (d + 2) mX8_wantsAfter none 0 [some (.ref a), some (.int (nI w)), some (.int c)] [] G (tm_M I a op dg) J 0 0 Q := by
  refine xv_iload_n dX8_wantsAfter_0 rfl rfl ?_
  refine xv_bipush (v := 32) dX8_wantsAfter_1 rfl ?_
  refine xv_icmp_ne (tgt := 17) dX8_wantsAfter_3 rfl (fun c_3 => ?_) (fun c_3 => ?_)
  · refine xv_iload_n dX8_wantsAfter_17 rfl rfl ?_
    rcases (show w = 0 ∨ w = 1 ∨ w = 2 ∨ w = 3 ∨ w = 4 by omega) with rfl | rfl | rfl | rfl | rfl
    · refine xv_tabIn (tgt := 48) dX8_wantsAfter_18 (by decide) (by decide) rfl rfl ?_
      refine xv_aload_n dX8_wantsAfter_48 rfl rfl ?_
      refine xv_iload_n dX8_wantsAfter_49 rfl rfl ?_
      refine xv_callV0 (As := [_]) dX8_wantsAfter_50 cl_X8_75 rfl rfl rfl rfl hT.1 rfl rfl (Nat.le_of_ble_eq_true rfl) (Nat.le_of_ble_eq_true rfl) (Nat.zero_le _) (Nat.zero_le _) ?_
      refine s8_afterStart (d := d) hT c_3 ?_
      refine xv_iret dX8_wantsAfter_53 rfl (Nat.zero_le _) (Nat.zero_le _) ?_
      exact hQ
    · refine xv_tabIn (tgt := 54) dX8_wantsAfter_18 (by decide) (by decide) rfl rfl ?_
      refine xv_iload_n dX8_wantsAfter_54 rfl rfl ?_
      refine xv_bipush (v := 60) dX8_wantsAfter_55 rfl ?_
      refine xv_icmp_eq (tgt := 72) dX8_wantsAfter_57 rfl (fun c_57 => ?_) (fun c_57 => ?_)
      · refine xv_iconst (v := 2) dX8_wantsAfter_72 rfl ?_
        refine xv_goto (tgt := 77) dX8_wantsAfter_73 rfl ?_
        refine xv_iret dX8_wantsAfter_77 rfl (Nat.zero_le _) (Nat.zero_le _) ?_
        simp only [tm_nx, if_neg c_3] at hQ
        rw [if_pos (show (c = 60 ∨ c = 61 ∨ c = 62) from (Or.inl c_57))] at hQ
        exact hQ
      · refine xv_iload_n dX8_wantsAfter_60 rfl rfl ?_
        refine xv_bipush (v := 61) dX8_wantsAfter_61 rfl ?_
        refine xv_icmp_eq (tgt := 72) dX8_wantsAfter_63 rfl (fun c_63 => ?_) (fun c_63 => ?_)
        · refine xv_iconst (v := 2) dX8_wantsAfter_72 rfl ?_
          refine xv_goto (tgt := 77) dX8_wantsAfter_73 rfl ?_
          refine xv_iret dX8_wantsAfter_77 rfl (Nat.zero_le _) (Nat.zero_le _) ?_
          simp only [tm_nx, if_neg c_3] at hQ
          rw [if_pos (show (c = 60 ∨ c = 61 ∨ c = 62) from (Or.inr (Or.inl c_63)))] at hQ
          exact hQ
        · refine xv_iload_n dX8_wantsAfter_66 rfl rfl ?_
          refine xv_bipush (v := 62) dX8_wantsAfter_67 rfl ?_
          refine xv_icmp_ne (tgt := 76) dX8_wantsAfter_69 rfl (fun c_69 => ?_) (fun c_69 => ?_)
          · refine xv_iconst (v := 5) dX8_wantsAfter_76 rfl ?_
            refine xv_iret dX8_wantsAfter_77 rfl (Nat.zero_le _) (Nat.zero_le _) ?_
            simp only [tm_nx, if_neg c_3] at hQ
            rw [if_neg (show ¬ (c = 60 ∨ c = 61 ∨ c = 62) from fun h => h.elim c_57 (fun h => h.elim c_63 c_69))] at hQ
            exact hQ
          · refine xv_iconst (v := 2) dX8_wantsAfter_72 rfl ?_
            refine xv_goto (tgt := 77) dX8_wantsAfter_73 rfl ?_
            refine xv_iret dX8_wantsAfter_77 rfl (Nat.zero_le _) (Nat.zero_le _) ?_
            simp only [tm_nx, if_neg c_3] at hQ
            rw [if_pos (show (c = 60 ∨ c = 61 ∨ c = 62) from (Or.inr (Or.inr c_69)))] at hQ
            exact hQ
    · refine xv_tabIn (tgt := 78) dX8_wantsAfter_18 (by decide) (by decide) rfl rfl ?_
      refine xv_aload_n dX8_wantsAfter_78 rfl rfl ?_
      refine xv_iconst (v := 0) dX8_wantsAfter_79 rfl ?_
      refine xv_puti dX8_wantsAfter_80 fl_X8_25 hT.1 rfl rfl rfl ?_
      refine xv_nmM (I2 := tm_M I a op 0) tm_Mu5 ?_
      refine xv_iload_n dX8_wantsAfter_83 rfl rfl ?_
      refine xv_callS0 (As := [_]) dX8_wantsAfter_84 cl_X8_79 rfl rfl rfl rfl (Nat.le_of_ble_eq_true rfl) (Nat.le_of_ble_eq_true rfl) (Nat.zero_le _) (Nat.zero_le _) ?_
      refine s8_isDigit ?_
      refine xv_if_eqP (tgt := 97) dX8_wantsAfter_87 rfl (fun c_87 => ?_) (fun c_87 => ?_)
      · refine xv_iconst (v := 5) dX8_wantsAfter_97 rfl ?_
        refine xv_iret dX8_wantsAfter_98 rfl (Nat.zero_le _) (Nat.zero_le _) ?_
        simp only [tm_nx, if_neg c_3, if_neg c_87] at hQ
        exact hQ
      · refine xv_aload_n dX8_wantsAfter_90 rfl rfl ?_
        refine xv_callV0 (As := []) dX8_wantsAfter_91 cl_X8_82 rfl rfl rfl rfl hT.1 rfl rfl (Nat.le_of_ble_eq_true rfl) (Nat.le_of_ble_eq_true rfl) (Nat.zero_le _) (Nat.zero_le _) ?_
        refine s8_afterDigit hT (by omega) ?_
        refine xv_goto (tgt := 98) dX8_wantsAfter_94 rfl ?_
        refine xv_iret dX8_wantsAfter_98 rfl (Nat.zero_le _) (Nat.zero_le _) ?_
        simp only [tm_nx, if_neg c_3, if_pos c_87] at hQ
        exact hQ
    · refine xv_tabIn (tgt := 99) dX8_wantsAfter_18 (by decide) (by decide) rfl rfl ?_
      refine xv_iload_n dX8_wantsAfter_99 rfl rfl ?_
      refine xv_callS0 (As := [_]) dX8_wantsAfter_100 cl_X8_79 rfl rfl rfl rfl (Nat.le_of_ble_eq_true rfl) (Nat.le_of_ble_eq_true rfl) (Nat.zero_le _) (Nat.zero_le _) ?_
      refine s8_isDigit ?_
      refine xv_if_eqP (tgt := 113) dX8_wantsAfter_103 rfl (fun c_103 => ?_) (fun c_103 => ?_)
      · refine xv_aload_n dX8_wantsAfter_113 rfl rfl ?_
        refine xv_iload_n dX8_wantsAfter_114 rfl rfl ?_
        refine xv_callV0 (As := [_]) dX8_wantsAfter_115 cl_X8_85 rfl rfl rfl rfl hT.1 rfl rfl (Nat.le_of_ble_eq_true rfl) (Nat.le_of_ble_eq_true rfl) (Nat.zero_le _) (Nat.zero_le _) ?_
        refine s8_afterOne hT hop ?_
        refine xv_iret dX8_wantsAfter_118 rfl (Nat.zero_le _) (Nat.zero_le _) ?_
        rw [nx_one3 c_3 c_103] at hQ
        exact hQ
      · refine xv_aload_n dX8_wantsAfter_106 rfl rfl ?_
        refine xv_callV0 (As := []) dX8_wantsAfter_107 cl_X8_82 rfl rfl rfl rfl hT.1 rfl rfl (Nat.le_of_ble_eq_true rfl) (Nat.le_of_ble_eq_true rfl) (Nat.zero_le _) (Nat.zero_le _) ?_
        refine s8_afterDigit hT (by omega) ?_
        refine xv_goto (tgt := 118) dX8_wantsAfter_110 rfl ?_
        refine xv_iret dX8_wantsAfter_118 rfl (Nat.zero_le _) (Nat.zero_le _) ?_
        simp only [tm_nx, if_neg c_3, if_pos c_103] at hQ
        exact hQ
    · refine xv_tabOut (tgt := 119) dX8_wantsAfter_18 (by decide) rfl ?_
      refine xv_aload_n dX8_wantsAfter_119 rfl rfl ?_
      refine xv_iload_n dX8_wantsAfter_120 rfl rfl ?_
      refine xv_callV0 (As := [_]) dX8_wantsAfter_121 cl_X8_85 rfl rfl rfl rfl hT.1 rfl rfl (Nat.le_of_ble_eq_true rfl) (Nat.le_of_ble_eq_true rfl) (Nat.zero_le _) (Nat.zero_le _) ?_
      refine s8_afterOne hT hop ?_
      refine xv_iret dX8_wantsAfter_124 rfl (Nat.zero_le _) (Nat.zero_le _) ?_
      rw [nx_one4 c_3] at hQ
      exact hQ
  · refine xv_iload_n dX8_wantsAfter_6 rfl rfl ?_
    refine xv_iconst (v := nI 3) dX8_wantsAfter_7 rfl ?_
    refine xv_icmp_neN (tgt := 15) dX8_wantsAfter_8 rfl (by omega) (by omega) (fun c_8 => ?_) (fun c_8 => ?_)
    · refine xv_iload_n dX8_wantsAfter_15 rfl rfl ?_
      refine xv_iret dX8_wantsAfter_16 rfl (Nat.zero_le _) (Nat.zero_le _) ?_
      simp only [tm_nx, if_pos c_3, if_neg c_8] at hQ
      exact hQ
    · refine xv_iconst (v := 4) dX8_wantsAfter_11 rfl ?_
      refine xv_goto (tgt := 16) dX8_wantsAfter_12 rfl ?_
      refine xv_iret dX8_wantsAfter_16 rfl (Nat.zero_le _) (Nat.zero_le _) ?_
      simp only [tm_nx, if_pos c_3, if_pos c_8] at hQ
      exact hQ
