/-! books: loans of the class -/
theorem s0_loanOf {l : Launch} {D : va_G} {d : Nat} {G : xv_Gr} {I : xv_I} {J : xv_J} {Q : xv_Po} (hG : xg_ok G) {nl nt : Nat} (hD : xg_dy G nl nt) (hnl : I 6 1 = nI nl) (hl8 : nl ≤ 8) {x : Int32} (h1 : ¬ (0 ≤ x ∧ x < nI nl) → Q (some .null) G I J) (h2 : ∀ i, i < nl → x = nI i → Q (some (.ref (200 + 4 * i))) G I J) : xv_Ev l D d mX0_loanOf none 0 [some (.ref 6), some (.int x)] [] G I J 0 0 Q := by
  have hnt : (nI nl).toInt = (nl : Int) := nI_toInt (by omega)
  refine xv_iload_n dX0_loanOf_0 rfl rfl ?_
  refine xv_if_lt (tgt := 21) dX0_loanOf_1 rfl (fun c_1 => ?_) (fun c_1 => ?_)
  · refine xv_null dX0_loanOf_21 ?_
    refine xv_aretN dX0_loanOf_22 rfl (Nat.zero_le _) (Nat.zero_le _) ?_
    exact h1 (by simp only [xn_lt, xn_le, hnt, Int32.reduceToInt] at *; omega)
  · refine xv_iload_n dX0_loanOf_4 rfl rfl ?_
    refine xv_aload_n dX0_loanOf_5 rfl rfl ?_
    refine xv_geti dX0_loanOf_6 fl_X0_15 (go_6 hG) rfl ?_
    refine xv_nmI hnl ?_
    refine xv_icmp_ge (tgt := 21) dX0_loanOf_9 rfl (fun c_9 => ?_) (fun c_9 => ?_)
    · refine xv_null dX0_loanOf_21 ?_
      refine xv_aretN dX0_loanOf_22 rfl (Nat.zero_le _) (Nat.zero_le _) ?_
      exact h1 (by simp only [xn_lt, xn_le, hnt, Int32.reduceToInt] at *; omega)
    · have hr : (0 ≤ x ∧ x < nI nl) := (by simp only [xn_lt, xn_le, hnt, Int32.reduceToInt] at *; omega)
      obtain ⟨i, hi, rfl⟩ : ∃ j : Nat, j < nl ∧ x = nI j := xn_nat (n := nl) (by have h := hr; simp only [xn_lt, xn_le, hnt, Int32.reduceToInt] at h; omega) (by have h := hr; simp only [xn_lt, xn_le, hnt, Int32.reduceToInt] at h; omega) (by omega)
      refine xv_aload_n dX0_loanOf_12 rfl rfl ?_
      refine xv_getr dX0_loanOf_13 fl_X0_23 (go_6 hG) rfl (gr_6_3 hG) ?_
      refine xv_iload_n dX0_loanOf_16 rfl rfl ?_
      refine xv_aaload dX0_loanOf_17 (go_173 hG) (xv_ixn (by omega) (by decide)) (hD.1 i hi).1 ?_
      refine xv_goto (tgt := 22) dX0_loanOf_18 rfl ?_
      refine xv_aret dX0_loanOf_22 rfl (Nat.zero_le _) (Nat.zero_le _) ?_
      exact h2 i hi rfl

noncomputable def ln_all (I : xv_I) (J : xv_J) (mo : Nat) : Nat → xv_J
  | 0 => J
  | i + 1 => @ite xv_J (I (200 + 4 * i) 2 = 1) (Classical.propDecidable _) (ln_g I (ln_all I J mo i) (200 + 4 * i) mo) (ln_all I J mo i)
theorem s0_nm_l {l : Launch} {D : va_G} {d : Nat} {G : xv_Gr} {I : xv_I} {J : xv_J} {Q : xv_Po} (hG : xg_ok G) {nl nt : Nat} (hD : xg_dy G nl nt) (hnl : I 6 1 = nI nl) (hl8 : nl ≤ 8) {mo : Nat} (hmo : I 6 0 = nI mo) (hm5 : mo ≤ 599) (hQ : Q none G I (ln_all I J mo nl)) : ∀ (n i : Nat), i + n = nl → xv_Ev l D (d + 2) mX0_nextMonth none 12 [some (.ref 6), some (.int (nI i)), none] [] G I (ln_all I J mo i) 0 0 Q := by
  intro n
  induction n with
  | zero =>
    intro i hi
    refine xv_iload_n dX0_nextMonth_12 rfl rfl ?_
    refine xv_aload_n dX0_nextMonth_13 rfl rfl ?_
    refine xv_geti dX0_nextMonth_14 fl_X0_15 (go_6 hG) rfl ?_
    refine xv_nmI hnl ?_
    refine xv_icmp_geN (tgt := 52) dX0_nextMonth_17 rfl (by omega) (by omega) (fun c_17 => ?_) (fun c_17 => absurd c_17 (by omega))
    refine xv_vret dX0_nextMonth_52 rfl (Nat.zero_le _) (Nat.zero_le _) ?_
    have e : nl = i := by omega
    subst e
    exact hQ
  | succ n ih =>
    intro i hi
    refine xv_iload_n dX0_nextMonth_12 rfl rfl ?_
    refine xv_aload_n dX0_nextMonth_13 rfl rfl ?_
    refine xv_geti dX0_nextMonth_14 fl_X0_15 (go_6 hG) rfl ?_
    refine xv_nmI hnl ?_
    refine xv_icmp_geN (tgt := 52) dX0_nextMonth_17 rfl (by omega) (by omega) (fun c_17 => absurd c_17 (by omega)) (fun c_17 => ?_)
    refine xv_aload_n dX0_nextMonth_20 rfl rfl ?_
    refine xv_getr dX0_nextMonth_21 fl_X0_23 (go_6 hG) rfl (gr_6_3 hG) ?_
    refine xv_iload_n dX0_nextMonth_24 rfl rfl ?_
    refine xv_aaload dX0_nextMonth_25 (go_173 hG) (xv_ixn (by omega) (by decide)) (hD.1 i (by omega)).1 ?_
    refine xv_astore_n dX0_nextMonth_26 rfl (Nat.le_of_ble_eq_true rfl) rfl ?_
    refine xv_aload_n dX0_nextMonth_27 rfl rfl ?_
    refine xv_ifnull dX0_nextMonth_28 ?_
    refine xv_aload_n dX0_nextMonth_31 rfl rfl ?_
    refine xv_callV0 (As := []) dX0_nextMonth_32 cl_X0_53 rfl rfl rfl rfl (hD.1 i (by omega)).2.1 rfl rfl (Nat.le_of_ble_eq_true rfl) (Nat.le_of_ble_eq_true rfl) (Nat.zero_le _) (Nat.zero_le _) ?_
    refine s4_isOpen (hD.1 i (by omega)).2 ?_
    refine xv_if_eqP (tgt := 46) dX0_nextMonth_35 rfl (fun c_35 => ?_) (fun c_35 => ?_)
    · refine xv_iinc dX0_nextMonth_46 rfl (xv_inc _) (Nat.le_of_ble_eq_true rfl) rfl ?_
      refine xv_goto (tgt := 12) dX0_nextMonth_49 rfl ?_
      have ih2 := ih (i + 1) (by omega)
      simp only [ln_all, if_neg c_35] at ih2
      exact xv_fg [true, true, false] ih2
    · refine xv_aload_n dX0_nextMonth_38 rfl rfl ?_
      refine xv_aload_n dX0_nextMonth_39 rfl rfl ?_
      refine xv_geti dX0_nextMonth_40 fl_X0_9 (go_6 hG) rfl ?_
      refine xv_nmI hmo ?_
      refine xv_callV0 (As := [_]) dX0_nextMonth_43 cl_X0_57 rfl rfl rfl rfl (hD.1 i (by omega)).2.1 rfl rfl (Nat.le_of_ble_eq_true rfl) (Nat.le_of_ble_eq_true rfl) (Nat.zero_le _) (Nat.zero_le _) ?_
      refine s4_grow (hD.1 i (by omega)).2 (xv_ixn (by omega) (by decide)) ?_
      refine xv_iinc dX0_nextMonth_46 rfl (xv_inc _) (Nat.le_of_ble_eq_true rfl) rfl ?_
      refine xv_goto (tgt := 12) dX0_nextMonth_49 rfl ?_
      have ih2 := ih (i + 1) (by omega)
      simp only [ln_all, if_pos c_35] at ih2
      exact xv_fg [true, true, false] ih2

theorem s0_nextMonth {l : Launch} {D : va_G} {d : Nat} {G : xv_Gr} {I : xv_I} {J : xv_J} {Q : xv_Po} (hG : xg_ok G) {nl nt : Nat} (hD : xg_dy G nl nt) (hnl : I 6 1 = nI nl) (hl8 : nl ≤ 8) {mo : Nat} (hmo : I 6 0 = nI mo) (hm5 : mo < 599) (hQ : Q none G (xv_ui I 6 0 (nI (mo + 1))) (ln_all (xv_ui I 6 0 (nI (mo + 1))) J (mo + 1) nl)) : xv_Ev l D (d + 2) mX0_nextMonth none 0 [some (.ref 6), none, none] [] G I J 0 0 Q := by
  refine xv_aload_n dX0_nextMonth_0 rfl rfl ?_
  refine xv_dup dX0_nextMonth_1 rfl ?_
  refine xv_geti dX0_nextMonth_2 fl_X0_9 (go_6 hG) rfl ?_
  refine xv_nmI hmo ?_
  refine xv_iconst (v := 1) dX0_nextMonth_5 rfl ?_
  refine xv_iadd dX0_nextMonth_6 ?_
  refine xv_nmI (nI_1 mo) ?_
  refine xv_puti dX0_nextMonth_7 fl_X0_9 (go_6 hG) rfl rfl rfl ?_
  refine xv_iconst (v := 0) dX0_nextMonth_10 rfl ?_
  refine xv_istore_n dX0_nextMonth_11 rfl (Nat.le_of_ble_eq_true rfl) rfl ?_
  exact s0_nm_l hG (I := (xv_ui I 6 0 (nI (mo + 1)))) hD hnl hl8 (mo := mo + 1) rfl (by omega) hQ nl 0 (by omega)

theorem s0_ol_l {l : Launch} {D : va_G} {d : Nat} {G : xv_Gr} {I : xv_I} {J : xv_J} {Q : xv_Po} (hG : xg_ok G) {nl nt : Nat} (hD : xg_dy G nl nt) (hnl : I 6 1 = nI nl) (hl8 : nl ≤ 8) (hQ : Q (some (.int (nI (xcn (fun i => I (200 + 4 * i) 2 = 1) nl)))) G I J) : ∀ (n i : Nat), i + n = nl → xv_Ev l D (d + 1) mX0_openLoans none 4 [some (.ref 6), some (.int (nI (xcn (fun i => I (200 + 4 * i) 2 = 1) i))), some (.int (nI i)), none] [] G I J 0 0 Q := by
  intro n
  induction n with
  | zero =>
    intro i hi
    refine xv_iload_n dX0_openLoans_4 rfl rfl ?_
    refine xv_aload_n dX0_openLoans_5 rfl rfl ?_
    refine xv_geti dX0_openLoans_6 fl_X0_15 (go_6 hG) rfl ?_
    refine xv_nmI hnl ?_
    refine xv_icmp_geN (tgt := 39) dX0_openLoans_9 rfl (by omega) (by omega) (fun c_9 => ?_) (fun c_9 => absurd c_9 (by omega))
    refine xv_iload_n dX0_openLoans_39 rfl rfl ?_
    refine xv_iret dX0_openLoans_40 rfl (Nat.zero_le _) (Nat.zero_le _) ?_
    have e : nl = i := by omega
    subst e
    exact hQ
  | succ n ih =>
    intro i hi
    refine xv_iload_n dX0_openLoans_4 rfl rfl ?_
    refine xv_aload_n dX0_openLoans_5 rfl rfl ?_
    refine xv_geti dX0_openLoans_6 fl_X0_15 (go_6 hG) rfl ?_
    refine xv_nmI hnl ?_
    refine xv_icmp_geN (tgt := 39) dX0_openLoans_9 rfl (by omega) (by omega) (fun c_9 => absurd c_9 (by omega)) (fun c_9 => ?_)
    refine xv_aload_n dX0_openLoans_12 rfl rfl ?_
    refine xv_getr dX0_openLoans_13 fl_X0_23 (go_6 hG) rfl (gr_6_3 hG) ?_
    refine xv_iload_n dX0_openLoans_16 rfl rfl ?_
    refine xv_aaload dX0_openLoans_17 (go_173 hG) (xv_ixn (by omega) (by decide)) (hD.1 i (by omega)).1 ?_
    refine xv_astore_n dX0_openLoans_18 rfl (Nat.le_of_ble_eq_true rfl) rfl ?_
    refine xv_aload_n dX0_openLoans_19 rfl rfl ?_
    refine xv_ifnull dX0_openLoans_20 ?_
    refine xv_aload_n dX0_openLoans_23 rfl rfl ?_
    refine xv_callV0 (As := []) dX0_openLoans_24 cl_X0_53 rfl rfl rfl rfl (hD.1 i (by omega)).2.1 rfl rfl (Nat.le_of_ble_eq_true rfl) (Nat.le_of_ble_eq_true rfl) (Nat.zero_le _) (Nat.zero_le _) ?_
    refine s4_isOpen (hD.1 i (by omega)).2 ?_
    refine xv_if_eqP (tgt := 33) dX0_openLoans_27 rfl (fun c_27 => ?_) (fun c_27 => ?_)
    · refine xv_iinc dX0_openLoans_33 rfl (xv_inc _) (Nat.le_of_ble_eq_true rfl) rfl ?_
      refine xv_goto (tgt := 4) dX0_openLoans_36 rfl ?_
      have ih2 := ih (i + 1) (by omega)
      rw [xcn_n (P := fun i => I (200 + 4 * i) 2 = 1) (n := i) c_27] at ih2
      exact xv_fg [true, true, true, false] ih2
    · refine xv_iinc dX0_openLoans_30 rfl (xv_inc _) (Nat.le_of_ble_eq_true rfl) rfl ?_
      refine xv_iinc dX0_openLoans_33 rfl (xv_inc _) (Nat.le_of_ble_eq_true rfl) rfl ?_
      refine xv_goto (tgt := 4) dX0_openLoans_36 rfl ?_
      have ih2 := ih (i + 1) (by omega)
      rw [xcn_y (P := fun i => I (200 + 4 * i) 2 = 1) (n := i) c_27] at ih2
      exact xv_fg [true, true, true, false] ih2

theorem s0_openLoans {l : Launch} {D : va_G} {d : Nat} {G : xv_Gr} {I : xv_I} {J : xv_J} {Q : xv_Po} (hG : xg_ok G) {nl nt : Nat} (hD : xg_dy G nl nt) (hnl : I 6 1 = nI nl) (hl8 : nl ≤ 8) (hQ : Q (some (.int (nI (xcn (fun i => I (200 + 4 * i) 2 = 1) nl)))) G I J) : xv_Ev l D (d + 1) mX0_openLoans none 0 [some (.ref 6), none, none, none] [] G I J 0 0 Q := by
  refine xv_iconst (v := 0) dX0_openLoans_0 rfl ?_
  refine xv_istore_n dX0_openLoans_1 rfl (Nat.le_of_ble_eq_true rfl) rfl ?_
  refine xv_iconst (v := 0) dX0_openLoans_2 rfl ?_
  refine xv_istore_n dX0_openLoans_3 rfl (Nat.le_of_ble_eq_true rfl) rfl ?_
  exact s0_ol_l hG hD hnl hl8 hQ nl 0 (by omega)

noncomputable def ps_J (I : xv_I) (J : xv_J) (mo nl : Nat) : Nat → xv_J
  | 0 => J
  | k + 1 => ln_all (xv_ui I 6 0 (nI (mo + (k + 1)))) (ps_J I J mo nl k) (mo + (k + 1)) nl
theorem xv_ui_u (I : xv_I) (a k : Nat) (v w : Int32) : xv_ui (xv_ui I a k v) a k w = xv_ui I a k w := by
  funext b j
  simp only [xv_ui_ap]
  grind
theorem xv_ui_id {I : xv_I} {a k : Nat} {v : Int32} (h : I a k = v) : xv_ui I a k v = I := by
  funext b j
  simp only [xv_ui_ap]
  grind
theorem s10_ps_l {l : Launch} {D : va_G} {d : Nat} {G : xv_Gr} {I : xv_I} {J : xv_J} {Q : xv_Po} (hG : xg_ok G) {nl nt : Nat} (hD : xg_dy G nl nt) (hnl : I 6 1 = nI nl) (hl8 : nl ≤ 8) {mo nn : Nat} (hmn : mo + nn ≤ 599) (hQ : Q (some (.int (nI (mo + nn)))) G (xv_ui I 6 0 (nI (mo + nn))) (ps_J I J mo nl nn)) : ∀ (n i : Nat), i + n = nn → xv_Ev l D (d + 3) mX10_pass none 33 [some (.ref 0), some (.int (nI nn)), some (.int (nI i))] [] G (xv_ui I 6 0 (nI (mo + i))) (ps_J I J mo nl i) 0 0 Q := by
  intro n
  induction n with
  | zero =>
    intro i hi
    refine xv_iload_n dX10_pass_33 rfl rfl ?_
    refine xv_iload_n dX10_pass_34 rfl rfl ?_
    refine xv_icmp_geN (tgt := 51) dX10_pass_35 rfl (by omega) (by omega) (fun c_35 => ?_) (fun c_35 => absurd c_35 (by omega))
    refine xv_aload_n dX10_pass_51 rfl rfl ?_
    refine xv_getr dX10_pass_52 fl_X10_47 (go_0 hG) rfl (gr_0_5 hG) ?_
    refine xv_geti dX10_pass_55 fl_X10_221 (go_6 hG) rfl ?_
    refine xv_nmI rfl ?_
    refine xv_iret dX10_pass_58 rfl (Nat.zero_le _) (Nat.zero_le _) ?_
    have e : nn = i := by omega
    subst e
    exact hQ
  | succ n ih =>
    intro i hi
    refine xv_iload_n dX10_pass_33 rfl rfl ?_
    refine xv_iload_n dX10_pass_34 rfl rfl ?_
    refine xv_icmp_geN (tgt := 51) dX10_pass_35 rfl (by omega) (by omega) (fun c_35 => absurd c_35 (by omega)) (fun c_35 => ?_)
    refine xv_aload_n dX10_pass_38 rfl rfl ?_
    refine xv_getr dX10_pass_39 fl_X10_47 (go_0 hG) rfl (gr_0_5 hG) ?_
    refine xv_callV0 (As := []) dX10_pass_42 cl_X10_224 rfl rfl rfl rfl (go_6 hG) rfl rfl (Nat.le_of_ble_eq_true rfl) (Nat.le_of_ble_eq_true rfl) (Nat.zero_le _) (Nat.zero_le _) ?_
    refine s0_nextMonth hG (I := (xv_ui I 6 0 (nI (mo + i)))) hD hnl hl8 (mo := mo + i) rfl (by omega) ?_
    refine xv_iinc dX10_pass_45 rfl (xv_inc _) (Nat.le_of_ble_eq_true rfl) rfl ?_
    refine xv_goto (tgt := 33) dX10_pass_48 rfl ?_
    refine xv_nmM (I2 := (xv_ui I 6 0 (nI (mo + (i + 1))))) (xv_ui_u _ _ _ _ _) ?_
    refine xv_nmK (J2 := ps_J I J mo nl (i + 1)) (by rw [ps_J, xv_ui_u]; rfl) ?_
    exact ih (i + 1) (by omega)

theorem s10_pass {l : Launch} {D : va_G} {d : Nat} {G : xv_Gr} {I : xv_I} {J : xv_J} {Q : xv_Po} (hG : xg_ok G) {nl nt : Nat} (hD : xg_dy G nl nt) (hnl : I 6 1 = nI nl) (hl8 : nl ≤ 8) {mo : Nat} (hmo : I 6 0 = nI mo) (hm5 : mo ≤ 599) {v : Int32} (h1 : ¬ (1 ≤ v ∧ v ≤ 60) → Q (some (.int (-900002))) G I J) (h2 : ∀ nn, 1 ≤ nn → nn ≤ 60 → v = nI nn → 599 < mo + nn → Q (some (.int (-900004))) G I J) (h3 : ∀ nn, 1 ≤ nn → nn ≤ 60 → v = nI nn → mo + nn ≤ 599 → Q (some (.int (nI (mo + nn)))) G (xv_ui I 6 0 (nI (mo + nn))) (ps_J I J mo nl nn)) : xv_Ev l D (d + 3) mX10_pass none 0 [some (.ref 0), some (.int v), none] [] G I J 0 0 Q := by
  refine xv_iload_n dX10_pass_0 rfl rfl ?_
  refine xv_iconst (v := 1) dX10_pass_1 rfl ?_
  refine xv_bipush (v := 60) dX10_pass_2 rfl ?_
  refine xv_callS0 (As := [_, _, _]) dX10_pass_4 cl_X10_51 rfl rfl rfl rfl (Nat.le_of_ble_eq_true rfl) (Nat.le_of_ble_eq_true rfl) (Nat.zero_le _) (Nat.zero_le _) ?_
  refine s10_isOutside ?_
  refine xv_if_eqD (tgt := 13) dX10_pass_7 rfl (fun c_7 => ?_) (fun c_7 => ?_)
  · have hV : (1 ≤ v ∧ v ≤ 60) := (by simp only [xn_lt, xn_le, Int32.reduceToInt] at *; omega)
    obtain ⟨nn, hnn, rfl⟩ : ∃ j : Nat, j < 61 ∧ v = nI j := xn_nat (n := 61) (by have h := hV; simp only [xn_lt, xn_le, Int32.reduceToInt] at h; omega) (by have h := hV; simp only [xn_lt, xn_le, Int32.reduceToInt] at h; omega) (by omega)
    have h1n : 1 ≤ nn := by
      have h := hV.1
      simp only [xn_le, nI_toInt (show nn < 2 ^ 31 by omega), Int32.reduceToInt] at h
      omega
    refine xv_aload_n dX10_pass_13 rfl rfl ?_
    refine xv_getr dX10_pass_14 fl_X10_47 (go_0 hG) rfl (gr_0_5 hG) ?_
    refine xv_geti dX10_pass_17 fl_X10_221 (go_6 hG) rfl ?_
    refine xv_nmI hmo ?_
    refine xv_iload_n dX10_pass_20 rfl rfl ?_
    refine xv_iadd dX10_pass_21 ?_
    refine xv_nmI (nI_add _ _) ?_
    refine xv_sipush (v := nI 599) dX10_pass_22 rfl ?_
    refine xv_icmp_leN (tgt := 31) dX10_pass_25 rfl (by omega) (by omega) (fun c_25 => ?_) (fun c_25 => ?_)
    · refine xv_iconst (v := 0) dX10_pass_31 rfl ?_
      refine xv_istore_n dX10_pass_32 rfl (Nat.le_of_ble_eq_true rfl) rfl ?_
      have h := s10_ps_l (d := d) (l := l) (D := D) hG hD hnl hl8 c_25 (h3 nn h1n (by omega) rfl c_25) nn 0 (by omega)
      rw [show mo + 0 = mo from rfl, xv_ui_id hmo] at h
      exact h
    · refine xv_ldc dX10_pass_28 ld_X10_63 ?_
      refine xv_iret dX10_pass_30 rfl (Nat.zero_le _) (Nat.zero_le _) ?_
      exact h2 nn h1n (by omega) rfl c_25
  · refine xv_ldc dX10_pass_10 ld_X10_55 ?_
    refine xv_iret dX10_pass_12 rfl (Nat.zero_le _) (Nat.zero_le _) ?_
    exact h1 (by simp only [xn_lt, xn_le, Int32.reduceToInt] at *; omega)
