/-! plans: small methods -/
theorem s10_isOutside {l : Launch} {D : va_G} {d : Nat} {G : xv_Gr} {I : xv_I} {J : xv_J} {Q : xv_Po} {v a b : Int32} (hQ : Q (some (.int (xb (decide (v < a ∨ b < v))))) G I J) : xv_Ev l D d mX10_isOutside none 0 [some (.int v), some (.int a), some (.int b)] [] G I J 0 0 Q := by
  refine xv_iload_n dX10_isOutside_0 rfl rfl ?_
  refine xv_iload_n dX10_isOutside_1 rfl rfl ?_
  refine xv_icmp_lt (tgt := 10) dX10_isOutside_2 rfl (fun c_2 => ?_) (fun c_2 => ?_)
  · refine xv_iconst (v := 1) dX10_isOutside_10 rfl ?_
    refine xv_goto (tgt := 15) dX10_isOutside_11 rfl ?_
    refine xv_zret dX10_isOutside_15 rfl rfl (Nat.zero_le _) (Nat.zero_le _) ?_
    first | exact xq_T (Q := fun v => Q (some v) G I J) hQ (by (try simp only [xn_cmp_lt, xn_cmp_gt] at *); (try simp only [xn_lt, xn_le, xn_eq, xn_ltL, xn_leL, xn_eqL, xn_wide, Int32.reduceToInt, Int64.reduceToInt] at *); omega) | exact xq_F (Q := fun v => Q (some v) G I J) hQ (by (try simp only [xn_cmp_lt, xn_cmp_gt] at *); (try simp only [xn_lt, xn_le, xn_eq, xn_ltL, xn_leL, xn_eqL, xn_wide, Int32.reduceToInt, Int64.reduceToInt] at *); omega)
  · refine xv_iload_n dX10_isOutside_5 rfl rfl ?_
    refine xv_iload_n dX10_isOutside_6 rfl rfl ?_
    refine xv_icmp_le (tgt := 14) dX10_isOutside_7 rfl (fun c_7 => ?_) (fun c_7 => ?_)
    · refine xv_iconst (v := 0) dX10_isOutside_14 rfl ?_
      refine xv_zret dX10_isOutside_15 rfl rfl (Nat.zero_le _) (Nat.zero_le _) ?_
      first | exact xq_T (Q := fun v => Q (some v) G I J) hQ (by (try simp only [xn_cmp_lt, xn_cmp_gt] at *); (try simp only [xn_lt, xn_le, xn_eq, xn_ltL, xn_leL, xn_eqL, xn_wide, Int32.reduceToInt, Int64.reduceToInt] at *); omega) | exact xq_F (Q := fun v => Q (some v) G I J) hQ (by (try simp only [xn_cmp_lt, xn_cmp_gt] at *); (try simp only [xn_lt, xn_le, xn_eq, xn_ltL, xn_leL, xn_eqL, xn_wide, Int32.reduceToInt, Int64.reduceToInt] at *); omega)
    · refine xv_iconst (v := 1) dX10_isOutside_10 rfl ?_
      refine xv_goto (tgt := 15) dX10_isOutside_11 rfl ?_
      refine xv_zret dX10_isOutside_15 rfl rfl (Nat.zero_le _) (Nat.zero_le _) ?_
      first | exact xq_T (Q := fun v => Q (some v) G I J) hQ (by (try simp only [xn_cmp_lt, xn_cmp_gt] at *); (try simp only [xn_lt, xn_le, xn_eq, xn_ltL, xn_leL, xn_eqL, xn_wide, Int32.reduceToInt, Int64.reduceToInt] at *); omega) | exact xq_F (Q := fun v => Q (some v) G I J) hQ (by (try simp only [xn_cmp_lt, xn_cmp_gt] at *); (try simp only [xn_lt, xn_le, xn_eq, xn_ltL, xn_leL, xn_eqL, xn_wide, Int32.reduceToInt, Int64.reduceToInt] at *); omega)

theorem s11_in {l : Launch} {D : va_G} {d : Nat} {G : xv_Gr} {I : xv_I} {J : xv_J} {Q : xv_Po} {v a b : Int32} {a2 b2 : Int64} (ha : a.toInt64 = a2) (hb : b.toInt64 = b2) (hQ : Q (some (.int (xb (decide (a ≤ v ∧ v ≤ b))))) G I J) : xv_Ev l D d mX11_in none 0 [some (.long v.toInt64), none, some (.long a2), none, some (.long b2), none] [] G I J 0 0 Q := by
  subst ha; subst hb
  refine xv_lload_n dX11_in_0 rfl rfl ?_
  refine xv_lload_n dX11_in_1 rfl rfl ?_
  refine xv_lcmp dX11_in_2 ?_
  refine xv_if_lt (tgt := 17) dX11_in_3 rfl (fun c_3 => ?_) (fun c_3 => ?_)
  · refine xv_iconst (v := 0) dX11_in_17 rfl ?_
    refine xv_zret dX11_in_18 rfl rfl (Nat.zero_le _) (Nat.zero_le _) ?_
    first | exact xq_T (Q := fun v => Q (some v) G I J) hQ (by (try simp only [xn_cmp_lt, xn_cmp_gt] at *); (try simp only [xn_lt, xn_le, xn_eq, xn_ltL, xn_leL, xn_eqL, xn_wide, Int32.reduceToInt, Int64.reduceToInt] at *); omega) | exact xq_F (Q := fun v => Q (some v) G I J) hQ (by (try simp only [xn_cmp_lt, xn_cmp_gt] at *); (try simp only [xn_lt, xn_le, xn_eq, xn_ltL, xn_leL, xn_eqL, xn_wide, Int32.reduceToInt, Int64.reduceToInt] at *); omega)
  · refine xv_lload_n dX11_in_6 rfl rfl ?_
    refine xv_lload dX11_in_7 rfl ?_
    refine xv_lcmp dX11_in_9 ?_
    refine xv_if_gt (tgt := 17) dX11_in_10 rfl (fun c_10 => ?_) (fun c_10 => ?_)
    · refine xv_iconst (v := 0) dX11_in_17 rfl ?_
      refine xv_zret dX11_in_18 rfl rfl (Nat.zero_le _) (Nat.zero_le _) ?_
      first | exact xq_T (Q := fun v => Q (some v) G I J) hQ (by (try simp only [xn_cmp_lt, xn_cmp_gt] at *); (try simp only [xn_lt, xn_le, xn_eq, xn_ltL, xn_leL, xn_eqL, xn_wide, Int32.reduceToInt, Int64.reduceToInt] at *); omega) | exact xq_F (Q := fun v => Q (some v) G I J) hQ (by (try simp only [xn_cmp_lt, xn_cmp_gt] at *); (try simp only [xn_lt, xn_le, xn_eq, xn_ltL, xn_leL, xn_eqL, xn_wide, Int32.reduceToInt, Int64.reduceToInt] at *); omega)
    · refine xv_iconst (v := 1) dX11_in_13 rfl ?_
      refine xv_goto (tgt := 18) dX11_in_14 rfl ?_
      refine xv_zret dX11_in_18 rfl rfl (Nat.zero_le _) (Nat.zero_le _) ?_
      first | exact xq_T (Q := fun v => Q (some v) G I J) hQ (by (try simp only [xn_cmp_lt, xn_cmp_gt] at *); (try simp only [xn_lt, xn_le, xn_eq, xn_ltL, xn_leL, xn_eqL, xn_wide, Int32.reduceToInt, Int64.reduceToInt] at *); omega) | exact xq_F (Q := fun v => Q (some v) G I J) hQ (by (try simp only [xn_cmp_lt, xn_cmp_gt] at *); (try simp only [xn_lt, xn_le, xn_eq, xn_ltL, xn_leL, xn_eqL, xn_wide, Int32.reduceToInt, Int64.reduceToInt] at *); omega)

theorem s10_isNoStretch {l : Launch} {D : va_G} {d : Nat} {G : xv_Gr} {I : xv_I} {J : xv_J} {Q : xv_Po} {v b : Int32} (hQ : Q (some (.int (xb (decide ((v < 0 ∨ 400 < v) ∨ (b < 1 ∨ 100 < b)))))) G I J) : xv_Ev l D (d + 1) mX10_isNoStretch none 0 [some (.int v), some (.int b)] [] G I J 0 0 Q := by
  refine xv_iload_n dX10_isNoStretch_0 rfl rfl ?_
  refine xv_iconst (v := 0) dX10_isNoStretch_1 rfl ?_
  refine xv_sipush (v := 400) dX10_isNoStretch_2 rfl ?_
  refine xv_callS0 (As := [_, _, _]) dX10_isNoStretch_5 cl_X10_51 rfl rfl rfl rfl (Nat.le_of_ble_eq_true rfl) (Nat.le_of_ble_eq_true rfl) (Nat.zero_le _) (Nat.zero_le _) ?_
  refine s10_isOutside ?_
  refine xv_if_neD (tgt := 21) dX10_isNoStretch_8 rfl (fun c_8 => ?_) (fun c_8 => ?_)
  · refine xv_iconst (v := 1) dX10_isNoStretch_21 rfl ?_
    refine xv_goto (tgt := 26) dX10_isNoStretch_22 rfl ?_
    refine xv_zret dX10_isNoStretch_26 rfl rfl (Nat.zero_le _) (Nat.zero_le _) ?_
    first | exact xq_T (Q := fun v => Q (some v) G I J) hQ (by simp_all) | exact xq_F (Q := fun v => Q (some v) G I J) hQ (by simp_all)
  · refine xv_iload_n dX10_isNoStretch_11 rfl rfl ?_
    refine xv_iconst (v := 1) dX10_isNoStretch_12 rfl ?_
    refine xv_bipush (v := 100) dX10_isNoStretch_13 rfl ?_
    refine xv_callS0 (As := [_, _, _]) dX10_isNoStretch_15 cl_X10_51 rfl rfl rfl rfl (Nat.le_of_ble_eq_true rfl) (Nat.le_of_ble_eq_true rfl) (Nat.zero_le _) (Nat.zero_le _) ?_
    refine s10_isOutside ?_
    refine xv_if_eqD (tgt := 25) dX10_isNoStretch_18 rfl (fun c_18 => ?_) (fun c_18 => ?_)
    · refine xv_iconst (v := 0) dX10_isNoStretch_25 rfl ?_
      refine xv_zret dX10_isNoStretch_26 rfl rfl (Nat.zero_le _) (Nat.zero_le _) ?_
      first | exact xq_T (Q := fun v => Q (some v) G I J) hQ (by simp_all) | exact xq_F (Q := fun v => Q (some v) G I J) hQ (by simp_all)
    · refine xv_iconst (v := 1) dX10_isNoStretch_21 rfl ?_
      refine xv_goto (tgt := 26) dX10_isNoStretch_22 rfl ?_
      refine xv_zret dX10_isNoStretch_26 rfl rfl (Nat.zero_le _) (Nat.zero_le _) ?_
      first | exact xq_T (Q := fun v => Q (some v) G I J) hQ (by simp_all) | exact xq_F (Q := fun v => Q (some v) G I J) hQ (by simp_all)

theorem s5_has {l : Launch} {D : va_G} {d : Nat} {G : xv_Gr} {I : xv_I} {J : xv_J} {Q : xv_Po} (hG : xg_ok G) {p : Int32} (hQ : Q (some (.int (xb (decide (0 ≤ p ∧ p < I 1 1))))) G I J) : xv_Ev l D d mX5_has none 0 [some (.ref 1), some (.int p)] [] G I J 0 0 Q := by
  refine xv_iload_n dX5_has_0 rfl rfl ?_
  refine xv_if_lt (tgt := 16) dX5_has_1 rfl (fun c_1 => ?_) (fun c_1 => ?_)
  · refine xv_iconst (v := 0) dX5_has_16 rfl ?_
    refine xv_zret dX5_has_17 rfl rfl (Nat.zero_le _) (Nat.zero_le _) ?_
    first | exact xq_T (Q := fun v => Q (some v) G I J) hQ (by (try simp only [xn_cmp_lt, xn_cmp_gt] at *); (try simp only [xn_lt, xn_le, xn_eq, xn_ltL, xn_leL, xn_eqL, xn_wide, Int32.reduceToInt, Int64.reduceToInt] at *); omega) | exact xq_F (Q := fun v => Q (some v) G I J) hQ (by (try simp only [xn_cmp_lt, xn_cmp_gt] at *); (try simp only [xn_lt, xn_le, xn_eq, xn_ltL, xn_leL, xn_eqL, xn_wide, Int32.reduceToInt, Int64.reduceToInt] at *); omega)
  · refine xv_iload_n dX5_has_4 rfl rfl ?_
    refine xv_aload_n dX5_has_5 rfl rfl ?_
    refine xv_geti dX5_has_6 fl_X5_15 (go_1 hG) rfl ?_
    refine xv_icmp_ge (tgt := 16) dX5_has_9 rfl (fun c_9 => ?_) (fun c_9 => ?_)
    · refine xv_iconst (v := 0) dX5_has_16 rfl ?_
      refine xv_zret dX5_has_17 rfl rfl (Nat.zero_le _) (Nat.zero_le _) ?_
      first | exact xq_T (Q := fun v => Q (some v) G I J) hQ (by (try simp only [xn_cmp_lt, xn_cmp_gt] at *); (try simp only [xn_lt, xn_le, xn_eq, xn_ltL, xn_leL, xn_eqL, xn_wide, Int32.reduceToInt, Int64.reduceToInt] at *); omega) | exact xq_F (Q := fun v => Q (some v) G I J) hQ (by (try simp only [xn_cmp_lt, xn_cmp_gt] at *); (try simp only [xn_lt, xn_le, xn_eq, xn_ltL, xn_leL, xn_eqL, xn_wide, Int32.reduceToInt, Int64.reduceToInt] at *); omega)
    · refine xv_iconst (v := 1) dX5_has_12 rfl ?_
      refine xv_goto (tgt := 17) dX5_has_13 rfl ?_
      refine xv_zret dX5_has_17 rfl rfl (Nat.zero_le _) (Nat.zero_le _) ?_
      first | exact xq_T (Q := fun v => Q (some v) G I J) hQ (by (try simp only [xn_cmp_lt, xn_cmp_gt] at *); (try simp only [xn_lt, xn_le, xn_eq, xn_ltL, xn_leL, xn_eqL, xn_wide, Int32.reduceToInt, Int64.reduceToInt] at *); omega) | exact xq_F (Q := fun v => Q (some v) G I J) hQ (by (try simp only [xn_cmp_lt, xn_cmp_gt] at *); (try simp only [xn_lt, xn_le, xn_eq, xn_ltL, xn_leL, xn_eqL, xn_wide, Int32.reduceToInt, Int64.reduceToInt] at *); omega)

def pl_end (L S : Nat → Int32) (p : Nat) (e : Int32) : Int32 := if e = 0 then L p else L p + S p
theorem s5_endOf {l : Launch} {D : va_G} {d : Nat} {G : xv_Gr} {I : xv_I} {J : xv_J} {Q : xv_Po} (hG : xg_ok G) {x : Int32} {p : Nat} (hx : xv_ix x 12 p) {e : Int32} (hQ : Q (some (.int (pl_end (I 103) (I 104) p e))) G I J) : xv_Ev l D d mX5_endOf none 0 [some (.ref 1), some (.int x), some (.int e)] [] G I J 0 0 Q := by
  refine xv_iload_n dX5_endOf_0 rfl rfl ?_
  refine xv_if_ne (tgt := 13) dX5_endOf_1 rfl (fun c_1 => ?_) (fun c_1 => ?_)
  · refine xv_aload_n dX5_endOf_13 rfl rfl ?_
    refine xv_getr dX5_endOf_14 fl_X5_21 (go_1 hG) rfl (gr_1_3 hG) ?_
    refine xv_iload_n dX5_endOf_17 rfl rfl ?_
    refine xv_iaload dX5_endOf_18 (go_103 hG) hx ?_
    refine xv_aload_n dX5_endOf_19 rfl rfl ?_
    refine xv_getr dX5_endOf_20 fl_X5_25 (go_1 hG) rfl (gr_1_4 hG) ?_
    refine xv_iload_n dX5_endOf_23 rfl rfl ?_
    refine xv_iaload dX5_endOf_24 (go_104 hG) hx ?_
    refine xv_iadd dX5_endOf_25 ?_
    refine xv_iret dX5_endOf_26 rfl (Nat.zero_le _) (Nat.zero_le _) ?_
    simp only [pl_end, c_1, if_true, if_false] at hQ
    exact hQ
  · refine xv_aload_n dX5_endOf_4 rfl rfl ?_
    refine xv_getr dX5_endOf_5 fl_X5_21 (go_1 hG) rfl (gr_1_3 hG) ?_
    refine xv_iload_n dX5_endOf_8 rfl rfl ?_
    refine xv_iaload dX5_endOf_9 (go_103 hG) hx ?_
    refine xv_goto (tgt := 26) dX5_endOf_10 rfl ?_
    refine xv_iret dX5_endOf_26 rfl (Nat.zero_le _) (Nat.zero_le _) ?_
    simp only [pl_end, c_1, if_true, if_false] at hQ
    exact hQ

theorem s11_endOf {l : Launch} {D : va_G} {d : Nat} {G : xv_Gr} {I : xv_I} {J : xv_J} {Q : xv_Po} (hG : xg_ok G) {x : Int32} {p : Nat} (hx : xv_ix x 12 p) {e : Int32} (hQ : Q (some (.int (pl_end (I 52) (I 53) p e))) G I J) : xv_Ev l D d mX11_endOf none 0 [some (.ref 40), some (.int x), some (.int e)] [] G I J 0 0 Q := by
  refine xv_iload_n dX11_endOf_0 rfl rfl ?_
  refine xv_if_ne (tgt := 13) dX11_endOf_1 rfl (fun c_1 => ?_) (fun c_1 => ?_)
  · refine xv_aload_n dX11_endOf_13 rfl rfl ?_
    refine xv_getr dX11_endOf_14 fl_X11_13 (go_40 hG) rfl (gr_40_2 hG) ?_
    refine xv_iload_n dX11_endOf_17 rfl rfl ?_
    refine xv_iaload dX11_endOf_18 (go_52 hG) hx ?_
    refine xv_aload_n dX11_endOf_19 rfl rfl ?_
    refine xv_getr dX11_endOf_20 fl_X11_17 (go_40 hG) rfl (gr_40_3 hG) ?_
    refine xv_iload_n dX11_endOf_23 rfl rfl ?_
    refine xv_iaload dX11_endOf_24 (go_53 hG) hx ?_
    refine xv_iadd dX11_endOf_25 ?_
    refine xv_iret dX11_endOf_26 rfl (Nat.zero_le _) (Nat.zero_le _) ?_
    simp only [pl_end, c_1, if_true, if_false] at hQ
    exact hQ
  · refine xv_aload_n dX11_endOf_4 rfl rfl ?_
    refine xv_getr dX11_endOf_5 fl_X11_13 (go_40 hG) rfl (gr_40_2 hG) ?_
    refine xv_iload_n dX11_endOf_8 rfl rfl ?_
    refine xv_iaload dX11_endOf_9 (go_52 hG) hx ?_
    refine xv_goto (tgt := 26) dX11_endOf_10 rfl ?_
    refine xv_iret dX11_endOf_26 rfl (Nat.zero_le _) (Nat.zero_le _) ?_
    simp only [pl_end, c_1, if_true, if_false] at hQ
    exact hQ

theorem pl_end1 (L S : Nat → Int32) (p : Nat) : pl_end L S p 1 = L p + S p := by simp [pl_end]
theorem pl_end0 (L S : Nat → Int32) (p : Nat) : pl_end L S p 0 = L p := by simp [pl_end]
theorem s5_isAcross {l : Launch} {D : va_G} {d : Nat} {G : xv_Gr} {I : xv_I} {J : xv_J} {Q : xv_Po} (hG : xg_ok G) {x : Int32} {p : Nat} (hx : xv_ix x 12 p) {n : Int32} (hQ : Q (some (.int (xb (decide (I 103 p < n ∧ n < I 103 p + I 104 p))))) G I J) : xv_Ev l D (d + 1) mX5_isAcross none 0 [some (.ref 1), some (.int x), some (.int n)] [] G I J 0 0 Q := by
  refine xv_aload_n dX5_isAcross_0 rfl rfl ?_
  refine xv_getr dX5_isAcross_1 fl_X5_21 (go_1 hG) rfl (gr_1_3 hG) ?_
  refine xv_iload_n dX5_isAcross_4 rfl rfl ?_
  refine xv_iaload dX5_isAcross_5 (go_103 hG) hx ?_
  refine xv_iload_n dX5_isAcross_6 rfl rfl ?_
  refine xv_icmp_ge (tgt := 24) dX5_isAcross_7 rfl (fun c_7 => ?_) (fun c_7 => ?_)
  · refine xv_iconst (v := 0) dX5_isAcross_24 rfl ?_
    refine xv_zret dX5_isAcross_25 rfl rfl (Nat.zero_le _) (Nat.zero_le _) ?_
    exact xq_F (Q := fun v => Q (some v) G I J) hQ (by (try simp only [xn_cmp_lt, xn_cmp_gt] at *); (try simp only [xn_lt, xn_le, xn_eq, xn_ltL, xn_leL, xn_eqL, xn_wide, Int32.reduceToInt, Int64.reduceToInt] at *); omega)
  · refine xv_aload_n dX5_isAcross_10 rfl rfl ?_
    refine xv_iload_n dX5_isAcross_11 rfl rfl ?_
    refine xv_iconst (v := 1) dX5_isAcross_12 rfl ?_
    refine xv_callV0 (As := [_, _]) dX5_isAcross_13 cl_X5_47 rfl rfl rfl rfl (go_1 hG) rfl rfl (Nat.le_of_ble_eq_true rfl) (Nat.le_of_ble_eq_true rfl) (Nat.zero_le _) (Nat.zero_le _) ?_
    refine s5_endOf hG hx ?_
    refine xv_nmI (pl_end1 _ _ _) ?_
    refine xv_iload_n dX5_isAcross_16 rfl rfl ?_
    refine xv_icmp_le (tgt := 24) dX5_isAcross_17 rfl (fun c_17 => ?_) (fun c_17 => ?_)
    · refine xv_iconst (v := 0) dX5_isAcross_24 rfl ?_
      refine xv_zret dX5_isAcross_25 rfl rfl (Nat.zero_le _) (Nat.zero_le _) ?_
      exact xq_F (Q := fun v => Q (some v) G I J) hQ (by (try simp only [xn_cmp_lt, xn_cmp_gt] at *); (try simp only [xn_lt, xn_le, xn_eq, xn_ltL, xn_leL, xn_eqL, xn_wide, Int32.reduceToInt, Int64.reduceToInt] at *); omega)
    · refine xv_iconst (v := 1) dX5_isAcross_20 rfl ?_
      refine xv_goto (tgt := 25) dX5_isAcross_21 rfl ?_
      refine xv_zret dX5_isAcross_25 rfl rfl (Nat.zero_le _) (Nat.zero_le _) ?_
      exact xq_T (Q := fun v => Q (some v) G I J) hQ (by (try simp only [xn_cmp_lt, xn_cmp_gt] at *); (try simp only [xn_lt, xn_le, xn_eq, xn_ltL, xn_leL, xn_eqL, xn_wide, Int32.reduceToInt, Int64.reduceToInt] at *); omega)

theorem s11_isAcross {l : Launch} {D : va_G} {d : Nat} {G : xv_Gr} {I : xv_I} {J : xv_J} {Q : xv_Po} (hG : xg_ok G) {x : Int32} {p : Nat} (hx : xv_ix x 12 p) {n : Int32} (hQ : Q (some (.int (xb (decide (I 52 p < n ∧ n < I 52 p + I 53 p))))) G I J) : xv_Ev l D (d + 1) mX11_isAcross none 0 [some (.ref 40), some (.int x), some (.int n)] [] G I J 0 0 Q := by
  refine xv_aload_n dX11_isAcross_0 rfl rfl ?_
  refine xv_getr dX11_isAcross_1 fl_X11_13 (go_40 hG) rfl (gr_40_2 hG) ?_
  refine xv_iload_n dX11_isAcross_4 rfl rfl ?_
  refine xv_iaload dX11_isAcross_5 (go_52 hG) hx ?_
  refine xv_iload_n dX11_isAcross_6 rfl rfl ?_
  refine xv_icmp_ge (tgt := 24) dX11_isAcross_7 rfl (fun c_7 => ?_) (fun c_7 => ?_)
  · refine xv_iconst (v := 0) dX11_isAcross_24 rfl ?_
    refine xv_zret dX11_isAcross_25 rfl rfl (Nat.zero_le _) (Nat.zero_le _) ?_
    exact xq_F (Q := fun v => Q (some v) G I J) hQ (by (try simp only [xn_cmp_lt, xn_cmp_gt] at *); (try simp only [xn_lt, xn_le, xn_eq, xn_ltL, xn_leL, xn_eqL, xn_wide, Int32.reduceToInt, Int64.reduceToInt] at *); omega)
  · refine xv_aload_n dX11_isAcross_10 rfl rfl ?_
    refine xv_iload_n dX11_isAcross_11 rfl rfl ?_
    refine xv_iconst (v := 1) dX11_isAcross_12 rfl ?_
    refine xv_callV0 (As := [_, _]) dX11_isAcross_13 cl_X11_148 rfl rfl rfl rfl (go_40 hG) rfl rfl (Nat.le_of_ble_eq_true rfl) (Nat.le_of_ble_eq_true rfl) (Nat.zero_le _) (Nat.zero_le _) ?_
    refine s11_endOf hG hx ?_
    refine xv_nmI (pl_end1 _ _ _) ?_
    refine xv_iload_n dX11_isAcross_16 rfl rfl ?_
    refine xv_icmp_le (tgt := 24) dX11_isAcross_17 rfl (fun c_17 => ?_) (fun c_17 => ?_)
    · refine xv_iconst (v := 0) dX11_isAcross_24 rfl ?_
      refine xv_zret dX11_isAcross_25 rfl rfl (Nat.zero_le _) (Nat.zero_le _) ?_
      exact xq_F (Q := fun v => Q (some v) G I J) hQ (by (try simp only [xn_cmp_lt, xn_cmp_gt] at *); (try simp only [xn_lt, xn_le, xn_eq, xn_ltL, xn_leL, xn_eqL, xn_wide, Int32.reduceToInt, Int64.reduceToInt] at *); omega)
    · refine xv_iconst (v := 1) dX11_isAcross_20 rfl ?_
      refine xv_goto (tgt := 25) dX11_isAcross_21 rfl ?_
      refine xv_zret dX11_isAcross_25 rfl rfl (Nat.zero_le _) (Nat.zero_le _) ?_
      exact xq_T (Q := fun v => Q (some v) G I J) hQ (by (try simp only [xn_cmp_lt, xn_cmp_gt] at *); (try simp only [xn_lt, xn_le, xn_eq, xn_ltL, xn_leL, xn_eqL, xn_wide, Int32.reduceToInt, Int64.reduceToInt] at *); omega)

def pl_aft (L S : Nat → Int32) (p : Nat) (e n b : Int32) : Int32 := if (e = 0 ∧ n ≤ pl_end L S p e) ∨ (¬ e = 0 ∧ n < pl_end L S p e) then pl_end L S p e + b else pl_end L S p e
theorem s5_endAfter {l : Launch} {D : va_G} {d : Nat} {G : xv_Gr} {I : xv_I} {J : xv_J} {Q : xv_Po} (hG : xg_ok G) {x : Int32} {p : Nat} (hx : xv_ix x 12 p) {e n b : Int32} (hQ : Q (some (.int (pl_aft (I 103) (I 104) p e n b))) G I J) : xv_Ev l D (d + 1) mX5_endAfter none 0 [some (.ref 1), some (.int x), some (.int e), some (.int n), some (.int b), none, none] [] G I J 0 0 Q := by
  refine xv_aload_n dX5_endAfter_0 rfl rfl ?_
  refine xv_iload_n dX5_endAfter_1 rfl rfl ?_
  refine xv_iload_n dX5_endAfter_2 rfl rfl ?_
  refine xv_callV0 (As := [_, _]) dX5_endAfter_3 cl_X5_47 rfl rfl rfl rfl (go_1 hG) rfl rfl (Nat.le_of_ble_eq_true rfl) (Nat.le_of_ble_eq_true rfl) (Nat.zero_le _) (Nat.zero_le _) ?_
  refine s5_endOf hG hx ?_
  refine xv_istore dX5_endAfter_6 (Nat.le_of_ble_eq_true rfl) rfl ?_
  refine xv_iload_n dX5_endAfter_8 rfl rfl ?_
  refine xv_if_ne (tgt := 26) dX5_endAfter_9 rfl (fun c_9 => ?_) (fun c_9 => ?_)
  · refine xv_iload dX5_endAfter_26 rfl ?_
    refine xv_iload_n dX5_endAfter_28 rfl rfl ?_
    refine xv_icmp_le (tgt := 36) dX5_endAfter_29 rfl (fun c_29 => ?_) (fun c_29 => ?_)
    · refine xv_iconst (v := 0) dX5_endAfter_36 rfl ?_
      refine xv_istore dX5_endAfter_37 (Nat.le_of_ble_eq_true rfl) rfl ?_
      refine xv_iload dX5_endAfter_39 rfl ?_
      refine xv_if_eq (tgt := 52) dX5_endAfter_41 rfl (fun c_41 => ?_) (fun c_41 => absurd (by decide) c_41)
      refine xv_iload dX5_endAfter_52 rfl ?_
      refine xv_iret dX5_endAfter_54 rfl (Nat.zero_le _) (Nat.zero_le _) ?_
      have hc : ¬ ((e = 0 ∧ n ≤ pl_end (I 103) (I 104) p e) ∨ (¬ e = 0 ∧ n < pl_end (I 103) (I 104) p e)) := by (try simp only [xn_cmp_lt, xn_cmp_gt] at *); (try simp only [xn_lt, xn_le, xn_eq, xn_ltL, xn_leL, xn_eqL, xn_wide, Int32.reduceToInt, Int64.reduceToInt] at *); omega
      rw [pl_aft, if_neg hc] at hQ
      exact hQ
    · refine xv_iconst (v := 1) dX5_endAfter_32 rfl ?_
      refine xv_goto (tgt := 37) dX5_endAfter_33 rfl ?_
      refine xv_istore dX5_endAfter_37 (Nat.le_of_ble_eq_true rfl) rfl ?_
      refine xv_iload dX5_endAfter_39 rfl ?_
      refine xv_if_eq (tgt := 52) dX5_endAfter_41 rfl (fun c_41 => absurd c_41 (by decide)) (fun c_41 => ?_)
      refine xv_iload dX5_endAfter_44 rfl ?_
      refine xv_iload dX5_endAfter_46 rfl ?_
      refine xv_iadd dX5_endAfter_48 ?_
      refine xv_goto (tgt := 54) dX5_endAfter_49 rfl ?_
      refine xv_iret dX5_endAfter_54 rfl (Nat.zero_le _) (Nat.zero_le _) ?_
      have hc : (e = 0 ∧ n ≤ pl_end (I 103) (I 104) p e) ∨ (¬ e = 0 ∧ n < pl_end (I 103) (I 104) p e) := by (try simp only [xn_cmp_lt, xn_cmp_gt] at *); (try simp only [xn_lt, xn_le, xn_eq, xn_ltL, xn_leL, xn_eqL, xn_wide, Int32.reduceToInt, Int64.reduceToInt] at *); omega
      rw [pl_aft, if_pos hc] at hQ
      exact hQ
  · refine xv_iload dX5_endAfter_12 rfl ?_
    refine xv_iload_n dX5_endAfter_14 rfl rfl ?_
    refine xv_icmp_lt (tgt := 22) dX5_endAfter_15 rfl (fun c_15 => ?_) (fun c_15 => ?_)
    · refine xv_iconst (v := 0) dX5_endAfter_22 rfl ?_
      refine xv_goto (tgt := 37) dX5_endAfter_23 rfl ?_
      refine xv_istore dX5_endAfter_37 (Nat.le_of_ble_eq_true rfl) rfl ?_
      refine xv_iload dX5_endAfter_39 rfl ?_
      refine xv_if_eq (tgt := 52) dX5_endAfter_41 rfl (fun c_41 => ?_) (fun c_41 => absurd (by decide) c_41)
      refine xv_iload dX5_endAfter_52 rfl ?_
      refine xv_iret dX5_endAfter_54 rfl (Nat.zero_le _) (Nat.zero_le _) ?_
      have hc : ¬ ((e = 0 ∧ n ≤ pl_end (I 103) (I 104) p e) ∨ (¬ e = 0 ∧ n < pl_end (I 103) (I 104) p e)) := by (try simp only [xn_cmp_lt, xn_cmp_gt] at *); (try simp only [xn_lt, xn_le, xn_eq, xn_ltL, xn_leL, xn_eqL, xn_wide, Int32.reduceToInt, Int64.reduceToInt] at *); omega
      rw [pl_aft, if_neg hc] at hQ
      exact hQ
    · refine xv_iconst (v := 1) dX5_endAfter_18 rfl ?_
      refine xv_goto (tgt := 37) dX5_endAfter_19 rfl ?_
      refine xv_istore dX5_endAfter_37 (Nat.le_of_ble_eq_true rfl) rfl ?_
      refine xv_iload dX5_endAfter_39 rfl ?_
      refine xv_if_eq (tgt := 52) dX5_endAfter_41 rfl (fun c_41 => absurd c_41 (by decide)) (fun c_41 => ?_)
      refine xv_iload dX5_endAfter_44 rfl ?_
      refine xv_iload dX5_endAfter_46 rfl ?_
      refine xv_iadd dX5_endAfter_48 ?_
      refine xv_goto (tgt := 54) dX5_endAfter_49 rfl ?_
      refine xv_iret dX5_endAfter_54 rfl (Nat.zero_le _) (Nat.zero_le _) ?_
      have hc : (e = 0 ∧ n ≤ pl_end (I 103) (I 104) p e) ∨ (¬ e = 0 ∧ n < pl_end (I 103) (I 104) p e) := by (try simp only [xn_cmp_lt, xn_cmp_gt] at *); (try simp only [xn_lt, xn_le, xn_eq, xn_ltL, xn_leL, xn_eqL, xn_wide, Int32.reduceToInt, Int64.reduceToInt] at *); omega
      rw [pl_aft, if_pos hc] at hQ
      exact hQ

def pl_thn (L S : Nat → Int32) (p : Nat) (e n b : Int32) : Int32 := if n ≤ L p ∨ (e = 1 ∧ L p < n ∧ n < L p + S p) then pl_end L S p e + b else pl_end L S p e
theorem s11_then {l : Launch} {D : va_G} {d : Nat} {G : xv_Gr} {I : xv_I} {J : xv_J} {Q : xv_Po} (hG : xg_ok G) {x : Int32} {p : Nat} (hx : xv_ix x 12 p) {e n b : Int32} (hQ : Q (some (.int (pl_thn (I 52) (I 53) p e n b))) G I J) : xv_Ev l D (d + 2) mX11_then none 0 [some (.ref 40), some (.int x), some (.int e), some (.int n), some (.int b), none, none] [] G I J 0 0 Q := by
  refine xv_aload_n dX11_then_0 rfl rfl ?_
  refine xv_iload_n dX11_then_1 rfl rfl ?_
  refine xv_iload_n dX11_then_2 rfl rfl ?_
  refine xv_callV0 (As := [_, _]) dX11_then_3 cl_X11_148 rfl rfl rfl rfl (go_40 hG) rfl rfl (Nat.le_of_ble_eq_true rfl) (Nat.le_of_ble_eq_true rfl) (Nat.zero_le _) (Nat.zero_le _) ?_
  refine s11_endOf hG hx ?_
  refine xv_istore dX11_then_6 (Nat.le_of_ble_eq_true rfl) rfl ?_
  refine xv_aload_n dX11_then_8 rfl rfl ?_
  refine xv_getr dX11_then_9 fl_X11_13 (go_40 hG) rfl (gr_40_2 hG) ?_
  refine xv_iload_n dX11_then_12 rfl rfl ?_
  refine xv_iaload dX11_then_13 (go_52 hG) hx ?_
  refine xv_iload_n dX11_then_14 rfl rfl ?_
  refine xv_icmp_ge (tgt := 32) dX11_then_15 rfl (fun c_15 => ?_) (fun c_15 => ?_)
  · refine xv_iconst (v := 1) dX11_then_32 rfl ?_
    refine xv_goto (tgt := 37) dX11_then_33 rfl ?_
    refine xv_istore dX11_then_37 (Nat.le_of_ble_eq_true rfl) rfl ?_
    refine xv_iload dX11_then_39 rfl ?_
    refine xv_if_eq (tgt := 52) dX11_then_41 rfl (fun c_41 => absurd c_41 (by decide)) (fun c_41 => ?_)
    refine xv_iload dX11_then_44 rfl ?_
    refine xv_iload dX11_then_46 rfl ?_
    refine xv_iadd dX11_then_48 ?_
    refine xv_goto (tgt := 54) dX11_then_49 rfl ?_
    refine xv_iret dX11_then_54 rfl (Nat.zero_le _) (Nat.zero_le _) ?_
    have hc : n ≤ I 52 p ∨ (e = 1 ∧ I 52 p < n ∧ n < I 52 p + I 53 p) := by (try simp only [xn_cmp_lt, xn_cmp_gt] at *); (try simp only [xn_lt, xn_le, xn_eq, xn_ltL, xn_leL, xn_eqL, xn_wide, Int32.reduceToInt, Int64.reduceToInt] at *); omega
    rw [pl_thn, if_pos hc] at hQ
    exact hQ
  · refine xv_iload_n dX11_then_18 rfl rfl ?_
    refine xv_iconst (v := 1) dX11_then_19 rfl ?_
    refine xv_icmp_ne (tgt := 36) dX11_then_20 rfl (fun c_20 => ?_) (fun c_20 => ?_)
    · refine xv_iconst (v := 0) dX11_then_36 rfl ?_
      refine xv_istore dX11_then_37 (Nat.le_of_ble_eq_true rfl) rfl ?_
      refine xv_iload dX11_then_39 rfl ?_
      refine xv_if_eq (tgt := 52) dX11_then_41 rfl (fun c_41 => ?_) (fun c_41 => absurd (by decide) c_41)
      refine xv_iload dX11_then_52 rfl ?_
      refine xv_iret dX11_then_54 rfl (Nat.zero_le _) (Nat.zero_le _) ?_
      have hc : ¬ (n ≤ I 52 p ∨ (e = 1 ∧ I 52 p < n ∧ n < I 52 p + I 53 p)) := by (try simp only [xn_cmp_lt, xn_cmp_gt] at *); (try simp only [xn_lt, xn_le, xn_eq, xn_ltL, xn_leL, xn_eqL, xn_wide, Int32.reduceToInt, Int64.reduceToInt] at *); omega
      rw [pl_thn, if_neg hc] at hQ
      exact hQ
    · refine xv_aload_n dX11_then_23 rfl rfl ?_
      refine xv_iload_n dX11_then_24 rfl rfl ?_
      refine xv_iload_n dX11_then_25 rfl rfl ?_
      refine xv_callV0 (As := [_, _]) dX11_then_26 cl_X11_153 rfl rfl rfl rfl (go_40 hG) rfl rfl (Nat.le_of_ble_eq_true rfl) (Nat.le_of_ble_eq_true rfl) (Nat.zero_le _) (Nat.zero_le _) ?_
      refine s11_isAcross hG hx ?_
      refine xv_if_eqD (tgt := 36) dX11_then_29 rfl (fun c_29 => ?_) (fun c_29 => ?_)
      · refine xv_iconst (v := 0) dX11_then_36 rfl ?_
        refine xv_istore dX11_then_37 (Nat.le_of_ble_eq_true rfl) rfl ?_
        refine xv_iload dX11_then_39 rfl ?_
        refine xv_if_eq (tgt := 52) dX11_then_41 rfl (fun c_41 => ?_) (fun c_41 => absurd (by decide) c_41)
        refine xv_iload dX11_then_52 rfl ?_
        refine xv_iret dX11_then_54 rfl (Nat.zero_le _) (Nat.zero_le _) ?_
        have hc : ¬ (n ≤ I 52 p ∨ (e = 1 ∧ I 52 p < n ∧ n < I 52 p + I 53 p)) := by (try simp only [xn_cmp_lt, xn_cmp_gt] at *); (try simp only [xn_lt, xn_le, xn_eq, xn_ltL, xn_leL, xn_eqL, xn_wide, Int32.reduceToInt, Int64.reduceToInt] at *); omega
        rw [pl_thn, if_neg hc] at hQ
        exact hQ
      · refine xv_iconst (v := 1) dX11_then_32 rfl ?_
        refine xv_goto (tgt := 37) dX11_then_33 rfl ?_
        refine xv_istore dX11_then_37 (Nat.le_of_ble_eq_true rfl) rfl ?_
        refine xv_iload dX11_then_39 rfl ?_
        refine xv_if_eq (tgt := 52) dX11_then_41 rfl (fun c_41 => absurd c_41 (by decide)) (fun c_41 => ?_)
        refine xv_iload dX11_then_44 rfl ?_
        refine xv_iload dX11_then_46 rfl ?_
        refine xv_iadd dX11_then_48 ?_
        refine xv_goto (tgt := 54) dX11_then_49 rfl ?_
        refine xv_iret dX11_then_54 rfl (Nat.zero_le _) (Nat.zero_le _) ?_
        have hc : n ≤ I 52 p ∨ (e = 1 ∧ I 52 p < n ∧ n < I 52 p + I 53 p) := by (try simp only [xn_cmp_lt, xn_cmp_gt] at *); (try simp only [xn_lt, xn_le, xn_eq, xn_ltL, xn_leL, xn_eqL, xn_wide, Int32.reduceToInt, Int64.reduceToInt] at *); omega
        rw [pl_thn, if_pos hc] at hQ
        exact hQ

theorem s5_holds {l : Launch} {D : va_G} {d : Nat} {G : xv_Gr} {I : xv_I} {J : xv_J} {Q : xv_Po} (hG : xg_ok G) {i : Int32} {k : Nat} (hi : xv_ix i 20 k) {a b : Nat} (ha : xv_ix (I 107 k) 12 a) (hb : xv_ix (I 109 k) 12 b) (hQ : Q (some (.int (xb (decide (pl_end (I 103) (I 104) a (I 108 k) = pl_end (I 103) (I 104) b (I 110 k)))))) G I J) : xv_Ev l D (d + 1) mX5_holds none 0 [some (.ref 1), some (.int i)] [] G I J 0 0 Q := by
  refine xv_aload_n dX5_holds_0 rfl rfl ?_
  refine xv_aload_n dX5_holds_1 rfl rfl ?_
  refine xv_getr dX5_holds_2 fl_X5_35 (go_1 hG) rfl (gr_1_7 hG) ?_
  refine xv_iload_n dX5_holds_5 rfl rfl ?_
  refine xv_iaload dX5_holds_6 (go_107 hG) hi ?_
  refine xv_aload_n dX5_holds_7 rfl rfl ?_
  refine xv_getr dX5_holds_8 fl_X5_38 (go_1 hG) rfl (gr_1_8 hG) ?_
  refine xv_iload_n dX5_holds_11 rfl rfl ?_
  refine xv_iaload dX5_holds_12 (go_108 hG) hi ?_
  refine xv_callV0 (As := [_, _]) dX5_holds_13 cl_X5_47 rfl rfl rfl rfl (go_1 hG) rfl rfl (Nat.le_of_ble_eq_true rfl) (Nat.le_of_ble_eq_true rfl) (Nat.zero_le _) (Nat.zero_le _) ?_
  refine s5_endOf hG ha ?_
  refine xv_aload_n dX5_holds_16 rfl rfl ?_
  refine xv_aload_n dX5_holds_17 rfl rfl ?_
  refine xv_getr dX5_holds_18 fl_X5_41 (go_1 hG) rfl (gr_1_9 hG) ?_
  refine xv_iload_n dX5_holds_21 rfl rfl ?_
  refine xv_iaload dX5_holds_22 (go_109 hG) hi ?_
  refine xv_aload_n dX5_holds_23 rfl rfl ?_
  refine xv_getr dX5_holds_24 fl_X5_44 (go_1 hG) rfl (gr_1_10 hG) ?_
  refine xv_iload_n dX5_holds_27 rfl rfl ?_
  refine xv_iaload dX5_holds_28 (go_110 hG) hi ?_
  refine xv_callV0 (As := [_, _]) dX5_holds_29 cl_X5_47 rfl rfl rfl rfl (go_1 hG) rfl rfl (Nat.le_of_ble_eq_true rfl) (Nat.le_of_ble_eq_true rfl) (Nat.zero_le _) (Nat.zero_le _) ?_
  refine s5_endOf hG hb ?_
  refine xv_icmp_ne (tgt := 39) dX5_holds_32 rfl (fun c_32 => ?_) (fun c_32 => ?_)
  · refine xv_iconst (v := 0) dX5_holds_39 rfl ?_
    refine xv_zret dX5_holds_40 rfl rfl (Nat.zero_le _) (Nat.zero_le _) ?_
    exact xq_F (Q := fun v => Q (some v) G I J) hQ (by (first | exact c_32 | (simp_all; done)))
  · refine xv_iconst (v := 1) dX5_holds_35 rfl ?_
    refine xv_goto (tgt := 40) dX5_holds_36 rfl ?_
    refine xv_zret dX5_holds_40 rfl rfl (Nat.zero_le _) (Nat.zero_le _) ?_
    exact xq_T (Q := fun v => Q (some v) G I J) hQ (by (first | exact c_32 | (simp_all; done)))

theorem s5_wouldHold {l : Launch} {D : va_G} {d : Nat} {G : xv_Gr} {I : xv_I} {J : xv_J} {Q : xv_Po} (hG : xg_ok G) {i : Int32} {k : Nat} (hi : xv_ix i 20 k) {a b : Nat} (ha : xv_ix (I 107 k) 12 a) (hb : xv_ix (I 109 k) 12 b) {n y : Int32} (hQ : Q (some (.int (xb (decide (pl_aft (I 103) (I 104) a (I 108 k) n y = pl_aft (I 103) (I 104) b (I 110 k) n y))))) G I J) : xv_Ev l D (d + 2) mX5_wouldHold none 0 [some (.ref 1), some (.int i), some (.int n), some (.int y)] [] G I J 0 0 Q := by
  refine xv_aload_n dX5_wouldHold_0 rfl rfl ?_
  refine xv_aload_n dX5_wouldHold_1 rfl rfl ?_
  refine xv_getr dX5_wouldHold_2 fl_X5_35 (go_1 hG) rfl (gr_1_7 hG) ?_
  refine xv_iload_n dX5_wouldHold_5 rfl rfl ?_
  refine xv_iaload dX5_wouldHold_6 (go_107 hG) hi ?_
  refine xv_aload_n dX5_wouldHold_7 rfl rfl ?_
  refine xv_getr dX5_wouldHold_8 fl_X5_38 (go_1 hG) rfl (gr_1_8 hG) ?_
  refine xv_iload_n dX5_wouldHold_11 rfl rfl ?_
  refine xv_iaload dX5_wouldHold_12 (go_108 hG) hi ?_
  refine xv_iload_n dX5_wouldHold_13 rfl rfl ?_
  refine xv_iload_n dX5_wouldHold_14 rfl rfl ?_
  refine xv_callV0 (As := [_, _, _, _]) dX5_wouldHold_15 cl_X5_66 rfl rfl rfl rfl (go_1 hG) rfl rfl (Nat.le_of_ble_eq_true rfl) (Nat.le_of_ble_eq_true rfl) (Nat.zero_le _) (Nat.zero_le _) ?_
  refine s5_endAfter hG ha ?_
  refine xv_aload_n dX5_wouldHold_18 rfl rfl ?_
  refine xv_aload_n dX5_wouldHold_19 rfl rfl ?_
  refine xv_getr dX5_wouldHold_20 fl_X5_41 (go_1 hG) rfl (gr_1_9 hG) ?_
  refine xv_iload_n dX5_wouldHold_23 rfl rfl ?_
  refine xv_iaload dX5_wouldHold_24 (go_109 hG) hi ?_
  refine xv_aload_n dX5_wouldHold_25 rfl rfl ?_
  refine xv_getr dX5_wouldHold_26 fl_X5_44 (go_1 hG) rfl (gr_1_10 hG) ?_
  refine xv_iload_n dX5_wouldHold_29 rfl rfl ?_
  refine xv_iaload dX5_wouldHold_30 (go_110 hG) hi ?_
  refine xv_iload_n dX5_wouldHold_31 rfl rfl ?_
  refine xv_iload_n dX5_wouldHold_32 rfl rfl ?_
  refine xv_callV0 (As := [_, _, _, _]) dX5_wouldHold_33 cl_X5_66 rfl rfl rfl rfl (go_1 hG) rfl rfl (Nat.le_of_ble_eq_true rfl) (Nat.le_of_ble_eq_true rfl) (Nat.zero_le _) (Nat.zero_le _) ?_
  refine s5_endAfter hG hb ?_
  refine xv_icmp_ne (tgt := 43) dX5_wouldHold_36 rfl (fun c_36 => ?_) (fun c_36 => ?_)
  · refine xv_iconst (v := 0) dX5_wouldHold_43 rfl ?_
    refine xv_zret dX5_wouldHold_44 rfl rfl (Nat.zero_le _) (Nat.zero_le _) ?_
    exact xq_F (Q := fun v => Q (some v) G I J) hQ (by (first | exact c_36 | (simp_all; done)))
  · refine xv_iconst (v := 1) dX5_wouldHold_39 rfl ?_
    refine xv_goto (tgt := 44) dX5_wouldHold_40 rfl ?_
    refine xv_zret dX5_wouldHold_44 rfl rfl (Nat.zero_le _) (Nat.zero_le _) ?_
    exact xq_T (Q := fun v => Q (some v) G I J) hQ (by (first | exact c_36 | (simp_all; done)))

theorem s11_isPiece {l : Launch} {D : va_G} {d : Nat} {G : xv_Gr} {I : xv_I} {J : xv_J} {Q : xv_Po} (hG : xg_ok G) {x : Int32} {np : Nat} (hn : I 40 1 = nI np) (hnp : np ≤ 12) (hQ : Q (some (.int (xb (decide (0 ≤ x ∧ x < nI np))))) G I J) : xv_Ev l D (d + 1) mX11_isPiece none 0 [some (.ref 40), some (.int x)] [] G I J 0 0 Q := by
  refine xv_iload_n dX11_isPiece_0 rfl rfl ?_
  refine xv_i2l dX11_isPiece_1 ?_
  refine xv_lconst (v := 0) dX11_isPiece_2 rfl ?_
  refine xv_aload_n dX11_isPiece_3 rfl rfl ?_
  refine xv_geti dX11_isPiece_4 fl_X11_135 (go_40 hG) rfl ?_
  refine xv_nmI hn ?_
  refine xv_iconst (v := 1) dX11_isPiece_7 rfl ?_
  refine xv_isub dX11_isPiece_8 ?_
  refine xv_i2l dX11_isPiece_9 ?_
  refine xv_callS0 (As := [_, _, _]) dX11_isPiece_10 cl_X11_126 rfl rfl rfl rfl (Nat.le_of_ble_eq_true rfl) (Nat.le_of_ble_eq_true rfl) (Nat.zero_le _) (Nat.zero_le _) ?_
  have e : (decide ((0 : Int32) ≤ x ∧ x ≤ nI np - 1)) = decide (0 ≤ x ∧ x < nI np) := by
      apply decide_eq_decide.mpr
      have h1 : (nI np - 1).toInt = (np : Int) - 1 := pk_sub_toInt (b := 1) (by omega) (by omega)
      have h2 : (nI np).toInt = np := nI_toInt (by omega)
      simp only [xn_le, xn_lt, h1, h2]
      omega
  rw [← e] at hQ
  refine s11_in (a := 0) (b := nI np - 1) rfl rfl ?_
  refine xv_zretB dX11_isPiece_13 rfl (Nat.zero_le _) (Nat.zero_le _) ?_
  exact hQ
