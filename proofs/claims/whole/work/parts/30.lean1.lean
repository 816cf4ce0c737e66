/-! leaning: sets of bits -/
theorem xt_F {s p : Nat} (h : nI (s / 2 ^ p % 2) = 0) : s.testBit p = false := (xt_iff0 s p).mp ((xi_0 (by omega)).mp h)
theorem xt_T {s p : Nat} (h : ¬ nI (s / 2 ^ p % 2) = 0) : s.testBit p = true := (xt_iff s p).mp (by have h1 : ¬ s / 2 ^ p % 2 = 0 := fun e => h (by rw [e]; rfl); omega)
theorem xt_T1 {s p : Nat} (h : nI (s / 2 ^ p % 2) = 1) : s.testBit p = true := (xt_iff s p).mp ((xi_1 (by omega)).mp h)
theorem xt_F1 {s p : Nat} (h : ¬ nI (s / 2 ^ p % 2) = 1) : s.testBit p = false := (xt_iff0 s p).mp (by have h1 : ¬ s / 2 ^ p % 2 = 1 := fun e => h (by rw [e]; rfl); omega)
theorem xt_v1 {s p : Nat} (h : s.testBit p = true) : s / 2 ^ p % 2 = 1 := (xt_iff s p).mpr h
theorem xt_v0 {s p : Nat} (h : s.testBit p = false) : s / 2 ^ p % 2 = 0 := (xt_iff0 s p).mpr h
def ls_m (on : Nat → Nat) (s : Nat) : Nat → Nat
  | 0 => s
  | i + 1 => if s.testBit i then ls_m on s i ||| on i else ls_m on s i
def ls_it (on : Nat → Nat) : Nat → Nat → Nat
  | 0, s => s
  | k + 1, s => if ls_m on s 12 = s then s else ls_it on k (ls_m on s 12)
theorem ls_m_lt {on : Nat → Nat} {k : Nat} (h : ∀ p, p < 12 → on p < 2 ^ k) {s : Nat} (hs : s < 2 ^ k) : ∀ i, i ≤ 12 → ls_m on s i < 2 ^ k
  | 0, _ => hs
  | i + 1, hi => by
    have ih := ls_m_lt h hs i (by omega)
    simp only [ls_m]
    split
    · exact xor_lt ih (h i (by omega))
    · exact ih
theorem ls_it_lt {on : Nat → Nat} {k : Nat} (h : ∀ p, p < 12 → on p < 2 ^ k) : ∀ n s, s < 2 ^ k → ls_it on n s < 2 ^ k
  | 0, s, hs => hs
  | n + 1, s, hs => by
    simp only [ls_it]
    split
    · exact hs
    · exact ls_it_lt h n _ (ls_m_lt h hs 12 (Nat.le_refl _))
theorem s3_ab_i {l : Launch} {D : va_G} {d : Nat} {G : xv_Gr} {I : xv_I} {J : xv_J} {Q : xv_Po} (hG : xg_ok G) {on : Nat → Nat} (ho : ∀ p, p < 12 → I 120 p = nI (on p) ∧ on p < 2 ^ 12) {x : Int32} {s j : Nat} (hs : s < 2 ^ 12) (kk : xv_Ev l D d mX3_allBelow none 55 [some (.ref 2), some (.int x), some (.int (nI s)), some (.int (nI j)), some (.int (nI (ls_m on s 12))), some (.int (nI 12))] [] G I J 0 0 Q) : ∀ (n i : Nat), i + n = 12 → xv_Ev l D d mX3_allBelow none 21 [some (.ref 2), some (.int x), some (.int (nI s)), some (.int (nI j)), some (.int (nI (ls_m on s i))), some (.int (nI i))] [] G I J 0 0 Q := by
  intro n
  induction n with
  | zero =>
    intro i hi
    refine xv_iload dX3_allBelow_21 rfl ?_
    refine xv_bipush (v := nI 12) dX3_allBelow_23 rfl ?_
    refine xv_icmp_geN (tgt := 55) dX3_allBelow_25 rfl (by omega) (by omega) (fun c_25 => ?_) (fun c_25 => absurd c_25 (by omega))
    have e : i = 12 := by omega
    subst e
    exact kk
  | succ n ih =>
    intro i hi
    refine xv_iload dX3_allBelow_21 rfl ?_
    refine xv_bipush (v := nI 12) dX3_allBelow_23 rfl ?_
    refine xv_icmp_geN (tgt := 55) dX3_allBelow_25 rfl (by omega) (by omega) (fun c_25 => absurd c_25 (by omega)) (fun c_25 => ?_)
    refine xv_iload_n dX3_allBelow_28 rfl rfl ?_
    refine xv_iload dX3_allBelow_29 rfl ?_
    refine xv_ishr dX3_allBelow_31 ?_
    refine xv_iconst (v := 1) dX3_allBelow_32 rfl ?_
    refine xv_iand dX3_allBelow_33 ?_
    refine xv_nmI (xi_bit (by omega) (by omega)) ?_
    refine xv_if_eq (tgt := 49) dX3_allBelow_34 rfl (fun c_34 => ?_) (fun c_34 => ?_)
    · refine xv_iinc dX3_allBelow_49 rfl (xv_inc _) (Nat.le_of_ble_eq_true rfl) rfl ?_
      refine xv_goto (tgt := 21) dX3_allBelow_52 rfl ?_
      have hb := xt_F c_34
      have ih2 := ih (i + 1) (by omega)
      simp only [ls_m, hb, if_true, Bool.false_eq_true, if_false] at ih2
      exact ih2
    · refine xv_iload dX3_allBelow_37 rfl ?_
      refine xv_aload_n dX3_allBelow_39 rfl rfl ?_
      refine xv_getr dX3_allBelow_40 fl_X3_9 (go_2 hG) rfl (gr_2_0 hG) ?_
      refine xv_iload dX3_allBelow_43 rfl ?_
      refine xv_iaload dX3_allBelow_45 (go_120 hG) (xv_ixn (by omega) (by decide)) ?_
      refine xv_nmI (ho i (by omega)).1 ?_
      refine xv_ior dX3_allBelow_46 ?_
      refine xv_nmI (xi_or _ _) ?_
      refine xv_istore dX3_allBelow_47 (Nat.le_of_ble_eq_true rfl) rfl ?_
      refine xv_iinc dX3_allBelow_49 rfl (xv_inc _) (Nat.le_of_ble_eq_true rfl) rfl ?_
      refine xv_goto (tgt := 21) dX3_allBelow_52 rfl ?_
      have hb := xt_T c_34
      have ih2 := ih (i + 1) (by omega)
      simp only [ls_m, hb, if_true, Bool.false_eq_true, if_false] at ih2
      exact ih2

theorem s3_ab_l {l : Launch} {D : va_G} {d : Nat} {G : xv_Gr} {I : xv_I} {J : xv_J} {Q : xv_Po} (hG : xg_ok G) {on : Nat → Nat} (ho : ∀ p, p < 12 → I 120 p = nI (on p) ∧ on p < 2 ^ 12) {x : Int32} : ∀ (n j s : Nat), j + n = 12 → s < 2 ^ 12 → Q (some (.int (nI (ls_it on n s)))) G I J → xv_Ev l D d mX3_allBelow none 9 [some (.ref 2), some (.int x), some (.int (nI s)), some (.int (nI j)), none, none] [] G I J 0 0 Q := by
  intro n
  induction n with
  | zero =>
    intro j s hi hs hQ
    refine xv_iload_n dX3_allBelow_9 rfl rfl ?_
    refine xv_bipush (v := nI 12) dX3_allBelow_10 rfl ?_
    refine xv_icmp_geN (tgt := 72) dX3_allBelow_12 rfl (by omega) (by omega) (fun c_12 => ?_) (fun c_12 => absurd c_12 (by omega))
    refine xv_iload_n dX3_allBelow_72 rfl rfl ?_
    refine xv_iret dX3_allBelow_73 rfl (Nat.zero_le _) (Nat.zero_le _) ?_
    exact hQ
  | succ n ih =>
    intro j s hi hs hQ
    refine xv_iload_n dX3_allBelow_9 rfl rfl ?_
    refine xv_bipush (v := nI 12) dX3_allBelow_10 rfl ?_
    refine xv_icmp_geN (tgt := 72) dX3_allBelow_12 rfl (by omega) (by omega) (fun c_12 => absurd c_12 (by omega)) (fun c_12 => ?_)
    refine xv_iload_n dX3_allBelow_15 rfl rfl ?_
    refine xv_istore dX3_allBelow_16 (Nat.le_of_ble_eq_true rfl) rfl ?_
    refine xv_iconst (v := 0) dX3_allBelow_18 rfl ?_
    refine xv_istore dX3_allBelow_19 (Nat.le_of_ble_eq_true rfl) rfl ?_
    refine s3_ab_i hG ho hs ?_ 12 0 (by omega)
    refine xv_iload dX3_allBelow_55 rfl ?_
    refine xv_iload_n dX3_allBelow_57 rfl rfl ?_
    refine xv_icmp_neN (tgt := 63) dX3_allBelow_58 rfl (by have := ls_m_lt (fun p hp => (ho p hp).2) hs 12 (Nat.le_refl _); omega) (by omega) (fun c_58 => ?_) (fun c_58 => ?_)
    · refine xv_iload dX3_allBelow_63 rfl ?_
      refine xv_istore_n dX3_allBelow_65 rfl (Nat.le_of_ble_eq_true rfl) rfl ?_
      refine xv_iinc dX3_allBelow_66 rfl (xv_inc _) (Nat.le_of_ble_eq_true rfl) rfl ?_
      refine xv_goto (tgt := 9) dX3_allBelow_69 rfl ?_
      refine xv_fg [true, true, true, true, false, false] ?_
      simp only [ls_it, c_58, if_false] at hQ
      exact ih (j + 1) (ls_m on s 12) (by omega) (ls_m_lt (fun p hp => (ho p hp).2) hs 12 (Nat.le_refl _)) hQ
    · refine xv_iload_n dX3_allBelow_61 rfl rfl ?_
      refine xv_iret dX3_allBelow_62 rfl (Nat.zero_le _) (Nat.zero_le _) ?_
      simp only [ls_it, c_58, if_true] at hQ
      exact hQ

theorem s3_allBelow {l : Launch} {D : va_G} {d : Nat} {G : xv_Gr} {I : xv_I} {J : xv_J} {Q : xv_Po} (hG : xg_ok G) {on : Nat → Nat} (ho : ∀ p, p < 12 → I 120 p = nI (on p) ∧ on p < 2 ^ 12) {x : Int32} {p : Nat} (hx : xv_ix x 12 p) (hp : p < 12) (hQ : Q (some (.int (nI (ls_it on 11 (on p))))) G I J) : xv_Ev l D d mX3_allBelow none 0 [some (.ref 2), some (.int x), none, none, none, none] [] G I J 0 0 Q := by
  refine xv_aload_n dX3_allBelow_0 rfl rfl ?_
  refine xv_getr dX3_allBelow_1 fl_X3_9 (go_2 hG) rfl (gr_2_0 hG) ?_
  refine xv_iload_n dX3_allBelow_4 rfl rfl ?_
  refine xv_iaload dX3_allBelow_5 (go_120 hG) hx ?_
  refine xv_nmI (ho p hp).1 ?_
  refine xv_istore_n dX3_allBelow_6 rfl (Nat.le_of_ble_eq_true rfl) rfl ?_
  refine xv_iconst (v := nI 1) dX3_allBelow_7 rfl ?_
  refine xv_istore_n dX3_allBelow_8 rfl (Nat.le_of_ble_eq_true rfl) rfl ?_
  exact s3_ab_l hG ho 11 1 (on p) (by omega) (ho p hp).2 hQ

theorem s3_rests {l : Launch} {D : va_G} {d : Nat} {G : xv_Gr} {I : xv_I} {J : xv_J} {Q : xv_Po} (hG : xg_ok G) {on : Nat → Nat} (ho : ∀ p, p < 12 → I 120 p = nI (on p) ∧ on p < 2 ^ 12) {x : Int32} {p q : Nat} (hx : xv_ix x 12 p) (hp : p < 12) (hq : q < 12) (hQ : Q (some (.int (xbp ((ls_it on 11 (on p)).testBit q = true)))) G I J) : xv_Ev l D (d + 1) mX3_rests none 0 [some (.ref 2), some (.int x), some (.int (nI q))] [] G I J 0 0 Q := by
  have hlt := ls_it_lt (k := 12) (fun p hp => (ho p hp).2) 11 (on p) (ho p hp).2
  refine xv_aload_n dX3_rests_0 rfl rfl ?_
  refine xv_iload_n dX3_rests_1 rfl rfl ?_
  refine xv_callV0 (As := [_]) dX3_rests_2 cl_X3_18 rfl rfl rfl rfl (go_2 hG) rfl rfl (Nat.le_of_ble_eq_true rfl) (Nat.le_of_ble_eq_true rfl) (Nat.zero_le _) (Nat.zero_le _) ?_
  refine s3_allBelow hG ho hx hp ?_
  refine xv_iload_n dX3_rests_5 rfl rfl ?_
  refine xv_ishr dX3_rests_6 ?_
  refine xv_iconst (v := 1) dX3_rests_7 rfl ?_
  refine xv_iand dX3_rests_8 ?_
  refine xv_nmI (xi_bit (by omega) (by omega)) ?_
  refine xv_if_eq (tgt := 16) dX3_rests_9 rfl (fun c_9 => ?_) (fun c_9 => ?_)
  · refine xv_iconst (v := 0) dX3_rests_16 rfl ?_
    refine xv_zret dX3_rests_17 rfl rfl (Nat.zero_le _) (Nat.zero_le _) ?_
    exact xqp_F (Q := fun v => Q (some v) G I J) hQ (by rw [xt_F c_9]; exact Bool.false_ne_true)
  · refine xv_iconst (v := 1) dX3_rests_12 rfl ?_
    refine xv_goto (tgt := 17) dX3_rests_13 rfl ?_
    refine xv_zret dX3_rests_17 rfl rfl (Nat.zero_le _) (Nat.zero_le _) ?_
    exact xqp_T (Q := fun v => Q (some v) G I J) hQ (xt_T c_9)

theorem s3_put {l : Launch} {D : va_G} {d : Nat} {G : xv_Gr} {I : xv_I} {J : xv_J} {Q : xv_Po} (hG : xg_ok G) {on : Nat → Nat} (ho : ∀ p, p < 12 → I 120 p = nI (on p) ∧ on p < 2 ^ 12) {a b : Nat} (ha : a < 12) (hb : b < 12) {f : Int32} (hQ : Q (some (.int (xbp ((on a).testBit b = true)))) G (xv_ui I 120 a (nI (@ite Nat (f = 0) (Classical.propDecidable _) (xdf (on a) (2 ^ b)) (on a ||| 2 ^ b)))) J) : xv_Ev l D d mX3_put none 0 [some (.ref 2), some (.int (nI a)), some (.int (nI b)), some (.int f), none] [] G I J 0 0 Q := by
  have hoa := ho a ha
  refine xv_aload_n dX3_put_0 rfl rfl ?_
  refine xv_getr dX3_put_1 fl_X3_9 (go_2 hG) rfl (gr_2_0 hG) ?_
  refine xv_iload_n dX3_put_4 rfl rfl ?_
  refine xv_iaload dX3_put_5 (go_120 hG) (xv_ixn (by omega) (by decide)) ?_
  refine xv_nmI hoa.1 ?_
  refine xv_iload_n dX3_put_6 rfl rfl ?_
  refine xv_ishr dX3_put_7 ?_
  refine xv_iconst (v := 1) dX3_put_8 rfl ?_
  refine xv_iand dX3_put_9 ?_
  refine xv_nmI (xi_bit (by omega) (by omega)) ?_
  refine xv_if_eq (tgt := 17) dX3_put_10 rfl (fun c_10 => ?_) (fun c_10 => ?_)
  · refine xv_iconst (v := 0) dX3_put_17 rfl ?_
    refine xv_istore dX3_put_18 (Nat.le_of_ble_eq_true rfl) rfl ?_
    refine xv_aload_n dX3_put_20 rfl rfl ?_
    refine xv_getr dX3_put_21 fl_X3_9 (go_2 hG) rfl (gr_2_0 hG) ?_
    refine xv_iload_n dX3_put_24 rfl rfl ?_
    refine xv_iload_n dX3_put_25 rfl rfl ?_
    refine xv_if_eq (tgt := 42) dX3_put_26 rfl (fun c_26 => ?_) (fun c_26 => ?_)
    · refine xv_aload_n dX3_put_42 rfl rfl ?_
      refine xv_getr dX3_put_43 fl_X3_9 (go_2 hG) rfl (gr_2_0 hG) ?_
      refine xv_iload_n dX3_put_46 rfl rfl ?_
      refine xv_iaload dX3_put_47 (go_120 hG) (xv_ixn (by omega) (by decide)) ?_
      refine xv_nmI hoa.1 ?_
      refine xv_iconst (v := 1) dX3_put_48 rfl ?_
      refine xv_iload_n dX3_put_49 rfl rfl ?_
      refine xv_ishl dX3_put_50 ?_
      refine xv_nmI (xi_one (by omega)) ?_
      refine xv_iconst (v := -1) dX3_put_51 rfl ?_
      refine xv_ixor dX3_put_52 ?_
      refine xv_iand dX3_put_53 ?_
      refine xv_nmI (xi_andn _ _) ?_
      refine xv_iastore dX3_put_54 (go_120 hG) (xv_ixn (by omega) (by decide)) ?_
      refine xv_iload dX3_put_55 rfl ?_
      refine xv_zret dX3_put_57 rfl rfl (Nat.zero_le _) (Nat.zero_le _) ?_
      rw [if_pos c_26] at hQ
      exact xqp_F (Q := fun v => Q (some v) G _ J) hQ (by rw [xt_F c_10]; exact Bool.false_ne_true)
    · refine xv_aload_n dX3_put_29 rfl rfl ?_
      refine xv_getr dX3_put_30 fl_X3_9 (go_2 hG) rfl (gr_2_0 hG) ?_
      refine xv_iload_n dX3_put_33 rfl rfl ?_
      refine xv_iaload dX3_put_34 (go_120 hG) (xv_ixn (by omega) (by decide)) ?_
      refine xv_nmI hoa.1 ?_
      refine xv_iconst (v := 1) dX3_put_35 rfl ?_
      refine xv_iload_n dX3_put_36 rfl rfl ?_
      refine xv_ishl dX3_put_37 ?_
      refine xv_nmI (xi_one (by omega)) ?_
      refine xv_ior dX3_put_38 ?_
      refine xv_nmI (xi_or _ _) ?_
      refine xv_goto (tgt := 54) dX3_put_39 rfl ?_
      refine xv_iastore dX3_put_54 (go_120 hG) (xv_ixn (by omega) (by decide)) ?_
      refine xv_iload dX3_put_55 rfl ?_
      refine xv_zret dX3_put_57 rfl rfl (Nat.zero_le _) (Nat.zero_le _) ?_
      rw [if_neg c_26] at hQ
      exact xqp_F (Q := fun v => Q (some v) G _ J) hQ (by rw [xt_F c_10]; exact Bool.false_ne_true)
  · refine xv_iconst (v := 1) dX3_put_13 rfl ?_
    refine xv_goto (tgt := 18) dX3_put_14 rfl ?_
    refine xv_istore dX3_put_18 (Nat.le_of_ble_eq_true rfl) rfl ?_
    refine xv_aload_n dX3_put_20 rfl rfl ?_
    refine xv_getr dX3_put_21 fl_X3_9 (go_2 hG) rfl (gr_2_0 hG) ?_
    refine xv_iload_n dX3_put_24 rfl rfl ?_
    refine xv_iload_n dX3_put_25 rfl rfl ?_
    refine xv_if_eq (tgt := 42) dX3_put_26 rfl (fun c_26 => ?_) (fun c_26 => ?_)
    · refine xv_aload_n dX3_put_42 rfl rfl ?_
      refine xv_getr dX3_put_43 fl_X3_9 (go_2 hG) rfl (gr_2_0 hG) ?_
      refine xv_iload_n dX3_put_46 rfl rfl ?_
      refine xv_iaload dX3_put_47 (go_120 hG) (xv_ixn (by omega) (by decide)) ?_
      refine xv_nmI hoa.1 ?_
      refine xv_iconst (v := 1) dX3_put_48 rfl ?_
      refine xv_iload_n dX3_put_49 rfl rfl ?_
      refine xv_ishl dX3_put_50 ?_
      refine xv_nmI (xi_one (by omega)) ?_
      refine xv_iconst (v := -1) dX3_put_51 rfl ?_
      refine xv_ixor dX3_put_52 ?_
      refine xv_iand dX3_put_53 ?_
      refine xv_nmI (xi_andn _ _) ?_
      refine xv_iastore dX3_put_54 (go_120 hG) (xv_ixn (by omega) (by decide)) ?_
      refine xv_iload dX3_put_55 rfl ?_
      refine xv_zret dX3_put_57 rfl rfl (Nat.zero_le _) (Nat.zero_le _) ?_
      rw [if_pos c_26] at hQ
      exact xqp_T (Q := fun v => Q (some v) G _ J) hQ (xt_T c_10)
    · refine xv_aload_n dX3_put_29 rfl rfl ?_
      refine xv_getr dX3_put_30 fl_X3_9 (go_2 hG) rfl (gr_2_0 hG) ?_
      refine xv_iload_n dX3_put_33 rfl rfl ?_
      refine xv_iaload dX3_put_34 (go_120 hG) (xv_ixn (by omega) (by decide)) ?_
      refine xv_nmI hoa.1 ?_
      refine xv_iconst (v := 1) dX3_put_35 rfl ?_
      refine xv_iload_n dX3_put_36 rfl rfl ?_
      refine xv_ishl dX3_put_37 ?_
      refine xv_nmI (xi_one (by omega)) ?_
      refine xv_ior dX3_put_38 ?_
      refine xv_nmI (xi_or _ _) ?_
      refine xv_goto (tgt := 54) dX3_put_39 rfl ?_
      refine xv_iastore dX3_put_54 (go_120 hG) (xv_ixn (by omega) (by decide)) ?_
      refine xv_iload dX3_put_55 rfl ?_
      refine xv_zret dX3_put_57 rfl rfl (Nat.zero_le _) (Nat.zero_le _) ?_
      rw [if_neg c_26] at hQ
      exact xqp_T (Q := fun v => Q (some v) G _ J) hQ (xt_T c_10)
