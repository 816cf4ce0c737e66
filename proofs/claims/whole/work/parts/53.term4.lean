/-! what a term says of a loan (class) -/
noncomputable def tm_val (I : xv_I) (J : xv_J) (b : Nat) (mo c : Int32) : Int64 := if c = 97 then J b 1 / (I b 3).toInt64 else if c = 100 then J b 1 else if c = 111 then J b 0 else if c = 109 then mo.toInt64 else if I b 4 = 0 then 0 else 1
noncomputable def cp_s (c : Int32) (s : Int32 × Int32) : Int32 × Int32 := @ite _ (tm_dig c) (Classical.propDecidable _) (s.1, s.2 * 10 + c - 48) (@ite _ (c = 32) (Classical.propDecidable _) s (c, s.2))
/-- the sign and the number from place i on, n places at most -/
noncomputable def cp_r (t : Nat → Int32) : Nat → Nat → Int32 × Int32 → Int32 × Int32
  | 0, _, s => s
  | n + 1, i, s => @ite _ (tm_end (t i)) (Classical.propDecidable _) s (cp_r t n (i + 1) (cp_s (t i) s))
def cp_v (v : Int64) (s : Int32 × Int32) : Prop := if s.1 = 60 then v < s.2.toInt64 else if s.1 = 62 then s.2.toInt64 < v else v = s.2.toInt64
theorem s7_valueOf {l : Launch} {D : va_G} {d : Nat} {G : xv_Gr} {I : xv_I} {J : xv_J} {Q : xv_Po} {b : Nat} (hb : G.1 b = some (.inl 7)) (hp : 0 < I b 3) {c mo : Int32} (hl : tm_let c) (hQ : Q (some (.long (tm_val I J b mo c))) G I J) : xv_Ev l D (d + 1) mX7_valueOf none 0 [some (.ref b), some (.int c), some (.int mo)] [] G I J 0 0 Q := by
  refine xv_iload_n dX7_valueOf_0 rfl rfl ?_
  rcases hl with rfl | rfl | rfl | rfl | rfl
  · refine xv_lookup (tgt := 44) dX7_valueOf_1 (by decide) rfl rfl ?_
    refine xv_aload_n dX7_valueOf_44 rfl rfl ?_
    refine xv_callV0 (As := []) dX7_valueOf_45 cl_X7_35 rfl rfl rfl rfl hb rfl rfl (Nat.le_of_ble_eq_true rfl) (Nat.le_of_ble_eq_true rfl) (Nat.zero_le _) (Nat.zero_le _) ?_
    refine s7_parts hb hp ?_
    refine xv_lret dX7_valueOf_48 rfl (Nat.zero_le _) (Nat.zero_le _) ?_
    have e : tm_val I J b mo 97 = J b 1 / (I b 3).toInt64 := by simp [tm_val]
    rw [e] at hQ
    exact hQ
  · refine xv_lookup (tgt := 49) dX7_valueOf_1 (by decide) rfl rfl ?_
    refine xv_aload_n dX7_valueOf_49 rfl rfl ?_
    refine xv_getj dX7_valueOf_50 fl_X7_13 hb rfl ?_
    refine xv_lret dX7_valueOf_53 rfl (Nat.zero_le _) (Nat.zero_le _) ?_
    have e : tm_val I J b mo 100 = J b 1 := by simp [tm_val]
    rw [e] at hQ
    exact hQ
  · refine xv_lookup (tgt := 54) dX7_valueOf_1 (by decide) rfl rfl ?_
    refine xv_aload_n dX7_valueOf_54 rfl rfl ?_
    refine xv_getj dX7_valueOf_55 fl_X7_7 hb rfl ?_
    refine xv_lret dX7_valueOf_58 rfl (Nat.zero_le _) (Nat.zero_le _) ?_
    have e : tm_val I J b mo 111 = J b 0 := by simp [tm_val]
    rw [e] at hQ
    exact hQ
  · refine xv_lookup (tgt := 59) dX7_valueOf_1 (by decide) rfl rfl ?_
    refine xv_iload_n dX7_valueOf_59 rfl rfl ?_
    refine xv_i2l dX7_valueOf_60 ?_
    refine xv_lret dX7_valueOf_61 rfl (Nat.zero_le _) (Nat.zero_le _) ?_
    have e : tm_val I J b mo 109 = mo.toInt64 := by simp [tm_val]
    rw [e] at hQ
    exact hQ
  · refine xv_lookup (tgt := 62) dX7_valueOf_1 (by decide) rfl rfl ?_
    refine xv_aload_n dX7_valueOf_62 rfl rfl ?_
    refine xv_geti dX7_valueOf_63 fl_X7_23 hb rfl ?_
    refine xv_if_eq (tgt := 73) dX7_valueOf_66 rfl (fun c_66 => ?_) (fun c_66 => ?_)
    · refine xv_lconst (v := 0) dX7_valueOf_73 rfl ?_
      refine xv_lret dX7_valueOf_74 rfl (Nat.zero_le _) (Nat.zero_le _) ?_
      have e : tm_val I J b mo 119 = 0 := by simp [tm_val, c_66]
      rw [e] at hQ
      exact hQ
    · refine xv_lconst (v := 1) dX7_valueOf_69 rfl ?_
      refine xv_goto (tgt := 74) dX7_valueOf_70 rfl ?_
      refine xv_lret dX7_valueOf_74 rfl (Nat.zero_le _) (Nat.zero_le _) ?_
      have e : tm_val I J b mo 119 = 1 := by simp [tm_val, c_66]
      rw [e] at hQ
      exact hQ

theorem s8_cp_l {l : Launch} {D : va_G} {d : Nat} {G : xv_Gr} {I : xv_I} {J : xv_J} {Q : xv_Po} {a : Nat} (hT : xg_tm G a) {b : Nat} (hb : G.1 b = some (.inl 7)) {sz k : Nat} (hsz : I a 1 = nI sz) (h60 : sz ≤ 60) {mo : Int32} {x : Int32} {v : Int64} {Q0 : Int32 × Int32 → Prop} (kk : ∀ s i, Q0 s → xv_Ev l D (d + 1) mX8_compares none 107 [some (.ref a), some (.int x), some (.ref b), some (.int mo), some (.long v), none, some (.int (s).1), some (.int (s).2), some (.int (nI i))] [] G I J 0 0 Q) : ∀ (n i : Nat) (s : Int32 × Int32), i + n = sz → Q0 (cp_r (I (a + 1)) n i s) → xv_Ev l D (d + 1) mX8_compares none 24 [some (.ref a), some (.int x), some (.ref b), some (.int mo), some (.long v), none, some (.int (s).1), some (.int (s).2), some (.int (nI i))] [] G I J 0 0 Q := by
  intro n
  induction n with
  | zero =>
    intro i s hi hs
    refine xv_iload dX8_compares_24 rfl ?_
    refine xv_aload_n dX8_compares_26 rfl rfl ?_
    refine xv_geti dX8_compares_27 fl_X8_9 hT.1 rfl ?_
    refine xv_nmI hsz ?_
    refine xv_icmp_geN (tgt := 107) dX8_compares_30 rfl (by omega) (by omega) (fun c_30 => ?_) (fun c_30 => absurd c_30 (by omega))
    exact kk s i hs
  | succ n ih =>
    intro i s hi hs
    refine xv_iload dX8_compares_24 rfl ?_
    refine xv_aload_n dX8_compares_26 rfl rfl ?_
    refine xv_geti dX8_compares_27 fl_X8_9 hT.1 rfl ?_
    refine xv_nmI hsz ?_
    refine xv_icmp_geN (tgt := 107) dX8_compares_30 rfl (by omega) (by omega) (fun c_30 => absurd c_30 (by omega)) (fun c_30 => ?_)
    refine xv_aload_n dX8_compares_33 rfl rfl ?_
    refine xv_getr dX8_compares_34 fl_X8_18 hT.1 rfl hT.2.1 ?_
    refine xv_iload dX8_compares_37 rfl ?_
    refine xv_baload dX8_compares_39 hT.2.2 (xv_ixn (by omega) (by decide)) ?_
    refine xv_callS0 (As := [_]) dX8_compares_40 cl_X8_94 rfl rfl rfl rfl (Nat.le_of_ble_eq_true rfl) (Nat.le_of_ble_eq_true rfl) (Nat.zero_le _) (Nat.zero_le _) ?_
    refine s8_isEnd ?_
    refine xv_if_neP (tgt := 107) dX8_compares_43 rfl (fun c_43 => ?_) (fun c_43 => ?_)
    · simp only [cp_r, if_pos c_43] at hs
      exact kk s i hs
    · refine xv_aload_n dX8_compares_46 rfl rfl ?_
      refine xv_getr dX8_compares_47 fl_X8_18 hT.1 rfl hT.2.1 ?_
      refine xv_iload dX8_compares_50 rfl ?_
      refine xv_baload dX8_compares_52 hT.2.2 (xv_ixn (by omega) (by decide)) ?_
      refine xv_callS0 (As := [_]) dX8_compares_53 cl_X8_79 rfl rfl rfl rfl (Nat.le_of_ble_eq_true rfl) (Nat.le_of_ble_eq_true rfl) (Nat.zero_le _) (Nat.zero_le _) ?_
      refine s8_isDigit ?_
      refine xv_if_eqP (tgt := 80) dX8_compares_56 rfl (fun c_56 => ?_) (fun c_56 => ?_)
      · refine xv_aload_n dX8_compares_80 rfl rfl ?_
        refine xv_getr dX8_compares_81 fl_X8_18 hT.1 rfl hT.2.1 ?_
        refine xv_iload dX8_compares_84 rfl ?_
        refine xv_baload dX8_compares_86 hT.2.2 (xv_ixn (by omega) (by decide)) ?_
        refine xv_bipush (v := 32) dX8_compares_87 rfl ?_
        refine xv_icmp_eq (tgt := 101) dX8_compares_89 rfl (fun c_89 => ?_) (fun c_89 => ?_)
        · refine xv_iinc dX8_compares_101 rfl (xv_inc _) (Nat.le_of_ble_eq_true rfl) rfl ?_
          refine xv_goto (tgt := 24) dX8_compares_104 rfl ?_
          have e : cp_s (I (a + 1) i) s = s := by rw [cp_s, if_neg c_56, if_pos c_89]
          simp only [cp_r, if_neg c_43, e] at hs
          exact ih (i + 1) _ (by omega) hs
        · refine xv_aload_n dX8_compares_92 rfl rfl ?_
          refine xv_getr dX8_compares_93 fl_X8_18 hT.1 rfl hT.2.1 ?_
          refine xv_iload dX8_compares_96 rfl ?_
          refine xv_baload dX8_compares_98 hT.2.2 (xv_ixn (by omega) (by decide)) ?_
          refine xv_istore dX8_compares_99 (Nat.le_of_ble_eq_true rfl) rfl ?_
          refine xv_iinc dX8_compares_101 rfl (xv_inc _) (Nat.le_of_ble_eq_true rfl) rfl ?_
          refine xv_goto (tgt := 24) dX8_compares_104 rfl ?_
          have e : cp_s (I (a + 1) i) s = (I (a + 1) i, s.2) := by rw [cp_s, if_neg c_56, if_neg c_89]
          simp only [cp_r, if_neg c_43, e] at hs
          exact ih (i + 1) _ (by omega) hs
      · refine xv_iload dX8_compares_59 rfl ?_
        refine xv_bipush (v := 10) dX8_compares_61 rfl ?_
        refine xv_imul dX8_compares_63 ?_
        refine xv_aload_n dX8_compares_64 rfl rfl ?_
        refine xv_getr dX8_compares_65 fl_X8_18 hT.1 rfl hT.2.1 ?_
        refine xv_iload dX8_compares_68 rfl ?_
        refine xv_baload dX8_compares_70 hT.2.2 (xv_ixn (by omega) (by decide)) ?_
        refine xv_iadd dX8_compares_71 ?_
        refine xv_bipush (v := 48) dX8_compares_72 rfl ?_
        refine xv_isub dX8_compares_74 ?_
        refine xv_istore dX8_compares_75 (Nat.le_of_ble_eq_true rfl) rfl ?_
        refine xv_goto (tgt := 101) dX8_compares_77 rfl ?_
        refine xv_iinc dX8_compares_101 rfl (xv_inc _) (Nat.le_of_ble_eq_true rfl) rfl ?_
        refine xv_goto (tgt := 24) dX8_compares_104 rfl ?_
        have e : cp_s (I (a + 1) i) s = (s.1, s.2 * 10 + I (a + 1) i - 48) := by rw [cp_s, if_pos c_56]
        simp only [cp_r, if_neg c_43, e] at hs
        exact ih (i + 1) _ (by omega) hs

theorem s8_compares {l : Launch} {D : va_G} {d : Nat} {G : xv_Gr} {I : xv_I} {J : xv_J} {Q : xv_Po} {a : Nat} (hT : xg_tm G a) {b : Nat} (hb : G.1 b = some (.inl 7)) {sz k : Nat} (hsz : I a 1 = nI sz) (h60 : sz ≤ 60) {mo : Int32} (hk : k < sz) (hp : 0 < I b 3) (hl : tm_let (I (a + 1) k)) (hQ : Q (some (.int (xbp (cp_v (tm_val I J b mo (I (a + 1) k)) (cp_r (I (a + 1)) (sz - (k + 1)) (k + 1) (0, 0)))))) G I J) : xv_Ev l D (d + 2) mX8_compares none 0 [some (.ref a), some (.int (nI k)), some (.ref b), some (.int mo), none, none, none, none, none] [] G I J 0 0 Q := by
  refine xv_aload_n dX8_compares_0 rfl rfl ?_
  refine xv_aload_n dX8_compares_1 rfl rfl ?_
  refine xv_getr dX8_compares_2 fl_X8_18 hT.1 rfl hT.2.1 ?_
  refine xv_iload_n dX8_compares_5 rfl rfl ?_
  refine xv_baload dX8_compares_6 hT.2.2 (xv_ixn (by omega) (by decide)) ?_
  refine xv_iload_n dX8_compares_7 rfl rfl ?_
  refine xv_callV0 (As := [_, _]) dX8_compares_8 cl_X8_88 rfl rfl rfl rfl hb rfl rfl (Nat.le_of_ble_eq_true rfl) (Nat.le_of_ble_eq_true rfl) (Nat.zero_le _) (Nat.zero_le _) ?_
  refine s7_valueOf hb hp hl ?_
  refine xv_lstore dX8_compares_11 (Nat.le_of_ble_eq_true rfl) rfl ?_
  refine xv_iconst (v := 0) dX8_compares_13 rfl ?_
  refine xv_istore dX8_compares_14 (Nat.le_of_ble_eq_true rfl) rfl ?_
  refine xv_iconst (v := 0) dX8_compares_16 rfl ?_
  refine xv_istore dX8_compares_17 (Nat.le_of_ble_eq_true rfl) rfl ?_
  refine xv_iload_n dX8_compares_19 rfl rfl ?_
  refine xv_iconst (v := 1) dX8_compares_20 rfl ?_
  refine xv_iadd dX8_compares_21 ?_
  refine xv_nmI (nI_1 k) ?_
  refine xv_istore dX8_compares_22 (Nat.le_of_ble_eq_true rfl) rfl ?_
  refine s8_cp_l (d := d + 1) (k := k) hT hb hsz h60 (Q0 := fun s => s = cp_r (I (a + 1)) (sz - (k + 1)) (k + 1) (0, 0)) (fun s i hs => ?_) (sz - (k + 1)) (k + 1) (0, 0) (by omega) rfl
  refine xv_iload dX8_compares_107 rfl ?_
  refine xv_bipush (v := 60) dX8_compares_109 rfl ?_
  refine xv_icmp_ne (tgt := 129) dX8_compares_111 rfl (fun c_111 => ?_) (fun c_111 => ?_)
  · refine xv_iload dX8_compares_129 rfl ?_
    refine xv_bipush (v := 62) dX8_compares_131 rfl ?_
    refine xv_icmp_ne (tgt := 153) dX8_compares_133 rfl (fun c_133 => ?_) (fun c_133 => ?_)
    · refine xv_lload dX8_compares_153 rfl ?_
      refine xv_iload dX8_compares_155 rfl ?_
      refine xv_i2l dX8_compares_157 ?_
      refine xv_lcmp dX8_compares_158 ?_
      refine xv_if_ne (tgt := 166) dX8_compares_159 rfl (fun c_159 => ?_) (fun c_159 => ?_)
      · refine xv_iconst (v := 0) dX8_compares_166 rfl ?_
        refine xv_zret dX8_compares_167 rfl rfl (Nat.zero_le _) (Nat.zero_le _) ?_
        exact xqp_F (Q := fun v => Q (some v) G I J) hQ (by
          rw [← hs, cp_v, if_neg c_111, if_neg c_133]
          exact fun h => c_159 ((xn_cmp_eq _ _).mpr h))
      · refine xv_iconst (v := 1) dX8_compares_162 rfl ?_
        refine xv_goto (tgt := 167) dX8_compares_163 rfl ?_
        refine xv_zret dX8_compares_167 rfl rfl (Nat.zero_le _) (Nat.zero_le _) ?_
        exact xqp_T (Q := fun v => Q (some v) G I J) hQ (by
          rw [← hs, cp_v, if_neg c_111, if_neg c_133]
          exact (xn_cmp_eq _ _).mp c_159)
    · refine xv_lload dX8_compares_136 rfl ?_
      refine xv_iload dX8_compares_138 rfl ?_
      refine xv_i2l dX8_compares_140 ?_
      refine xv_lcmp dX8_compares_141 ?_
      refine xv_if_le (tgt := 149) dX8_compares_142 rfl (fun c_142 => ?_) (fun c_142 => ?_)
      · refine xv_iconst (v := 0) dX8_compares_149 rfl ?_
        refine xv_goto (tgt := 167) dX8_compares_150 rfl ?_
        refine xv_zret dX8_compares_167 rfl rfl (Nat.zero_le _) (Nat.zero_le _) ?_
        exact xqp_F (Q := fun v => Q (some v) G I J) hQ (by
          rw [← hs, cp_v, if_neg c_111, if_pos c_133]
          exact fun h => absurd ((xn_cmp_gt _ _).mpr h) (by simp only [xn_lt, xn_le] at *; omega))
      · refine xv_iconst (v := 1) dX8_compares_145 rfl ?_
        refine xv_goto (tgt := 167) dX8_compares_146 rfl ?_
        refine xv_zret dX8_compares_167 rfl rfl (Nat.zero_le _) (Nat.zero_le _) ?_
        exact xqp_T (Q := fun v => Q (some v) G I J) hQ (by
          rw [← hs, cp_v, if_neg c_111, if_pos c_133]
          exact (xn_cmp_gt _ _).mp (by simp only [xn_lt, xn_le] at *; omega))
  · refine xv_lload dX8_compares_114 rfl ?_
    refine xv_iload dX8_compares_116 rfl ?_
    refine xv_i2l dX8_compares_118 ?_
    refine xv_lcmp dX8_compares_119 ?_
    refine xv_if_ge (tgt := 127) dX8_compares_120 rfl (fun c_120 => ?_) (fun c_120 => ?_)
    · refine xv_iconst (v := 0) dX8_compares_127 rfl ?_
      refine xv_zret dX8_compares_128 rfl rfl (Nat.zero_le _) (Nat.zero_le _) ?_
      exact xqp_F (Q := fun v => Q (some v) G I J) hQ (by
        rw [← hs, cp_v, if_pos c_111]
        exact fun h => absurd ((xn_cmp_lt _ _).mpr h) (by simp only [xn_lt, xn_le] at *; omega))
    · refine xv_iconst (v := 1) dX8_compares_123 rfl ?_
      refine xv_goto (tgt := 128) dX8_compares_124 rfl ?_
      refine xv_zret dX8_compares_128 rfl rfl (Nat.zero_le _) (Nat.zero_le _) ?_
      exact xqp_T (Q := fun v => Q (some v) G I J) hQ (by
        rw [← hs, cp_v, if_pos c_111]
        exact (xn_cmp_lt _ _).mp (by simp only [xn_lt, xn_le] at *; omega))

noncomputable def vs_s (t : Nat → Int32) (val : Int32 → Int64) (sz i : Nat) (s : Nat × Nat × Nat × Nat) : Nat × Nat × Nat × Nat :=
  @ite _ (t i = 33) (Classical.propDecidable _) (vd_neg s) (@ite _ (t i = 124) (Classical.propDecidable _) (vd_all s) (@ite _ (t i = 40) (Classical.propDecidable _) (vd_ent s) (@ite _ (t i = 41) (Classical.propDecidable _) (vd_lea s) (@ite _ (tm_let (t i)) (Classical.propDecidable _) (vd_tak (cp_v (val (t i)) (cp_r t (sz - (i + 1)) (i + 1) (0, 0))) s) s))))
noncomputable def vs_st (t : Nat → Int32) (val : Int32 → Int64) (sz : Nat) : Nat → Nat × Nat × Nat × Nat
  | 0 => (0, 1, 0, 0)
  | i + 1 => vs_s t val sz i (vs_st t val sz i)
theorem vd_Ir {I : xv_I} {s : Nat × Nat × Nat × Nat} {b : Nat} (h : b ≠ 176) : vd_I I s b = I b := xv_ui_ne h
theorem vd_Jr {J : xv_J} {s : Nat × Nat × Nat × Nat} {b : Nat} (h : b ≠ 176) : vd_J J s b = J b := by rw [vd_J, xv_uj_ne h, xv_uj_ne h, xv_uj_ne h]
theorem tm_valv {I : xv_I} {J : xv_J} {s : Nat × Nat × Nat × Nat} {b : Nat} (h : b ≠ 176) (mo c : Int32) : tm_val (vd_I I s) (vd_J J s) b mo c = tm_val I J b mo c := by
  rw [tm_val, vd_Ir h, vd_Jr h]
  rfl
theorem s8_so_l {l : Launch} {D : va_G} {d : Nat} {G : xv_Gr} {I : xv_I} {J : xv_J} {Q : xv_Po} (hG : xg_ok G) {a : Nat} (hT : xg_tm G a) {b : Nat} (hb : G.1 b = some (.inl 7)) (hp : 0 < I b 3) (hb6 : b ≠ 176) (ha6 : a ≠ 176) (ha7 : a + 1 ≠ 176) {sz : Nat} (hsz : I a 1 = nI sz) (h60 : sz ≤ 60) {mo : Int32} (hok : ∀ i, i ≤ sz → vd_ok (vs_st (I (a + 1)) (tm_val I J b mo) sz i)) (hpo : ∀ i, i < sz → I (a + 1) i = 41 → 0 < (vs_st (I (a + 1)) (tm_val I J b mo) sz i).2.2.2) (hQ : Q (some (.int (xbp (vd_is (vs_st (I (a + 1)) (tm_val I J b mo) sz sz))))) G (vd_I I (vs_st (I (a + 1)) (tm_val I J b mo) sz sz)) (vd_J J (vs_st (I (a + 1)) (tm_val I J b mo) sz sz))) : ∀ (n i : Nat), i + n = sz → xv_Ev l D (d + 3) mX8_saysOf none 7 [some (.ref a), some (.ref b), some (.int mo), some (.ref 176), some (.int (nI i)), none] [] G (vd_I I (vs_st (I (a + 1)) (tm_val I J b mo) sz i)) (vd_J J (vs_st (I (a + 1)) (tm_val I J b mo) sz i)) 0 0 Q := by
  intro n
  induction n with
  | zero =>
    intro i hi
    refine xv_iload dX8_saysOf_7 rfl ?_
    refine xv_aload_n dX8_saysOf_9 rfl rfl ?_
    refine xv_geti dX8_saysOf_10 fl_X8_9 hT.1 rfl ?_
    refine xv_nmI ((congrFun (vd_Ir ha6) 1).trans hsz) ?_
    refine xv_icmp_geN (tgt := 107) dX8_saysOf_13 rfl (by omega) (by omega) (fun c_13 => ?_) (fun c_13 => absurd c_13 (by omega))
    have e : sz = i := by omega
    subst e
    refine xv_aload_n dX8_saysOf_107 rfl rfl ?_
    refine xv_callV0 (As := []) dX8_saysOf_108 cl_X8_66 rfl rfl rfl rfl (go_176 hG) rfl rfl (Nat.le_of_ble_eq_true rfl) (Nat.le_of_ble_eq_true rfl) (Nat.zero_le _) (Nat.zero_le _) ?_
    refine s9_isTrue hG (hok sz (Nat.le_refl sz)) ?_
    refine xv_zretP dX8_saysOf_111 rfl (Nat.zero_le _) (Nat.zero_le _) ?_
    exact hQ
  | succ n ih =>
    intro i hi
    have hoi := hok i (by omega)
    refine xv_iload dX8_saysOf_7 rfl ?_
    refine xv_aload_n dX8_saysOf_9 rfl rfl ?_
    refine xv_geti dX8_saysOf_10 fl_X8_9 hT.1 rfl ?_
    refine xv_nmI ((congrFun (vd_Ir ha6) 1).trans hsz) ?_
    refine xv_icmp_geN (tgt := 107) dX8_saysOf_13 rfl (by omega) (by omega) (fun c_13 => absurd c_13 (by omega)) (fun c_13 => ?_)
    refine xv_aload_n dX8_saysOf_16 rfl rfl ?_
    refine xv_getr dX8_saysOf_17 fl_X8_18 hT.1 rfl hT.2.1 ?_
    refine xv_iload dX8_saysOf_20 rfl ?_
    refine xv_baload dX8_saysOf_22 hT.2.2 (xv_ixn (by omega) (by decide)) ?_
    refine xv_nmI ((congrFun (vd_Ir ha7) i)) ?_
    refine xv_istore dX8_saysOf_23 (Nat.le_of_ble_eq_true rfl) rfl ?_
    refine xv_iload dX8_saysOf_25 rfl ?_
    refine xv_bipush (v := 33) dX8_saysOf_27 rfl ?_
    refine xv_icmp_ne (tgt := 39) dX8_saysOf_29 rfl (fun c_29 => ?_) (fun c_29 => ?_)
    · refine xv_iload dX8_saysOf_39 rfl ?_
      refine xv_bipush (v := 124) dX8_saysOf_41 rfl ?_
      refine xv_icmp_ne (tgt := 53) dX8_saysOf_43 rfl (fun c_43 => ?_) (fun c_43 => ?_)
      · refine xv_iload dX8_saysOf_53 rfl ?_
        refine xv_bipush (v := 40) dX8_saysOf_55 rfl ?_
        refine xv_icmp_ne (tgt := 67) dX8_saysOf_57 rfl (fun c_57 => ?_) (fun c_57 => ?_)
        · refine xv_iload dX8_saysOf_67 rfl ?_
          refine xv_bipush (v := 41) dX8_saysOf_69 rfl ?_
          refine xv_icmp_ne (tgt := 81) dX8_saysOf_71 rfl (fun c_71 => ?_) (fun c_71 => ?_)
          · refine xv_iload dX8_saysOf_81 rfl ?_
            refine xv_callS0 (As := [_]) dX8_saysOf_83 cl_X8_54 rfl rfl rfl rfl (Nat.le_of_ble_eq_true rfl) (Nat.le_of_ble_eq_true rfl) (Nat.zero_le _) (Nat.zero_le _) ?_
            refine s8_isLetter ?_
            refine xv_if_eqP (tgt := 101) dX8_saysOf_86 rfl (fun c_86 => ?_) (fun c_86 => ?_)
            · refine xv_iinc dX8_saysOf_101 rfl (xv_inc _) (Nat.le_of_ble_eq_true rfl) rfl ?_
              refine xv_goto (tgt := 7) dX8_saysOf_104 rfl ?_
              have ih2 := ih (i + 1) (by omega)
              have e : (vs_st (I (a + 1)) (tm_val I J b mo) sz (i + 1)) = vs_s (I (a + 1)) (tm_val I J b mo) sz i (vs_st (I (a + 1)) (tm_val I J b mo) sz i) := rfl
              rw [e] at ih2
              simp only [vs_s, if_neg c_29, if_neg c_43, if_neg c_57, if_neg c_71, if_neg c_86] at ih2
              exact xv_fg [true, true, true, true, true, false] ih2
            · refine xv_aload_n dX8_saysOf_89 rfl rfl ?_
              refine xv_aload_n dX8_saysOf_90 rfl rfl ?_
              refine xv_iload dX8_saysOf_91 rfl ?_
              refine xv_aload_n dX8_saysOf_93 rfl rfl ?_
              refine xv_iload_n dX8_saysOf_94 rfl rfl ?_
              refine xv_callV0 (As := [_, _, _]) dX8_saysOf_95 cl_X8_58 rfl rfl rfl rfl hT.1 rfl rfl (Nat.le_of_ble_eq_true rfl) (Nat.le_of_ble_eq_true rfl) (Nat.zero_le _) (Nat.zero_le _) ?_
              refine s8_compares hT (I := vd_I I (vs_st (I (a + 1)) (tm_val I J b mo) sz i)) (J := vd_J J (vs_st (I (a + 1)) (tm_val I J b mo) sz i)) hb ((congrFun (vd_Ir ha6) 1).trans hsz) h60 c_13 (by rw [vd_Ir hb6]; exact hp) (by rw [vd_Ir ha7]; exact c_86) ?_
              refine xv_nmI (y := xbp (cp_v (tm_val I J b mo (I (a + 1) i)) (cp_r (I (a + 1)) (sz - (i + 1)) (i + 1) (0, 0)))) (by rw [vd_Ir ha7, tm_valv hb6]) ?_
              refine xv_callV0 (As := [_]) dX8_saysOf_98 cl_X8_62 rfl rfl rfl rfl (go_176 hG) rfl rfl (Nat.le_of_ble_eq_true rfl) (Nat.le_of_ble_eq_true rfl) (Nat.zero_le _) (Nat.zero_le _) ?_
              refine s9_take hG hoi ?_
              refine xv_iinc dX8_saysOf_101 rfl (xv_inc _) (Nat.le_of_ble_eq_true rfl) rfl ?_
              refine xv_goto (tgt := 7) dX8_saysOf_104 rfl ?_
              have ih2 := ih (i + 1) (by omega)
              have e : (vs_st (I (a + 1)) (tm_val I J b mo) sz (i + 1)) = vs_s (I (a + 1)) (tm_val I J b mo) sz i (vs_st (I (a + 1)) (tm_val I J b mo) sz i) := rfl
              rw [e] at ih2
              simp only [vs_s, if_neg c_29, if_neg c_43, if_neg c_57, if_neg c_71, if_pos c_86] at ih2
              exact xv_fg [true, true, true, true, true, false] ih2
          · refine xv_aload_n dX8_saysOf_74 rfl rfl ?_
            refine xv_callV0 (As := []) dX8_saysOf_75 cl_X8_51 rfl rfl rfl rfl (go_176 hG) rfl rfl (Nat.le_of_ble_eq_true rfl) (Nat.le_of_ble_eq_true rfl) (Nat.zero_le _) (Nat.zero_le _) ?_
            refine s9_leave hG hoi (hpo i c_13 c_71) ?_
            refine xv_goto (tgt := 101) dX8_saysOf_78 rfl ?_
            refine xv_iinc dX8_saysOf_101 rfl (xv_inc _) (Nat.le_of_ble_eq_true rfl) rfl ?_
            refine xv_goto (tgt := 7) dX8_saysOf_104 rfl ?_
            have ih2 := ih (i + 1) (by omega)
            have e : (vs_st (I (a + 1)) (tm_val I J b mo) sz (i + 1)) = vs_s (I (a + 1)) (tm_val I J b mo) sz i (vs_st (I (a + 1)) (tm_val I J b mo) sz i) := rfl
            rw [e] at ih2
            simp only [vs_s, if_neg c_29, if_neg c_43, if_neg c_57, if_pos c_71] at ih2
            exact xv_fg [true, true, true, true, true, false] ih2
        · refine xv_aload_n dX8_saysOf_60 rfl rfl ?_
          refine xv_callV0 (As := []) dX8_saysOf_61 cl_X8_48 rfl rfl rfl rfl (go_176 hG) rfl rfl (Nat.le_of_ble_eq_true rfl) (Nat.le_of_ble_eq_true rfl) (Nat.zero_le _) (Nat.zero_le _) ?_
          refine s9_enter hG hoi ?_
          refine xv_goto (tgt := 101) dX8_saysOf_64 rfl ?_
          refine xv_iinc dX8_saysOf_101 rfl (xv_inc _) (Nat.le_of_ble_eq_true rfl) rfl ?_
          refine xv_goto (tgt := 7) dX8_saysOf_104 rfl ?_
          have ih2 := ih (i + 1) (by omega)
          have e : (vs_st (I (a + 1)) (tm_val I J b mo) sz (i + 1)) = vs_s (I (a + 1)) (tm_val I J b mo) sz i (vs_st (I (a + 1)) (tm_val I J b mo) sz i) := rfl
          rw [e] at ih2
          simp only [vs_s, if_neg c_29, if_neg c_43, if_pos c_57] at ih2
          exact xv_fg [true, true, true, true, true, false] ih2
      · refine xv_aload_n dX8_saysOf_46 rfl rfl ?_
        refine xv_callV0 (As := []) dX8_saysOf_47 cl_X8_45 rfl rfl rfl rfl (go_176 hG) rfl rfl (Nat.le_of_ble_eq_true rfl) (Nat.le_of_ble_eq_true rfl) (Nat.zero_le _) (Nat.zero_le _) ?_
        refine s9_beginAll hG hoi ?_
        refine xv_goto (tgt := 101) dX8_saysOf_50 rfl ?_
        refine xv_iinc dX8_saysOf_101 rfl (xv_inc _) (Nat.le_of_ble_eq_true rfl) rfl ?_
        refine xv_goto (tgt := 7) dX8_saysOf_104 rfl ?_
        have ih2 := ih (i + 1) (by omega)
        have e : (vs_st (I (a + 1)) (tm_val I J b mo) sz (i + 1)) = vs_s (I (a + 1)) (tm_val I J b mo) sz i (vs_st (I (a + 1)) (tm_val I J b mo) sz i) := rfl
        rw [e] at ih2
        simp only [vs_s, if_neg c_29, if_pos c_43] at ih2
        exact xv_fg [true, true, true, true, true, false] ih2
    · refine xv_aload_n dX8_saysOf_32 rfl rfl ?_
      refine xv_callV0 (As := []) dX8_saysOf_33 cl_X8_42 rfl rfl rfl rfl (go_176 hG) rfl rfl (Nat.le_of_ble_eq_true rfl) (Nat.le_of_ble_eq_true rfl) (Nat.zero_le _) (Nat.zero_le _) ?_
      refine s9_negate hG hoi ?_
      refine xv_goto (tgt := 101) dX8_saysOf_36 rfl ?_
      refine xv_iinc dX8_saysOf_101 rfl (xv_inc _) (Nat.le_of_ble_eq_true rfl) rfl ?_
      refine xv_goto (tgt := 7) dX8_saysOf_104 rfl ?_
      have ih2 := ih (i + 1) (by omega)
      have e : (vs_st (I (a + 1)) (tm_val I J b mo) sz (i + 1)) = vs_s (I (a + 1)) (tm_val I J b mo) sz i (vs_st (I (a + 1)) (tm_val I J b mo) sz i) := rfl
      rw [e] at ih2
      simp only [vs_s, if_pos c_29] at ih2
      exact xv_fg [true, true, true, true, true, false] ih2

theorem s8_saysOf {l : Launch} {D : va_G} {d : Nat} {G : xv_Gr} {I : xv_I} {J : xv_J} {Q : xv_Po} (hG : xg_ok G) {a : Nat} (hT : xg_tm G a) {b : Nat} (hb : G.1 b = some (.inl 7)) (hp : 0 < I b 3) (hb6 : b ≠ 176) (ha6 : a ≠ 176) (ha7 : a + 1 ≠ 176) {sz : Nat} (hsz : I a 1 = nI sz) (h60 : sz ≤ 60) {mo : Int32} (hok : ∀ i, i ≤ sz → vd_ok (vs_st (I (a + 1)) (tm_val I J b mo) sz i)) (hpo : ∀ i, i < sz → I (a + 1) i = 41 → 0 < (vs_st (I (a + 1)) (tm_val I J b mo) sz i).2.2.2) (hQ : Q (some (.int (xbp (vd_is (vs_st (I (a + 1)) (tm_val I J b mo) sz sz))))) G (vd_I I (vs_st (I (a + 1)) (tm_val I J b mo) sz sz)) (vd_J J (vs_st (I (a + 1)) (tm_val I J b mo) sz sz))) : xv_Ev l D (d + 3) mX8_saysOf none 0 [some (.ref a), some (.ref b), some (.int mo), some (.ref 176), none, none] [] G I J 0 0 Q := by
  refine xv_aload_n dX8_saysOf_0 rfl rfl ?_
  refine xv_callV0 (As := []) dX8_saysOf_1 cl_X8_37 rfl rfl rfl rfl (go_176 hG) rfl rfl (Nat.le_of_ble_eq_true rfl) (Nat.le_of_ble_eq_true rfl) (Nat.zero_le _) (Nat.zero_le _) ?_
  refine s9_begin hG ?_
  refine xv_iconst (v := 0) dX8_saysOf_4 rfl ?_
  refine xv_istore dX8_saysOf_5 (Nat.le_of_ble_eq_true rfl) rfl ?_
  exact s8_so_l hG hT hb hp hb6 ha6 ha7 hsz h60 hok hpo hQ sz 0 (by omega)
