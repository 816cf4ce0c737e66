/-! terms (model): term, feed, fault, force -/
theorem s11_isTerm {l : Launch} {D : va_G} {d : Nat} {G : xv_Gr} {I : xv_I} {J : xv_J} {Q : xv_Po} (hG : xg_ok G) {nt : Nat} (hnt : I 40 39 = nI nt) (ht4 : nt ≤ 4) {x : Int32} (hQ : Q (some (.int (xb (decide (0 ≤ x ∧ x < nI nt))))) G I J) : xv_Ev l D (d + 1) mX11_isTerm none 0 [some (.ref 40), some (.int x)] [] G I J 0 0 Q := by
  refine xv_iload_n dX11_isTerm_0 rfl rfl ?_
  refine xv_i2l dX11_isTerm_1 ?_
  refine xv_lconst (v := 0) dX11_isTerm_2 rfl ?_
  refine xv_aload_n dX11_isTerm_3 rfl rfl ?_
  refine xv_geti dX11_isTerm_4 fl_X11_276 (go_40 hG) rfl ?_
  refine xv_nmI hnt ?_
  refine xv_iconst (v := 1) dX11_isTerm_7 rfl ?_
  refine xv_isub dX11_isTerm_8 ?_
  refine xv_i2l dX11_isTerm_9 ?_
  refine xv_callS0 (As := [_, _, _]) dX11_isTerm_10 cl_X11_126 rfl rfl rfl rfl (Nat.le_of_ble_eq_true rfl) (Nat.le_of_ble_eq_true rfl) (Nat.zero_le _) (Nat.zero_le _) ?_
  have e : (decide ((0 : Int32) ≤ x ∧ x ≤ nI nt - 1)) = decide (0 ≤ x ∧ x < nI nt) := by
    apply decide_eq_decide.mpr
    have h1 : (nI nt - 1).toInt = (nt : Int) - 1 := pk_sub_toInt (b := 1) (by omega) (by omega)
    have h2 : (nI nt).toInt = nt := nI_toInt (by omega)
    simp only [xn_le, xn_lt, h1, h2]
    omega
  rw [← e] at hQ
  refine s11_in (a := 0) (b := nI nt - 1) rfl rfl ?_
  refine xv_zretB dX11_isTerm_13 rfl (Nat.zero_le _) (Nat.zero_le _) ?_
  exact hQ

theorem s11_term {l : Launch} {D : va_G} {d : Nat} {G : xv_Gr} {I : xv_I} {J : xv_J} {Q : xv_Po} (hG : xg_ok G) {nt : Nat} (hnt : I 40 39 = nI nt) (ht4 : nt ≤ 4) {x : Int32} (h1 : ¬ (0 ≤ x ∧ x ≤ 599) → Q (some (.int (-900002))) G I J) (h2 : (0 ≤ x ∧ x ≤ 599) → nt = 4 → Q (some (.int (-900004))) G I J) (h3 : (0 ≤ x ∧ x ≤ 599) → nt < 4 → Q (some (.int (nI nt))) G (xv_ui (xv_ui I 90 nt x) 40 39 (nI (nt + 1))) J) : xv_Ev l D (d + 1) mX11_term none 0 [some (.ref 40), some (.int x)] [] G I J 0 0 Q := by
  refine xv_iload_n dX11_term_0 rfl rfl ?_
  refine xv_i2l dX11_term_1 ?_
  refine xv_lconst (v := 0) dX11_term_2 rfl ?_
  refine xv_ldc2 dX11_term_3 ld_X11_279 ?_
  refine xv_callS0 (As := [_, _, _]) dX11_term_6 cl_X11_126 rfl rfl rfl rfl (Nat.le_of_ble_eq_true rfl) (Nat.le_of_ble_eq_true rfl) (Nat.zero_le _) (Nat.zero_le _) ?_
  refine s11_in (a := 0) (b := 599) rfl rfl ?_
  refine xv_if_neD (tgt := 15) dX11_term_9 rfl (fun c_9 => ?_) (fun c_9 => ?_)
  · refine xv_aload_n dX11_term_15 rfl rfl ?_
    refine xv_geti dX11_term_16 fl_X11_276 (go_40 hG) rfl ?_
    refine xv_nmI hnt ?_
    refine xv_iconst (v := nI 4) dX11_term_19 rfl ?_
    refine xv_icmp_neN (tgt := 26) dX11_term_20 rfl (by omega) (by omega) (fun c_20 => ?_) (fun c_20 => ?_)
    · refine xv_aload_n dX11_term_26 rfl rfl ?_
      refine xv_getr dX11_term_27 fl_X11_106 (go_40 hG) rfl (gr_40_40 hG) ?_
      refine xv_aload_n dX11_term_30 rfl rfl ?_
      refine xv_geti dX11_term_31 fl_X11_276 (go_40 hG) rfl ?_
      refine xv_nmI hnt ?_
      refine xv_iload_n dX11_term_34 rfl rfl ?_
      refine xv_iastore dX11_term_35 (go_90 hG) (xv_ixn (by omega) (by decide)) ?_
      refine xv_aload_n dX11_term_36 rfl rfl ?_
      refine xv_dup dX11_term_37 rfl ?_
      refine xv_geti dX11_term_38 fl_X11_276 (go_40 hG) rfl ?_
      refine xv_nmI hnt ?_
      refine xv_iconst (v := nI 1) dX11_term_41 rfl ?_
      refine xv_iadd dX11_term_42 ?_
      refine xv_nmI (nI_add _ _) ?_
      refine xv_puti dX11_term_43 fl_X11_276 (go_40 hG) rfl rfl rfl ?_
      refine xv_aload_n dX11_term_46 rfl rfl ?_
      refine xv_geti dX11_term_47 fl_X11_276 (go_40 hG) rfl ?_
      refine xv_nmI xv_ui_s ?_
      refine xv_iconst (v := nI 1) dX11_term_50 rfl ?_
      refine xv_isub dX11_term_51 ?_
      refine xv_nmI (pk_sub (by omega)) ?_
      refine xv_iret dX11_term_52 rfl (Nat.zero_le _) (Nat.zero_le _) ?_
      exact h3 c_9 (by omega)
    · refine xv_ldc dX11_term_23 ld_X11_138 ?_
      refine xv_iret dX11_term_25 rfl (Nat.zero_le _) (Nat.zero_le _) ?_
      exact h2 c_9 (by omega)
  · refine xv_ldc dX11_term_12 ld_X11_130 ?_
    refine xv_iret dX11_term_14 rfl (Nat.zero_le _) (Nat.zero_le _) ?_
    exact h1 c_9

def mb_ (x : Int64) (k : Nat) : Int64 := (x >>> ((nI (8 * k)).toInt64 &&& 63)) &&& 255
noncomputable def mb_n (x : Int64) : Nat := xfst (fun k => mb_ x k = 0) (fun k => k) 8 8 0
def mb_c (I : xv_I) (s : Nat) (x : Int64) (i : Nat) : xv_I := fun c k => if c = 92 ∧ s ≤ k ∧ k < s + i then (mb_ x (k - s)).toInt32 else I c k
theorem mb_put {I : xv_I} {s i : Nat} {x : Int64} : xv_ui (mb_c I s x i) 92 (s + i) (mb_ x i).toInt32 = mb_c I s x (i + 1) := by
  funext c k
  simp only [xv_ui_ap, mb_c]
  by_cases h : c = 92
  · by_cases h2 : k = s + i
    · subst h2
      have e : s + i - s = i := by omega
      simp only [h, if_true, true_and, e]
      rw [if_pos (by omega)]
    · simp only [h, if_true, h2, if_false, true_and]
      by_cases h3 : s ≤ k ∧ k < s + i
      · rw [if_pos h3, if_pos (by omega)]
      · rw [if_neg h3, if_neg (by omega)]
  · simp [h]
theorem mb_0 {I : xv_I} {s : Nat} {x : Int64} : mb_c I s x 0 = I := by
  funext c k
  simp only [mb_c]
  rw [if_neg (by omega)]
theorem mb_a {I : xv_I} {s c : Nat} {x : Int64} (h : c ≠ 92) (i : Nat) : mb_c I s x i c = I c := by
  funext k
  simp [mb_c, h]
theorem s11_fd_c {l : Launch} {D : va_G} {d : Nat} {G : xv_Gr} {I : xv_I} {J : xv_J} {Q : xv_Po} {t : Nat} {y : Int64} (kk : xv_Ev l D (d + 2) mX11_feed none 43 [some (.ref 40), some (.int (nI t)), some (.long y), none, some (.int (nI (mb_n y))), none] [] G I J 0 0 Q) : ∀ (n i : Nat), i + n = 8 → xfst (fun k => mb_ y k = 0) (fun k => k) 8 n i = mb_n y → xv_Ev l D (d + 2) mX11_feed none 14 [some (.ref 40), some (.int (nI t)), some (.long y), none, some (.int (nI i)), none] [] G I J 0 0 Q := by
  intro n
  induction n with
  | zero =>
    intro i hi hx
    refine xv_iload dX11_feed_14 rfl ?_
    refine xv_bipush (v := nI 8) dX11_feed_16 rfl ?_
    refine xv_icmp_geN (tgt := 43) dX11_feed_18 rfl (by omega) (by omega) (fun c_18 => ?_) (fun c_18 => absurd c_18 (by omega))
    have e : i = 8 := by omega
    subst e
    rw [xfst_0] at hx
    rw [← hx] at kk
    exact kk
  | succ n ih =>
    intro i hi hx
    refine xv_iload dX11_feed_14 rfl ?_
    refine xv_bipush (v := nI 8) dX11_feed_16 rfl ?_
    refine xv_icmp_geN (tgt := 43) dX11_feed_18 rfl (by omega) (by omega) (fun c_18 => absurd c_18 (by omega)) (fun c_18 => ?_)
    refine xv_lload_n dX11_feed_21 rfl rfl ?_
    refine xv_bipush (v := nI 8) dX11_feed_22 rfl ?_
    refine xv_iload dX11_feed_24 rfl ?_
    refine xv_imul dX11_feed_26 ?_
    refine xv_nmI (pk_mul _ _) ?_
    refine xv_lshr dX11_feed_27 ?_
    refine xv_ldc2 dX11_feed_28 ld_X11_284 ?_
    refine xv_land dX11_feed_31 ?_
    refine xv_lconst (v := 0) dX11_feed_32 rfl ?_
    refine xv_lcmp dX11_feed_33 ?_
    refine xv_if_eq (tgt := 43) dX11_feed_34 rfl (fun c_34 => ?_) (fun c_34 => ?_)
    · have hz : mb_ y i = 0 := (xn_cmp_eq _ _).mp c_34
      rw [xfst_y (P := fun k => mb_ y k = 0) hz] at hx
      rw [← hx] at kk
      exact kk
    · refine xv_iinc dX11_feed_37 rfl (xv_inc _) (Nat.le_of_ble_eq_true rfl) rfl ?_
      refine xv_goto (tgt := 14) dX11_feed_40 rfl ?_
      have hz : ¬ mb_ y i = 0 := fun h => c_34 ((xn_cmp_eq _ _).mpr h)
      rw [xfst_n (P := fun k => mb_ y k = 0) hz] at hx
      exact ih (i + 1) (by omega) hx

theorem s11_fd_d {l : Launch} {D : va_G} {d : Nat} {G : xv_Gr} {I : xv_I} {J : xv_J} {Q : xv_Po} (hG : xg_ok G) {t n mn : Nat} {y : Int64} (ht : t < 4) (hln : I 91 t = nI n) (hmn : n + mn ≤ 60) (kk : xv_Ev l D (d + 2) mX11_feed none 107 [some (.ref 40), some (.int (nI t)), some (.long y), none, some (.int (nI mn)), some (.int (nI mn))] [] G (mb_c I (60 * t + n) y mn) J 0 0 Q) : ∀ (k i : Nat), i + k = mn → xv_Ev l D (d + 2) mX11_feed none 63 [some (.ref 40), some (.int (nI t)), some (.long y), none, some (.int (nI mn)), some (.int (nI i))] [] G (mb_c I (60 * t + n) y i) J 0 0 Q := by
  intro k
  induction k with
  | zero =>
    intro i hi
    refine xv_iload dX11_feed_63 rfl ?_
    refine xv_iload dX11_feed_65 rfl ?_
    refine xv_icmp_geN (tgt := 107) dX11_feed_67 rfl (by omega) (by omega) (fun c_67 => ?_) (fun c_67 => absurd c_67 (by omega))
    have e : i = mn := by omega
    subst e
    exact kk
  | succ k ih =>
    intro i hi
    refine xv_iload dX11_feed_63 rfl ?_
    refine xv_iload dX11_feed_65 rfl ?_
    refine xv_icmp_geN (tgt := 107) dX11_feed_67 rfl (by omega) (by omega) (fun c_67 => absurd c_67 (by omega)) (fun c_67 => ?_)
    refine xv_aload_n dX11_feed_70 rfl rfl ?_
    refine xv_getr dX11_feed_71 fl_X11_112 (go_40 hG) rfl (gr_40_42 hG) ?_
    refine xv_bipush (v := nI 60) dX11_feed_74 rfl ?_
    refine xv_iload_n dX11_feed_76 rfl rfl ?_
    refine xv_imul dX11_feed_77 ?_
    refine xv_nmI (pk_mul _ _) ?_
    refine xv_aload_n dX11_feed_78 rfl rfl ?_
    refine xv_getr dX11_feed_79 fl_X11_109 (go_40 hG) rfl (gr_40_41 hG) ?_
    refine xv_iload_n dX11_feed_82 rfl rfl ?_
    refine xv_iaload dX11_feed_83 (go_91 hG) (xv_ixn (by omega) (by decide)) ?_
    refine xv_nmI ((congrFun (mb_a (by decide) i) t).trans hln) ?_
    refine xv_iadd dX11_feed_84 ?_
    refine xv_nmI (nI_add _ _) ?_
    refine xv_iload dX11_feed_85 rfl ?_
    refine xv_iadd dX11_feed_87 ?_
    refine xv_nmI (nI_add _ _) ?_
    refine xv_lload_n dX11_feed_88 rfl rfl ?_
    refine xv_bipush (v := nI 8) dX11_feed_89 rfl ?_
    refine xv_iload dX11_feed_91 rfl ?_
    refine xv_imul dX11_feed_93 ?_
    refine xv_nmI (pk_mul _ _) ?_
    refine xv_lshr dX11_feed_94 ?_
    refine xv_ldc2 dX11_feed_95 ld_X11_284 ?_
    refine xv_land dX11_feed_98 ?_
    refine xv_l2i dX11_feed_99 ?_
    refine xv_iastore dX11_feed_100 (go_92 hG) (xv_ixn (by omega) (by decide)) ?_
    refine xv_iinc dX11_feed_101 rfl (xv_inc _) (Nat.le_of_ble_eq_true rfl) rfl ?_
    refine xv_goto (tgt := 63) dX11_feed_104 rfl ?_
    refine xv_nmM mb_put ?_
    exact ih (i + 1) (by omega)

theorem s11_feed {l : Launch} {D : va_G} {d : Nat} {G : xv_Gr} {I : xv_I} {J : xv_J} {Q : xv_Po} (hG : xg_ok G) {nt : Nat} (hnt : I 40 39 = nI nt) (ht4 : nt ≤ 4) {szf : Nat → Nat} (hsf : ∀ t, t < nt → I 91 t = nI (szf t) ∧ szf t ≤ 60) {x : Int32} {y : Int64} (h1 : ¬ (0 ≤ x ∧ x < nI nt) → Q (some (.int (-900001))) G I J) (h2 : ∀ t, t < nt → x = nI t → 60 < szf t + mb_n y → Q (some (.int (-900004))) G I J) (h3 : ∀ t, t < nt → x = nI t → szf t + mb_n y ≤ 60 → Q (some (.int (nI (szf t + mb_n y)))) G (xv_ui (mb_c I (60 * t + szf t) y (mb_n y)) 91 t (nI (szf t + mb_n y))) J) : xv_Ev l D (d + 2) mX11_feed none 0 [some (.ref 40), some (.int x), some (.long y), none, none, none] [] G I J 0 0 Q := by
  have hnt0 : (nI nt).toInt = (nt : Int) := nI_toInt (by omega)
  refine xv_aload_n dX11_feed_0 rfl rfl ?_
  refine xv_iload_n dX11_feed_1 rfl rfl ?_
  refine xv_callV0 (As := [_]) dX11_feed_2 cl_X11_281 rfl rfl rfl rfl (go_40 hG) rfl rfl (Nat.le_of_ble_eq_true rfl) (Nat.le_of_ble_eq_true rfl) (Nat.zero_le _) (Nat.zero_le _) ?_
  refine s11_isTerm hG hnt ht4 ?_
  refine xv_if_neD (tgt := 11) dX11_feed_5 rfl (fun c_5 => ?_) (fun c_5 => ?_)
  · obtain ⟨t, ht, rfl⟩ : ∃ j : Nat, j < nt ∧ x = nI j := xn_nat (n := nt) (by have h := c_5; simp only [xn_lt, xn_le, hnt0, Int32.reduceToInt] at h; omega) (by have h := c_5; simp only [xn_lt, xn_le, hnt0, Int32.reduceToInt] at h; omega) (by omega)
    have hS := hsf t ht
    have hm8 : mb_n y ≤ 8 := xfst_8 8 0 (by omega)
    refine xv_iconst (v := nI 0) dX11_feed_11 rfl ?_
    refine xv_istore dX11_feed_12 (Nat.le_of_ble_eq_true rfl) rfl ?_
    refine s11_fd_c (d := d) (t := t) (y := y) ?_ 8 0 (by omega) rfl
    refine xv_aload_n dX11_feed_43 rfl rfl ?_
    refine xv_getr dX11_feed_44 fl_X11_109 (go_40 hG) rfl (gr_40_41 hG) ?_
    refine xv_iload_n dX11_feed_47 rfl rfl ?_
    refine xv_iaload dX11_feed_48 (go_91 hG) (xv_ixn (by omega) (by decide)) ?_
    refine xv_nmI hS.1 ?_
    refine xv_iload dX11_feed_49 rfl ?_
    refine xv_iadd dX11_feed_51 ?_
    refine xv_nmI (nI_add _ _) ?_
    refine xv_bipush (v := nI 60) dX11_feed_52 rfl ?_
    refine xv_icmp_leN (tgt := 60) dX11_feed_54 rfl (by omega) (by omega) (fun c_54 => ?_) (fun c_54 => ?_)
    · refine xv_iconst (v := nI 0) dX11_feed_60 rfl ?_
      refine xv_istore dX11_feed_61 (Nat.le_of_ble_eq_true rfl) rfl ?_
      refine xv_nmM (mb_0 (I := I) (s := 60 * t + szf t) (x := y)).symm ?_
      refine s11_fd_d (d := d) hG (by omega) hS.1 (by omega) ?_ (mb_n y) 0 (by omega)
      refine xv_aload_n dX11_feed_107 rfl rfl ?_
      refine xv_getr dX11_feed_108 fl_X11_109 (go_40 hG) rfl (gr_40_41 hG) ?_
      refine xv_iload_n dX11_feed_111 rfl rfl ?_
      refine xv_dup2 dX11_feed_112 rfl rfl ?_
      refine xv_iaload dX11_feed_113 (go_91 hG) (xv_ixn (by omega) (by decide)) ?_
      refine xv_nmI ((congrFun (mb_a (by decide) _) t).trans hS.1) ?_
      refine xv_iload dX11_feed_114 rfl ?_
      refine xv_iadd dX11_feed_116 ?_
      refine xv_nmI (nI_add _ _) ?_
      refine xv_iastore dX11_feed_117 (go_91 hG) (xv_ixn (by omega) (by decide)) ?_
      refine xv_aload_n dX11_feed_118 rfl rfl ?_
      refine xv_getr dX11_feed_119 fl_X11_109 (go_40 hG) rfl (gr_40_41 hG) ?_
      refine xv_iload_n dX11_feed_122 rfl rfl ?_
      refine xv_iaload dX11_feed_123 (go_91 hG) (xv_ixn (by omega) (by decide)) ?_
      refine xv_nmI xv_ui_s ?_
      refine xv_iret dX11_feed_124 rfl (Nat.zero_le _) (Nat.zero_le _) ?_
      exact h3 t ht rfl (by omega)
    · refine xv_ldc dX11_feed_57 ld_X11_138 ?_
      refine xv_iret dX11_feed_59 rfl (Nat.zero_le _) (Nat.zero_le _) ?_
      exact h2 t ht rfl (by omega)
  · refine xv_ldc dX11_feed_8 ld_X11_143 ?_
    refine xv_iret dX11_feed_10 rfl (Nat.zero_le _) (Nat.zero_le _) ?_
    exact h1 c_5

def rqf (I I2 : xv_I) : Prop := (∀ b, b ≠ 40 → b ≠ 95 → b ≠ 97 → I2 b = I b) ∧ ∀ j, j ≠ 43 → j ≠ 44 → j ≠ 46 → I2 40 j = I 40 j
theorem rqf_re (I : xv_I) : rqf I I := ⟨fun _ _ _ _ => rfl, fun _ _ _ _ => rfl⟩
theorem rqf_tr {I I2 I3 : xv_I} (h : rqf I I2) (g : rqf I2 I3) : rqf I I3 := ⟨fun b h1 h2 h3 => (g.1 b h1 h2 h3).trans (h.1 b h1 h2 h3), fun j h1 h2 h3 => (g.2 j h1 h2 h3).trans (h.2 j h1 h2 h3)⟩
/-- what the texts say, by their reading -/
def rd_k (nt : Nat) (bf : Nat → Nat → Nat) (szf : Nat → Nat) (rf : Nat → Option Nat) (vf : (Nat → Int64) → Nat → Bool) : Prop := ∀ val t, t < nt → (∀ q, rf t = some q → ∃ ts, rd_ (bf t) (szf t) val 62 0 [] [] 0 true = some (some q, ts)) ∧ (rf t = none → rd_ (bf t) (szf t) val 62 0 [] [] 0 true = some (none, [vf val t]))
noncomputable def fi_ (tm : Nat → Int32) (rf : Nat → Option Nat) (x : Int32) : Nat → Option Nat
  | 0 => none
  | t + 1 => @ite _ ((tm t ≤ x ∧ ∀ q, fi_ tm rf x t = some q → tm q ≤ tm t) ∧ rf t = none) (Classical.propDecidable _) (some t) (fi_ tm rf x t)
theorem fi_lt {tm : Nat → Int32} {rf : Nat → Option Nat} {x : Int32} : ∀ {k j : Nat}, fi_ tm rf x k = some j → j < k ∧ rf j = none
  | 0, j, h => by cases h
  | k + 1, j, h => by
    rw [fi_] at h
    split at h
    · rename_i q
      cases h
      exact ⟨Nat.lt_succ_self _, q.2⟩
    · have := fi_lt h
      exact ⟨by omega, this.2⟩
theorem s11_readT {l : Launch} {D : va_G} {d : Nat} {G : xv_Gr} {I : xv_I} {J : xv_J} {Q : xv_Po} (hG : xg_ok G) {nt : Nat} (hnt : I 40 39 = nI nt) (ht4 : nt ≤ 4) {bf : Nat → Nat → Nat} {szf : Nat → Nat} (hsf : ∀ t, t < nt → I 91 t = nI (szf t) ∧ szf t ≤ 60) (hbf : ∀ t, t < nt → ∀ i, i < szf t → I 92 (60 * t + i) = nI (bf t i) ∧ bf t i < 256 ∧ bf t i ≠ 0) {rf : Nat → Option Nat} {vf : (Nat → Int64) → Nat → Bool} (hrd : rd_k nt bf szf rf vf) {t : Nat} (ht : t < nt) (hQ : ∀ I3, rqf I I3 → (rf t = none → I3 97 0 = xb (vf (fun v => J 98 v) t)) → Q (some (.int (ob_ (-900009) (rf t)))) G I3 J) : xv_Ev l D (d + 2) mX11_readTerm none 0 [some (.ref 40), some (.int (nI t)), none, none, none] [] G I J 0 0 Q := by
  have hS := hsf t ht
  have hk := hrd (fun v => J 98 v) t ht
  cases e : rf t with
  | none =>
    rw [e] at hQ
    exact s11_readTerm (d := d) hG (t := t) (n := szf t) (b := bf t) (by omega) hS.2 hS.1 (hbf t ht) (val := fun v => J 98 v) (fun v _ => rfl) (hk.2 e) (fun I3 a2 os2 h => hQ I3 ⟨h.1, h.2.1⟩ (fun _ => h.2.2.2.2.2.2.1))
  | some q =>
    obtain ⟨ts, h2⟩ := hk.1 q e
    rw [e] at hQ
    exact s11_readTerm (d := d) hG (t := t) (n := szf t) (b := bf t) (by omega) hS.2 hS.1 (hbf t ht) (val := fun v => J 98 v) (fun v _ => rfl) h2 (fun I3 a2 os2 h => hQ I3 ⟨h.1, h.2.1⟩ (fun z => by cases z))

theorem s11_fault {l : Launch} {D : va_G} {d : Nat} {G : xv_Gr} {I : xv_I} {J : xv_J} {Q : xv_Po} (hG : xg_ok G) {nt : Nat} (hnt : I 40 39 = nI nt) (ht4 : nt ≤ 4) {bf : Nat → Nat → Nat} {szf : Nat → Nat} (hsf : ∀ t, t < nt → I 91 t = nI (szf t) ∧ szf t ≤ 60) (hbf : ∀ t, t < nt → ∀ i, i < szf t → I 92 (60 * t + i) = nI (bf t i) ∧ bf t i < 256 ∧ bf t i ≠ 0) {rf : Nat → Option Nat} {vf : (Nat → Int64) → Nat → Bool} (hrd : rd_k nt bf szf rf vf) {x : Int32} (h1 : ¬ (0 ≤ x ∧ x < nI nt) → Q (some (.int (-900001))) G I J) (h2 : ∀ t, t < nt → x = nI t → ∀ I3, rqf I I3 → Q (some (.int (ob_ (-900009) (rf t)))) G I3 J) : xv_Ev l D (d + 3) mX11_fault none 0 [some (.ref 40), some (.int x)] [] G I J 0 0 Q := by
  have hnt0 : (nI nt).toInt = (nt : Int) := nI_toInt (by omega)
  refine xv_aload_n dX11_fault_0 rfl rfl ?_
  refine xv_iload_n dX11_fault_1 rfl rfl ?_
  refine xv_callV0 (As := [_]) dX11_fault_2 cl_X11_281 rfl rfl rfl rfl (go_40 hG) rfl rfl (Nat.le_of_ble_eq_true rfl) (Nat.le_of_ble_eq_true rfl) (Nat.zero_le _) (Nat.zero_le _) ?_
  refine s11_isTerm (d := d + 1) hG hnt ht4 ?_
  refine xv_if_eqD (tgt := 16) dX11_fault_5 rfl (fun c_5 => ?_) (fun c_5 => ?_)
  · refine xv_ldc dX11_fault_16 ld_X11_143 ?_
    refine xv_iret dX11_fault_18 rfl (Nat.zero_le _) (Nat.zero_le _) ?_
    exact h1 c_5
  · obtain ⟨t, ht, rfl⟩ : ∃ j : Nat, j < nt ∧ x = nI j := xn_nat (n := nt) (by have h := c_5; simp only [xn_lt, xn_le, hnt0, Int32.reduceToInt] at h; omega) (by have h := c_5; simp only [xn_lt, xn_le, hnt0, Int32.reduceToInt] at h; omega) (by omega)
    refine xv_aload_n dX11_fault_8 rfl rfl ?_
    refine xv_iload_n dX11_fault_9 rfl rfl ?_
    refine xv_callV0 (As := [_]) dX11_fault_10 cl_X11_319 rfl rfl rfl rfl (go_40 hG) rfl rfl (Nat.le_of_ble_eq_true rfl) (Nat.le_of_ble_eq_true rfl) (Nat.zero_le _) (Nat.zero_le _) ?_
    refine s11_readT (d := d) hG hnt ht4 hsf hbf hrd (t := t) ht (fun I3 hf hv => ?_)
    · refine xv_goto (tgt := 18) dX11_fault_13 rfl ?_
      refine xv_iret dX11_fault_18 rfl (Nat.zero_le _) (Nat.zero_le _) ?_
      exact h2 t ht rfl I3 hf

theorem s11_fi_l {l : Launch} {D : va_G} {d : Nat} {G : xv_Gr} {I : xv_I} {J : xv_J} {Q : xv_Po} (hG : xg_ok G) {nt : Nat} (hnt : I 40 39 = nI nt) (ht4 : nt ≤ 4) {bf : Nat → Nat → Nat} {szf : Nat → Nat} (hsf : ∀ t, t < nt → I 91 t = nI (szf t) ∧ szf t ≤ 60) (hbf : ∀ t, t < nt → ∀ i, i < szf t → I 92 (60 * t + i) = nI (bf t i) ∧ bf t i < 256 ∧ bf t i ≠ 0) {rf : Nat → Option Nat} {vf : (Nat → Int64) → Nat → Bool} (hrd : rd_k nt bf szf rf vf) (hrz : ∀ t z, rf t = some z → z < 2 ^ 31) {x : Int32} (hQ : ∀ I2, rqf I I2 → Q (some (.int (ob_ (-900009) (fi_ (I 90) rf x nt)))) G I2 J) : ∀ (k t : Nat) (I2 : xv_I), t + k = nt → rqf I I2 → xv_Ev l D (d + 3) mX11_forceIn none 5 [some (.ref 40), some (.int x), some (.int (ob_ (-900009) (fi_ (I 90) rf x t))), some (.int (nI t)), none] [] G I2 J 0 0 Q := by
  intro k
  induction k with
  | zero =>
    intro t I2 hk hf
    refine xv_iload_n dX11_forceIn_5 rfl rfl ?_
    refine xv_aload_n dX11_forceIn_6 rfl rfl ?_
    refine xv_geti dX11_forceIn_7 fl_X11_276 (go_40 hG) rfl ?_
    refine xv_nmI ((hf.2 39 (by decide) (by decide) (by decide)).trans hnt) ?_
    refine xv_icmp_geN (tgt := 78) dX11_forceIn_10 rfl (by omega) (by omega) (fun c_10 => ?_) (fun c_10 => absurd c_10 (by omega))
    refine xv_iload_n dX11_forceIn_78 rfl rfl ?_
    refine xv_iret dX11_forceIn_79 rfl (Nat.zero_le _) (Nat.zero_le _) ?_
    have e : t = nt := by omega
    subst e
    exact hQ I2 hf
  | succ k ih =>
    intro t I2 hk hf
    cases e : (fi_ (I 90) rf x t) with
    | none =>
      show xv_Ev l D (d + 3) mX11_forceIn none 5 [some (.ref 40), some (.int x), some (.int (-900009)), some (.int (nI t)), none] [] G I2 J 0 0 Q
      have e90 : I2 90 = I 90 := hf.1 90 (by decide) (by decide) (by decide)
      refine xv_iload_n dX11_forceIn_5 rfl rfl ?_
      refine xv_aload_n dX11_forceIn_6 rfl rfl ?_
      refine xv_geti dX11_forceIn_7 fl_X11_276 (go_40 hG) rfl ?_
      refine xv_nmI ((hf.2 39 (by decide) (by decide) (by decide)).trans hnt) ?_
      refine xv_icmp_geN (tgt := 78) dX11_forceIn_10 rfl (by omega) (by omega) (fun c_10 => absurd c_10 (by omega)) (fun c_10 => ?_)
      refine xv_aload_n dX11_forceIn_13 rfl rfl ?_
      refine xv_getr dX11_forceIn_14 fl_X11_106 (go_40 hG) rfl (gr_40_40 hG) ?_
      refine xv_iload_n dX11_forceIn_17 rfl rfl ?_
      refine xv_iaload dX11_forceIn_18 (go_90 hG) (xv_ixn (by omega) (by decide)) ?_
      refine xv_nmI (congrFun e90 t) ?_
      refine xv_iload_n dX11_forceIn_19 rfl rfl ?_
      refine xv_icmp_gt (tgt := 48) dX11_forceIn_20 rfl (fun c_20 => ?_) (fun c_20 => ?_)
      · refine xv_iconst (v := 0) dX11_forceIn_48 rfl ?_
        refine xv_istore dX11_forceIn_49 (Nat.le_of_ble_eq_true rfl) rfl ?_
        refine xv_iload dX11_forceIn_51 rfl ?_
        refine xv_if_eq (tgt := 70) dX11_forceIn_53 rfl (fun c_53 => ?_) (fun c_53 => absurd (by decide) c_53)
        refine xv_iload_n dX11_forceIn_70 rfl rfl ?_
        refine xv_istore_n dX11_forceIn_71 rfl (Nat.le_of_ble_eq_true rfl) rfl ?_
        refine xv_iinc dX11_forceIn_72 rfl (xv_inc _) (Nat.le_of_ble_eq_true rfl) rfl ?_
        refine xv_goto (tgt := 5) dX11_forceIn_75 rfl ?_
        have e2 : (fi_ (I 90) rf x (t + 1)) = none := by
          rw [fi_]
          exact (if_neg (fun h => absurd h.1.1 (by simp only [xn_lt, xn_le] at *; omega))).trans e
        have h := ih (t + 1) I2 (by omega) hf
        rw [e2] at h
        refine xv_fg [true, true, true, true, false] ?_
        exact h
      · refine xv_iload_n dX11_forceIn_23 rfl rfl ?_
        refine xv_ldc dX11_forceIn_24 ld_X11_152 ?_
        refine xv_icmp_eq (tgt := 44) dX11_forceIn_26 rfl (fun c_26 => ?_) (fun c_26 => absurd rfl c_26)
        refine xv_iconst (v := 1) dX11_forceIn_44 rfl ?_
        refine xv_goto (tgt := 49) dX11_forceIn_45 rfl ?_
        refine xv_istore dX11_forceIn_49 (Nat.le_of_ble_eq_true rfl) rfl ?_
        refine xv_iload dX11_forceIn_51 rfl ?_
        refine xv_if_eq (tgt := 70) dX11_forceIn_53 rfl (fun c_53 => absurd c_53 (by decide)) (fun c_53 => ?_)
        refine xv_aload_n dX11_forceIn_56 rfl rfl ?_
        refine xv_iload_n dX11_forceIn_57 rfl rfl ?_
        refine xv_callV0 (As := [_]) dX11_forceIn_58 cl_X11_319 rfl rfl rfl rfl (go_40 hG) rfl rfl (Nat.le_of_ble_eq_true rfl) (Nat.le_of_ble_eq_true rfl) (Nat.zero_le _) (Nat.zero_le _) ?_
        refine s11_readT (d := d) hG (I := I2) ((hf.2 39 (by decide) (by decide) (by decide)).trans hnt) ht4 (fun t k => by rw [hf.1 91 (by decide) (by decide) (by decide)]; exact hsf t k) (fun t k i hi => by rw [hf.1 92 (by decide) (by decide) (by decide)]; exact hbf t k i hi) hrd (t := t) (by omega) (fun I3 hf3 hv => ?_)
        · refine xv_ldc dX11_forceIn_61 ld_X11_152 ?_
          refine xv_icmp_ne (tgt := 70) dX11_forceIn_63 rfl (fun c_63 => ?_) (fun c_63 => ?_)
          · refine xv_iload_n dX11_forceIn_70 rfl rfl ?_
            refine xv_istore_n dX11_forceIn_71 rfl (Nat.le_of_ble_eq_true rfl) rfl ?_
            refine xv_iinc dX11_forceIn_72 rfl (xv_inc _) (Nat.le_of_ble_eq_true rfl) rfl ?_
            refine xv_goto (tgt := 5) dX11_forceIn_75 rfl ?_
            have e2 : (fi_ (I 90) rf x (t + 1)) = none := by
              rw [fi_]
              exact (if_neg (fun h => c_63 (by rw [h.2]; rfl))).trans e
            have h := ih (t + 1) I3 (by omega) (rqf_tr hf hf3)
            rw [e2] at h
            refine xv_fg [true, true, true, true, false] ?_
            exact h
          · refine xv_iload_n dX11_forceIn_66 rfl rfl ?_
            refine xv_goto (tgt := 71) dX11_forceIn_67 rfl ?_
            refine xv_istore_n dX11_forceIn_71 rfl (Nat.le_of_ble_eq_true rfl) rfl ?_
            refine xv_iinc dX11_forceIn_72 rfl (xv_inc _) (Nat.le_of_ble_eq_true rfl) rfl ?_
            refine xv_goto (tgt := 5) dX11_forceIn_75 rfl ?_
            have hrf : rf t = none := by
              cases e3 : rf t with
              | none => rfl
              | some z =>
                rw [e3] at c_63
                exact absurd c_63 (nI_nNONE (hrz t z e3))
            have e2 : (fi_ (I 90) rf x (t + 1)) = some t := by
              rw [fi_]
              exact if_pos ⟨⟨(by simp only [xn_lt, xn_le] at *; omega), fun z hz => (by rw [e] at hz; cases hz)⟩, hrf⟩
            have h := ih (t + 1) I3 (by omega) (rqf_tr hf hf3)
            rw [e2] at h
            refine xv_fg [true, true, true, true, false] ?_
            exact h
    | some q =>
      have hq := (fi_lt e).1
      show xv_Ev l D (d + 3) mX11_forceIn none 5 [some (.ref 40), some (.int x), some (.int (nI q)), some (.int (nI t)), none] [] G I2 J 0 0 Q
      have e90 : I2 90 = I 90 := hf.1 90 (by decide) (by decide) (by decide)
      refine xv_iload_n dX11_forceIn_5 rfl rfl ?_
      refine xv_aload_n dX11_forceIn_6 rfl rfl ?_
      refine xv_geti dX11_forceIn_7 fl_X11_276 (go_40 hG) rfl ?_
      refine xv_nmI ((hf.2 39 (by decide) (by decide) (by decide)).trans hnt) ?_
      refine xv_icmp_geN (tgt := 78) dX11_forceIn_10 rfl (by omega) (by omega) (fun c_10 => absurd c_10 (by omega)) (fun c_10 => ?_)
      refine xv_aload_n dX11_forceIn_13 rfl rfl ?_
      refine xv_getr dX11_forceIn_14 fl_X11_106 (go_40 hG) rfl (gr_40_40 hG) ?_
      refine xv_iload_n dX11_forceIn_17 rfl rfl ?_
      refine xv_iaload dX11_forceIn_18 (go_90 hG) (xv_ixn (by omega) (by decide)) ?_
      refine xv_nmI (congrFun e90 t) ?_
      refine xv_iload_n dX11_forceIn_19 rfl rfl ?_
      refine xv_icmp_gt (tgt := 48) dX11_forceIn_20 rfl (fun c_20 => ?_) (fun c_20 => ?_)
      · refine xv_iconst (v := 0) dX11_forceIn_48 rfl ?_
        refine xv_istore dX11_forceIn_49 (Nat.le_of_ble_eq_true rfl) rfl ?_
        refine xv_iload dX11_forceIn_51 rfl ?_
        refine xv_if_eq (tgt := 70) dX11_forceIn_53 rfl (fun c_53 => ?_) (fun c_53 => absurd (by decide) c_53)
        refine xv_iload_n dX11_forceIn_70 rfl rfl ?_
        refine xv_istore_n dX11_forceIn_71 rfl (Nat.le_of_ble_eq_true rfl) rfl ?_
        refine xv_iinc dX11_forceIn_72 rfl (xv_inc _) (Nat.le_of_ble_eq_true rfl) rfl ?_
        refine xv_goto (tgt := 5) dX11_forceIn_75 rfl ?_
        have e2 : (fi_ (I 90) rf x (t + 1)) = some q := by
          rw [fi_]
          exact (if_neg (fun h => absurd h.1.1 (by simp only [xn_lt, xn_le] at *; omega))).trans e
        have h := ih (t + 1) I2 (by omega) hf
        rw [e2] at h
        refine xv_fg [true, true, true, true, false] ?_
        exact h
      · refine xv_iload_n dX11_forceIn_23 rfl rfl ?_
        refine xv_ldc dX11_forceIn_24 ld_X11_152 ?_
        refine xv_icmp_eq (tgt := 44) dX11_forceIn_26 rfl (fun c_26 => absurd c_26 (nI_nNONE (by omega))) (fun c_26 => ?_)
        refine xv_aload_n dX11_forceIn_29 rfl rfl ?_
        refine xv_getr dX11_forceIn_30 fl_X11_106 (go_40 hG) rfl (gr_40_40 hG) ?_
        refine xv_iload_n dX11_forceIn_33 rfl rfl ?_
        refine xv_iaload dX11_forceIn_34 (go_90 hG) (xv_ixn (by omega) (by decide)) ?_
        refine xv_nmI (congrFun e90 t) ?_
        refine xv_aload_n dX11_forceIn_35 rfl rfl ?_
        refine xv_getr dX11_forceIn_36 fl_X11_106 (go_40 hG) rfl (gr_40_40 hG) ?_
        refine xv_iload_n dX11_forceIn_39 rfl rfl ?_
        refine xv_iaload dX11_forceIn_40 (go_90 hG) (xv_ixn (by omega) (by decide)) ?_
        refine xv_nmI (congrFun e90 q) ?_
        refine xv_icmp_lt (tgt := 48) dX11_forceIn_41 rfl (fun c_41 => ?_) (fun c_41 => ?_)
        · refine xv_iconst (v := 0) dX11_forceIn_48 rfl ?_
          refine xv_istore dX11_forceIn_49 (Nat.le_of_ble_eq_true rfl) rfl ?_
          refine xv_iload dX11_forceIn_51 rfl ?_
          refine xv_if_eq (tgt := 70) dX11_forceIn_53 rfl (fun c_53 => ?_) (fun c_53 => absurd (by decide) c_53)
          refine xv_iload_n dX11_forceIn_70 rfl rfl ?_
          refine xv_istore_n dX11_forceIn_71 rfl (Nat.le_of_ble_eq_true rfl) rfl ?_
          refine xv_iinc dX11_forceIn_72 rfl (xv_inc _) (Nat.le_of_ble_eq_true rfl) rfl ?_
          refine xv_goto (tgt := 5) dX11_forceIn_75 rfl ?_
          have e2 : (fi_ (I 90) rf x (t + 1)) = some q := by
            rw [fi_]
            exact (if_neg (fun h => absurd (h.1.2 q e) (by simp only [xn_lt, xn_le] at *; omega))).trans e
          have h := ih (t + 1) I2 (by omega) hf
          rw [e2] at h
          refine xv_fg [true, true, true, true, false] ?_
          exact h
        · refine xv_iconst (v := 1) dX11_forceIn_44 rfl ?_
          refine xv_goto (tgt := 49) dX11_forceIn_45 rfl ?_
          refine xv_istore dX11_forceIn_49 (Nat.le_of_ble_eq_true rfl) rfl ?_
          refine xv_iload dX11_forceIn_51 rfl ?_
          refine xv_if_eq (tgt := 70) dX11_forceIn_53 rfl (fun c_53 => absurd c_53 (by decide)) (fun c_53 => ?_)
          refine xv_aload_n dX11_forceIn_56 rfl rfl ?_
          refine xv_iload_n dX11_forceIn_57 rfl rfl ?_
          refine xv_callV0 (As := [_]) dX11_forceIn_58 cl_X11_319 rfl rfl rfl rfl (go_40 hG) rfl rfl (Nat.le_of_ble_eq_true rfl) (Nat.le_of_ble_eq_true rfl) (Nat.zero_le _) (Nat.zero_le _) ?_
          refine s11_readT (d := d) hG (I := I2) ((hf.2 39 (by decide) (by decide) (by decide)).trans hnt) ht4 (fun t k => by rw [hf.1 91 (by decide) (by decide) (by decide)]; exact hsf t k) (fun t k i hi => by rw [hf.1 92 (by decide) (by decide) (by decide)]; exact hbf t k i hi) hrd (t := t) (by omega) (fun I3 hf3 hv => ?_)
          · refine xv_ldc dX11_forceIn_61 ld_X11_152 ?_
            refine xv_icmp_ne (tgt := 70) dX11_forceIn_63 rfl (fun c_63 => ?_) (fun c_63 => ?_)
            · refine xv_iload_n dX11_forceIn_70 rfl rfl ?_
              refine xv_istore_n dX11_forceIn_71 rfl (Nat.le_of_ble_eq_true rfl) rfl ?_
              refine xv_iinc dX11_forceIn_72 rfl (xv_inc _) (Nat.le_of_ble_eq_true rfl) rfl ?_
              refine xv_goto (tgt := 5) dX11_forceIn_75 rfl ?_
              have e2 : (fi_ (I 90) rf x (t + 1)) = some q := by
                rw [fi_]
                exact (if_neg (fun h => c_63 (by rw [h.2]; rfl))).trans e
              have h := ih (t + 1) I3 (by omega) (rqf_tr hf hf3)
              rw [e2] at h
              refine xv_fg [true, true, true, true, false] ?_
              exact h
            · refine xv_iload_n dX11_forceIn_66 rfl rfl ?_
              refine xv_goto (tgt := 71) dX11_forceIn_67 rfl ?_
              refine xv_istore_n dX11_forceIn_71 rfl (Nat.le_of_ble_eq_true rfl) rfl ?_
              refine xv_iinc dX11_forceIn_72 rfl (xv_inc _) (Nat.le_of_ble_eq_true rfl) rfl ?_
              refine xv_goto (tgt := 5) dX11_forceIn_75 rfl ?_
              have hrf : rf t = none := by
                cases e3 : rf t with
                | none => rfl
                | some z =>
                  rw [e3] at c_63
                  exact absurd c_63 (nI_nNONE (hrz t z e3))
              have e2 : (fi_ (I 90) rf x (t + 1)) = some t := by
                rw [fi_]
                exact if_pos ⟨⟨(by simp only [xn_lt, xn_le] at *; omega), fun z hz => (by rw [e] at hz; cases hz; simp only [xn_lt, xn_le] at *; omega)⟩, hrf⟩
              have h := ih (t + 1) I3 (by omega) (rqf_tr hf hf3)
              rw [e2] at h
              refine xv_fg [true, true, true, true, false] ?_
              exact h

theorem s11_forceIn {l : Launch} {D : va_G} {d : Nat} {G : xv_Gr} {I : xv_I} {J : xv_J} {Q : xv_Po} (hG : xg_ok G) {nt : Nat} (hnt : I 40 39 = nI nt) (ht4 : nt ≤ 4) {bf : Nat → Nat → Nat} {szf : Nat → Nat} (hsf : ∀ t, t < nt → I 91 t = nI (szf t) ∧ szf t ≤ 60) (hbf : ∀ t, t < nt → ∀ i, i < szf t → I 92 (60 * t + i) = nI (bf t i) ∧ bf t i < 256 ∧ bf t i ≠ 0) {rf : Nat → Option Nat} {vf : (Nat → Int64) → Nat → Bool} (hrd : rd_k nt bf szf rf vf) (hrz : ∀ t z, rf t = some z → z < 2 ^ 31) {x : Int32} (hQ : ∀ I2, rqf I I2 → Q (some (.int (ob_ (-900009) (fi_ (I 90) rf x nt)))) G I2 J) : xv_Ev l D (d + 3) mX11_forceIn none 0 [some (.ref 40), some (.int x), none, none, none] [] G I J 0 0 Q := by
  refine xv_ldc dX11_forceIn_0 ld_X11_152 ?_
  refine xv_istore_n dX11_forceIn_2 rfl (Nat.le_of_ble_eq_true rfl) rfl ?_
  refine xv_iconst (v := nI 0) dX11_forceIn_3 rfl ?_
  refine xv_istore_n dX11_forceIn_4 rfl (Nat.le_of_ble_eq_true rfl) rfl ?_
  exact s11_fi_l hG hnt ht4 hsf hbf hrd hrz hQ nt 0 I (by omega) (rqf_re I)

theorem s11_force {l : Launch} {D : va_G} {d : Nat} {G : xv_Gr} {I : xv_I} {J : xv_J} {Q : xv_Po} (hG : xg_ok G) {nt : Nat} (hnt : I 40 39 = nI nt) (ht4 : nt ≤ 4) {bf : Nat → Nat → Nat} {szf : Nat → Nat} (hsf : ∀ t, t < nt → I 91 t = nI (szf t) ∧ szf t ≤ 60) (hbf : ∀ t, t < nt → ∀ i, i < szf t → I 92 (60 * t + i) = nI (bf t i) ∧ bf t i < 256 ∧ bf t i ≠ 0) {rf : Nat → Option Nat} {vf : (Nat → Int64) → Nat → Bool} (hrd : rd_k nt bf szf rf vf) (hrz : ∀ t z, rf t = some z → z < 2 ^ 31) {x : Int32} (h1 : ¬ (0 ≤ x ∧ x ≤ 599) → Q (some (.int (-900002))) G I J) (h2 : (0 ≤ x ∧ x ≤ 599) → ∀ I2, rqf I I2 → Q (some (.int (ob_ (-900009) (fi_ (I 90) rf x nt)))) G I2 J) : xv_Ev l D (d + 4) mX11_force none 0 [some (.ref 40), some (.int x)] [] G I J 0 0 Q := by
  refine xv_iload_n dX11_force_0 rfl rfl ?_
  refine xv_i2l dX11_force_1 ?_
  refine xv_lconst (v := 0) dX11_force_2 rfl ?_
  refine xv_ldc2 dX11_force_3 ld_X11_279 ?_
  refine xv_callS0 (As := [_, _, _]) dX11_force_6 cl_X11_126 rfl rfl rfl rfl (Nat.le_of_ble_eq_true rfl) (Nat.le_of_ble_eq_true rfl) (Nat.zero_le _) (Nat.zero_le _) ?_
  refine s11_in (a := 0) (b := 599) rfl rfl ?_
  refine xv_if_eqD (tgt := 20) dX11_force_9 rfl (fun c_9 => ?_) (fun c_9 => ?_)
  · refine xv_ldc dX11_force_20 ld_X11_130 ?_
    refine xv_iret dX11_force_22 rfl (Nat.zero_le _) (Nat.zero_le _) ?_
    exact h1 c_9
  · refine xv_aload_n dX11_force_12 rfl rfl ?_
    refine xv_iload_n dX11_force_13 rfl rfl ?_
    refine xv_callV0 (As := [_]) dX11_force_14 cl_X11_322 rfl rfl rfl rfl (go_40 hG) rfl rfl (Nat.le_of_ble_eq_true rfl) (Nat.le_of_ble_eq_true rfl) (Nat.zero_le _) (Nat.zero_le _) ?_
    refine s11_forceIn (d := d) hG hnt ht4 hsf hbf hrd hrz (fun I2 hf => ?_)
    · refine xv_goto (tgt := 22) dX11_force_17 rfl ?_
      refine xv_iret dX11_force_22 rfl (Nat.zero_le _) (Nat.zero_le _) ?_
      exact h2 c_9 I2 hf
