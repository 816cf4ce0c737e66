/-! boards (class): weighBoards -/
def ws_ (sz : Nat → Nat) (lo S : Nat) : Nat → Nat
  | 0 => 0
  | k + 1 => ws_ sz lo S k + if S.testBit k then sz k + lo else 0
theorem ws_add {sz : Nat → Nat} {lo i s : Nat} (hs : s < 2 ^ i) : ∀ k, ws_ sz lo (2 ^ i ||| s) k = ws_ sz lo s k + if i < k then sz i + lo else 0
  | 0 => rfl
  | k + 1 => by
    have ih := ws_add (sz := sz) (lo := lo) hs k
    have si : s.testBit i = false := Nat.testBit_lt_two_pow hs
    rw [ws_, ws_, ih, Nat.testBit_or, Nat.testBit_two_pow]
    by_cases e : i = k
    · subst e
      rw [si]
      simp
    · by_cases q : i < k
      · have q2 : i < k + 1 := by omega
        simp [e, q, q2]; omega
      · have q2 : ¬ i < k + 1 := by omega
        simp [e, q, q2]
theorem ws_0 {sz : Nat → Nat} {lo : Nat} : ∀ k, ws_ sz lo 0 k = 0
  | 0 => rfl
  | k + 1 => by rw [ws_, ws_0 k, Nat.zero_testBit]; rfl
def w_f (I I2 : xv_I) (sz : Nat → Nat) (lo m : Nat) : Prop := (∀ b, b ≠ 140 → I2 b = I b) ∧ ∀ S, S < m → I2 140 S = nI (ws_ sz lo S 12)
noncomputable def bv_ (I : xv_I) (x : Int32) : Int32 := match fl_ (fun k => x ≤ I 130 k) (I 131) 4 with
  | none => -1
  | some j => I 131 j * 13 + 1
def w_g (I I2 : xv_I) (sz : Nat → Nat) (lo np t : Nat) : Prop := (∀ b, b ≠ 140 → I2 b = I b) ∧ I2 140 0 = nI 0 ∧ (∀ S, 1 ≤ S → S < t → I2 140 S = bv_ I (nI (ws_ sz lo S 12) - nI lo)) ∧ ∀ S, t ≤ S → S < 2 ^ np → I2 140 S = nI (ws_ sz lo S 12)
theorem s2_w1 {l : Launch} {D : va_G} {d : Nat} {G : xv_Gr} {I : xv_I} {J : xv_J} {Q : xv_Po} (hG : xg_ok G) {np : Nat} (hnp : np ≤ 12) {sz : Nat → Nat} (hsz : ∀ p, p < np → I 104 p = nI (sz p)) {lo : Nat} (hlo : I 3 2 = nI lo) {i : Nat} (hi : i < np) (kk : ∀ I2, w_f I I2 sz lo (2 ^ i + 2 ^ i) → xv_Ev l D d mX2_weighBoards none 54 [some (.ref 3), some (.int (nI np)), some (.ref 104), some (.int (nI i)), some (.int (nI (2 ^ i))), some (.int (nI (2 ^ i)))] [] G I2 J 0 0 Q) : ∀ (r s : Nat) (I2 : xv_I), s + r = 2 ^ i → w_f I I2 sz lo (2 ^ i + s) → xv_Ev l D d mX2_weighBoards none 15 [some (.ref 3), some (.int (nI np)), some (.ref 104), some (.int (nI i)), some (.int (nI (2 ^ i))), some (.int (nI s))] [] G I2 J 0 0 Q := by
  intro r
  induction r with
  | zero =>
    intro s I2 hs hw
    have h2 : 2 ^ i < 2 ^ 12 := Nat.pow_lt_pow_right (by decide) (by omega)
    have h24 : (2 : Nat) ^ 12 = 4096 := by decide
    have h25 : 2 ^ i + 2 ^ i ≤ 2 ^ 12 := by
      have e : 2 ^ (i + 1) ≤ 2 ^ 12 := Nat.pow_le_pow_right (by decide) (by omega)
      rw [Nat.pow_succ] at e
      omega
    refine xv_iload dX2_weighBoards_15 rfl ?_
    refine xv_iload dX2_weighBoards_17 rfl ?_
    refine xv_icmp_geN (tgt := 54) dX2_weighBoards_19 rfl (by omega) (by omega) (fun c_19 => ?_) (fun c_19 => absurd c_19 (by omega))
    have e : s = 2 ^ i := by omega
    subst e
    exact kk I2 hw
  | succ r ih =>
    intro s I2 hs hw
    have h2 : 2 ^ i < 2 ^ 12 := Nat.pow_lt_pow_right (by decide) (by omega)
    have h24 : (2 : Nat) ^ 12 = 4096 := by decide
    have h25 : 2 ^ i + 2 ^ i ≤ 2 ^ 12 := by
      have e : 2 ^ (i + 1) ≤ 2 ^ 12 := Nat.pow_le_pow_right (by decide) (by omega)
      rw [Nat.pow_succ] at e
      omega
    have hor : 2 ^ i ||| s = 2 ^ i + s := by
      have q := Nat.two_pow_add_eq_or_of_lt (i := i) (b := s) (by omega) 1
      rw [Nat.mul_one] at q
      exact q.symm
    refine xv_iload dX2_weighBoards_15 rfl ?_
    refine xv_iload dX2_weighBoards_17 rfl ?_
    refine xv_icmp_geN (tgt := 54) dX2_weighBoards_19 rfl (by omega) (by omega) (fun c_19 => absurd c_19 (by omega)) (fun c_19 => ?_)
    refine xv_aload_n dX2_weighBoards_22 rfl rfl ?_
    refine xv_getr dX2_weighBoards_23 fl_X2_44 (go_3 hG) rfl (gr_3_10 hG) ?_
    refine xv_iload dX2_weighBoards_26 rfl ?_
    refine xv_iload dX2_weighBoards_28 rfl ?_
    refine xv_ior dX2_weighBoards_30 ?_
    refine xv_nmI (xi_or _ _) ?_
    refine xv_nmI (congrArg nI hor) ?_
    refine xv_aload_n dX2_weighBoards_31 rfl rfl ?_
    refine xv_getr dX2_weighBoards_32 fl_X2_44 (go_3 hG) rfl (gr_3_10 hG) ?_
    refine xv_iload dX2_weighBoards_35 rfl ?_
    refine xv_iaload dX2_weighBoards_37 (go_140 hG) (xv_ixn (by omega) (by decide)) ?_
    refine xv_nmI (hw.2 s (by omega)) ?_
    refine xv_aload_n dX2_weighBoards_38 rfl rfl ?_
    refine xv_iload_n dX2_weighBoards_39 rfl rfl ?_
    refine xv_iaload dX2_weighBoards_40 (go_104 hG) (xv_ixn (by omega) (by decide)) ?_
    refine xv_nmI ((congrFun (hw.1 104 (by decide)) i).trans (hsz i hi)) ?_
    refine xv_iadd dX2_weighBoards_41 ?_
    refine xv_nmI (nI_add _ _) ?_
    refine xv_aload_n dX2_weighBoards_42 rfl rfl ?_
    refine xv_geti dX2_weighBoards_43 fl_X2_18 (go_3 hG) rfl ?_
    refine xv_nmI ((congrFun (hw.1 3 (by decide)) 2).trans hlo) ?_
    refine xv_iadd dX2_weighBoards_46 ?_
    refine xv_nmI (nI_add _ _) ?_
    refine xv_iastore dX2_weighBoards_47 (go_140 hG) (xv_ixn (by omega) (by decide)) ?_
    refine xv_iinc dX2_weighBoards_48 rfl (xv_inc _) (Nat.le_of_ble_eq_true rfl) rfl ?_
    refine xv_goto (tgt := 15) dX2_weighBoards_51 rfl ?_
    refine ih (s + 1) _ (by omega) ⟨fun b g => ?_, fun S hS => ?_⟩
    · rw [xv_ui_ne g]; exact hw.1 b g
    · by_cases e : S = 2 ^ i + s
      · subst e
        rw [xv_ui_s, ← hor, ws_add (by omega) 12, if_pos (by omega)]
        congr 1
        omega
      · rw [xv_ui_o e]; exact hw.2 S (by omega)

theorem s2_w2 {l : Launch} {D : va_G} {d : Nat} {G : xv_Gr} {I : xv_I} {J : xv_J} {Q : xv_Po} (hG : xg_ok G) {np : Nat} (hnp : np ≤ 12) {sz : Nat → Nat} (hsz : ∀ p, p < np → I 104 p = nI (sz p)) {lo : Nat} (hlo : I 3 2 = nI lo) (kk : ∀ I2, w_f I I2 sz lo (2 ^ np) → xv_Ev l D d mX2_weighBoards none 60 [some (.ref 3), some (.int (nI np)), some (.ref 104), some (.int (nI np)), none, none] [] G I2 J 0 0 Q) : ∀ (r i : Nat) (I2 : xv_I), i + r = np → w_f I I2 sz lo (2 ^ i) → xv_Ev l D d mX2_weighBoards none 2 [some (.ref 3), some (.int (nI np)), some (.ref 104), some (.int (nI i)), none, none] [] G I2 J 0 0 Q := by
  intro r
  induction r with
  | zero =>
    intro i I2 hs hw
    refine xv_iload_n dX2_weighBoards_2 rfl rfl ?_
    refine xv_iload_n dX2_weighBoards_3 rfl rfl ?_
    refine xv_icmp_geN (tgt := 60) dX2_weighBoards_4 rfl (by omega) (by omega) (fun c_4 => ?_) (fun c_4 => absurd c_4 (by omega))
    have e : i = np := by omega
    subst e
    exact kk I2 hw
  | succ r ih =>
    intro i I2 hs hw
    refine xv_iload_n dX2_weighBoards_2 rfl rfl ?_
    refine xv_iload_n dX2_weighBoards_3 rfl rfl ?_
    refine xv_icmp_geN (tgt := 60) dX2_weighBoards_4 rfl (by omega) (by omega) (fun c_4 => absurd c_4 (by omega)) (fun c_4 => ?_)
    refine xv_iconst (v := 1) dX2_weighBoards_7 rfl ?_
    refine xv_iload_n dX2_weighBoards_8 rfl rfl ?_
    refine xv_ishl dX2_weighBoards_9 ?_
    refine xv_nmI (xi_one (by omega)) ?_
    refine xv_istore dX2_weighBoards_10 (Nat.le_of_ble_eq_true rfl) rfl ?_
    refine xv_iconst (v := nI 0) dX2_weighBoards_12 rfl ?_
    refine xv_istore dX2_weighBoards_13 (Nat.le_of_ble_eq_true rfl) rfl ?_
    refine s2_w1 hG hnp hsz hlo (i := i) (by omega) (fun I3 hw3 => ?_) (2 ^ i) 0 I2 (by omega) hw
    refine xv_iinc dX2_weighBoards_54 rfl (xv_inc _) (Nat.le_of_ble_eq_true rfl) rfl ?_
    refine xv_goto (tgt := 2) dX2_weighBoards_57 rfl ?_
    refine xv_fg [true, true, true, true, false, false] (ih (i + 1) I3 (by omega) ?_)
    rw [Nat.pow_succ, Nat.mul_two]
    exact hw3

theorem s2_w3 {l : Launch} {D : va_G} {d : Nat} {G : xv_Gr} {I : xv_I} {J : xv_J} {Q : xv_Po} (hG : xg_ok G) {np : Nat} (hnp : np ≤ 12) {sz : Nat → Nat} (hsz : ∀ p, p < np → I 104 p = nI (sz p)) {lo : Nat} (hlo : I 3 2 = nI lo) (hQ : ∀ I2, w_g I I2 sz lo np (2 ^ np) → Q none G I2 J) : ∀ (r t : Nat) (I2 : xv_I), 1 ≤ t → t + r = 2 ^ np → w_g I I2 sz lo np t → xv_Ev l D (d + 1) mX2_weighBoards none 67 [some (.ref 3), some (.int (nI np)), some (.ref 104), some (.int (nI (2 ^ np))), some (.int (nI t)), none] [] G I2 J 0 0 Q := by
  intro r
  induction r with
  | zero =>
    intro t I2 h1 hs hw
    have h2 : 2 ^ np ≤ 2 ^ 12 := Nat.pow_le_pow_right (by decide) hnp
    have h24 : (2 : Nat) ^ 12 = 4096 := by decide
    refine xv_iload dX2_weighBoards_67 rfl ?_
    refine xv_iload_n dX2_weighBoards_69 rfl rfl ?_
    refine xv_icmp_geN (tgt := 125) dX2_weighBoards_70 rfl (by omega) (by omega) (fun c_70 => ?_) (fun c_70 => absurd c_70 (by omega))
    refine xv_vret dX2_weighBoards_125 rfl (Nat.zero_le _) (Nat.zero_le _) ?_
    have e : t = 2 ^ np := by omega
    subst e
    exact hQ I2 hw
  | succ r ih =>
    intro t I2 h1 hs hw
    cases e : fl_ (fun k => (nI (ws_ sz lo t 12) - nI lo) ≤ I 130 k) (I 131) 4 with
    | none =>
      have h2 : 2 ^ np ≤ 2 ^ 12 := Nat.pow_le_pow_right (by decide) hnp
      have h24 : (2 : Nat) ^ 12 = 4096 := by decide
      have e30 : I2 130 = I 130 := hw.1 130 (by decide)
      have e31 : I2 131 = I 131 := hw.1 131 (by decide)
      refine xv_iload dX2_weighBoards_67 rfl ?_
      refine xv_iload_n dX2_weighBoards_69 rfl rfl ?_
      refine xv_icmp_geN (tgt := 125) dX2_weighBoards_70 rfl (by omega) (by omega) (fun c_70 => absurd c_70 (by omega)) (fun c_70 => ?_)
      refine xv_aload_n dX2_weighBoards_73 rfl rfl ?_
      refine xv_aload_n dX2_weighBoards_74 rfl rfl ?_
      refine xv_getr dX2_weighBoards_75 fl_X2_44 (go_3 hG) rfl (gr_3_10 hG) ?_
      refine xv_iload dX2_weighBoards_78 rfl ?_
      refine xv_iaload dX2_weighBoards_80 (go_140 hG) (xv_ixn (by omega) (by decide)) ?_
      refine xv_nmI (hw.2.2.2 t (Nat.le_refl _) (by omega)) ?_
      refine xv_aload_n dX2_weighBoards_81 rfl rfl ?_
      refine xv_geti dX2_weighBoards_82 fl_X2_18 (go_3 hG) rfl ?_
      refine xv_nmI ((congrFun (hw.1 3 (by decide)) 2).trans hlo) ?_
      refine xv_isub dX2_weighBoards_85 ?_
      refine xv_callV0 (As := [_]) dX2_weighBoards_86 cl_X2_51 rfl rfl rfl rfl (go_3 hG) rfl rfl (Nat.le_of_ble_eq_true rfl) (Nat.le_of_ble_eq_true rfl) (Nat.zero_le _) (Nat.zero_le _) ?_
      refine s2_cheapestSort hG ?_
      rw [e30, e31, e]
      show xv_Ev l D (d + 1) mX2_weighBoards none 89 [some (.ref 3), some (.int (nI np)), some (.ref 104), some (.int (nI (2 ^ np))), some (.int (nI t)), none] [.int (-1)] G I2 J 0 0 Q
      refine xv_istore dX2_weighBoards_89 (Nat.le_of_ble_eq_true rfl) rfl ?_
      refine xv_aload_n dX2_weighBoards_91 rfl rfl ?_
      refine xv_getr dX2_weighBoards_92 fl_X2_44 (go_3 hG) rfl (gr_3_10 hG) ?_
      refine xv_iload dX2_weighBoards_95 rfl ?_
      refine xv_iload dX2_weighBoards_97 rfl ?_
      refine xv_if_ge (tgt := 106) dX2_weighBoards_99 rfl (fun c_99 => absurd c_99 (by decide)) (fun c_99 => ?_)
      refine xv_iconst (v := -1) dX2_weighBoards_102 rfl ?_
      refine xv_goto (tgt := 118) dX2_weighBoards_103 rfl ?_
      refine xv_iastore dX2_weighBoards_118 (go_140 hG) (xv_ixn (by omega) (by decide)) ?_
      refine xv_iinc dX2_weighBoards_119 rfl (xv_inc _) (Nat.le_of_ble_eq_true rfl) rfl ?_
      refine xv_goto (tgt := 67) dX2_weighBoards_122 rfl ?_
      refine xv_fg [true, true, true, true, true, false] (ih (t + 1) _ (by omega) (by omega) ⟨fun b g => ?_, ?_, fun S g1 g2 => ?_, fun S g1 g2 => ?_⟩)
      · rw [xv_ui_ne g]; exact hw.1 b g
      · rw [xv_ui_o (by omega)]; exact hw.2.1
      · by_cases es : S = t
        · subst es; rw [xv_ui_s, bv_, e]
        · rw [xv_ui_o es]; exact hw.2.2.1 S g1 (by omega)
      · rw [xv_ui_o (by omega)]; exact hw.2.2.2 S (by omega) g2
    | some q =>
      have hq := (fl_lt e).1
      have h2 : 2 ^ np ≤ 2 ^ 12 := Nat.pow_le_pow_right (by decide) hnp
      have h24 : (2 : Nat) ^ 12 = 4096 := by decide
      have e30 : I2 130 = I 130 := hw.1 130 (by decide)
      have e31 : I2 131 = I 131 := hw.1 131 (by decide)
      refine xv_iload dX2_weighBoards_67 rfl ?_
      refine xv_iload_n dX2_weighBoards_69 rfl rfl ?_
      refine xv_icmp_geN (tgt := 125) dX2_weighBoards_70 rfl (by omega) (by omega) (fun c_70 => absurd c_70 (by omega)) (fun c_70 => ?_)
      refine xv_aload_n dX2_weighBoards_73 rfl rfl ?_
      refine xv_aload_n dX2_weighBoards_74 rfl rfl ?_
      refine xv_getr dX2_weighBoards_75 fl_X2_44 (go_3 hG) rfl (gr_3_10 hG) ?_
      refine xv_iload dX2_weighBoards_78 rfl ?_
      refine xv_iaload dX2_weighBoards_80 (go_140 hG) (xv_ixn (by omega) (by decide)) ?_
      refine xv_nmI (hw.2.2.2 t (Nat.le_refl _) (by omega)) ?_
      refine xv_aload_n dX2_weighBoards_81 rfl rfl ?_
      refine xv_geti dX2_weighBoards_82 fl_X2_18 (go_3 hG) rfl ?_
      refine xv_nmI ((congrFun (hw.1 3 (by decide)) 2).trans hlo) ?_
      refine xv_isub dX2_weighBoards_85 ?_
      refine xv_callV0 (As := [_]) dX2_weighBoards_86 cl_X2_51 rfl rfl rfl rfl (go_3 hG) rfl rfl (Nat.le_of_ble_eq_true rfl) (Nat.le_of_ble_eq_true rfl) (Nat.zero_le _) (Nat.zero_le _) ?_
      refine s2_cheapestSort hG ?_
      rw [e30, e31, e]
      show xv_Ev l D (d + 1) mX2_weighBoards none 89 [some (.ref 3), some (.int (nI np)), some (.ref 104), some (.int (nI (2 ^ np))), some (.int (nI t)), none] [.int (nI q)] G I2 J 0 0 Q
      refine xv_istore dX2_weighBoards_89 (Nat.le_of_ble_eq_true rfl) rfl ?_
      refine xv_aload_n dX2_weighBoards_91 rfl rfl ?_
      refine xv_getr dX2_weighBoards_92 fl_X2_44 (go_3 hG) rfl (gr_3_10 hG) ?_
      refine xv_iload dX2_weighBoards_95 rfl ?_
      refine xv_iload dX2_weighBoards_97 rfl ?_
      refine xv_if_ge (tgt := 106) dX2_weighBoards_99 rfl (fun c_99 => ?_) (fun c_99 => absurd (show (0 : Int32) ≤ nI q from by simp only [xn_le, nI_toInt (show q < 2 ^ 31 by omega), Int32.reduceToInt]; omega) c_99)
      refine xv_aload_n dX2_weighBoards_106 rfl rfl ?_
      refine xv_getr dX2_weighBoards_107 fl_X2_15 (go_3 hG) rfl (gr_3_1 hG) ?_
      refine xv_iload dX2_weighBoards_110 rfl ?_
      refine xv_iaload dX2_weighBoards_112 (go_131 hG) (xv_ixn (by omega) (by decide)) ?_
      refine xv_nmI (congrFun e31 q) ?_
      refine xv_bipush (v := 13) dX2_weighBoards_113 rfl ?_
      refine xv_imul dX2_weighBoards_115 ?_
      refine xv_iconst (v := 1) dX2_weighBoards_116 rfl ?_
      refine xv_iadd dX2_weighBoards_117 ?_
      refine xv_iastore dX2_weighBoards_118 (go_140 hG) (xv_ixn (by omega) (by decide)) ?_
      refine xv_iinc dX2_weighBoards_119 rfl (xv_inc _) (Nat.le_of_ble_eq_true rfl) rfl ?_
      refine xv_goto (tgt := 67) dX2_weighBoards_122 rfl ?_
      refine xv_fg [true, true, true, true, true, false] (ih (t + 1) _ (by omega) (by omega) ⟨fun b g => ?_, ?_, fun S g1 g2 => ?_, fun S g1 g2 => ?_⟩)
      · rw [xv_ui_ne g]; exact hw.1 b g
      · rw [xv_ui_o (by omega)]; exact hw.2.1
      · by_cases es : S = t
        · subst es; rw [xv_ui_s, bv_, e]
        · rw [xv_ui_o es]; exact hw.2.2.1 S g1 (by omega)
      · rw [xv_ui_o (by omega)]; exact hw.2.2.2 S (by omega) g2

theorem s2_weighBoards {l : Launch} {D : va_G} {d : Nat} {G : xv_Gr} {I : xv_I} {J : xv_J} {Q : xv_Po} (hG : xg_ok G) {np : Nat} (hnp : np ≤ 12) {sz : Nat → Nat} (hsz : ∀ p, p < np → I 104 p = nI (sz p)) {lo : Nat} (hlo : I 3 2 = nI lo) (h0 : I 140 0 = 0) (hQ : ∀ I2, w_g I I2 sz lo np (2 ^ np) → Q none G I2 J) : xv_Ev l D (d + 1) mX2_weighBoards none 0 [some (.ref 3), some (.int (nI np)), some (.ref 104), none, none, none] [] G I J 0 0 Q := by
  refine xv_iconst (v := nI 0) dX2_weighBoards_0 rfl ?_
  refine xv_istore_n dX2_weighBoards_1 rfl (Nat.le_of_ble_eq_true rfl) rfl ?_
  refine s2_w2 (d := d + 1) hG hnp hsz hlo (fun I2 hw => ?_) np 0 I (by omega) ⟨fun _ _ => rfl, fun S hS => ?_⟩
  rotate_left
  · have e : S = 0 := by omega
    rw [e, ws_0]; exact h0
  refine xv_iconst (v := 1) dX2_weighBoards_60 rfl ?_
  refine xv_iload_n dX2_weighBoards_61 rfl rfl ?_
  refine xv_ishl dX2_weighBoards_62 ?_
  refine xv_nmI (xi_one (by omega)) ?_
  refine xv_istore_n dX2_weighBoards_63 rfl (Nat.le_of_ble_eq_true rfl) rfl ?_
  refine xv_iconst (v := nI 1) dX2_weighBoards_64 rfl ?_
  refine xv_istore dX2_weighBoards_65 (Nat.le_of_ble_eq_true rfl) rfl ?_
  have hp : 0 < 2 ^ np := Nat.two_pow_pos np
  exact s2_w3 hG hnp hsz hlo hQ (2 ^ np - 1) 1 I2 (Nat.le_refl _) (by omega) ⟨hw.1, (hw.2 0 hp).trans (by rw [ws_0]), fun S g1 g2 => absurd g1 (by omega), fun S g1 g2 => hw.2 S g2⟩
