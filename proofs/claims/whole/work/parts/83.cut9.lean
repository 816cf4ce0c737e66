/-! boards (model): needOf, sortFor, layCosts -/
theorem s11_nd_l {l : Launch} {D : va_G} {d : Nat} {G : xv_Gr} {I : xv_I} {J : xv_J} {Q : xv_Po} (hG : xg_ok G) {np : Nat} (hn : I 40 1 = nI np) (hnp : np ≤ 12) {sz : Nat → Nat} (hsz : ∀ p, p < np → I 53 p = nI (sz p)) {lo : Nat} (hlo : I 40 15 = nI lo) {S : Nat} (hS : S < 2 ^ 31) (hQ : Q (some (.int (-(nI lo) + nI (ws_ sz lo S np)))) G I J) : ∀ (k i : Nat), i + k = np → xv_Ev l D d mX11_needOf none 8 [some (.ref 40), some (.int (nI S)), some (.int (-(nI lo) + nI (ws_ sz lo S i))), some (.int (nI i))] [] G I J 0 0 Q := by
  intro k
  induction k with
  | zero =>
    intro i hi
    refine xv_iload_n dX11_needOf_8 rfl rfl ?_
    refine xv_aload_n dX11_needOf_9 rfl rfl ?_
    refine xv_geti dX11_needOf_10 fl_X11_135 (go_40 hG) rfl ?_
    refine xv_nmI hn ?_
    refine xv_icmp_geN (tgt := 49) dX11_needOf_13 rfl (by omega) (by omega) (fun c_13 => ?_) (fun c_13 => absurd c_13 (by omega))
    refine xv_iload_n dX11_needOf_49 rfl rfl ?_
    refine xv_iret dX11_needOf_50 rfl (Nat.zero_le _) (Nat.zero_le _) ?_
    have e : i = np := by omega
    subst e
    exact hQ
  | succ k ih =>
    intro i hi
    refine xv_iload_n dX11_needOf_8 rfl rfl ?_
    refine xv_aload_n dX11_needOf_9 rfl rfl ?_
    refine xv_geti dX11_needOf_10 fl_X11_135 (go_40 hG) rfl ?_
    refine xv_nmI hn ?_
    refine xv_icmp_geN (tgt := 49) dX11_needOf_13 rfl (by omega) (by omega) (fun c_13 => absurd c_13 (by omega)) (fun c_13 => ?_)
    refine xv_iload_n dX11_needOf_16 rfl rfl ?_
    refine xv_iload_n dX11_needOf_17 rfl rfl ?_
    refine xv_iload_n dX11_needOf_18 rfl rfl ?_
    refine xv_ishr dX11_needOf_19 ?_
    refine xv_iconst (v := 1) dX11_needOf_20 rfl ?_
    refine xv_iand dX11_needOf_21 ?_
    have hm2 := Nat.mod_lt (S / 2 ^ i) (show 0 < 2 by decide)
    refine xv_nmI (xi_bit (by omega) (by omega)) ?_
    refine xv_iconst (v := nI 1) dX11_needOf_22 rfl ?_
    refine xv_icmp_neN (tgt := 40) dX11_needOf_23 rfl (by omega) (by omega) (fun c_23 => ?_) (fun c_23 => ?_)
    · refine xv_iconst (v := nI 0) dX11_needOf_40 rfl ?_
      refine xv_iadd dX11_needOf_41 ?_
      refine xv_nmI (dl_ad _ _ _) ?_
      refine xv_istore_n dX11_needOf_42 rfl (Nat.le_of_ble_eq_true rfl) rfl ?_
      refine xv_iinc dX11_needOf_43 rfl (xv_inc _) (Nat.le_of_ble_eq_true rfl) rfl ?_
      refine xv_goto (tgt := 8) dX11_needOf_46 rfl ?_
      have h := ih (i + 1) (by omega)
      rw [ws_, if_neg (fun z => c_23 (xt_v1 z))] at h
      exact h
    · refine xv_aload_n dX11_needOf_26 rfl rfl ?_
      refine xv_getr dX11_needOf_27 fl_X11_17 (go_40 hG) rfl (gr_40_3 hG) ?_
      refine xv_iload_n dX11_needOf_30 rfl rfl ?_
      refine xv_iaload dX11_needOf_31 (go_53 hG) (xv_ixn (by omega) (by decide)) ?_
      refine xv_nmI (hsz i (by omega)) ?_
      refine xv_aload_n dX11_needOf_32 rfl rfl ?_
      refine xv_geti dX11_needOf_33 fl_X11_51 (go_40 hG) rfl ?_
      refine xv_nmI hlo ?_
      refine xv_iadd dX11_needOf_36 ?_
      refine xv_nmI (nI_add _ _) ?_
      refine xv_goto (tgt := 41) dX11_needOf_37 rfl ?_
      refine xv_iadd dX11_needOf_41 ?_
      refine xv_nmI (dl_ad _ _ _) ?_
      refine xv_istore_n dX11_needOf_42 rfl (Nat.le_of_ble_eq_true rfl) rfl ?_
      refine xv_iinc dX11_needOf_43 rfl (xv_inc _) (Nat.le_of_ble_eq_true rfl) rfl ?_
      refine xv_goto (tgt := 8) dX11_needOf_46 rfl ?_
      have h := ih (i + 1) (by omega)
      rw [ws_, if_pos ((xt_iff S i).mp c_23)] at h
      exact h

theorem s11_needOf {l : Launch} {D : va_G} {d : Nat} {G : xv_Gr} {I : xv_I} {J : xv_J} {Q : xv_Po} (hG : xg_ok G) {np : Nat} (hn : I 40 1 = nI np) (hnp : np ≤ 12) {sz : Nat → Nat} (hsz : ∀ p, p < np → I 53 p = nI (sz p)) {lo : Nat} (hlo : I 40 15 = nI lo) {S : Nat} (hS : S < 2 ^ 31) (hQ : Q (some (.int (-(nI lo) + nI (ws_ sz lo S np)))) G I J) : xv_Ev l D d mX11_needOf none 0 [some (.ref 40), some (.int (nI S)), none, none] [] G I J 0 0 Q := by
  refine xv_aload_n dX11_needOf_0 rfl rfl ?_
  refine xv_geti dX11_needOf_1 fl_X11_51 (go_40 hG) rfl ?_
  refine xv_nmI hlo ?_
  refine xv_ineg dX11_needOf_4 ?_
  refine xv_nmI (Int32.add_zero _).symm ?_
  refine xv_istore_n dX11_needOf_5 rfl (Nat.le_of_ble_eq_true rfl) rfl ?_
  refine xv_iconst (v := nI 0) dX11_needOf_6 rfl ?_
  refine xv_istore_n dX11_needOf_7 rfl (Nat.le_of_ble_eq_true rfl) rfl ?_
  exact s11_nd_l hG hn hnp hsz hlo hS hQ np 0 (by omega)

def ms_R (I : xv_I) (x : Int32) (k : Nat) : Prop := 0 < I 63 k ∧ x ≤ I 63 k
noncomputable def ms_ (I : xv_I) (x : Int32) : Option Nat := fl_ (ms_R I x) (I 64) 4
theorem ms_cg {I I2 : xv_I} (h : I2 63 = I 63) (h2 : I2 64 = I 64) (x : Int32) : ms_ I2 x = ms_ I x := by
  have e : ms_R I2 x = ms_R I x := by
    funext k
    rw [ms_R, ms_R, h]
  rw [ms_, ms_, e, h2]
theorem s11_sf_l {l : Launch} {D : va_G} {d : Nat} {G : xv_Gr} {I : xv_I} {J : xv_J} {Q : xv_Po} (hG : xg_ok G) {S : Nat} {y : Int32} (hQ : Q (some (.int (ob_ (-900009) (ms_ I y)))) G I J) : ∀ (n s : Nat), s + n = 4 → xv_Ev l D (d + 1) mX11_sortFor none 12 [some (.ref 40), some (.int (nI S)), some (.int y), some (.int (ob_ (-900009) (fl_ (ms_R I y) (I 64) s))), some (.int (nI s)), none] [] G I J 0 0 Q := by
  intro n
  induction n with
  | zero =>
    intro s hs
    refine xv_iload dX11_sortFor_12 rfl ?_
    refine xv_iconst (v := nI 4) dX11_sortFor_14 rfl ?_
    refine xv_icmp_geN (tgt := 86) dX11_sortFor_15 rfl (by omega) (by omega) (fun c_15 => ?_) (fun c_15 => absurd c_15 (by omega))
    refine xv_iload_n dX11_sortFor_86 rfl rfl ?_
    refine xv_iret dX11_sortFor_87 rfl (Nat.zero_le _) (Nat.zero_le _) ?_
    have e : s = 4 := by omega
    subst e
    exact hQ
  | succ n ih =>
    intro s hs
    cases e : (fl_ (ms_R I y) (I 64) s) with
    | none =>
      show xv_Ev l D (d + 1) mX11_sortFor none 12 [some (.ref 40), some (.int (nI S)), some (.int y), some (.int (-900009)), some (.int (nI s)), none] [] G I J 0 0 Q
      refine xv_iload dX11_sortFor_12 rfl ?_
      refine xv_iconst (v := nI 4) dX11_sortFor_14 rfl ?_
      refine xv_icmp_geN (tgt := 86) dX11_sortFor_15 rfl (by omega) (by omega) (fun c_15 => absurd c_15 (by omega)) (fun c_15 => ?_)
      refine xv_aload_n dX11_sortFor_18 rfl rfl ?_
      refine xv_getr dX11_sortFor_19 fl_X11_45 (go_40 hG) rfl (gr_40_13 hG) ?_
      refine xv_iload dX11_sortFor_22 rfl ?_
      refine xv_iaload dX11_sortFor_24 (go_63 hG) (xv_ixn (by omega) (by decide)) ?_
      refine xv_if_le (tgt := 43) dX11_sortFor_25 rfl (fun c_25 => ?_) (fun c_25 => ?_)
      · refine xv_iconst (v := 0) dX11_sortFor_43 rfl ?_
        refine xv_istore dX11_sortFor_44 (Nat.le_of_ble_eq_true rfl) rfl ?_
        refine xv_iload dX11_sortFor_46 rfl ?_
        refine xv_if_eq (tgt := 78) dX11_sortFor_48 rfl (fun c_48 => ?_) (fun c_48 => absurd (by decide) c_48)
        refine xv_iload_n dX11_sortFor_78 rfl rfl ?_
        refine xv_istore_n dX11_sortFor_79 rfl (Nat.le_of_ble_eq_true rfl) rfl ?_
        refine xv_iinc dX11_sortFor_80 rfl (xv_inc _) (Nat.le_of_ble_eq_true rfl) rfl ?_
        refine xv_goto (tgt := 12) dX11_sortFor_83 rfl ?_
        have hc : ¬ fl_c (ms_R I y) (I 64) s (fl_ (ms_R I y) (I 64) s) := fun h => absurd h.1.1 (by simp only [xn_lt, xn_le, Int32.reduceToInt] at *; omega)
        have h := ih (s + 1) (by omega)
        rw [fl_n hc, e] at h
        refine xv_fg [true, true, true, true, true, false] ?_
        exact h
      · refine xv_aload_n dX11_sortFor_28 rfl rfl ?_
        refine xv_getr dX11_sortFor_29 fl_X11_45 (go_40 hG) rfl (gr_40_13 hG) ?_
        refine xv_iload dX11_sortFor_32 rfl ?_
        refine xv_iaload dX11_sortFor_34 (go_63 hG) (xv_ixn (by omega) (by decide)) ?_
        refine xv_iload_n dX11_sortFor_35 rfl rfl ?_
        refine xv_icmp_lt (tgt := 43) dX11_sortFor_36 rfl (fun c_36 => ?_) (fun c_36 => ?_)
        · refine xv_iconst (v := 0) dX11_sortFor_43 rfl ?_
          refine xv_istore dX11_sortFor_44 (Nat.le_of_ble_eq_true rfl) rfl ?_
          refine xv_iload dX11_sortFor_46 rfl ?_
          refine xv_if_eq (tgt := 78) dX11_sortFor_48 rfl (fun c_48 => ?_) (fun c_48 => absurd (by decide) c_48)
          refine xv_iload_n dX11_sortFor_78 rfl rfl ?_
          refine xv_istore_n dX11_sortFor_79 rfl (Nat.le_of_ble_eq_true rfl) rfl ?_
          refine xv_iinc dX11_sortFor_80 rfl (xv_inc _) (Nat.le_of_ble_eq_true rfl) rfl ?_
          refine xv_goto (tgt := 12) dX11_sortFor_83 rfl ?_
          have hc : ¬ fl_c (ms_R I y) (I 64) s (fl_ (ms_R I y) (I 64) s) := fun h => absurd h.1.2 (by simp only [xn_lt, xn_le, Int32.reduceToInt] at *; omega)
          have h := ih (s + 1) (by omega)
          rw [fl_n hc, e] at h
          refine xv_fg [true, true, true, true, true, false] ?_
          exact h
        · refine xv_iconst (v := 1) dX11_sortFor_39 rfl ?_
          refine xv_goto (tgt := 44) dX11_sortFor_40 rfl ?_
          refine xv_istore dX11_sortFor_44 (Nat.le_of_ble_eq_true rfl) rfl ?_
          refine xv_iload dX11_sortFor_46 rfl ?_
          refine xv_if_eq (tgt := 78) dX11_sortFor_48 rfl (fun c_48 => absurd c_48 (by decide)) (fun c_48 => ?_)
          refine xv_iload_n dX11_sortFor_51 rfl rfl ?_
          refine xv_ldc dX11_sortFor_52 ld_X11_152 ?_
          refine xv_icmp_eq (tgt := 73) dX11_sortFor_54 rfl (fun c_54 => ?_) (fun c_54 => absurd rfl c_54)
          refine xv_iload dX11_sortFor_73 rfl ?_
          refine xv_goto (tgt := 79) dX11_sortFor_75 rfl ?_
          refine xv_istore_n dX11_sortFor_79 rfl (Nat.le_of_ble_eq_true rfl) rfl ?_
          refine xv_iinc dX11_sortFor_80 rfl (xv_inc _) (Nat.le_of_ble_eq_true rfl) rfl ?_
          refine xv_goto (tgt := 12) dX11_sortFor_83 rfl ?_
          have hc : fl_c (ms_R I y) (I 64) s (fl_ (ms_R I y) (I 64) s) := ⟨⟨(by simp only [xn_lt, xn_le, Int32.reduceToInt] at *; omega), (by simp only [xn_lt, xn_le, Int32.reduceToInt] at *; omega)⟩, fun j hj => (by rw [e] at hj; cases hj)⟩
          have h := ih (s + 1) (by omega)
          rw [fl_y hc] at h
          refine xv_fg [true, true, true, true, true, false] ?_
          exact h
    | some q =>
      have hq := (fl_lt e).1
      show xv_Ev l D (d + 1) mX11_sortFor none 12 [some (.ref 40), some (.int (nI S)), some (.int y), some (.int (nI q)), some (.int (nI s)), none] [] G I J 0 0 Q
      refine xv_iload dX11_sortFor_12 rfl ?_
      refine xv_iconst (v := nI 4) dX11_sortFor_14 rfl ?_
      refine xv_icmp_geN (tgt := 86) dX11_sortFor_15 rfl (by omega) (by omega) (fun c_15 => absurd c_15 (by omega)) (fun c_15 => ?_)
      refine xv_aload_n dX11_sortFor_18 rfl rfl ?_
      refine xv_getr dX11_sortFor_19 fl_X11_45 (go_40 hG) rfl (gr_40_13 hG) ?_
      refine xv_iload dX11_sortFor_22 rfl ?_
      refine xv_iaload dX11_sortFor_24 (go_63 hG) (xv_ixn (by omega) (by decide)) ?_
      refine xv_if_le (tgt := 43) dX11_sortFor_25 rfl (fun c_25 => ?_) (fun c_25 => ?_)
      · refine xv_iconst (v := 0) dX11_sortFor_43 rfl ?_
        refine xv_istore dX11_sortFor_44 (Nat.le_of_ble_eq_true rfl) rfl ?_
        refine xv_iload dX11_sortFor_46 rfl ?_
        refine xv_if_eq (tgt := 78) dX11_sortFor_48 rfl (fun c_48 => ?_) (fun c_48 => absurd (by decide) c_48)
        refine xv_iload_n dX11_sortFor_78 rfl rfl ?_
        refine xv_istore_n dX11_sortFor_79 rfl (Nat.le_of_ble_eq_true rfl) rfl ?_
        refine xv_iinc dX11_sortFor_80 rfl (xv_inc _) (Nat.le_of_ble_eq_true rfl) rfl ?_
        refine xv_goto (tgt := 12) dX11_sortFor_83 rfl ?_
        have hc : ¬ fl_c (ms_R I y) (I 64) s (fl_ (ms_R I y) (I 64) s) := fun h => absurd h.1.1 (by simp only [xn_lt, xn_le, Int32.reduceToInt] at *; omega)
        have h := ih (s + 1) (by omega)
        rw [fl_n hc, e] at h
        refine xv_fg [true, true, true, true, true, false] ?_
        exact h
      · refine xv_aload_n dX11_sortFor_28 rfl rfl ?_
        refine xv_getr dX11_sortFor_29 fl_X11_45 (go_40 hG) rfl (gr_40_13 hG) ?_
        refine xv_iload dX11_sortFor_32 rfl ?_
        refine xv_iaload dX11_sortFor_34 (go_63 hG) (xv_ixn (by omega) (by decide)) ?_
        refine xv_iload_n dX11_sortFor_35 rfl rfl ?_
        refine xv_icmp_lt (tgt := 43) dX11_sortFor_36 rfl (fun c_36 => ?_) (fun c_36 => ?_)
        · refine xv_iconst (v := 0) dX11_sortFor_43 rfl ?_
          refine xv_istore dX11_sortFor_44 (Nat.le_of_ble_eq_true rfl) rfl ?_
          refine xv_iload dX11_sortFor_46 rfl ?_
          refine xv_if_eq (tgt := 78) dX11_sortFor_48 rfl (fun c_48 => ?_) (fun c_48 => absurd (by decide) c_48)
          refine xv_iload_n dX11_sortFor_78 rfl rfl ?_
          refine xv_istore_n dX11_sortFor_79 rfl (Nat.le_of_ble_eq_true rfl) rfl ?_
          refine xv_iinc dX11_sortFor_80 rfl (xv_inc _) (Nat.le_of_ble_eq_true rfl) rfl ?_
          refine xv_goto (tgt := 12) dX11_sortFor_83 rfl ?_
          have hc : ¬ fl_c (ms_R I y) (I 64) s (fl_ (ms_R I y) (I 64) s) := fun h => absurd h.1.2 (by simp only [xn_lt, xn_le, Int32.reduceToInt] at *; omega)
          have h := ih (s + 1) (by omega)
          rw [fl_n hc, e] at h
          refine xv_fg [true, true, true, true, true, false] ?_
          exact h
        · refine xv_iconst (v := 1) dX11_sortFor_39 rfl ?_
          refine xv_goto (tgt := 44) dX11_sortFor_40 rfl ?_
          refine xv_istore dX11_sortFor_44 (Nat.le_of_ble_eq_true rfl) rfl ?_
          refine xv_iload dX11_sortFor_46 rfl ?_
          refine xv_if_eq (tgt := 78) dX11_sortFor_48 rfl (fun c_48 => absurd c_48 (by decide)) (fun c_48 => ?_)
          refine xv_iload_n dX11_sortFor_51 rfl rfl ?_
          refine xv_ldc dX11_sortFor_52 ld_X11_152 ?_
          refine xv_icmp_eq (tgt := 73) dX11_sortFor_54 rfl (fun c_54 => absurd c_54 (nI_nNONE (by omega))) (fun c_54 => ?_)
          refine xv_aload_n dX11_sortFor_57 rfl rfl ?_
          refine xv_getr dX11_sortFor_58 fl_X11_48 (go_40 hG) rfl (gr_40_14 hG) ?_
          refine xv_iload dX11_sortFor_61 rfl ?_
          refine xv_iaload dX11_sortFor_63 (go_64 hG) (xv_ixn (by omega) (by decide)) ?_
          refine xv_aload_n dX11_sortFor_64 rfl rfl ?_
          refine xv_getr dX11_sortFor_65 fl_X11_48 (go_40 hG) rfl (gr_40_14 hG) ?_
          refine xv_iload_n dX11_sortFor_68 rfl rfl ?_
          refine xv_iaload dX11_sortFor_69 (go_64 hG) (xv_ixn (by omega) (by decide)) ?_
          refine xv_icmp_ge (tgt := 78) dX11_sortFor_70 rfl (fun c_70 => ?_) (fun c_70 => ?_)
          · refine xv_iload_n dX11_sortFor_78 rfl rfl ?_
            refine xv_istore_n dX11_sortFor_79 rfl (Nat.le_of_ble_eq_true rfl) rfl ?_
            refine xv_iinc dX11_sortFor_80 rfl (xv_inc _) (Nat.le_of_ble_eq_true rfl) rfl ?_
            refine xv_goto (tgt := 12) dX11_sortFor_83 rfl ?_
            have hc : ¬ fl_c (ms_R I y) (I 64) s (fl_ (ms_R I y) (I 64) s) := fun h => absurd (h.2 q e) (by simp only [xn_lt, xn_le, Int32.reduceToInt] at *; omega)
            have h := ih (s + 1) (by omega)
            rw [fl_n hc, e] at h
            refine xv_fg [true, true, true, true, true, false] ?_
            exact h
          · refine xv_iload dX11_sortFor_73 rfl ?_
            refine xv_goto (tgt := 79) dX11_sortFor_75 rfl ?_
            refine xv_istore_n dX11_sortFor_79 rfl (Nat.le_of_ble_eq_true rfl) rfl ?_
            refine xv_iinc dX11_sortFor_80 rfl (xv_inc _) (Nat.le_of_ble_eq_true rfl) rfl ?_
            refine xv_goto (tgt := 12) dX11_sortFor_83 rfl ?_
            have hc : fl_c (ms_R I y) (I 64) s (fl_ (ms_R I y) (I 64) s) := ⟨⟨(by simp only [xn_lt, xn_le, Int32.reduceToInt] at *; omega), (by simp only [xn_lt, xn_le, Int32.reduceToInt] at *; omega)⟩, fun j hj => (by rw [e] at hj; cases hj; simp only [xn_lt, xn_le] at *; omega)⟩
            have h := ih (s + 1) (by omega)
            rw [fl_y hc] at h
            refine xv_fg [true, true, true, true, true, false] ?_
            exact h

theorem s11_sortFor {l : Launch} {D : va_G} {d : Nat} {G : xv_Gr} {I : xv_I} {J : xv_J} {Q : xv_Po} (hG : xg_ok G) {np : Nat} (hn : I 40 1 = nI np) (hnp : np ≤ 12) {sz : Nat → Nat} (hsz : ∀ p, p < np → I 53 p = nI (sz p)) {lo : Nat} (hlo : I 40 15 = nI lo) {S : Nat} (hS : S < 2 ^ 31) (hQ : Q (some (.int (ob_ (-900009) (ms_ I (-(nI lo) + nI (ws_ sz lo S np)))))) G I J) : xv_Ev l D (d + 1) mX11_sortFor none 0 [some (.ref 40), some (.int (nI S)), none, none, none, none] [] G I J 0 0 Q := by
  refine xv_aload_n dX11_sortFor_0 rfl rfl ?_
  refine xv_iload_n dX11_sortFor_1 rfl rfl ?_
  refine xv_callV0 (As := [_]) dX11_sortFor_2 cl_X11_183 rfl rfl rfl rfl (go_40 hG) rfl rfl (Nat.le_of_ble_eq_true rfl) (Nat.le_of_ble_eq_true rfl) (Nat.zero_le _) (Nat.zero_le _) ?_
  refine s11_needOf (d := d) hG hn hnp hsz hlo hS ?_
  refine xv_istore_n dX11_sortFor_5 rfl (Nat.le_of_ble_eq_true rfl) rfl ?_
  refine xv_ldc dX11_sortFor_6 ld_X11_152 ?_
  refine xv_istore_n dX11_sortFor_8 rfl (Nat.le_of_ble_eq_true rfl) rfl ?_
  refine xv_iconst (v := nI 0) dX11_sortFor_9 rfl ?_
  refine xv_istore dX11_sortFor_10 (Nat.le_of_ble_eq_true rfl) rfl ?_
  exact s11_sf_l hG hQ 4 0 (by omega)

def Mn (P : Nat → Prop) (v : Nat) : Prop := (v = 100000000 ∨ P v) ∧ v ≤ 100000000 ∧ ∀ w, P w → v ≤ w
def Mi (V : Nat → Nat) (r m b : Nat) : Prop := (b = 100000000 ∨ ∃ x, sb_ x r ∧ b = V x) ∧ b ≤ 100000000 ∧ ∀ x, sb_ x r → m < x → b ≤ V x
def Vm (V : Nat → Nat) (r w : Nat) : Prop := ∃ x, sb_ x r ∧ w = V x
def mi_ (a b : Nat) : Nat := if a < b then a else b
theorem Mi_0 (V : Nat → Nat) (r : Nat) : Mi V r r 100000000 := ⟨Or.inl rfl, Nat.le_refl _, fun x h1 h2 => absurd (sb_le h1) (by omega)⟩
theorem Mi_a {V : Nat → Nat} {r m b : Nat} (h : Mi V r m b) (hm : sb_ m r) : (mi_ (V m) b = 100000000 ∨ ∃ x, sb_ x r ∧ mi_ (V m) b = V x) ∧ mi_ (V m) b ≤ 100000000 ∧ mi_ (V m) b ≤ V m ∧ mi_ (V m) b ≤ b := by
  unfold mi_
  have h2 := h.2.1
  split
  · exact ⟨Or.inr ⟨m, hm, rfl⟩, by omega, Nat.le_refl _, by omega⟩
  · exact ⟨h.1, h2, by omega, Nat.le_refl _⟩
theorem Mi_s {V : Nat → Nat} {r m b : Nat} (h : Mi V r m b) (hm : sb_ m r) (h0 : 0 < m) : Mi V r ((m - 1) &&& r) (mi_ (V m) b) := by
  obtain ⟨a1, a2, a3, a4⟩ := Mi_a h hm
  refine ⟨a1, a2, fun x h1 h2 => ?_⟩
  by_cases e : x = m
  · subst e; exact a3
  · rcases Nat.lt_or_ge m x with z | z
    · exact Nat.le_trans a4 (h.2.2 x h1 z)
    · have := sm_next m r x hm h0 h1 (by omega)
      omega
theorem Mi_e {V : Nat → Nat} {r b : Nat} (h : Mi V r 0 b) : Mn (Vm V r) (mi_ (V 0) b) := by
  obtain ⟨a1, a2, a3, a4⟩ := Mi_a h (sb_z r)
  refine ⟨a1, a2, fun w hw => ?_⟩
  obtain ⟨x, h1, h2⟩ := hw
  rw [h2]
  by_cases e : x = 0
  · subst e; exact a3
  · exact Nat.le_trans a4 (h.2.2 x h1 (by omega))
/-- the next part below m, or none behind 0 -/
def nx_ (m r : Nat) : Int32 := if m = 0 then -1 else nI ((m - 1) &&& r)
noncomputable def onf (I : xv_I) (pr sz : Nat → Nat) (lo np S : Nat) : Nat := if S = 0 then 100000000 else match ms_ I (-(nI lo) + nI (ws_ sz lo S np)) with
  | none => 100000000
  | some j => 16 * pr j + 1
theorem onf_cg {I I2 : xv_I} {pr sz : Nat → Nat} {lo np : Nat} (h : I2 63 = I 63) (h2 : I2 64 = I 64) : onf I2 pr sz lo np = onf I pr sz lo np := by
  funext S
  rw [onf, onf, ms_cg h h2]
theorem onf_b {I : xv_I} {pr sz : Nat → Nat} {lo np S : Nat} (hpr : ∀ j, j < 4 → pr j ≤ 9999) : onf I pr sz lo np S ≤ 100000000 := by
  unfold onf
  split
  · exact Nat.le_refl _
  · split
    · exact Nat.le_refl _
    · rename_i e
      have := hpr _ (fl_lt e).1
      omega
def lc_1 (I I2 : xv_I) (f : Nat → Nat) (t : Nat) : Prop := (∀ b, b ≠ 66 → I2 b = I b) ∧ ∀ S, S < t → I2 66 S = nI (f S)
def mvl (f mn : Nat → Nat) (t x : Nat) : Nat := f (x ||| lw_ t) + mn (xdf (rs_ t) x)
def mn_k (f mn : Nat → Nat) (t : Nat) : Prop := mn 0 = 0 ∧ ∀ S, 1 ≤ S → S < t → Mn (Vm (mvl f mn S) (rs_ S)) (mn S)
def lc_2 (I I2 : xv_I) (mn : Nat → Nat) (t : Nat) : Prop := (∀ b, b ≠ 67 → I2 b = I b) ∧ ∀ S, S < t → I2 67 S = nI (mn S)
theorem mn_b {f mn : Nat → Nat} {t S : Nat} (h : mn_k f mn t) (hS : S < t) : mn S ≤ 100000000 := by
  by_cases e : S = 0
  · subst e; rw [h.1]; exact Nat.zero_le _
  · exact (h.2 S (by omega) hS).2.1
theorem xdf_sb (a b : Nat) : sb_ (xdf a b) a := fun i hi => by
  rw [xdf_bit, Bool.and_eq_true] at hi
  exact hi.1
theorem xdf_rs (t : Nat) : xdf t (lw_ t) = rs_ t := by
  apply Nat.eq_of_testBit_eq
  intro i
  rw [xdf_bit, rs_, Nat.testBit_xor]
  have h := lw_sb t i
  cases e1 : t.testBit i with
  | true => cases (lw_ t).testBit i <;> rfl
  | false =>
    cases e2 : (lw_ t).testBit i with
    | true => rw [h e2] at e1; cases e1
    | false => rfl
theorem mn_cg {f mn m2 : Nat → Nat} {S v : Nat} (h : ∀ T, sb_ T (rs_ S) → m2 T = mn T) : Mn (Vm (mvl f m2 S) (rs_ S)) v ↔ Mn (Vm (mvl f mn S) (rs_ S)) v := by
  have e : Vm (mvl f m2 S) (rs_ S) = Vm (mvl f mn S) (rs_ S) := by
    funext w
    apply propext
    unfold Vm mvl
    constructor
    · rintro ⟨x, h1, h2⟩
      exact ⟨x, h1, by rw [h2, h _ (xdf_sb _ _)]⟩
    · rintro ⟨x, h1, h2⟩
      exact ⟨x, h1, by rw [h2, h _ (xdf_sb _ _)]⟩
  rw [e]
theorem mn_pu {f mn : Nat → Nat} {t v : Nat} (h : mn_k f mn t) (h1 : 1 ≤ t) (h4 : t < 4096) (hv : Mn (Vm (mvl f mn t) (rs_ t)) v) : mn_k f (fun S => if S = t then v else mn S) (t + 1) := by
  have hcg : ∀ S, 1 ≤ S → S ≤ t → ∀ T, sb_ T (rs_ S) → (if T = t then v else mn T) = mn T := fun S k0 k1 T k2 => by
    have a1 := sb_le k2
    have a2 := rs_lt (show S ≠ 0 by omega) (show S < 4096 by omega)
    rw [if_neg (by omega)]
  refine ⟨(if_neg (by omega)).trans h.1, fun S g1 g2 => ?_⟩
  by_cases e : S = t
  · subst e
    show Mn _ (if S = S then v else mn S)
    rw [if_pos rfl]
    exact (mn_cg (hcg S g1 (Nat.le_refl _))).mpr hv
  · show Mn _ (if S = t then v else mn S)
    rw [if_neg e]
    exact (mn_cg (hcg S g1 (by omega))).mpr (h.2 S g1 (by omega))
theorem s11_lc_a {l : Launch} {D : va_G} {d : Nat} {G : xv_Gr} {I : xv_I} {J : xv_J} {Q : xv_Po} (hG : xg_ok G) {np : Nat} (hn : I 40 1 = nI np) (hnp : np ≤ 12) {sz : Nat → Nat} (hsz : ∀ p, p < np → I 53 p = nI (sz p)) {lo : Nat} (hlo : I 40 15 = nI lo) {pr : Nat → Nat} (hpr : ∀ j, j < 4 → I 64 j = nI (pr j) ∧ pr j ≤ 9999) (kk : ∀ I2, lc_1 I I2 (onf I pr sz lo np) (2 ^ np) → xv_Ev l D (d + 2) mX11_layCosts none 61 [some (.ref 40), some (.int (nI (2 ^ np))), none, none, none, none, none] [] G I2 J 0 0 Q) : ∀ (r t : Nat) (I2 : xv_I), t + r = 2 ^ np → lc_1 I I2 (onf I pr sz lo np) t → xv_Ev l D (d + 2) mX11_layCosts none 2 [some (.ref 40), some (.int (nI t)), none, none, none, none, none] [] G I2 J 0 0 Q := by
  intro r
  induction r with
  | zero =>
    intro t I2 ht hi
    have h2p : 2 ^ np ≤ 2 ^ 12 := Nat.pow_le_pow_right (by decide) hnp
    have h24 : (2 : Nat) ^ 12 = 4096 := by decide
    refine xv_iload_n dX11_layCosts_2 rfl rfl ?_
    refine xv_iconst (v := nI 1) dX11_layCosts_3 rfl ?_
    refine xv_aload_n dX11_layCosts_4 rfl rfl ?_
    refine xv_geti dX11_layCosts_5 fl_X11_135 (go_40 hG) rfl ?_
    refine xv_nmI ((congrFun (hi.1 40 (by decide)) 1).trans hn) ?_
    refine xv_ishl dX11_layCosts_8 ?_
    refine xv_nmI (xi_one (by omega)) ?_
    refine xv_icmp_geN (tgt := 61) dX11_layCosts_9 rfl (by omega) (by omega) (fun c_9 => ?_) (fun c_9 => absurd c_9 (by omega))
    have e : t = 2 ^ np := by omega
    subst e
    exact kk I2 hi
  | succ r ih =>
    intro t I2 ht hi
    by_cases h0 : t = 0
    · subst h0
      have h2p : 2 ^ np ≤ 2 ^ 12 := Nat.pow_le_pow_right (by decide) hnp
      have h24 : (2 : Nat) ^ 12 = 4096 := by decide
      refine xv_iload_n dX11_layCosts_2 rfl rfl ?_
      refine xv_iconst (v := nI 1) dX11_layCosts_3 rfl ?_
      refine xv_aload_n dX11_layCosts_4 rfl rfl ?_
      refine xv_geti dX11_layCosts_5 fl_X11_135 (go_40 hG) rfl ?_
      refine xv_nmI ((congrFun (hi.1 40 (by decide)) 1).trans hn) ?_
      refine xv_ishl dX11_layCosts_8 ?_
      refine xv_nmI (xi_one (by omega)) ?_
      refine xv_icmp_geN (tgt := 61) dX11_layCosts_9 rfl (by omega) (by omega) (fun c_9 => absurd c_9 (by omega)) (fun c_9 => ?_)
      refine xv_iload_n dX11_layCosts_12 rfl rfl ?_
      refine xv_if_ne (tgt := 21) dX11_layCosts_13 rfl (fun c_13 => absurd rfl c_13) (fun c_13 => ?_)
      refine xv_ldc dX11_layCosts_16 ld_X11_152 ?_
      refine xv_goto (tgt := 26) dX11_layCosts_18 rfl ?_
      refine xv_istore_n dX11_layCosts_26 rfl (Nat.le_of_ble_eq_true rfl) rfl ?_
      refine xv_aload_n dX11_layCosts_27 rfl rfl ?_
      refine xv_getr dX11_layCosts_28 fl_X11_54 (go_40 hG) rfl (gr_40_16 hG) ?_
      refine xv_iload_n dX11_layCosts_31 rfl rfl ?_
      refine xv_iload_n dX11_layCosts_32 rfl rfl ?_
      refine xv_ldc dX11_layCosts_33 ld_X11_152 ?_
      refine xv_icmp_ne (tgt := 43) dX11_layCosts_35 rfl (fun c_35 => absurd rfl c_35) (fun c_35 => ?_)
      refine xv_ldc dX11_layCosts_38 ld_X11_189 ?_
      refine xv_nmI (show (100000000 : Int32) = nI 100000000 from rfl) ?_
      refine xv_goto (tgt := 54) dX11_layCosts_40 rfl ?_
      refine xv_iastore dX11_layCosts_54 (go_66 hG) (xv_ixn (by omega) (by decide)) ?_
      refine xv_iinc dX11_layCosts_55 rfl (xv_inc _) (Nat.le_of_ble_eq_true rfl) rfl ?_
      refine xv_goto (tgt := 2) dX11_layCosts_58 rfl ?_
      refine xv_fg [true, true, false, false, false, false, false] ?_
      refine ih (0 + 1) _ (by omega) ⟨fun b g => ?_, fun S g => ?_⟩
      · rw [xv_ui_ne g]; exact hi.1 b g
      · by_cases es : S = 0
        · subst es; rw [xv_ui_s]; exact congrArg nI (show 100000000 = (onf I pr sz lo np) 0 from (if_pos rfl).symm)
        · rw [xv_ui_o es]; exact hi.2 S (by omega)
    · cases e : ms_ I (-(nI lo) + nI (ws_ sz lo t np)) with
      | none =>
        have h2p : 2 ^ np ≤ 2 ^ 12 := Nat.pow_le_pow_right (by decide) hnp
        have h24 : (2 : Nat) ^ 12 = 4096 := by decide
        refine xv_iload_n dX11_layCosts_2 rfl rfl ?_
        refine xv_iconst (v := nI 1) dX11_layCosts_3 rfl ?_
        refine xv_aload_n dX11_layCosts_4 rfl rfl ?_
        refine xv_geti dX11_layCosts_5 fl_X11_135 (go_40 hG) rfl ?_
        refine xv_nmI ((congrFun (hi.1 40 (by decide)) 1).trans hn) ?_
        refine xv_ishl dX11_layCosts_8 ?_
        refine xv_nmI (xi_one (by omega)) ?_
        refine xv_icmp_geN (tgt := 61) dX11_layCosts_9 rfl (by omega) (by omega) (fun c_9 => absurd c_9 (by omega)) (fun c_9 => ?_)
        refine xv_iload_n dX11_layCosts_12 rfl rfl ?_
        refine xv_if_ne (tgt := 21) dX11_layCosts_13 rfl (fun c_13 => ?_) (fun c_13 => absurd c_13 (nI_ne0 (by omega) (by omega)))
        refine xv_aload_n dX11_layCosts_21 rfl rfl ?_
        refine xv_iload_n dX11_layCosts_22 rfl rfl ?_
        refine xv_callV0 (As := [_]) dX11_layCosts_23 cl_X11_186 rfl rfl rfl rfl (go_40 hG) rfl rfl (Nat.le_of_ble_eq_true rfl) (Nat.le_of_ble_eq_true rfl) (Nat.zero_le _) (Nat.zero_le _) ?_
        refine s11_sortFor (d := d) hG (I := I2) ((congrFun (hi.1 40 (by decide)) 1).trans hn) hnp (sz := sz) (fun p hp => by rw [hi.1 53 (by decide)]; exact hsz p hp) (lo := lo) ((congrFun (hi.1 40 (by decide)) 15).trans hlo) (by omega) ?_
        rw [show ms_ I2 (-(nI lo) + nI (ws_ sz lo t np)) = none from (ms_cg (hi.1 63 (by decide)) (hi.1 64 (by decide)) _).trans e]
        show xv_Ev l D (d + 2) mX11_layCosts none 26 [some (.ref 40), some (.int (nI t)), none, none, none, none, none] [.int (-900009)] G I2 J 0 0 Q
        refine xv_istore_n dX11_layCosts_26 rfl (Nat.le_of_ble_eq_true rfl) rfl ?_
        refine xv_aload_n dX11_layCosts_27 rfl rfl ?_
        refine xv_getr dX11_layCosts_28 fl_X11_54 (go_40 hG) rfl (gr_40_16 hG) ?_
        refine xv_iload_n dX11_layCosts_31 rfl rfl ?_
        refine xv_iload_n dX11_layCosts_32 rfl rfl ?_
        refine xv_ldc dX11_layCosts_33 ld_X11_152 ?_
        refine xv_icmp_ne (tgt := 43) dX11_layCosts_35 rfl (fun c_35 => absurd rfl c_35) (fun c_35 => ?_)
        refine xv_ldc dX11_layCosts_38 ld_X11_189 ?_
        refine xv_nmI (show (100000000 : Int32) = nI 100000000 from rfl) ?_
        refine xv_goto (tgt := 54) dX11_layCosts_40 rfl ?_
        refine xv_iastore dX11_layCosts_54 (go_66 hG) (xv_ixn (by omega) (by decide)) ?_
        refine xv_iinc dX11_layCosts_55 rfl (xv_inc _) (Nat.le_of_ble_eq_true rfl) rfl ?_
        refine xv_goto (tgt := 2) dX11_layCosts_58 rfl ?_
        refine xv_fg [true, true, false, false, false, false, false] ?_
        refine ih (t + 1) _ (by omega) ⟨fun b g => ?_, fun S g => ?_⟩
        · rw [xv_ui_ne g]; exact hi.1 b g
        · by_cases es : S = t
          · subst es; rw [xv_ui_s]; exact congrArg nI (show 100000000 = (onf I pr sz lo np) S from by rw [onf, if_neg (by omega), e])
          · rw [xv_ui_o es]; exact hi.2 S (by omega)
      | some q =>
        have hq := (fl_lt e).1
        have h2p : 2 ^ np ≤ 2 ^ 12 := Nat.pow_le_pow_right (by decide) hnp
        have h24 : (2 : Nat) ^ 12 = 4096 := by decide
        refine xv_iload_n dX11_layCosts_2 rfl rfl ?_
        refine xv_iconst (v := nI 1) dX11_layCosts_3 rfl ?_
        refine xv_aload_n dX11_layCosts_4 rfl rfl ?_
        refine xv_geti dX11_layCosts_5 fl_X11_135 (go_40 hG) rfl ?_
        refine xv_nmI ((congrFun (hi.1 40 (by decide)) 1).trans hn) ?_
        refine xv_ishl dX11_layCosts_8 ?_
        refine xv_nmI (xi_one (by omega)) ?_
        refine xv_icmp_geN (tgt := 61) dX11_layCosts_9 rfl (by omega) (by omega) (fun c_9 => absurd c_9 (by omega)) (fun c_9 => ?_)
        refine xv_iload_n dX11_layCosts_12 rfl rfl ?_
        refine xv_if_ne (tgt := 21) dX11_layCosts_13 rfl (fun c_13 => ?_) (fun c_13 => absurd c_13 (nI_ne0 (by omega) (by omega)))
        refine xv_aload_n dX11_layCosts_21 rfl rfl ?_
        refine xv_iload_n dX11_layCosts_22 rfl rfl ?_
        refine xv_callV0 (As := [_]) dX11_layCosts_23 cl_X11_186 rfl rfl rfl rfl (go_40 hG) rfl rfl (Nat.le_of_ble_eq_true rfl) (Nat.le_of_ble_eq_true rfl) (Nat.zero_le _) (Nat.zero_le _) ?_
        refine s11_sortFor (d := d) hG (I := I2) ((congrFun (hi.1 40 (by decide)) 1).trans hn) hnp (sz := sz) (fun p hp => by rw [hi.1 53 (by decide)]; exact hsz p hp) (lo := lo) ((congrFun (hi.1 40 (by decide)) 15).trans hlo) (by omega) ?_
        rw [show ms_ I2 (-(nI lo) + nI (ws_ sz lo t np)) = some q from (ms_cg (hi.1 63 (by decide)) (hi.1 64 (by decide)) _).trans e]
        show xv_Ev l D (d + 2) mX11_layCosts none 26 [some (.ref 40), some (.int (nI t)), none, none, none, none, none] [.int (nI q)] G I2 J 0 0 Q
        refine xv_istore_n dX11_layCosts_26 rfl (Nat.le_of_ble_eq_true rfl) rfl ?_
        refine xv_aload_n dX11_layCosts_27 rfl rfl ?_
        refine xv_getr dX11_layCosts_28 fl_X11_54 (go_40 hG) rfl (gr_40_16 hG) ?_
        refine xv_iload_n dX11_layCosts_31 rfl rfl ?_
        refine xv_iload_n dX11_layCosts_32 rfl rfl ?_
        refine xv_ldc dX11_layCosts_33 ld_X11_152 ?_
        refine xv_icmp_ne (tgt := 43) dX11_layCosts_35 rfl (fun c_35 => ?_) (fun c_35 => absurd c_35 (nI_nNONE (by omega)))
        refine xv_bipush (v := nI 16) dX11_layCosts_43 rfl ?_
        refine xv_aload_n dX11_layCosts_45 rfl rfl ?_
        refine xv_getr dX11_layCosts_46 fl_X11_48 (go_40 hG) rfl (gr_40_14 hG) ?_
        refine xv_iload_n dX11_layCosts_49 rfl rfl ?_
        refine xv_iaload dX11_layCosts_50 (go_64 hG) (xv_ixn (by omega) (by decide)) ?_
        refine xv_nmI ((congrFun (hi.1 64 (by decide)) q).trans (hpr q hq).1) ?_
        refine xv_imul dX11_layCosts_51 ?_
        refine xv_nmI (pk_mul _ _) ?_
        refine xv_iconst (v := nI 1) dX11_layCosts_52 rfl ?_
        refine xv_iadd dX11_layCosts_53 ?_
        refine xv_nmI (nI_add _ _) ?_
        refine xv_iastore dX11_layCosts_54 (go_66 hG) (xv_ixn (by omega) (by decide)) ?_
        refine xv_iinc dX11_layCosts_55 rfl (xv_inc _) (Nat.le_of_ble_eq_true rfl) rfl ?_
        refine xv_goto (tgt := 2) dX11_layCosts_58 rfl ?_
        refine xv_fg [true, true, false, false, false, false, false] ?_
        refine ih (t + 1) _ (by omega) ⟨fun b g => ?_, fun S g => ?_⟩
        · rw [xv_ui_ne g]; exact hi.1 b g
        · by_cases es : S = t
          · subst es; rw [xv_ui_s]; exact congrArg nI (show 16 * pr q + 1 = (onf I pr sz lo np) S from by rw [onf, if_neg (by omega), e])
          · rw [xv_ui_o es]; exact hi.2 S (by omega)

theorem s11_lc_i {l : Launch} {D : va_G} {d : Nat} {G : xv_Gr} {I : xv_I} {J : xv_J} {Q : xv_Po} (hG : xg_ok G) {f mn : Nat → Nat} {t : Nat} (ht1 : 1 ≤ t) (ht4 : t < 4096) (hf : ∀ T, sb_ T t → I 66 T = nI (f T) ∧ f T ≤ 100000000) (hm : ∀ T, sb_ T (rs_ t) → I 67 T = nI (mn T) ∧ mn T ≤ 100000000) (kk : ∀ b, Mn (Vm (mvl f mn t) (rs_ t)) b → xv_Ev l D d mX11_layCosts none 162 [some (.ref 40), some (.int (nI t)), some (.int (nI (lw_ t))), some (.int (nI (rs_ t))), some (.int (nI b)), none, none] [] G I J 0 0 Q) : ∀ (m b : Nat), sb_ m (rs_ t) → Mi (mvl f mn t) (rs_ t) m b → xv_Ev l D d mX11_layCosts none 98 [some (.ref 40), some (.int (nI t)), some (.int (nI (lw_ t))), some (.int (nI (rs_ t))), some (.int (nI b)), some (.int (nI m)), none] [] G I J 0 0 Q := by
  intro m
  induction m using Nat.strongRecOn with
  | ind m ih =>
    intro b hx hi
    have hT : sb_ (m ||| lw_ t) t := sb_or (sb_tr hx (rs_sb t)) (lw_sb t)
    have hT4 := sb_le hT
    have hr4 := sb_le (rs_sb t)
    have hm4 := sb_le hx
    have hx4 : sb_ (xdf (rs_ t) m) (rs_ t) := xdf_sb _ _
    have hx5 := sb_le hx4
    have hF := hf _ hT
    have hM := hm _ hx4
    have hb8 := hi.2.1
    rcases Nat.eq_zero_or_pos m with h0 | h0
    · subst h0
      refine xv_iload dX11_layCosts_98 rfl ?_
      refine xv_if_lt (tgt := 162) dX11_layCosts_100 rfl (fun c_100 => absurd c_100 (nI_pos (by omega))) (fun c_100 => ?_)
      refine xv_aload_n dX11_layCosts_103 rfl rfl ?_
      refine xv_getr dX11_layCosts_104 fl_X11_54 (go_40 hG) rfl (gr_40_16 hG) ?_
      refine xv_iload dX11_layCosts_107 rfl ?_
      refine xv_iload_n dX11_layCosts_109 rfl rfl ?_
      refine xv_ior dX11_layCosts_110 ?_
      refine xv_nmI (xi_or _ _) ?_
      refine xv_iaload dX11_layCosts_111 (go_66 hG) (xv_ixn (by omega) (by decide)) ?_
      refine xv_nmI hF.1 ?_
      refine xv_aload_n dX11_layCosts_112 rfl rfl ?_
      refine xv_getr dX11_layCosts_113 fl_X11_57 (go_40 hG) rfl (gr_40_17 hG) ?_
      refine xv_iload_n dX11_layCosts_116 rfl rfl ?_
      refine xv_iload dX11_layCosts_117 rfl ?_
      refine xv_iconst (v := -1) dX11_layCosts_119 rfl ?_
      refine xv_ixor dX11_layCosts_120 ?_
      refine xv_iand dX11_layCosts_121 ?_
      refine xv_nmI (xi_andn _ _) ?_
      refine xv_iaload dX11_layCosts_122 (go_67 hG) (xv_ixn (by omega) (by decide)) ?_
      refine xv_nmI hM.1 ?_
      refine xv_iadd dX11_layCosts_123 ?_
      refine xv_nmI (nI_add _ _) ?_
      refine xv_nmI (show nI (f (0 ||| lw_ t) + mn (xdf (rs_ t) 0)) = nI ((mvl f mn t) 0) from rfl) ?_
      have hvb : (mvl f mn t) 0 ≤ 200000000 := by unfold mvl; omega
      refine xv_istore dX11_layCosts_124 (Nat.le_of_ble_eq_true rfl) rfl ?_
      refine xv_iload dX11_layCosts_126 rfl ?_
      refine xv_iload dX11_layCosts_128 rfl ?_
      refine xv_icmp_geN (tgt := 138) dX11_layCosts_130 rfl (by omega) (by omega) (fun c_130 => ?_) (fun c_130 => ?_)
      · refine xv_iload dX11_layCosts_138 rfl ?_
        refine xv_istore dX11_layCosts_140 (Nat.le_of_ble_eq_true rfl) rfl ?_
        refine xv_iload dX11_layCosts_142 rfl ?_
        refine xv_if_ne (tgt := 151) dX11_layCosts_144 rfl (fun c_144 => absurd rfl c_144) (fun c_144 => ?_)
        refine xv_iconst (v := -1) dX11_layCosts_147 rfl ?_
        refine xv_goto (tgt := 157) dX11_layCosts_148 rfl ?_
        refine xv_istore dX11_layCosts_157 (Nat.le_of_ble_eq_true rfl) rfl ?_
        refine xv_goto (tgt := 98) dX11_layCosts_159 rfl ?_
        refine xv_iload dX11_layCosts_98 rfl ?_
        refine xv_if_lt (tgt := 162) dX11_layCosts_100 rfl (fun c_100 => ?_) (fun c_100 => absurd (by decide) c_100)
        have eb : mi_ ((mvl f mn t) 0) b = b := if_neg (by omega)
        have h := kk _ (Mi_e hi)
        rw [eb] at h
        refine xv_fg [true, true, true, true, true, false, false] ?_
        exact h
      · refine xv_iload dX11_layCosts_133 rfl ?_
        refine xv_goto (tgt := 140) dX11_layCosts_135 rfl ?_
        refine xv_istore dX11_layCosts_140 (Nat.le_of_ble_eq_true rfl) rfl ?_
        refine xv_iload dX11_layCosts_142 rfl ?_
        refine xv_if_ne (tgt := 151) dX11_layCosts_144 rfl (fun c_144 => absurd rfl c_144) (fun c_144 => ?_)
        refine xv_iconst (v := -1) dX11_layCosts_147 rfl ?_
        refine xv_goto (tgt := 157) dX11_layCosts_148 rfl ?_
        refine xv_istore dX11_layCosts_157 (Nat.le_of_ble_eq_true rfl) rfl ?_
        refine xv_goto (tgt := 98) dX11_layCosts_159 rfl ?_
        refine xv_iload dX11_layCosts_98 rfl ?_
        refine xv_if_lt (tgt := 162) dX11_layCosts_100 rfl (fun c_100 => ?_) (fun c_100 => absurd (by decide) c_100)
        have eb : mi_ ((mvl f mn t) 0) b = (mvl f mn t) 0 := if_pos (by omega)
        have h := kk _ (Mi_e hi)
        rw [eb] at h
        refine xv_fg [true, true, true, true, true, false, false] ?_
        exact h
    · have hsm : ((m - 1) &&& rs_ t) < m := by have : (m - 1) &&& rs_ t ≤ m - 1 := Nat.and_le_left; omega
      refine xv_iload dX11_layCosts_98 rfl ?_
      refine xv_if_lt (tgt := 162) dX11_layCosts_100 rfl (fun c_100 => absurd c_100 (nI_pos (by omega))) (fun c_100 => ?_)
      refine xv_aload_n dX11_layCosts_103 rfl rfl ?_
      refine xv_getr dX11_layCosts_104 fl_X11_54 (go_40 hG) rfl (gr_40_16 hG) ?_
      refine xv_iload dX11_layCosts_107 rfl ?_
      refine xv_iload_n dX11_layCosts_109 rfl rfl ?_
      refine xv_ior dX11_layCosts_110 ?_
      refine xv_nmI (xi_or _ _) ?_
      refine xv_iaload dX11_layCosts_111 (go_66 hG) (xv_ixn (by omega) (by decide)) ?_
      refine xv_nmI hF.1 ?_
      refine xv_aload_n dX11_layCosts_112 rfl rfl ?_
      refine xv_getr dX11_layCosts_113 fl_X11_57 (go_40 hG) rfl (gr_40_17 hG) ?_
      refine xv_iload_n dX11_layCosts_116 rfl rfl ?_
      refine xv_iload dX11_layCosts_117 rfl ?_
      refine xv_iconst (v := -1) dX11_layCosts_119 rfl ?_
      refine xv_ixor dX11_layCosts_120 ?_
      refine xv_iand dX11_layCosts_121 ?_
      refine xv_nmI (xi_andn _ _) ?_
      refine xv_iaload dX11_layCosts_122 (go_67 hG) (xv_ixn (by omega) (by decide)) ?_
      refine xv_nmI hM.1 ?_
      refine xv_iadd dX11_layCosts_123 ?_
      refine xv_nmI (nI_add _ _) ?_
      refine xv_nmI (show nI (f (m ||| lw_ t) + mn (xdf (rs_ t) m)) = nI ((mvl f mn t) m) from rfl) ?_
      have hvb : (mvl f mn t) m ≤ 200000000 := by unfold mvl; omega
      refine xv_istore dX11_layCosts_124 (Nat.le_of_ble_eq_true rfl) rfl ?_
      refine xv_iload dX11_layCosts_126 rfl ?_
      refine xv_iload dX11_layCosts_128 rfl ?_
      refine xv_icmp_geN (tgt := 138) dX11_layCosts_130 rfl (by omega) (by omega) (fun c_130 => ?_) (fun c_130 => ?_)
      · refine xv_iload dX11_layCosts_138 rfl ?_
        refine xv_istore dX11_layCosts_140 (Nat.le_of_ble_eq_true rfl) rfl ?_
        refine xv_iload dX11_layCosts_142 rfl ?_
        refine xv_if_ne (tgt := 151) dX11_layCosts_144 rfl (fun c_144 => ?_) (fun c_144 => absurd c_144 (nI_ne0 h0 (by omega)))
        refine xv_iload dX11_layCosts_151 rfl ?_
        refine xv_iconst (v := nI 1) dX11_layCosts_153 rfl ?_
        refine xv_isub dX11_layCosts_154 ?_
        refine xv_nmI (pk_sub (by omega)) ?_
        refine xv_iload_n dX11_layCosts_155 rfl rfl ?_
        refine xv_iand dX11_layCosts_156 ?_
        refine xv_nmI (xi_and _ _) ?_
        refine xv_istore dX11_layCosts_157 (Nat.le_of_ble_eq_true rfl) rfl ?_
        refine xv_goto (tgt := 98) dX11_layCosts_159 rfl ?_
        have eb : mi_ ((mvl f mn t) m) b = b := if_neg (by omega)
        have h := ih ((m - 1) &&& rs_ t) hsm (mi_ ((mvl f mn t) m) b) sb_and (Mi_s hi hx h0)
        rw [eb] at h
        refine xv_fg [true, true, true, true, true, true, false] ?_
        exact h
      · refine xv_iload dX11_layCosts_133 rfl ?_
        refine xv_goto (tgt := 140) dX11_layCosts_135 rfl ?_
        refine xv_istore dX11_layCosts_140 (Nat.le_of_ble_eq_true rfl) rfl ?_
        refine xv_iload dX11_layCosts_142 rfl ?_
        refine xv_if_ne (tgt := 151) dX11_layCosts_144 rfl (fun c_144 => ?_) (fun c_144 => absurd c_144 (nI_ne0 h0 (by omega)))
        refine xv_iload dX11_layCosts_151 rfl ?_
        refine xv_iconst (v := nI 1) dX11_layCosts_153 rfl ?_
        refine xv_isub dX11_layCosts_154 ?_
        refine xv_nmI (pk_sub (by omega)) ?_
        refine xv_iload_n dX11_layCosts_155 rfl rfl ?_
        refine xv_iand dX11_layCosts_156 ?_
        refine xv_nmI (xi_and _ _) ?_
        refine xv_istore dX11_layCosts_157 (Nat.le_of_ble_eq_true rfl) rfl ?_
        refine xv_goto (tgt := 98) dX11_layCosts_159 rfl ?_
        have eb : mi_ ((mvl f mn t) m) b = (mvl f mn t) m := if_pos (by omega)
        have h := ih ((m - 1) &&& rs_ t) hsm (mi_ ((mvl f mn t) m) b) sb_and (Mi_s hi hx h0)
        rw [eb] at h
        refine xv_fg [true, true, true, true, true, true, false] ?_
        exact h

theorem s11_lc_b {l : Launch} {D : va_G} {d : Nat} {G : xv_Gr} {I : xv_I} {J : xv_J} {Q : xv_Po} (hG : xg_ok G) {np : Nat} (hn : I 40 1 = nI np) (hnp : np ≤ 12) {f : Nat → Nat} (hf : ∀ T, T < 2 ^ np → I 66 T = nI (f T) ∧ f T ≤ 100000000) (hQ : ∀ I2 mn, lc_2 I I2 mn (2 ^ np) → mn_k f mn (2 ^ np) → Q none G I2 J) : ∀ (r t : Nat) (mn : Nat → Nat) (I2 : xv_I), t + r = 2 ^ np → 1 ≤ t → lc_2 I I2 mn t → mn_k f mn t → xv_Ev l D d mX11_layCosts none 70 [some (.ref 40), some (.int (nI t)), none, none, none, none, none] [] G I2 J 0 0 Q := by
  intro r
  induction r with
  | zero =>
    intro t mn I2 ht h1 hi hk
    have h2p : 2 ^ np ≤ 2 ^ 12 := Nat.pow_le_pow_right (by decide) hnp
    have h24 : (2 : Nat) ^ 12 = 4096 := by decide
    refine xv_iload_n dX11_layCosts_70 rfl rfl ?_
    refine xv_iconst (v := nI 1) dX11_layCosts_71 rfl ?_
    refine xv_aload_n dX11_layCosts_72 rfl rfl ?_
    refine xv_geti dX11_layCosts_73 fl_X11_135 (go_40 hG) rfl ?_
    refine xv_nmI ((congrFun (hi.1 40 (by decide)) 1).trans hn) ?_
    refine xv_ishl dX11_layCosts_76 ?_
    refine xv_nmI (xi_one (by omega)) ?_
    refine xv_icmp_geN (tgt := 176) dX11_layCosts_77 rfl (by omega) (by omega) (fun c_77 => ?_) (fun c_77 => absurd c_77 (by omega))
    refine xv_vret dX11_layCosts_176 rfl (Nat.zero_le _) (Nat.zero_le _) ?_
    have e : t = 2 ^ np := by omega
    subst e
    exact hQ I2 mn hi hk
  | succ r ih =>
    intro t mn I2 ht h1 hi hk
    have h2p : 2 ^ np ≤ 2 ^ 12 := Nat.pow_le_pow_right (by decide) hnp
    have h24 : (2 : Nat) ^ 12 = 4096 := by decide
    refine xv_iload_n dX11_layCosts_70 rfl rfl ?_
    refine xv_iconst (v := nI 1) dX11_layCosts_71 rfl ?_
    refine xv_aload_n dX11_layCosts_72 rfl rfl ?_
    refine xv_geti dX11_layCosts_73 fl_X11_135 (go_40 hG) rfl ?_
    refine xv_nmI ((congrFun (hi.1 40 (by decide)) 1).trans hn) ?_
    refine xv_ishl dX11_layCosts_76 ?_
    refine xv_nmI (xi_one (by omega)) ?_
    refine xv_icmp_geN (tgt := 176) dX11_layCosts_77 rfl (by omega) (by omega) (fun c_77 => absurd c_77 (by omega)) (fun c_77 => ?_)
    refine xv_iload_n dX11_layCosts_80 rfl rfl ?_
    refine xv_iload_n dX11_layCosts_81 rfl rfl ?_
    refine xv_ineg dX11_layCosts_82 ?_
    refine xv_iand dX11_layCosts_83 ?_
    refine xv_nmI (lw_ok t (by omega)) ?_
    refine xv_istore_n dX11_layCosts_84 rfl (Nat.le_of_ble_eq_true rfl) rfl ?_
    refine xv_iload_n dX11_layCosts_85 rfl rfl ?_
    refine xv_iload_n dX11_layCosts_86 rfl rfl ?_
    refine xv_iconst (v := -1) dX11_layCosts_87 rfl ?_
    refine xv_ixor dX11_layCosts_88 ?_
    refine xv_iand dX11_layCosts_89 ?_
    refine xv_nmI ((xi_andn t (lw_ t)).trans (congrArg nI (xdf_rs t))) ?_
    refine xv_istore_n dX11_layCosts_90 rfl (Nat.le_of_ble_eq_true rfl) rfl ?_
    refine xv_ldc dX11_layCosts_91 ld_X11_189 ?_
    refine xv_nmI (show (100000000 : Int32) = nI 100000000 from rfl) ?_
    refine xv_istore dX11_layCosts_93 (Nat.le_of_ble_eq_true rfl) rfl ?_
    refine xv_iload_n dX11_layCosts_95 rfl rfl ?_
    refine xv_istore dX11_layCosts_96 (Nat.le_of_ble_eq_true rfl) rfl ?_
    refine s11_lc_i (d := d) hG (I := I2) (f := f) (mn := mn) (t := t) h1 (by omega) (fun T k => ⟨by rw [hi.1 66 (by decide)]; exact (hf T (by have := sb_le k; omega)).1, (hf T (by have := sb_le k; omega)).2⟩) (fun T k => ⟨hi.2 T (by have := sb_le k; have := rs_lt (S := t) (by omega) (by omega); omega), mn_b hk (by have := sb_le k; have := rs_lt (S := t) (by omega) (by omega); omega)⟩) (fun b hb => ?_) (rs_ t) _ (fun _ h => h) (Mi_0 _ _)
    refine xv_aload_n dX11_layCosts_162 rfl rfl ?_
    refine xv_getr dX11_layCosts_163 fl_X11_57 (go_40 hG) rfl (gr_40_17 hG) ?_
    refine xv_iload_n dX11_layCosts_166 rfl rfl ?_
    refine xv_iload dX11_layCosts_167 rfl ?_
    refine xv_iastore dX11_layCosts_169 (go_67 hG) (xv_ixn (by omega) (by decide)) ?_
    refine xv_iinc dX11_layCosts_170 rfl (xv_inc _) (Nat.le_of_ble_eq_true rfl) rfl ?_
    refine xv_goto (tgt := 70) dX11_layCosts_173 rfl ?_
    refine xv_fg [true, true, false, false, false, false, false] ?_
    refine ih (t + 1) (fun S => if S = t then b else mn S) _ (by omega) (by omega) ⟨fun c g => ?_, fun S g => ?_⟩ (mn_pu hk h1 (by omega) hb)
    · rw [xv_ui_ne g]; exact hi.1 c g
    · by_cases e : S = t
      · subst e; rw [xv_ui_s]; exact congrArg nI (if_pos rfl).symm
      · rw [xv_ui_o e]; exact (hi.2 S (by omega)).trans (congrArg nI (if_neg e).symm)

def lc_o (I I2 : xv_I) (f mn : Nat → Nat) (np : Nat) : Prop := (∀ b, b ≠ 66 → b ≠ 67 → I2 b = I b) ∧ (∀ S, S < 2 ^ np → I2 66 S = nI (f S)) ∧ (∀ S, S < 2 ^ np → I2 67 S = nI (mn S)) ∧ mn_k f mn (2 ^ np)
theorem s11_layCosts {l : Launch} {D : va_G} {d : Nat} {G : xv_Gr} {I : xv_I} {J : xv_J} {Q : xv_Po} (hG : xg_ok G) {np : Nat} (hn : I 40 1 = nI np) (hnp : np ≤ 12) {sz : Nat → Nat} (hsz : ∀ p, p < np → I 53 p = nI (sz p)) {lo : Nat} (hlo : I 40 15 = nI lo) {pr : Nat → Nat} (hpr : ∀ j, j < 4 → I 64 j = nI (pr j) ∧ pr j ≤ 9999) (hQ : ∀ I2 mn, lc_o I I2 (onf I pr sz lo np) mn np → Q none G I2 J) : xv_Ev l D (d + 2) mX11_layCosts none 0 [some (.ref 40), none, none, none, none, none, none] [] G I J 0 0 Q := by
  refine xv_iconst (v := nI 0) dX11_layCosts_0 rfl ?_
  refine xv_istore_n dX11_layCosts_1 rfl (Nat.le_of_ble_eq_true rfl) rfl ?_
  refine s11_lc_a hG hn hnp hsz hlo hpr (fun I2 hi => ?_) (2 ^ np) 0 I (by omega) ⟨fun _ _ => rfl, fun S hS => absurd hS (by omega)⟩
  refine xv_aload_n dX11_layCosts_61 rfl rfl ?_
  refine xv_getr dX11_layCosts_62 fl_X11_57 (go_40 hG) rfl (gr_40_17 hG) ?_
  refine xv_iconst (v := nI 0) dX11_layCosts_65 rfl ?_
  refine xv_iconst (v := nI 0) dX11_layCosts_66 rfl ?_
  refine xv_iastore dX11_layCosts_67 (go_67 hG) (xv_ixn (by omega) (by decide)) ?_
  refine xv_iconst (v := nI 1) dX11_layCosts_68 rfl ?_
  refine xv_istore_n dX11_layCosts_69 rfl (Nat.le_of_ble_eq_true rfl) rfl ?_
  have h1p : 1 ≤ 2 ^ np := Nat.one_le_two_pow
  refine s11_lc_b (d := d + 2) hG (I := (xv_ui I2 67 0 (nI 0))) (np := np) ((congrFun ((xv_ui_ne (by decide)).trans (hi.1 40 (by decide))) 1).trans hn) hnp (f := (onf I pr sz lo np)) (fun T k => ⟨(congrFun (xv_ui_ne (by decide)) T).trans (hi.2 T k), onf_b (fun j hj => (hpr j hj).2)⟩) (fun I3 mn g1 g2 => hQ I3 mn ⟨fun b k1 k2 => ?_, fun S k => ?_, g1.2, g2⟩) (2 ^ np - 1) 1 (fun _ => 0) _ (by omega) (Nat.le_refl _) ⟨fun _ _ => rfl, fun S hS => ?_⟩ ⟨rfl, fun S k1 k2 => absurd k1 (by omega)⟩
  · rw [g1.1 b k2, xv_ui_ne k2]; exact hi.1 b k1
  · rw [g1.1 66 (by decide), xv_ui_ne (by decide)]; exact hi.2 S k
  · rw [show S = 0 by omega, xv_ui_s]
