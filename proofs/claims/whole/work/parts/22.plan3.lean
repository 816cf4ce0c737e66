/-! plans: stretch, why, apart of the class and of the model -/
def pl_big (I : xv_I) (n b : Int32) (p : Nat) : Prop := ((I 103 p < n ∧ n < I 103 p + I 104 p) ∧ 200 < I 104 p + b) ∨ 400 < pl_aft (I 103) (I 104) p 0 n b
def pl_tm (I : xv_I) (np : Nat) (n b : Int32) : Prop := (∃ p, p < np ∧ pl_big I n b p) ∨ (n ≤ I 1 0 ∧ 400 < I 1 0 + b)
theorem s5_wbtm_l {l : Launch} {D : va_G} {d : Nat} {G : xv_Gr} {I : xv_I} {J : xv_J} {Q : xv_Po} (hG : xg_ok G) {np : Nat} (hn : I 1 1 = nI np) (hnp : np ≤ 12) {nn b : Int32} (hQ : Q (some (.int (xbp (pl_tm I np nn b)))) G I J) : ∀ (n i : Nat), i + n = np → (∀ p, p < i → ¬ pl_big I nn b p) → xv_Ev l D (d + 2) mX5_wouldBeTooMuch none 2 [some (.ref 1), some (.int nn), some (.int b), some (.int (nI i))] [] G I J 0 0 Q := by
  intro n
  induction n with
  | zero =>
    intro i hi hA
    refine xv_iload_n dX5_wouldBeTooMuch_2 rfl rfl ?_
    refine xv_aload_n dX5_wouldBeTooMuch_3 rfl rfl ?_
    refine xv_geti dX5_wouldBeTooMuch_4 fl_X5_15 (go_1 hG) rfl ?_
    refine xv_nmI hn ?_
    refine xv_icmp_geN (tgt := 57) dX5_wouldBeTooMuch_7 rfl (by omega) (by omega) (fun c_7 => ?_) (fun c_7 => absurd c_7 (by omega))
    refine xv_iload_n dX5_wouldBeTooMuch_57 rfl rfl ?_
    refine xv_aload_n dX5_wouldBeTooMuch_58 rfl rfl ?_
    refine xv_geti dX5_wouldBeTooMuch_59 fl_X5_9 (go_1 hG) rfl ?_
    refine xv_icmp_gt (tgt := 81) dX5_wouldBeTooMuch_62 rfl (fun c_62 => ?_) (fun c_62 => ?_)
    · refine xv_iconst (v := 0) dX5_wouldBeTooMuch_81 rfl ?_
      refine xv_zret dX5_wouldBeTooMuch_82 rfl rfl (Nat.zero_le _) (Nat.zero_le _) ?_
      refine xqp_F (Q := fun v => Q (some v) G I J) hQ ?_
      rintro (⟨p, hp, hb⟩ | ⟨h1, h2⟩)
      · exact hA p (by omega) hb
      · simp only [xn_lt, xn_le] at *
        omega
    · refine xv_aload_n dX5_wouldBeTooMuch_65 rfl rfl ?_
      refine xv_geti dX5_wouldBeTooMuch_66 fl_X5_9 (go_1 hG) rfl ?_
      refine xv_iload_n dX5_wouldBeTooMuch_69 rfl rfl ?_
      refine xv_iadd dX5_wouldBeTooMuch_70 ?_
      refine xv_sipush (v := 400) dX5_wouldBeTooMuch_71 rfl ?_
      refine xv_icmp_le (tgt := 81) dX5_wouldBeTooMuch_74 rfl (fun c_74 => ?_) (fun c_74 => ?_)
      · refine xv_iconst (v := 0) dX5_wouldBeTooMuch_81 rfl ?_
        refine xv_zret dX5_wouldBeTooMuch_82 rfl rfl (Nat.zero_le _) (Nat.zero_le _) ?_
        refine xqp_F (Q := fun v => Q (some v) G I J) hQ ?_
        rintro (⟨p, hp, hb⟩ | ⟨h1, h2⟩)
        · exact hA p (by omega) hb
        · simp only [xn_lt, xn_le] at *
          omega
      · refine xv_iconst (v := 1) dX5_wouldBeTooMuch_77 rfl ?_
        refine xv_goto (tgt := 82) dX5_wouldBeTooMuch_78 rfl ?_
        refine xv_zret dX5_wouldBeTooMuch_82 rfl rfl (Nat.zero_le _) (Nat.zero_le _) ?_
        exact xqp_T (Q := fun v => Q (some v) G I J) hQ (Or.inr ⟨(by simp only [xn_lt, xn_le] at *; omega), (by simp only [xn_lt, xn_le] at *; omega)⟩)
  | succ n ih =>
    intro i hi hA
    refine xv_iload_n dX5_wouldBeTooMuch_2 rfl rfl ?_
    refine xv_aload_n dX5_wouldBeTooMuch_3 rfl rfl ?_
    refine xv_geti dX5_wouldBeTooMuch_4 fl_X5_15 (go_1 hG) rfl ?_
    refine xv_nmI hn ?_
    refine xv_icmp_geN (tgt := 57) dX5_wouldBeTooMuch_7 rfl (by omega) (by omega) (fun c_7 => absurd c_7 (by omega)) (fun c_7 => ?_)
    refine xv_aload_n dX5_wouldBeTooMuch_10 rfl rfl ?_
    refine xv_iload_n dX5_wouldBeTooMuch_11 rfl rfl ?_
    refine xv_iload_n dX5_wouldBeTooMuch_12 rfl rfl ?_
    refine xv_callV0 (As := [_, _]) dX5_wouldBeTooMuch_13 cl_X5_51 rfl rfl rfl rfl (go_1 hG) rfl rfl (Nat.le_of_ble_eq_true rfl) (Nat.le_of_ble_eq_true rfl) (Nat.zero_le _) (Nat.zero_le _) ?_
    refine s5_isAcross hG (xv_ixn (by omega) (by decide)) ?_
    refine xv_if_eqD (tgt := 35) dX5_wouldBeTooMuch_16 rfl (fun c_16 => ?_) (fun c_16 => ?_)
    · refine xv_aload_n dX5_wouldBeTooMuch_35 rfl rfl ?_
      refine xv_iload_n dX5_wouldBeTooMuch_36 rfl rfl ?_
      refine xv_iconst (v := 0) dX5_wouldBeTooMuch_37 rfl ?_
      refine xv_iload_n dX5_wouldBeTooMuch_38 rfl rfl ?_
      refine xv_iload_n dX5_wouldBeTooMuch_39 rfl rfl ?_
      refine xv_callV0 (As := [_, _, _, _]) dX5_wouldBeTooMuch_40 cl_X5_66 rfl rfl rfl rfl (go_1 hG) rfl rfl (Nat.le_of_ble_eq_true rfl) (Nat.le_of_ble_eq_true rfl) (Nat.zero_le _) (Nat.zero_le _) ?_
      refine s5_endAfter hG (xv_ixn (by omega) (by decide)) ?_
      refine xv_sipush (v := 400) dX5_wouldBeTooMuch_43 rfl ?_
      refine xv_icmp_le (tgt := 51) dX5_wouldBeTooMuch_46 rfl (fun c_46 => ?_) (fun c_46 => ?_)
      · refine xv_iinc dX5_wouldBeTooMuch_51 rfl (xv_inc _) (Nat.le_of_ble_eq_true rfl) rfl ?_
        refine xv_goto (tgt := 2) dX5_wouldBeTooMuch_54 rfl ?_
        refine ih (i + 1) (by omega) (fun p hp => ?_)
        rcases Nat.lt_or_ge p i with q | q
        · exact hA p q
        · have e : p = i := by omega
          subst e
          rintro (⟨h1, h2⟩ | h2)
          · simp only [xn_lt, xn_le] at *
            omega
          · simp only [xn_lt, xn_le] at *
            omega
      · refine xv_iconst (v := 1) dX5_wouldBeTooMuch_49 rfl ?_
        refine xv_zret dX5_wouldBeTooMuch_50 rfl rfl (Nat.zero_le _) (Nat.zero_le _) ?_
        exact xqp_T (Q := fun v => Q (some v) G I J) hQ (Or.inl ⟨i, by omega, Or.inr (by simp only [xn_lt, xn_le] at *; omega)⟩)
    · refine xv_aload_n dX5_wouldBeTooMuch_19 rfl rfl ?_
      refine xv_getr dX5_wouldBeTooMuch_20 fl_X5_25 (go_1 hG) rfl (gr_1_4 hG) ?_
      refine xv_iload_n dX5_wouldBeTooMuch_23 rfl rfl ?_
      refine xv_iaload dX5_wouldBeTooMuch_24 (go_104 hG) (xv_ixn (by omega) (by decide)) ?_
      refine xv_iload_n dX5_wouldBeTooMuch_25 rfl rfl ?_
      refine xv_iadd dX5_wouldBeTooMuch_26 ?_
      refine xv_sipush (v := 200) dX5_wouldBeTooMuch_27 rfl ?_
      refine xv_icmp_le (tgt := 35) dX5_wouldBeTooMuch_30 rfl (fun c_30 => ?_) (fun c_30 => ?_)
      · refine xv_aload_n dX5_wouldBeTooMuch_35 rfl rfl ?_
        refine xv_iload_n dX5_wouldBeTooMuch_36 rfl rfl ?_
        refine xv_iconst (v := 0) dX5_wouldBeTooMuch_37 rfl ?_
        refine xv_iload_n dX5_wouldBeTooMuch_38 rfl rfl ?_
        refine xv_iload_n dX5_wouldBeTooMuch_39 rfl rfl ?_
        refine xv_callV0 (As := [_, _, _, _]) dX5_wouldBeTooMuch_40 cl_X5_66 rfl rfl rfl rfl (go_1 hG) rfl rfl (Nat.le_of_ble_eq_true rfl) (Nat.le_of_ble_eq_true rfl) (Nat.zero_le _) (Nat.zero_le _) ?_
        refine s5_endAfter hG (xv_ixn (by omega) (by decide)) ?_
        refine xv_sipush (v := 400) dX5_wouldBeTooMuch_43 rfl ?_
        refine xv_icmp_le (tgt := 51) dX5_wouldBeTooMuch_46 rfl (fun c_46 => ?_) (fun c_46 => ?_)
        · refine xv_iinc dX5_wouldBeTooMuch_51 rfl (xv_inc _) (Nat.le_of_ble_eq_true rfl) rfl ?_
          refine xv_goto (tgt := 2) dX5_wouldBeTooMuch_54 rfl ?_
          refine ih (i + 1) (by omega) (fun p hp => ?_)
          rcases Nat.lt_or_ge p i with q | q
          · exact hA p q
          · have e : p = i := by omega
            subst e
            rintro (⟨h1, h2⟩ | h2)
            · simp only [xn_lt, xn_le] at *
              omega
            · simp only [xn_lt, xn_le] at *
              omega
        · refine xv_iconst (v := 1) dX5_wouldBeTooMuch_49 rfl ?_
          refine xv_zret dX5_wouldBeTooMuch_50 rfl rfl (Nat.zero_le _) (Nat.zero_le _) ?_
          exact xqp_T (Q := fun v => Q (some v) G I J) hQ (Or.inl ⟨i, by omega, Or.inr (by simp only [xn_lt, xn_le] at *; omega)⟩)
      · refine xv_iconst (v := 1) dX5_wouldBeTooMuch_33 rfl ?_
        refine xv_zret dX5_wouldBeTooMuch_34 rfl rfl (Nat.zero_le _) (Nat.zero_le _) ?_
        exact xqp_T (Q := fun v => Q (some v) G I J) hQ (Or.inl ⟨i, by omega, Or.inl ⟨c_16, (by simp only [xn_lt, xn_le] at *; omega)⟩⟩)

theorem s5_wbtm {l : Launch} {D : va_G} {d : Nat} {G : xv_Gr} {I : xv_I} {J : xv_J} {Q : xv_Po} (hG : xg_ok G) {np : Nat} (hn : I 1 1 = nI np) (hnp : np ≤ 12) {nn b : Int32} (hQ : Q (some (.int (xbp (pl_tm I np nn b)))) G I J) : xv_Ev l D (d + 2) mX5_wouldBeTooMuch none 0 [some (.ref 1), some (.int nn), some (.int b), none] [] G I J 0 0 Q := by
  refine xv_iconst (v := 0) dX5_wouldBeTooMuch_0 rfl ?_
  refine xv_istore_n dX5_wouldBeTooMuch_1 rfl (Nat.le_of_ble_eq_true rfl) rfl ?_
  exact s5_wbtm_l hG hn hnp hQ np 0 (by omega) (fun p hp => absurd hp (by omega))

def pl_fxa (I : xv_I) (n : Int32) (p : Nat) : Prop := ¬ I 106 p = 0 ∧ I 103 p < n ∧ n < I 103 p + I 104 p
def pl_hld (I : xv_I) (k : Nat) : Prop := pl_end (I 103) (I 104) (I 107 k).toNatClampNeg (I 108 k) = pl_end (I 103) (I 104) (I 109 k).toNatClampNeg (I 110 k)
def pl_brk (I : xv_I) (n b : Int32) (k : Nat) : Prop := pl_hld I k ∧ ¬ pl_aft (I 103) (I 104) (I 107 k).toNatClampNeg (I 108 k) n b = pl_aft (I 103) (I 104) (I 109 k).toNatClampNeg (I 110 k) n b
noncomputable def pl_w3 (I : xv_I) (np : Nat) (n b : Int32) : Int32 := @ite Int32 (pl_tm I np n b) (Classical.propDecidable _) 300 0
noncomputable def pl_w2 (I : xv_I) (np nm : Nat) (n b : Int32) : Int32 := xfst (pl_brk I n b) (fun k => 200 + nI k) (pl_w3 I np n b) nm 0
noncomputable def pl_w1 (I : xv_I) (np nm : Nat) (n b : Int32) : Int32 := xfst (pl_fxa I n) (fun k => 100 + nI k) (pl_w2 I np nm n b) np 0
theorem s5_hin_m {l : Launch} {D : va_G} {d : Nat} {G : xv_Gr} {I : xv_I} {J : xv_J} {Q : xv_Po} (hG : xg_ok G) {np : Nat} (hn : I 1 1 = nI np) (hnp : np ≤ 12) {nm : Nat} (hm : I 1 2 = nI nm) (hnm : nm ≤ 20) (hv : ∀ k, k < nm → vp_in (I 107 k) 12 ∧ vp_in (I 109 k) 12) {nn b : Int32} : ∀ (n i : Nat), i + n = nm → Q (some (.int (xfst (pl_brk I nn b) (fun k => 200 + nI k) (pl_w3 I np nn b) n i))) G I J → xv_Ev l D (d + 3) mX5_hindrance none 41 [some (.ref 1), some (.int nn), some (.int b), some (.int (nI i))] [] G I J 0 0 Q := by
  intro n
  induction n with
  | zero =>
    intro i hi hQ
    refine xv_iload_n dX5_hindrance_41 rfl rfl ?_
    refine xv_aload_n dX5_hindrance_42 rfl rfl ?_
    refine xv_geti dX5_hindrance_43 fl_X5_18 (go_1 hG) rfl ?_
    refine xv_nmI hm ?_
    refine xv_icmp_geN (tgt := 79) dX5_hindrance_46 rfl (by omega) (by omega) (fun c_46 => ?_) (fun c_46 => absurd c_46 (by omega))
    refine xv_aload_n dX5_hindrance_79 rfl rfl ?_
    refine xv_iload_n dX5_hindrance_80 rfl rfl ?_
    refine xv_iload_n dX5_hindrance_81 rfl rfl ?_
    refine xv_callV0 (As := [_, _]) dX5_hindrance_82 cl_X5_63 rfl rfl rfl rfl (go_1 hG) rfl rfl (Nat.le_of_ble_eq_true rfl) (Nat.le_of_ble_eq_true rfl) (Nat.zero_le _) (Nat.zero_le _) ?_
    refine s5_wbtm hG hn hnp ?_
    refine xv_if_eqP (tgt := 94) dX5_hindrance_85 rfl (fun c_85 => ?_) (fun c_85 => ?_)
    · refine xv_iconst (v := 0) dX5_hindrance_94 rfl ?_
      refine xv_iret dX5_hindrance_95 rfl (Nat.zero_le _) (Nat.zero_le _) ?_
      rw [xfst_0, pl_w3, if_neg c_85] at hQ
      exact hQ
    · refine xv_sipush (v := 300) dX5_hindrance_88 rfl ?_
      refine xv_goto (tgt := 95) dX5_hindrance_91 rfl ?_
      refine xv_iret dX5_hindrance_95 rfl (Nat.zero_le _) (Nat.zero_le _) ?_
      rw [xfst_0, pl_w3, if_pos c_85] at hQ
      exact hQ
  | succ n ih =>
    intro i hi hQ
    refine xv_iload_n dX5_hindrance_41 rfl rfl ?_
    refine xv_aload_n dX5_hindrance_42 rfl rfl ?_
    refine xv_geti dX5_hindrance_43 fl_X5_18 (go_1 hG) rfl ?_
    refine xv_nmI hm ?_
    refine xv_icmp_geN (tgt := 79) dX5_hindrance_46 rfl (by omega) (by omega) (fun c_46 => absurd c_46 (by omega)) (fun c_46 => ?_)
    refine xv_aload_n dX5_hindrance_49 rfl rfl ?_
    refine xv_iload_n dX5_hindrance_50 rfl rfl ?_
    refine xv_callV0 (As := [_]) dX5_hindrance_51 cl_X5_55 rfl rfl rfl rfl (go_1 hG) rfl rfl (Nat.le_of_ble_eq_true rfl) (Nat.le_of_ble_eq_true rfl) (Nat.zero_le _) (Nat.zero_le _) ?_
    refine s5_holds hG (xv_ixn (by omega) (by decide)) (xv_ixv (hv i (by omega)).1) (xv_ixv (hv i (by omega)).2) ?_
    refine xv_if_eqD (tgt := 73) dX5_hindrance_54 rfl (fun c_54 => ?_) (fun c_54 => ?_)
    · refine xv_iinc dX5_hindrance_73 rfl (xv_inc _) (Nat.le_of_ble_eq_true rfl) rfl ?_
      refine xv_goto (tgt := 41) dX5_hindrance_76 rfl ?_
      rw [xfst_n (fun h => c_54 h.1)] at hQ
      exact ih (i + 1) (by omega) hQ
    · refine xv_aload_n dX5_hindrance_57 rfl rfl ?_
      refine xv_iload_n dX5_hindrance_58 rfl rfl ?_
      refine xv_iload_n dX5_hindrance_59 rfl rfl ?_
      refine xv_iload_n dX5_hindrance_60 rfl rfl ?_
      refine xv_callV0 (As := [_, _, _]) dX5_hindrance_61 cl_X5_59 rfl rfl rfl rfl (go_1 hG) rfl rfl (Nat.le_of_ble_eq_true rfl) (Nat.le_of_ble_eq_true rfl) (Nat.zero_le _) (Nat.zero_le _) ?_
      refine s5_wouldHold hG (xv_ixn (by omega) (by decide)) (xv_ixv (hv i (by omega)).1) (xv_ixv (hv i (by omega)).2) ?_
      refine xv_if_neD (tgt := 73) dX5_hindrance_64 rfl (fun c_64 => ?_) (fun c_64 => ?_)
      · refine xv_iinc dX5_hindrance_73 rfl (xv_inc _) (Nat.le_of_ble_eq_true rfl) rfl ?_
        refine xv_goto (tgt := 41) dX5_hindrance_76 rfl ?_
        rw [xfst_n (fun h => h.2 c_64)] at hQ
        exact ih (i + 1) (by omega) hQ
      · refine xv_sipush (v := 200) dX5_hindrance_67 rfl ?_
        refine xv_iload_n dX5_hindrance_70 rfl rfl ?_
        refine xv_iadd dX5_hindrance_71 ?_
        refine xv_iret dX5_hindrance_72 rfl (Nat.zero_le _) (Nat.zero_le _) ?_
        rw [xfst_y ⟨c_54, c_64⟩] at hQ
        exact hQ

theorem s5_hin_l {l : Launch} {D : va_G} {d : Nat} {G : xv_Gr} {I : xv_I} {J : xv_J} {Q : xv_Po} (hG : xg_ok G) {np : Nat} (hn : I 1 1 = nI np) (hnp : np ≤ 12) {nm : Nat} (hm : I 1 2 = nI nm) (hnm : nm ≤ 20) (hv : ∀ k, k < nm → vp_in (I 107 k) 12 ∧ vp_in (I 109 k) 12) {nn b : Int32} : ∀ (n i : Nat), i + n = np → Q (some (.int (xfst (pl_fxa I nn) (fun k => 100 + nI k) (pl_w2 I np nm nn b) n i))) G I J → xv_Ev l D (d + 3) mX5_hindrance none 2 [some (.ref 1), some (.int nn), some (.int b), some (.int (nI i))] [] G I J 0 0 Q := by
  intro n
  induction n with
  | zero =>
    intro i hi hQ
    refine xv_iload_n dX5_hindrance_2 rfl rfl ?_
    refine xv_aload_n dX5_hindrance_3 rfl rfl ?_
    refine xv_geti dX5_hindrance_4 fl_X5_15 (go_1 hG) rfl ?_
    refine xv_nmI hn ?_
    refine xv_icmp_geN (tgt := 39) dX5_hindrance_7 rfl (by omega) (by omega) (fun c_7 => ?_) (fun c_7 => absurd c_7 (by omega))
    refine xv_iconst (v := 0) dX5_hindrance_39 rfl ?_
    refine xv_istore_n dX5_hindrance_40 rfl (Nat.le_of_ble_eq_true rfl) rfl ?_
    exact s5_hin_m hG hn hnp hm hnm hv nm 0 (by omega) hQ
  | succ n ih =>
    intro i hi hQ
    refine xv_iload_n dX5_hindrance_2 rfl rfl ?_
    refine xv_aload_n dX5_hindrance_3 rfl rfl ?_
    refine xv_geti dX5_hindrance_4 fl_X5_15 (go_1 hG) rfl ?_
    refine xv_nmI hn ?_
    refine xv_icmp_geN (tgt := 39) dX5_hindrance_7 rfl (by omega) (by omega) (fun c_7 => absurd c_7 (by omega)) (fun c_7 => ?_)
    refine xv_aload_n dX5_hindrance_10 rfl rfl ?_
    refine xv_getr dX5_hindrance_11 fl_X5_31 (go_1 hG) rfl (gr_1_6 hG) ?_
    refine xv_iload_n dX5_hindrance_14 rfl rfl ?_
    refine xv_zaload dX5_hindrance_15 (go_106 hG) (xv_ixn (by omega) (by decide)) ?_
    refine xv_if_eq (tgt := 33) dX5_hindrance_16 rfl (fun c_16 => ?_) (fun c_16 => ?_)
    · refine xv_iinc dX5_hindrance_33 rfl (xv_inc _) (Nat.le_of_ble_eq_true rfl) rfl ?_
      refine xv_goto (tgt := 2) dX5_hindrance_36 rfl ?_
      rw [xfst_n (fun h => h.1 c_16)] at hQ
      exact ih (i + 1) (by omega) hQ
    · refine xv_aload_n dX5_hindrance_19 rfl rfl ?_
      refine xv_iload_n dX5_hindrance_20 rfl rfl ?_
      refine xv_iload_n dX5_hindrance_21 rfl rfl ?_
      refine xv_callV0 (As := [_, _]) dX5_hindrance_22 cl_X5_51 rfl rfl rfl rfl (go_1 hG) rfl rfl (Nat.le_of_ble_eq_true rfl) (Nat.le_of_ble_eq_true rfl) (Nat.zero_le _) (Nat.zero_le _) ?_
      refine s5_isAcross hG (xv_ixn (by omega) (by decide)) ?_
      refine xv_if_eqD (tgt := 33) dX5_hindrance_25 rfl (fun c_25 => ?_) (fun c_25 => ?_)
      · refine xv_iinc dX5_hindrance_33 rfl (xv_inc _) (Nat.le_of_ble_eq_true rfl) rfl ?_
        refine xv_goto (tgt := 2) dX5_hindrance_36 rfl ?_
        rw [xfst_n (fun h => c_25 h.2)] at hQ
        exact ih (i + 1) (by omega) hQ
      · refine xv_bipush (v := 100) dX5_hindrance_28 rfl ?_
        refine xv_iload_n dX5_hindrance_30 rfl rfl ?_
        refine xv_iadd dX5_hindrance_31 ?_
        refine xv_iret dX5_hindrance_32 rfl (Nat.zero_le _) (Nat.zero_le _) ?_
        rw [xfst_y ⟨c_16, c_25⟩] at hQ
        exact hQ

theorem s5_hin {l : Launch} {D : va_G} {d : Nat} {G : xv_Gr} {I : xv_I} {J : xv_J} {Q : xv_Po} (hG : xg_ok G) {np : Nat} (hn : I 1 1 = nI np) (hnp : np ≤ 12) {nm : Nat} (hm : I 1 2 = nI nm) (hnm : nm ≤ 20) (hv : ∀ k, k < nm → vp_in (I 107 k) 12 ∧ vp_in (I 109 k) 12) {nn b : Int32} (hQ : Q (some (.int (pl_w1 I np nm nn b))) G I J) : xv_Ev l D (d + 3) mX5_hindrance none 0 [some (.ref 1), some (.int nn), some (.int b), none] [] G I J 0 0 Q := by
  refine xv_iconst (v := 0) dX5_hindrance_0 rfl ?_
  refine xv_istore_n dX5_hindrance_1 rfl (Nat.le_of_ble_eq_true rfl) rfl ?_
  exact s5_hin_l hG hn hnp hm hnm hv np 0 (by omega) hQ

noncomputable def pl_psz (I : xv_I) (n b : Int32) (p : Nat) : Int32 := @ite Int32 (I 103 p < n ∧ n < I 103 p + I 104 p) (Classical.propDecidable _) (I 104 p + b) (I 104 p)
noncomputable def pl_plf (I : xv_I) (n b : Int32) (p : Nat) : Int32 := @ite Int32 (¬ (I 103 p < n ∧ n < I 103 p + I 104 p) ∧ n ≤ I 103 p) (Classical.propDecidable _) (I 103 p + b) (I 103 p)
noncomputable def pl_psp (I : xv_I) (n b : Int32) : Int32 := @ite Int32 (n ≤ I 1 0) (Classical.propDecidable _) (I 1 0 + b) (I 1 0)
theorem pl_pA {I : xv_I} {nn b : Int32} {i : Nat} (h : I 103 i < nn ∧ nn < I 103 i + I 104 i) : xv_ui (xfl (xfl I 104 (pl_psz I nn b) i) 103 (pl_plf I nn b) i) 104 i ((xfl (xfl I 104 (pl_psz I nn b) i) 103 (pl_plf I nn b) i) 104 i + b) = (xfl (xfl I 104 (pl_psz I nn b) (i + 1)) 103 (pl_plf I nn b) (i + 1)) := by
  funext a k
  have h1 : pl_psz I nn b i = I 104 i + b := by rw [pl_psz, if_pos h]
  have h2 : pl_plf I nn b i = I 103 i := by rw [pl_plf, if_neg (fun q => q.1 h)]
  simp only [xv_ui_ap, xfl]
  grind
theorem pl_pB {I : xv_I} {nn b : Int32} {i : Nat} (h : ¬ (I 103 i < nn ∧ nn < I 103 i + I 104 i)) (h3 : nn ≤ I 103 i) : xv_ui (xfl (xfl I 104 (pl_psz I nn b) i) 103 (pl_plf I nn b) i) 103 i ((xfl (xfl I 104 (pl_psz I nn b) i) 103 (pl_plf I nn b) i) 103 i + b) = (xfl (xfl I 104 (pl_psz I nn b) (i + 1)) 103 (pl_plf I nn b) (i + 1)) := by
  funext a k
  have h1 : pl_psz I nn b i = I 104 i := by rw [pl_psz, if_neg h]
  have h2 : pl_plf I nn b i = I 103 i + b := by rw [pl_plf, if_pos ⟨h, h3⟩]
  simp only [xv_ui_ap, xfl]
  grind
theorem pl_pC {I : xv_I} {nn b : Int32} {i : Nat} (h : ¬ (I 103 i < nn ∧ nn < I 103 i + I 104 i)) (h3 : ¬ nn ≤ I 103 i) : (xfl (xfl I 104 (pl_psz I nn b) i) 103 (pl_plf I nn b) i) = (xfl (xfl I 104 (pl_psz I nn b) (i + 1)) 103 (pl_plf I nn b) (i + 1)) := by
  funext a k
  have h1 : pl_psz I nn b i = I 104 i := by rw [pl_psz, if_neg h]
  have h2 : pl_plf I nn b i = I 103 i := by rw [pl_plf, if_neg (fun q => h3 q.2)]
  simp only [xfl]
  grind
theorem pl_pR {I : xv_I} {nn b : Int32} {i : Nat} : (xfl (xfl I 104 (pl_psz I nn b) i) 103 (pl_plf I nn b) i) 103 i = I 103 i ∧ (xfl (xfl I 104 (pl_psz I nn b) i) 103 (pl_plf I nn b) i) 104 i = I 104 i := by simp [xfl]
theorem s5_pul_l {l : Launch} {D : va_G} {d : Nat} {G : xv_Gr} {I : xv_I} {J : xv_J} {Q : xv_Po} (hG : xg_ok G) {np : Nat} (hn : I 1 1 = nI np) (hnp : np ≤ 12) {nn b : Int32} (hQ : Q (some (.int (nI (xcn (fun p => I 103 p < nn ∧ nn < I 103 p + I 104 p) np)))) G (xv_ui (xfl (xfl I 104 (pl_psz I nn b) np) 103 (pl_plf I nn b) np) 1 0 (pl_psp I nn b)) J) : ∀ (n i : Nat), i + n = np → xv_Ev l D (d + 2) mX5_pullApart none 5 [some (.ref 1), some (.int nn), some (.int b), some (.int (nI (xcn (fun p => I 103 p < nn ∧ nn < I 103 p + I 104 p) i))), some (.int (nI i))] [] G (xfl (xfl I 104 (pl_psz I nn b) i) 103 (pl_plf I nn b) i) J 0 0 Q := by
  intro n
  induction n with
  | zero =>
    intro i hi
    refine xv_iload dX5_pullApart_5 rfl ?_
    refine xv_aload_n dX5_pullApart_7 rfl rfl ?_
    refine xv_geti dX5_pullApart_8 fl_X5_15 (go_1 hG) rfl ?_
    refine xv_nmI (show (xfl (xfl I 104 (pl_psz I nn b) i) 103 (pl_plf I nn b) i) 1 1 = nI np from hn) ?_
    refine xv_icmp_geN (tgt := 69) dX5_pullApart_11 rfl (by omega) (by omega) (fun c_11 => ?_) (fun c_11 => absurd c_11 (by omega))
    have e : np = i := by omega
    subst e
    refine xv_iload_n dX5_pullApart_69 rfl rfl ?_
    refine xv_aload_n dX5_pullApart_70 rfl rfl ?_
    refine xv_geti dX5_pullApart_71 fl_X5_9 (go_1 hG) rfl ?_
    refine xv_icmp_gt (tgt := 87) dX5_pullApart_74 rfl (fun c_74 => ?_) (fun c_74 => ?_)
    · refine xv_iload_n dX5_pullApart_87 rfl rfl ?_
      refine xv_iret dX5_pullApart_88 rfl (Nat.zero_le _) (Nat.zero_le _) ?_
      have e2 : pl_psp I nn b = I 1 0 := by rw [pl_psp, if_neg (by simp only [xn_lt, xn_le] at *; exact Int.not_le.mpr c_74)]
      rw [e2] at hQ
      have e3 : xv_ui (xfl (xfl I 104 (pl_psz I nn b) np) 103 (pl_plf I nn b) np) 1 0 (I 1 0) = (xfl (xfl I 104 (pl_psz I nn b) np) 103 (pl_plf I nn b) np) := by
        funext a k
        simp only [xv_ui_ap, xfl]
        grind
      rw [e3] at hQ
      exact hQ
    · refine xv_aload_n dX5_pullApart_77 rfl rfl ?_
      refine xv_dup dX5_pullApart_78 rfl ?_
      refine xv_geti dX5_pullApart_79 fl_X5_9 (go_1 hG) rfl ?_
      refine xv_iload_n dX5_pullApart_82 rfl rfl ?_
      refine xv_iadd dX5_pullApart_83 ?_
      refine xv_puti dX5_pullApart_84 fl_X5_9 (go_1 hG) rfl rfl rfl ?_
      refine xv_iload_n dX5_pullApart_87 rfl rfl ?_
      refine xv_iret dX5_pullApart_88 rfl (Nat.zero_le _) (Nat.zero_le _) ?_
      have e2 : pl_psp I nn b = I 1 0 + b := by rw [pl_psp, if_pos (by simp only [xn_lt, xn_le] at *; exact Int.not_lt.mp c_74)]
      rw [e2] at hQ
      exact hQ
  | succ n ih =>
    intro i hi
    refine xv_iload dX5_pullApart_5 rfl ?_
    refine xv_aload_n dX5_pullApart_7 rfl rfl ?_
    refine xv_geti dX5_pullApart_8 fl_X5_15 (go_1 hG) rfl ?_
    refine xv_nmI (show (xfl (xfl I 104 (pl_psz I nn b) i) 103 (pl_plf I nn b) i) 1 1 = nI np from hn) ?_
    refine xv_icmp_geN (tgt := 69) dX5_pullApart_11 rfl (by omega) (by omega) (fun c_11 => absurd c_11 (by omega)) (fun c_11 => ?_)
    refine xv_aload_n dX5_pullApart_14 rfl rfl ?_
    refine xv_iload dX5_pullApart_15 rfl ?_
    refine xv_iload_n dX5_pullApart_17 rfl rfl ?_
    refine xv_callV0 (As := [_, _]) dX5_pullApart_18 cl_X5_51 rfl rfl rfl rfl (go_1 hG) rfl rfl (Nat.le_of_ble_eq_true rfl) (Nat.le_of_ble_eq_true rfl) (Nat.zero_le _) (Nat.zero_le _) ?_
    refine s5_isAcross hG (xv_ixn (by omega) (by decide)) ?_
    refine xv_if_eqD (tgt := 41) dX5_pullApart_21 rfl (fun c_21 => ?_) (fun c_21 => ?_)
    · refine xv_aload_n dX5_pullApart_41 rfl rfl ?_
      refine xv_getr dX5_pullApart_42 fl_X5_21 (go_1 hG) rfl (gr_1_3 hG) ?_
      refine xv_iload dX5_pullApart_45 rfl ?_
      refine xv_iaload dX5_pullApart_47 (go_103 hG) (xv_ixn (by omega) (by decide)) ?_
      refine xv_iload_n dX5_pullApart_48 rfl rfl ?_
      refine xv_icmp_lt (tgt := 63) dX5_pullApart_49 rfl (fun c_49 => ?_) (fun c_49 => ?_)
      · refine xv_iinc dX5_pullApart_63 rfl (xv_inc _) (Nat.le_of_ble_eq_true rfl) rfl ?_
        refine xv_goto (tgt := 5) dX5_pullApart_66 rfl ?_
        have hc : ¬ (I 103 i < nn ∧ nn < I 103 i + I 104 i) := by
          have h := c_21
          rw [pl_pR.1, pl_pR.2] at h
          exact h
        have h3 : ¬ nn ≤ I 103 i := by
          have h := c_49
          rw [pl_pR.1] at h
          simp only [xn_lt, xn_le] at *
          omega
        refine xv_nmM (pl_pC hc h3) ?_
        have ih2 := ih (i + 1) (by omega)
        rw [xcn_n (P := fun p => I 103 p < nn ∧ nn < I 103 p + I 104 p) (n := i) hc] at ih2
        exact ih2
      · refine xv_aload_n dX5_pullApart_52 rfl rfl ?_
        refine xv_getr dX5_pullApart_53 fl_X5_21 (go_1 hG) rfl (gr_1_3 hG) ?_
        refine xv_iload dX5_pullApart_56 rfl ?_
        refine xv_dup2 dX5_pullApart_58 rfl rfl ?_
        refine xv_iaload dX5_pullApart_59 (go_103 hG) (xv_ixn (by omega) (by decide)) ?_
        refine xv_iload_n dX5_pullApart_60 rfl rfl ?_
        refine xv_iadd dX5_pullApart_61 ?_
        refine xv_iastore dX5_pullApart_62 (go_103 hG) (xv_ixn (by omega) (by decide)) ?_
        refine xv_iinc dX5_pullApart_63 rfl (xv_inc _) (Nat.le_of_ble_eq_true rfl) rfl ?_
        refine xv_goto (tgt := 5) dX5_pullApart_66 rfl ?_
        have hc : ¬ (I 103 i < nn ∧ nn < I 103 i + I 104 i) := by
          have h := c_21
          rw [pl_pR.1, pl_pR.2] at h
          exact h
        have h3 : nn ≤ I 103 i := by
          have h := c_49
          rw [pl_pR.1] at h
          simp only [xn_lt, xn_le] at *
          omega
        refine xv_nmM (pl_pB hc h3) ?_
        have ih2 := ih (i + 1) (by omega)
        rw [xcn_n (P := fun p => I 103 p < nn ∧ nn < I 103 p + I 104 p) (n := i) hc] at ih2
        exact ih2
    · refine xv_aload_n dX5_pullApart_24 rfl rfl ?_
      refine xv_getr dX5_pullApart_25 fl_X5_25 (go_1 hG) rfl (gr_1_4 hG) ?_
      refine xv_iload dX5_pullApart_28 rfl ?_
      refine xv_dup2 dX5_pullApart_30 rfl rfl ?_
      refine xv_iaload dX5_pullApart_31 (go_104 hG) (xv_ixn (by omega) (by decide)) ?_
      refine xv_iload_n dX5_pullApart_32 rfl rfl ?_
      refine xv_iadd dX5_pullApart_33 ?_
      refine xv_iastore dX5_pullApart_34 (go_104 hG) (xv_ixn (by omega) (by decide)) ?_
      refine xv_iinc dX5_pullApart_35 rfl (xv_inc _) (Nat.le_of_ble_eq_true rfl) rfl ?_
      refine xv_goto (tgt := 63) dX5_pullApart_38 rfl ?_
      refine xv_iinc dX5_pullApart_63 rfl (xv_inc _) (Nat.le_of_ble_eq_true rfl) rfl ?_
      refine xv_goto (tgt := 5) dX5_pullApart_66 rfl ?_
      have hc : (I 103 i < nn ∧ nn < I 103 i + I 104 i) := by
        have h := c_21
        rw [pl_pR.1, pl_pR.2] at h
        exact h
      refine xv_nmM (pl_pA hc) ?_
      have ih2 := ih (i + 1) (by omega)
      rw [xcn_y (P := fun p => I 103 p < nn ∧ nn < I 103 p + I 104 p) (n := i) hc] at ih2
      exact ih2

theorem s5_pul {l : Launch} {D : va_G} {d : Nat} {G : xv_Gr} {I : xv_I} {J : xv_J} {Q : xv_Po} (hG : xg_ok G) {np : Nat} (hn : I 1 1 = nI np) (hnp : np ≤ 12) {nn b : Int32} (hQ : Q (some (.int (nI (xcn (fun p => I 103 p < nn ∧ nn < I 103 p + I 104 p) np)))) G (xv_ui (xfl (xfl I 104 (pl_psz I nn b) np) 103 (pl_plf I nn b) np) 1 0 (pl_psp I nn b)) J) : xv_Ev l D (d + 2) mX5_pullApart none 0 [some (.ref 1), some (.int nn), some (.int b), none, none] [] G I J 0 0 Q := by
  refine xv_iconst (v := 0) dX5_pullApart_0 rfl ?_
  refine xv_istore_n dX5_pullApart_1 rfl (Nat.le_of_ble_eq_true rfl) rfl ?_
  refine xv_iconst (v := 0) dX5_pullApart_2 rfl ?_
  refine xv_istore dX5_pullApart_3 (Nat.le_of_ble_eq_true rfl) rfl ?_
  have h := s5_pul_l (d := d) (l := l) (D := D) hG hn hnp hQ np 0 (by omega)
  rw [xfl_0, xfl_0] at h
  exact h

theorem s10_apart_l {l : Launch} {D : va_G} {d : Nat} {G : xv_Gr} {I : xv_I} {J : xv_J} {Q : xv_Po} (hG : xg_ok G) {nm : Nat} (hm : I 1 2 = nI nm) (hnm : nm ≤ 20) (hv : ∀ k, k < nm → vp_in (I 107 k) 12 ∧ vp_in (I 109 k) 12) : ∀ (n i : Nat), i + n = nm → Q (some (.int (xfst (fun k => ¬ pl_hld I k) (fun k => nI k) (-900009) n i))) G I J → xv_Ev l D (d + 2) mX10_apart none 2 [some (.ref 0), some (.int (nI i))] [] G I J 0 0 Q := by
  intro n
  induction n with
  | zero =>
    intro i hi hQ
    refine xv_iload_n dX10_apart_2 rfl rfl ?_
    refine xv_aload_n dX10_apart_3 rfl rfl ?_
    refine xv_getr dX10_apart_4 fl_X10_10 (go_0 hG) rfl (gr_0_0 hG) ?_
    refine xv_geti dX10_apart_7 fl_X10_91 (go_1 hG) rfl ?_
    refine xv_nmI hm ?_
    refine xv_icmp_geN (tgt := 32) dX10_apart_10 rfl (by omega) (by omega) (fun c_10 => ?_) (fun c_10 => absurd c_10 (by omega))
    refine xv_ldc dX10_apart_32 ld_X10_101 ?_
    refine xv_iret dX10_apart_34 rfl (Nat.zero_le _) (Nat.zero_le _) ?_
    exact hQ
  | succ n ih =>
    intro i hi hQ
    refine xv_iload_n dX10_apart_2 rfl rfl ?_
    refine xv_aload_n dX10_apart_3 rfl rfl ?_
    refine xv_getr dX10_apart_4 fl_X10_10 (go_0 hG) rfl (gr_0_0 hG) ?_
    refine xv_geti dX10_apart_7 fl_X10_91 (go_1 hG) rfl ?_
    refine xv_nmI hm ?_
    refine xv_icmp_geN (tgt := 32) dX10_apart_10 rfl (by omega) (by omega) (fun c_10 => absurd c_10 (by omega)) (fun c_10 => ?_)
    refine xv_aload_n dX10_apart_13 rfl rfl ?_
    refine xv_getr dX10_apart_14 fl_X10_10 (go_0 hG) rfl (gr_0_0 hG) ?_
    refine xv_iload_n dX10_apart_17 rfl rfl ?_
    refine xv_callV0 (As := [_]) dX10_apart_18 cl_X10_98 rfl rfl rfl rfl (go_1 hG) rfl rfl (Nat.le_of_ble_eq_true rfl) (Nat.le_of_ble_eq_true rfl) (Nat.zero_le _) (Nat.zero_le _) ?_
    refine s5_holds hG (xv_ixn (by omega) (by decide)) (xv_ixv (hv i (by omega)).1) (xv_ixv (hv i (by omega)).2) ?_
    refine xv_if_neD (tgt := 26) dX10_apart_21 rfl (fun c_21 => ?_) (fun c_21 => ?_)
    · refine xv_iinc dX10_apart_26 rfl (xv_inc _) (Nat.le_of_ble_eq_true rfl) rfl ?_
      refine xv_goto (tgt := 2) dX10_apart_29 rfl ?_
      rw [xfst_n (P := fun k => ¬ pl_hld I k) (fun h => h c_21)] at hQ
      exact ih (i + 1) (by omega) hQ
    · refine xv_iload_n dX10_apart_24 rfl rfl ?_
      refine xv_iret dX10_apart_25 rfl (Nat.zero_le _) (Nat.zero_le _) ?_
      rw [xfst_y (P := fun k => ¬ pl_hld I k) c_21] at hQ
      exact hQ

theorem s10_apart {l : Launch} {D : va_G} {d : Nat} {G : xv_Gr} {I : xv_I} {J : xv_J} {Q : xv_Po} (hG : xg_ok G) {nm : Nat} (hm : I 1 2 = nI nm) (hnm : nm ≤ 20) (hv : ∀ k, k < nm → vp_in (I 107 k) 12 ∧ vp_in (I 109 k) 12) (hQ : Q (some (.int (xfst (fun k => ¬ pl_hld I k) (fun k => nI k) (-900009) nm 0))) G I J) : xv_Ev l D (d + 2) mX10_apart none 0 [some (.ref 0), none] [] G I J 0 0 Q := by
  refine xv_iconst (v := 0) dX10_apart_0 rfl ?_
  refine xv_istore_n dX10_apart_1 rfl (Nat.le_of_ble_eq_true rfl) rfl ?_
  exact s10_apart_l hG hm hnm hv nm 0 (by omega) hQ
