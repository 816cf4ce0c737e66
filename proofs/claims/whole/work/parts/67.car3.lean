/-! two cars (class): seekBest, turnedBy -/
def dn_f (od : Nat → Nat) : Nat → Nat
  | 0 => 0
  | i + 1 => dn_f od i ||| 2 ^ od i
def sk_p (I I2 : xv_I) (od ot : Nat → Nat) (i : Nat) : Prop := (∀ b, b ≠ 155 → b ≠ 156 → I2 b = I b) ∧ ∀ j, j < i → I2 155 (od j) = I 104 (od j) ∧ I2 156 (od j) = nI (ot (od j))
theorem s1_sb_l {l : Launch} {D : va_G} {d : Nat} {G : xv_Gr} {I : xv_I} {J : xv_J} {Q : xv_Po} (hG : xg_ok G) {np : Nat} (hnp : np ≤ 12) {od ot sz rm : Nat → Nat} (hod : ∀ i, i < np → I 121 i = nI (od i) ∧ od i < np) (hinj : ∀ i j, i < np → j < np → od i = od j → i = j) (hsur : ∀ p, p < np → ∃ i, i < np ∧ od i = p) (hot : ∀ i, i < np → ot (od i) = xdf (2 ^ od i - 1) (dn_f od i)) (hsz : ∀ p, p < np → I 104 p = nI (sz p) ∧ sz p ≤ 1000000) (hrm : ∀ c, c < 2 → I 150 c = nI (rm c) ∧ rm c ≤ 3000) (kk : ∀ I2, sk_p I I2 od ot np → xv_Ev l D d mX1_seekBest none 67 [some (.ref 4), some (.int (nI np)), some (.ref 104), some (.ref 121), some (.int (nI (dn_f od np))), some (.int (nI np)), none] [] G I2 J 0 0 Q) : ∀ (n i : Nat) (I2 : xv_I), i + n = np → sk_p I I2 od ot i → xv_Ev l D d mX1_seekBest none 11 [some (.ref 4), some (.int (nI np)), some (.ref 104), some (.ref 121), some (.int (nI (dn_f od i))), some (.int (nI i)), none] [] G I2 J 0 0 Q := by
  intro n
  induction n with
  | zero =>
    intro i I2 hi hs
    refine xv_iload dX1_seekBest_11 rfl ?_
    refine xv_iload_n dX1_seekBest_13 rfl rfl ?_
    refine xv_icmp_geN (tgt := 67) dX1_seekBest_14 rfl (by omega) (by omega) (fun c_14 => ?_) (fun c_14 => absurd c_14 (by omega))
    have e : np = i := by omega
    subst e
    exact kk I2 hs
  | succ n ih =>
    intro i I2 hi hs
    have hO := hod i
    have h104 : I2 104 = I 104 := hs.1 104 (by decide) (by decide)
    have h121 : I2 121 = I 121 := hs.1 121 (by decide) (by decide)
    refine xv_iload dX1_seekBest_11 rfl ?_
    refine xv_iload_n dX1_seekBest_13 rfl rfl ?_
    refine xv_icmp_geN (tgt := 67) dX1_seekBest_14 rfl (by omega) (by omega) (fun c_14 => absurd c_14 (by omega)) (fun c_14 => ?_)
    have hO := hod i (by omega)
    refine xv_aload_n dX1_seekBest_17 rfl rfl ?_
    refine xv_iload dX1_seekBest_18 rfl ?_
    refine xv_iaload dX1_seekBest_20 (go_121 hG) (xv_ixn (by omega) (by decide)) ?_
    refine xv_nmI ((congrFun h121 i).trans hO.1) ?_
    refine xv_istore dX1_seekBest_21 (Nat.le_of_ble_eq_true rfl) rfl ?_
    refine xv_aload_n dX1_seekBest_23 rfl rfl ?_
    refine xv_getr dX1_seekBest_24 fl_X1_30 (go_4 hG) rfl (gr_4_5 hG) ?_
    refine xv_iload dX1_seekBest_27 rfl ?_
    refine xv_aload_n dX1_seekBest_29 rfl rfl ?_
    refine xv_iload dX1_seekBest_30 rfl ?_
    refine xv_iaload dX1_seekBest_32 (go_104 hG) (xv_ixn (by omega) (by decide)) ?_
    refine xv_nmI (congrFun h104 (od i)) ?_
    refine xv_iastore dX1_seekBest_33 (go_155 hG) (xv_ixn (by omega) (by decide)) ?_
    refine xv_aload_n dX1_seekBest_34 rfl rfl ?_
    refine xv_getr dX1_seekBest_35 fl_X1_33 (go_4 hG) rfl (gr_4_6 hG) ?_
    refine xv_iload dX1_seekBest_38 rfl ?_
    refine xv_iconst (v := 1) dX1_seekBest_40 rfl ?_
    refine xv_iload dX1_seekBest_41 rfl ?_
    refine xv_ishl dX1_seekBest_43 ?_
    refine xv_nmI (xi_one (by omega)) ?_
    refine xv_iconst (v := nI 1) dX1_seekBest_44 rfl ?_
    refine xv_isub dX1_seekBest_45 ?_
    refine xv_nmI (pk_sub Nat.one_le_two_pow) ?_
    refine xv_iload dX1_seekBest_46 rfl ?_
    refine xv_iconst (v := -1) dX1_seekBest_48 rfl ?_
    refine xv_ixor dX1_seekBest_49 ?_
    refine xv_iand dX1_seekBest_50 ?_
    refine xv_nmI (xi_andn _ _) ?_
    refine xv_iastore dX1_seekBest_51 (go_156 hG) (xv_ixn (by omega) (by decide)) ?_
    refine xv_iload dX1_seekBest_52 rfl ?_
    refine xv_iconst (v := 1) dX1_seekBest_54 rfl ?_
    refine xv_iload dX1_seekBest_55 rfl ?_
    refine xv_ishl dX1_seekBest_57 ?_
    refine xv_nmI (xi_one (by omega)) ?_
    refine xv_ior dX1_seekBest_58 ?_
    refine xv_nmI (xi_or _ _) ?_
    refine xv_istore dX1_seekBest_59 (Nat.le_of_ble_eq_true rfl) rfl ?_
    refine xv_iinc dX1_seekBest_61 rfl (xv_inc _) (Nat.le_of_ble_eq_true rfl) rfl ?_
    refine xv_goto (tgt := 11) dX1_seekBest_64 rfl ?_
    refine xv_fg [true, true, true, true, true, true, false] (ih (i + 1) _ (by omega) ⟨fun b g1 g2 => ?_, fun j hj => ?_⟩)
    · rw [xv_ui_ne g2, xv_ui_ne g1]; exact hs.1 b g1 g2
    · by_cases e : j = i
      · subst e
        refine ⟨?_, ?_⟩
        · rw [xv_ui_ne (by decide), xv_ui_s]
        · rw [xv_ui_s, hot j (by omega)]
      · have ne : od j ≠ od i := fun z => e (hinj j i (by omega) (by omega) z)
        refine ⟨?_, ?_⟩
        · rw [xv_ui_ne (by decide), xv_ui_o ne]; exact (hs.2 j (by omega)).1
        · rw [xv_ui_o ne, xv_ui_ne (by decide)]; exact (hs.2 j (by omega)).2

theorem s1_seekBest {l : Launch} {D : va_G} {d : Nat} {G : xv_Gr} {I : xv_I} {J : xv_J} {Q : xv_Po} (hG : xg_ok G) {np : Nat} (hnp : np ≤ 12) {od ot sz rm : Nat → Nat} (hod : ∀ i, i < np → I 121 i = nI (od i) ∧ od i < np) (hinj : ∀ i j, i < np → j < np → od i = od j → i = j) (hsur : ∀ p, p < np → ∃ i, i < np ∧ od i = p) (hot : ∀ i, i < np → ot (od i) = xdf (2 ^ od i - 1) (dn_f od i)) (hsz : ∀ p, p < np → I 104 p = nI (sz p) ∧ sz p ≤ 1000000) (hrm : ∀ c, c < 2 → I 150 c = nI (rm c) ∧ rm c ≤ 3000) (hQ : ∀ I2, (∀ b, b ≠ 155 → b ≠ 156 → b ≠ 157 → b ≠ 4 → I2 b = I b) → (∀ j, j ≠ 2 → j ≠ 3 → j ≠ 4 → I2 4 j = I 4 j) → cr_ok np sz ot rm I2 → bs_ I2 (pf sz ot rm np 0 0 0 (fun _ => 0) none) → Q none G I2 J) : xv_Ev l D (d + 15) mX1_seekBest none 0 [some (.ref 4), some (.int (nI np)), some (.ref 104), some (.ref 121), none, none, none] [] G I J 0 0 Q := by
  refine xv_aload_n dX1_seekBest_0 rfl rfl ?_
  refine xv_iload_n dX1_seekBest_1 rfl rfl ?_
  refine xv_puti dX1_seekBest_2 fl_X1_27 (go_4 hG) rfl rfl rfl ?_
  refine xv_iconst (v := nI 0) dX1_seekBest_5 rfl ?_
  refine xv_istore dX1_seekBest_6 (Nat.le_of_ble_eq_true rfl) rfl ?_
  refine xv_iconst (v := nI 0) dX1_seekBest_8 rfl ?_
  refine xv_istore dX1_seekBest_9 (Nat.le_of_ble_eq_true rfl) rfl ?_
  refine s1_sb_l hG (I := (xv_ui I 4 4 (nI np))) hnp (od := od) (ot := ot) (sz := sz) (rm := rm) (fun i hi => (by rw [xv_ui_ne (by decide)]; exact hod i hi)) hinj hsur hot (fun p hp => (by rw [xv_ui_ne (by decide)]; exact hsz p hp)) (fun c hc => (by rw [xv_ui_ne (by decide)]; exact hrm c hc)) (fun I2 hs => ?_) np 0 (xv_ui I 4 4 (nI np)) (by omega) ⟨fun _ _ _ => rfl, fun j hj => absurd hj (by omega)⟩
  refine xv_aload_n dX1_seekBest_67 rfl rfl ?_
  refine xv_getr dX1_seekBest_68 fl_X1_36 (go_4 hG) rfl (gr_4_7 hG) ?_
  refine xv_iconst (v := nI 0) dX1_seekBest_71 rfl ?_
  refine xv_iconst (v := nI 0) dX1_seekBest_72 rfl ?_
  refine xv_iastore dX1_seekBest_73 (go_157 hG) (xv_ixn (by omega) (by decide)) ?_
  refine xv_aload_n dX1_seekBest_74 rfl rfl ?_
  refine xv_getr dX1_seekBest_75 fl_X1_36 (go_4 hG) rfl (gr_4_7 hG) ?_
  refine xv_iconst (v := nI 1) dX1_seekBest_78 rfl ?_
  refine xv_iconst (v := nI 0) dX1_seekBest_79 rfl ?_
  refine xv_iastore dX1_seekBest_80 (go_157 hG) (xv_ixn (by omega) (by decide)) ?_
  refine xv_aload_n dX1_seekBest_81 rfl rfl ?_
  refine xv_ldc dX1_seekBest_82 ld_X1_19 ?_
  refine xv_puti dX1_seekBest_84 fl_X1_20 (go_4 hG) rfl rfl rfl ?_
  refine xv_aload_n dX1_seekBest_87 rfl rfl ?_
  refine xv_iconst (v := nI 0) dX1_seekBest_88 rfl ?_
  refine xv_iconst (v := nI 0) dX1_seekBest_89 rfl ?_
  refine xv_iconst (v := nI 0) dX1_seekBest_90 rfl ?_
  refine xv_callV0 (As := [_, _, _]) dX1_seekBest_91 cl_X1_39 rfl rfl rfl rfl (go_4 hG) rfl rfl (Nat.le_of_ble_eq_true rfl) (Nat.le_of_ble_eq_true rfl) (Nat.zero_le _) (Nat.zero_le _) ?_
  have hok : cr_ok np sz ot rm (xv_ui (xv_ui (xv_ui I2 157 0 (nI 0)) 157 1 (nI 0)) 4 2 (-900009)) := by
    refine ⟨?_, fun p hp => ?_, fun c hc => ?_⟩
    · rw [xv_ui_o (by decide), xv_ui_ne (by decide), xv_ui_ne (by decide), hs.1 4 (by decide) (by decide)]; exact xv_ui_s
    · obtain ⟨i, hi, e⟩ := hsur p hp
      have q := hs.2 i hi
      have z := hsz p hp
      rw [e] at q
      rw [xv_ui_ne (by decide), xv_ui_ne (by decide), xv_ui_ne (by decide), xv_ui_ne (by decide), xv_ui_ne (by decide), xv_ui_ne (by decide), q.1, q.2]
      refine ⟨?_, z.2, rfl, ?_⟩
      · rw [xv_ui_ne (by decide)]; exact z.1
      · have t := hot i hi
        rw [e] at t
        rw [t]
        have t2 : 2 ^ p < 2 ^ 12 := Nat.pow_lt_pow_right (by decide) (by omega)
        exact Nat.lt_of_le_of_lt (xdf_le _ _) (by omega)
    · rw [xv_ui_ne (by decide), xv_ui_ne (by decide), xv_ui_ne (by decide), hs.1 150 (by decide) (by decide), xv_ui_ne (by decide)]; exact hrm c hc
  have hlk : ld_k (xv_ui (xv_ui (xv_ui I2 157 0 (nI 0)) 157 1 (nI 0)) 4 2 (-900009)) (fun _ => 0) := fun c hc => by
    rw [xv_ui_ne (by decide)]
    rcases (show c = 0 ∨ c = 1 by omega) with z | z <;> subst z
    · rw [xv_ui_o (by decide), xv_ui_s]; exact ⟨rfl, by decide⟩
    · rw [xv_ui_s]; exact ⟨rfl, by decide⟩
  refine xv_dp (show d + 14 = (d + (12 - np)) + 2 + np by omega) ?_
  refine s1_place hG hnp np 0 0 0 (fun _ => 0) none (xv_ui (xv_ui (xv_ui I2 157 0 (nI 0)) 157 1 (nI 0)) 4 2 (-900009)) _ (by omega) (by omega) hok hlk (show (xv_ui (xv_ui (xv_ui I2 157 0 (nI 0)) 157 1 (nI 0)) 4 2 (-900009)) 4 2 = -900009 from xv_ui_s) (fun I4 hf hb2 => ?_)
  · refine xv_vret dX1_seekBest_94 rfl (Nat.zero_le _) (Nat.zero_le _) ?_
    refine hQ I4 (fun b g1 g2 g3 g4 => ?_) (fun j g1 g2 g3 => ?_) (cr_fr hok hf.1 (hf.2.1 4 (by decide) (by decide))) hb2
    · rw [hf.1 b g3 g4, xv_ui_ne g4, xv_ui_ne g3, xv_ui_ne g3, hs.1 b g1 g2, xv_ui_ne g4]
    · rw [hf.2.1 j g1 g2, xv_ui_o g1, xv_ui_ne (by decide), xv_ui_ne (by decide), hs.1 4 (by decide) (by decide), xv_ui_o g3]

def tb_c (S i : Nat) : Nat := S / 2 ^ i % 2
def tb_s (ot : Nat → Nat) (S : Nat) : Nat → Nat
  | 0 => 0
  | i + 1 => tb_s ot S i + tf_ (ot i) (tb_c S i) S
def tb_l (sz : Nat → Nat) (S c : Nat) : Nat → Nat
  | 0 => 0
  | i + 1 => tb_l sz S c i + if tb_c S i = c then sz i else 0
theorem tb_lb {sz : Nat → Nat} {S c np : Nat} (h : ∀ p, p < np → sz p ≤ 1000000) : ∀ i, i ≤ np → tb_l sz S c i ≤ i * 1000000
  | 0, _ => Nat.zero_le _
  | i + 1, hi => by
    have a := tb_lb (S := S) (c := c) h i (by omega)
    have b := h i (by omega)
    rw [tb_l, Nat.succ_mul]
    refine Nat.add_le_add a ?_
    split
    · exact b
    · exact Nat.zero_le _
def tb_f (I I2 : xv_I) (sz : Nat → Nat) (S i : Nat) : Prop := (∀ b, b ≠ 157 → I2 b = I b) ∧ ∀ c, c < 2 → I2 157 c = nI (tb_l sz S c i)
theorem s1_tb_l {l : Launch} {D : va_G} {d : Nat} {G : xv_Gr} {I : xv_I} {J : xv_J} {Q : xv_Po} (hG : xg_ok G) {np : Nat} (hnp : np ≤ 12) {sz ot rm : Nat → Nat} (hok : cr_ok np sz ot rm I) {S : Nat} (hS : S < 4096) (kk : ∀ I2, tb_f I I2 sz S np → xv_Ev l D (d + 2) mX1_turnedBy none 66 [some (.ref 4), some (.int (nI S)), some (.int (nI (tb_s ot S np))), some (.int (nI np)), none] [] G I2 J 0 0 Q) : ∀ (n i : Nat) (I2 : xv_I), i + n = np → tb_f I I2 sz S i → xv_Ev l D (d + 2) mX1_turnedBy none 18 [some (.ref 4), some (.int (nI S)), some (.int (nI (tb_s ot S i))), some (.int (nI i)), none] [] G I2 J 0 0 Q := by
  intro n
  induction n with
  | zero =>
    intro i I2 hi hs
    refine xv_iload_n dX1_turnedBy_18 rfl rfl ?_
    refine xv_aload_n dX1_turnedBy_19 rfl rfl ?_
    refine xv_geti dX1_turnedBy_20 fl_X1_27 (go_4 hG) rfl ?_
    refine xv_nmI ((congrFun (hs.1 4 (by decide)) 4).trans hok.1) ?_
    refine xv_icmp_geN (tgt := 66) dX1_turnedBy_23 rfl (by omega) (by omega) (fun c_23 => ?_) (fun c_23 => absurd c_23 (by omega))
    have e : np = i := by omega
    subst e
    exact kk I2 hs
  | succ n ih =>
    intro i I2 hi hs
    refine xv_iload_n dX1_turnedBy_18 rfl rfl ?_
    refine xv_aload_n dX1_turnedBy_19 rfl rfl ?_
    refine xv_geti dX1_turnedBy_20 fl_X1_27 (go_4 hG) rfl ?_
    refine xv_nmI ((congrFun (hs.1 4 (by decide)) 4).trans hok.1) ?_
    refine xv_icmp_geN (tgt := 66) dX1_turnedBy_23 rfl (by omega) (by omega) (fun c_23 => absurd c_23 (by omega)) (fun c_23 => ?_)
    have hP := hok.2.1 i (by omega)
    have hc2 : tb_c S i < 2 := Nat.mod_lt _ (by decide)
    refine xv_iload_n dX1_turnedBy_26 rfl rfl ?_
    refine xv_iload_n dX1_turnedBy_27 rfl rfl ?_
    refine xv_ishr dX1_turnedBy_28 ?_
    refine xv_iconst (v := 1) dX1_turnedBy_29 rfl ?_
    refine xv_iand dX1_turnedBy_30 ?_
    refine xv_nmI (xi_bit (by omega) (by omega)) ?_
    refine xv_istore dX1_turnedBy_31 (Nat.le_of_ble_eq_true rfl) rfl ?_
    refine xv_aload_n dX1_turnedBy_33 rfl rfl ?_
    refine xv_getr dX1_turnedBy_34 fl_X1_36 (go_4 hG) rfl (gr_4_7 hG) ?_
    refine xv_iload dX1_turnedBy_37 rfl ?_
    refine xv_dup2 dX1_turnedBy_39 rfl rfl ?_
    refine xv_iaload dX1_turnedBy_40 (go_157 hG) (xv_ixn (by omega) (by decide)) ?_
    refine xv_nmI (hs.2 (tb_c S i) hc2) ?_
    refine xv_aload_n dX1_turnedBy_41 rfl rfl ?_
    refine xv_getr dX1_turnedBy_42 fl_X1_30 (go_4 hG) rfl (gr_4_5 hG) ?_
    refine xv_iload_n dX1_turnedBy_45 rfl rfl ?_
    refine xv_iaload dX1_turnedBy_46 (go_155 hG) (xv_ixn (by omega) (by decide)) ?_
    refine xv_nmI ((congrFun (hs.1 155 (by decide)) i).trans hP.1) ?_
    refine xv_iadd dX1_turnedBy_47 ?_
    refine xv_nmI (nI_add _ _) ?_
    refine xv_iastore dX1_turnedBy_48 (go_157 hG) (xv_ixn (by omega) (by decide)) ?_
    refine xv_iload_n dX1_turnedBy_49 rfl rfl ?_
    refine xv_aload_n dX1_turnedBy_50 rfl rfl ?_
    refine xv_iload_n dX1_turnedBy_51 rfl rfl ?_
    refine xv_iload dX1_turnedBy_52 rfl ?_
    refine xv_iload_n dX1_turnedBy_54 rfl rfl ?_
    refine xv_callV0 (As := [_, _, _]) dX1_turnedBy_55 cl_X1_43 rfl rfl rfl rfl (go_4 hG) rfl rfl (Nat.le_of_ble_eq_true rfl) (Nat.le_of_ble_eq_true rfl) (Nat.zero_le _) (Nat.zero_le _) ?_
    refine s1_turnedFor hG (I := (xv_ui I2 157 (tb_c S i) (nI (tb_l sz S (tb_c S i) i + sz i)))) (p := i) (c := tb_c S i) (S := S) (by omega) (o := ot i) ((congrFun (xv_ui_ne (by decide)) i).trans ((congrFun (hs.1 156 (by decide)) i).trans hP.2.2.1)) hP.2.2.2 hc2 ?_
    refine xv_iadd dX1_turnedBy_58 ?_
    refine xv_nmI (nI_add _ _) ?_
    refine xv_istore_n dX1_turnedBy_59 rfl (Nat.le_of_ble_eq_true rfl) rfl ?_
    refine xv_iinc dX1_turnedBy_60 rfl (xv_inc _) (Nat.le_of_ble_eq_true rfl) rfl ?_
    refine xv_goto (tgt := 18) dX1_turnedBy_63 rfl ?_
    refine xv_fg [true, true, true, true, false] (ih (i + 1) _ (by omega) ⟨fun b g1 => ?_, fun c hc => ?_⟩)
    · rw [xv_ui_ne g1]; exact hs.1 b g1
    · by_cases e : c = tb_c S i
      · subst e; rw [xv_ui_s, tb_l, if_pos rfl]
      · rw [xv_ui_o e, tb_l, if_neg (fun z => e z.symm)]; exact hs.2 c hc

theorem s1_turnedBy {l : Launch} {D : va_G} {d : Nat} {G : xv_Gr} {I : xv_I} {J : xv_J} {Q : xv_Po} (hG : xg_ok G) {np : Nat} (hnp : np ≤ 12) {sz ot rm : Nat → Nat} (hok : cr_ok np sz ot rm I) {S : Nat} (hS : S < 4096) (h1 : ¬ (tb_l sz S 0 np ≤ rm 0 ∧ tb_l sz S 1 np ≤ rm 1) → ∀ I2, (∀ b, b ≠ 157 → I2 b = I b) → Q (some (.int (-900009))) G I2 J) (h2 : (tb_l sz S 0 np ≤ rm 0 ∧ tb_l sz S 1 np ≤ rm 1) → ∀ I2, (∀ b, b ≠ 157 → I2 b = I b) → Q (some (.int (nI (tb_s ot S np)))) G I2 J) : xv_Ev l D (d + 2) mX1_turnedBy none 0 [some (.ref 4), some (.int (nI S)), none, none, none] [] G I J 0 0 Q := by
  refine xv_iconst (v := nI 0) dX1_turnedBy_0 rfl ?_
  refine xv_istore_n dX1_turnedBy_1 rfl (Nat.le_of_ble_eq_true rfl) rfl ?_
  refine xv_aload_n dX1_turnedBy_2 rfl rfl ?_
  refine xv_getr dX1_turnedBy_3 fl_X1_36 (go_4 hG) rfl (gr_4_7 hG) ?_
  refine xv_iconst (v := nI 0) dX1_turnedBy_6 rfl ?_
  refine xv_iconst (v := nI 0) dX1_turnedBy_7 rfl ?_
  refine xv_iastore dX1_turnedBy_8 (go_157 hG) (xv_ixn (by omega) (by decide)) ?_
  refine xv_aload_n dX1_turnedBy_9 rfl rfl ?_
  refine xv_getr dX1_turnedBy_10 fl_X1_36 (go_4 hG) rfl (gr_4_7 hG) ?_
  refine xv_iconst (v := nI 1) dX1_turnedBy_13 rfl ?_
  refine xv_iconst (v := nI 0) dX1_turnedBy_14 rfl ?_
  refine xv_iastore dX1_turnedBy_15 (go_157 hG) (xv_ixn (by omega) (by decide)) ?_
  refine xv_iconst (v := nI 0) dX1_turnedBy_16 rfl ?_
  refine xv_istore_n dX1_turnedBy_17 rfl (Nat.le_of_ble_eq_true rfl) rfl ?_
  refine s1_tb_l hG hnp hok hS (fun I2 hs => ?_) np 0 (xv_ui (xv_ui I 157 0 (nI 0)) 157 1 (nI 0)) (by omega) ⟨fun b g1 => ?_, fun c hc => ?_⟩
  rotate_left
  · rw [xv_ui_ne g1, xv_ui_ne g1]
  · rcases (show c = 0 ∨ c = 1 by omega) with z | z <;> subst z
    · rw [xv_ui_o (by decide), xv_ui_s]; rfl
    · rw [xv_ui_s]; rfl
  have hb0 := tb_lb (S := S) (c := 0) (fun p hp => (hok.2.1 p hp).2.1) np (Nat.le_refl _)
  have hb1 := tb_lb (S := S) (c := 1) (fun p hp => (hok.2.1 p hp).2.1) np (Nat.le_refl _)
  have hr0 := (hok.2.2 0 (by decide)).2
  have hr1 := (hok.2.2 1 (by decide)).2
  refine xv_aload_n dX1_turnedBy_66 rfl rfl ?_
  refine xv_getr dX1_turnedBy_67 fl_X1_36 (go_4 hG) rfl (gr_4_7 hG) ?_
  refine xv_iconst (v := nI 0) dX1_turnedBy_70 rfl ?_
  refine xv_iaload dX1_turnedBy_71 (go_157 hG) (xv_ixn (by omega) (by decide)) ?_
  refine xv_nmI (hs.2 0 (by decide)) ?_
  refine xv_aload_n dX1_turnedBy_72 rfl rfl ?_
  refine xv_getr dX1_turnedBy_73 fl_X1_9 (go_4 hG) rfl (gr_4_0 hG) ?_
  refine xv_iconst (v := nI 0) dX1_turnedBy_76 rfl ?_
  refine xv_iaload dX1_turnedBy_77 (go_150 hG) (xv_ixn (by omega) (by decide)) ?_
  refine xv_nmI ((congrFun (hs.1 150 (by decide)) 0).trans (hok.2.2 0 (by decide)).1) ?_
  refine xv_icmp_gtN (tgt := 96) dX1_turnedBy_78 rfl (by omega) (by omega) (fun c_78 => ?_) (fun c_78 => ?_)
  · refine xv_ldc dX1_turnedBy_96 ld_X1_19 ?_
    refine xv_goto (tgt := 102) dX1_turnedBy_98 rfl ?_
    refine xv_iret dX1_turnedBy_102 rfl (Nat.zero_le _) (Nat.zero_le _) ?_
    exact h1 (by omega) I2 hs.1
  · refine xv_aload_n dX1_turnedBy_81 rfl rfl ?_
    refine xv_getr dX1_turnedBy_82 fl_X1_36 (go_4 hG) rfl (gr_4_7 hG) ?_
    refine xv_iconst (v := nI 1) dX1_turnedBy_85 rfl ?_
    refine xv_iaload dX1_turnedBy_86 (go_157 hG) (xv_ixn (by omega) (by decide)) ?_
    refine xv_nmI (hs.2 1 (by decide)) ?_
    refine xv_aload_n dX1_turnedBy_87 rfl rfl ?_
    refine xv_getr dX1_turnedBy_88 fl_X1_9 (go_4 hG) rfl (gr_4_0 hG) ?_
    refine xv_iconst (v := nI 1) dX1_turnedBy_91 rfl ?_
    refine xv_iaload dX1_turnedBy_92 (go_150 hG) (xv_ixn (by omega) (by decide)) ?_
    refine xv_nmI ((congrFun (hs.1 150 (by decide)) 1).trans (hok.2.2 1 (by decide)).1) ?_
    refine xv_icmp_leN (tgt := 101) dX1_turnedBy_93 rfl (by omega) (by omega) (fun c_93 => ?_) (fun c_93 => ?_)
    · refine xv_iload_n dX1_turnedBy_101 rfl rfl ?_
      refine xv_iret dX1_turnedBy_102 rfl (Nat.zero_le _) (Nat.zero_le _) ?_
      exact h2 ⟨by omega, by omega⟩ I2 hs.1
    · refine xv_ldc dX1_turnedBy_96 ld_X1_19 ?_
      refine xv_goto (tgt := 102) dX1_turnedBy_98 rfl ?_
      refine xv_iret dX1_turnedBy_102 rfl (Nat.zero_le _) (Nat.zero_le _) ?_
      exact h1 (by omega) I2 hs.1
