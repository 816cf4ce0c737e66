/-! boards (class): describeBoards, seekBest -/
noncomputable def cs_ (I : xv_I) (x : Int32) : Option Nat := fl_ (fun k => x ≤ I 130 k) (I 131) 4
theorem cs_cg {I I2 : xv_I} (h : I2 130 = I 130) (h2 : I2 131 = I 131) (x : Int32) : cs_ I2 x = cs_ I x := by rw [cs_, cs_, h, h2]
noncomputable def rv_ (I : xv_I) (lo : Nat) (x : Int32) : Int32 := match cs_ I x with
  | none => 0
  | some s => if 0 < I 130 s - x - nI lo then I 130 s - x - nI lo else 0
theorem rv_cg {I I2 : xv_I} {lo : Nat} (h : I2 130 = I 130) (h2 : I2 131 = I 131) (x : Int32) : rv_ I2 lo x = rv_ I lo x := by rw [rv_, rv_, cs_cg h h2, h]
def dl_ (fr sz : Nat → Nat) (lo b : Nat) : Nat → Nat
  | 0 => 0
  | k + 1 => dl_ fr sz lo b k + if fr k = b then sz k + lo else 0
theorem dl_ad (a : Int32) (x y : Nat) : a + nI x + nI y = a + nI (x + y) := by rw [Int32.add_assoc, nI_add]
def db_i (I I2 : xv_I) (fr sz : Nat → Nat) (lo np t : Nat) : Prop := (∀ b, b ≠ 138 → b ≠ 139 → I2 b = I b) ∧ ∀ b, b < t → I2 138 b = ob_ (-1) (cs_ I (-(nI lo) + nI (dl_ fr sz lo b np))) ∧ I2 139 b = rv_ I lo (-(nI lo) + nI (dl_ fr sz lo b np))
theorem s2_db_i {l : Launch} {D : va_G} {d : Nat} {G : xv_Gr} {I : xv_I} {J : xv_J} {Q : xv_Po} (hG : xg_ok G) {np : Nat} (hnp : np ≤ 12) {fr sz : Nat → Nat} (hfr : ∀ p, p < 12 → I 137 p = nI (fr p) ∧ fr p < 12) (hsz : ∀ p, p < np → I 104 p = nI (sz p)) {lo : Nat} (hlo : I 3 2 = nI lo) {b : Nat} (hb : b < 12) (kk : xv_Ev l D d mX2_describeBoards none 57 [some (.ref 3), some (.int (nI np)), some (.ref 104), some (.int (nI b)), some (.int (-(nI lo) + nI (dl_ fr sz lo b np))), some (.int (nI np))] [] G I J 0 0 Q) : ∀ (n p : Nat), p + n = np → xv_Ev l D d mX2_describeBoards none 20 [some (.ref 3), some (.int (nI np)), some (.ref 104), some (.int (nI b)), some (.int (-(nI lo) + nI (dl_ fr sz lo b p))), some (.int (nI p))] [] G I J 0 0 Q := by
  intro n
  induction n with
  | zero =>
    intro p hp
    refine xv_iload dX2_describeBoards_20 rfl ?_
    refine xv_iload_n dX2_describeBoards_22 rfl rfl ?_
    refine xv_icmp_geN (tgt := 57) dX2_describeBoards_23 rfl (by omega) (by omega) (fun c_23 => ?_) (fun c_23 => absurd c_23 (by omega))
    have e : p = np := by omega
    subst e
    exact kk
  | succ n ih =>
    intro p hp
    refine xv_iload dX2_describeBoards_20 rfl ?_
    refine xv_iload_n dX2_describeBoards_22 rfl rfl ?_
    refine xv_icmp_geN (tgt := 57) dX2_describeBoards_23 rfl (by omega) (by omega) (fun c_23 => absurd c_23 (by omega)) (fun c_23 => ?_)
    refine xv_aload_n dX2_describeBoards_26 rfl rfl ?_
    refine xv_getr dX2_describeBoards_27 fl_X2_35 (go_3 hG) rfl (gr_3_7 hG) ?_
    refine xv_iload dX2_describeBoards_30 rfl ?_
    refine xv_iaload dX2_describeBoards_32 (go_137 hG) (xv_ixn (by omega) (by decide)) ?_
    have hF := hfr p (by omega)
    refine xv_nmI hF.1 ?_
    refine xv_iload_n dX2_describeBoards_33 rfl rfl ?_
    refine xv_icmp_neN (tgt := 51) dX2_describeBoards_34 rfl (by omega) (by omega) (fun c_34 => ?_) (fun c_34 => ?_)
    · refine xv_iinc dX2_describeBoards_51 rfl (xv_inc _) (Nat.le_of_ble_eq_true rfl) rfl ?_
      refine xv_goto (tgt := 20) dX2_describeBoards_54 rfl ?_
      have h := ih (p + 1) (by omega)
      rw [dl_, if_neg c_34, Nat.add_zero] at h
      exact h
    · refine xv_iload dX2_describeBoards_37 rfl ?_
      refine xv_aload_n dX2_describeBoards_39 rfl rfl ?_
      refine xv_iload dX2_describeBoards_40 rfl ?_
      refine xv_iaload dX2_describeBoards_42 (go_104 hG) (xv_ixn (by omega) (by decide)) ?_
      refine xv_nmI (hsz p (by omega)) ?_
      refine xv_aload_n dX2_describeBoards_43 rfl rfl ?_
      refine xv_geti dX2_describeBoards_44 fl_X2_18 (go_3 hG) rfl ?_
      refine xv_nmI hlo ?_
      refine xv_iadd dX2_describeBoards_47 ?_
      refine xv_nmI (nI_add _ _) ?_
      refine xv_iadd dX2_describeBoards_48 ?_
      refine xv_nmI (dl_ad _ _ _) ?_
      refine xv_istore dX2_describeBoards_49 (Nat.le_of_ble_eq_true rfl) rfl ?_
      refine xv_iinc dX2_describeBoards_51 rfl (xv_inc _) (Nat.le_of_ble_eq_true rfl) rfl ?_
      refine xv_goto (tgt := 20) dX2_describeBoards_54 rfl ?_
      have h := ih (p + 1) (by omega)
      rw [dl_, if_pos c_34] at h
      exact h

theorem s2_db_l {l : Launch} {D : va_G} {d : Nat} {G : xv_Gr} {I : xv_I} {J : xv_J} {Q : xv_Po} (hG : xg_ok G) {np : Nat} (hnp : np ≤ 12) {fr sz : Nat → Nat} (hfr : ∀ p, p < 12 → I 137 p = nI (fr p) ∧ fr p < 12) (hsz : ∀ p, p < np → I 104 p = nI (sz p)) {lo : Nat} (hlo : I 3 2 = nI lo) {us : Nat} (hus : I 3 6 = nI us) (hu2 : us ≤ 12) (hQ : ∀ I2, db_i I I2 fr sz lo np us → Q none G I2 J) : ∀ (n b : Nat) (I2 : xv_I), b + n = us → db_i I I2 fr sz lo np b → xv_Ev l D (d + 1) mX2_describeBoards none 2 [some (.ref 3), some (.int (nI np)), some (.ref 104), some (.int (nI b)), none, none] [] G I2 J 0 0 Q := by
  intro n
  induction n with
  | zero =>
    intro b I2 hb hi
    refine xv_iload_n dX2_describeBoards_2 rfl rfl ?_
    refine xv_aload_n dX2_describeBoards_3 rfl rfl ?_
    refine xv_geti dX2_describeBoards_4 fl_X2_32 (go_3 hG) rfl ?_
    refine xv_nmI ((congrFun (hi.1 3 (by decide) (by decide)) 6).trans hus) ?_
    refine xv_icmp_geN (tgt := 113) dX2_describeBoards_7 rfl (by omega) (by omega) (fun c_7 => ?_) (fun c_7 => absurd c_7 (by omega))
    refine xv_vret dX2_describeBoards_113 rfl (Nat.zero_le _) (Nat.zero_le _) ?_
    have e : b = us := by omega
    subst e
    exact hQ I2 hi
  | succ n ih =>
    intro b I2 hb hi
    have e30 : I2 130 = I 130 := hi.1 130 (by decide) (by decide)
    have e31 : I2 131 = I 131 := hi.1 131 (by decide) (by decide)
    cases e : cs_ I (-(nI lo) + nI (dl_ fr sz lo b np)) with
    | none =>
      refine xv_iload_n dX2_describeBoards_2 rfl rfl ?_
      refine xv_aload_n dX2_describeBoards_3 rfl rfl ?_
      refine xv_geti dX2_describeBoards_4 fl_X2_32 (go_3 hG) rfl ?_
      refine xv_nmI ((congrFun (hi.1 3 (by decide) (by decide)) 6).trans hus) ?_
      refine xv_icmp_geN (tgt := 113) dX2_describeBoards_7 rfl (by omega) (by omega) (fun c_7 => absurd c_7 (by omega)) (fun c_7 => ?_)
      refine xv_aload_n dX2_describeBoards_10 rfl rfl ?_
      refine xv_geti dX2_describeBoards_11 fl_X2_18 (go_3 hG) rfl ?_
      refine xv_nmI ((congrFun (hi.1 3 (by decide) (by decide)) 2).trans hlo) ?_
      refine xv_ineg dX2_describeBoards_14 ?_
      refine xv_nmI (Int32.add_zero _).symm ?_
      refine xv_istore dX2_describeBoards_15 (Nat.le_of_ble_eq_true rfl) rfl ?_
      refine xv_iconst (v := nI 0) dX2_describeBoards_17 rfl ?_
      refine xv_istore dX2_describeBoards_18 (Nat.le_of_ble_eq_true rfl) rfl ?_
      refine s2_db_i hG (d := d + 1) (I := I2) hnp (fr := fr) (sz := sz) (lo := lo) (fun p hp => by rw [hi.1 137 (by decide) (by decide)]; exact hfr p hp) (fun p hp => by rw [hi.1 104 (by decide) (by decide)]; exact hsz p hp) ((congrFun (hi.1 3 (by decide) (by decide)) 2).trans hlo) (b := b) (by omega) ?_ np 0 (by omega)
      refine xv_aload_n dX2_describeBoards_57 rfl rfl ?_
      refine xv_iload dX2_describeBoards_58 rfl ?_
      refine xv_callV0 (As := [_]) dX2_describeBoards_60 cl_X2_51 rfl rfl rfl rfl (go_3 hG) rfl rfl (Nat.le_of_ble_eq_true rfl) (Nat.le_of_ble_eq_true rfl) (Nat.zero_le _) (Nat.zero_le _) ?_
      refine s2_cheapestSort hG ?_
      rw [show fl_ (fun k => (-(nI lo) + nI (dl_ fr sz lo b np)) ≤ I2 130 k) (I2 131) 4 = none from (cs_cg e30 e31 _).trans e]
      show xv_Ev l D (d + 1) mX2_describeBoards none 63 [some (.ref 3), some (.int (nI np)), some (.ref 104), some (.int (nI b)), some (.int (-(nI lo) + nI (dl_ fr sz lo b np))), some (.int (nI np))] [.int (-1)] G I2 J 0 0 Q
      refine xv_istore dX2_describeBoards_63 (Nat.le_of_ble_eq_true rfl) rfl ?_
      refine xv_aload_n dX2_describeBoards_65 rfl rfl ?_
      refine xv_getr dX2_describeBoards_66 fl_X2_38 (go_3 hG) rfl (gr_3_8 hG) ?_
      refine xv_iload_n dX2_describeBoards_69 rfl rfl ?_
      refine xv_iload dX2_describeBoards_70 rfl ?_
      refine xv_iastore dX2_describeBoards_72 (go_138 hG) (xv_ixn (by omega) (by decide)) ?_
      refine xv_aload_n dX2_describeBoards_73 rfl rfl ?_
      refine xv_getr dX2_describeBoards_74 fl_X2_41 (go_3 hG) rfl (gr_3_9 hG) ?_
      refine xv_iload_n dX2_describeBoards_77 rfl rfl ?_
      refine xv_iload dX2_describeBoards_78 rfl ?_
      refine xv_if_ge (tgt := 87) dX2_describeBoards_80 rfl (fun c_80 => absurd c_80 (by decide)) (fun c_80 => ?_)
      refine xv_iconst (v := 0) dX2_describeBoards_83 rfl ?_
      refine xv_goto (tgt := 106) dX2_describeBoards_84 rfl ?_
      refine xv_iastore dX2_describeBoards_106 (go_139 hG) (xv_ixn (by omega) (by decide)) ?_
      refine xv_iinc dX2_describeBoards_107 rfl (xv_inc _) (Nat.le_of_ble_eq_true rfl) rfl ?_
      refine xv_goto (tgt := 2) dX2_describeBoards_110 rfl ?_
      refine xv_fg [true, true, true, true, false, false] (ih (b + 1) _ (by omega) ⟨fun c g1 g2 => ?_, fun c hc => ?_⟩)
      · rw [xv_ui_ne g2, xv_ui_ne g1]; exact hi.1 c g1 g2
      · by_cases ec : c = b
        · subst ec
          rw [xv_ui_ne (by decide), xv_ui_s, xv_ui_s, rv_, e]
          exact ⟨rfl, rfl⟩
        · rw [xv_ui_ne (by decide), xv_ui_o ec, xv_ui_o ec, xv_ui_ne (by decide)]
          exact hi.2 c (by omega)
    | some q =>
      have hq := (fl_lt e).1
      refine xv_iload_n dX2_describeBoards_2 rfl rfl ?_
      refine xv_aload_n dX2_describeBoards_3 rfl rfl ?_
      refine xv_geti dX2_describeBoards_4 fl_X2_32 (go_3 hG) rfl ?_
      refine xv_nmI ((congrFun (hi.1 3 (by decide) (by decide)) 6).trans hus) ?_
      refine xv_icmp_geN (tgt := 113) dX2_describeBoards_7 rfl (by omega) (by omega) (fun c_7 => absurd c_7 (by omega)) (fun c_7 => ?_)
      refine xv_aload_n dX2_describeBoards_10 rfl rfl ?_
      refine xv_geti dX2_describeBoards_11 fl_X2_18 (go_3 hG) rfl ?_
      refine xv_nmI ((congrFun (hi.1 3 (by decide) (by decide)) 2).trans hlo) ?_
      refine xv_ineg dX2_describeBoards_14 ?_
      refine xv_nmI (Int32.add_zero _).symm ?_
      refine xv_istore dX2_describeBoards_15 (Nat.le_of_ble_eq_true rfl) rfl ?_
      refine xv_iconst (v := nI 0) dX2_describeBoards_17 rfl ?_
      refine xv_istore dX2_describeBoards_18 (Nat.le_of_ble_eq_true rfl) rfl ?_
      refine s2_db_i hG (d := d + 1) (I := I2) hnp (fr := fr) (sz := sz) (lo := lo) (fun p hp => by rw [hi.1 137 (by decide) (by decide)]; exact hfr p hp) (fun p hp => by rw [hi.1 104 (by decide) (by decide)]; exact hsz p hp) ((congrFun (hi.1 3 (by decide) (by decide)) 2).trans hlo) (b := b) (by omega) ?_ np 0 (by omega)
      refine xv_aload_n dX2_describeBoards_57 rfl rfl ?_
      refine xv_iload dX2_describeBoards_58 rfl ?_
      refine xv_callV0 (As := [_]) dX2_describeBoards_60 cl_X2_51 rfl rfl rfl rfl (go_3 hG) rfl rfl (Nat.le_of_ble_eq_true rfl) (Nat.le_of_ble_eq_true rfl) (Nat.zero_le _) (Nat.zero_le _) ?_
      refine s2_cheapestSort hG ?_
      rw [show fl_ (fun k => (-(nI lo) + nI (dl_ fr sz lo b np)) ≤ I2 130 k) (I2 131) 4 = some q from (cs_cg e30 e31 _).trans e]
      show xv_Ev l D (d + 1) mX2_describeBoards none 63 [some (.ref 3), some (.int (nI np)), some (.ref 104), some (.int (nI b)), some (.int (-(nI lo) + nI (dl_ fr sz lo b np))), some (.int (nI np))] [.int (nI q)] G I2 J 0 0 Q
      refine xv_istore dX2_describeBoards_63 (Nat.le_of_ble_eq_true rfl) rfl ?_
      refine xv_aload_n dX2_describeBoards_65 rfl rfl ?_
      refine xv_getr dX2_describeBoards_66 fl_X2_38 (go_3 hG) rfl (gr_3_8 hG) ?_
      refine xv_iload_n dX2_describeBoards_69 rfl rfl ?_
      refine xv_iload dX2_describeBoards_70 rfl ?_
      refine xv_iastore dX2_describeBoards_72 (go_138 hG) (xv_ixn (by omega) (by decide)) ?_
      refine xv_aload_n dX2_describeBoards_73 rfl rfl ?_
      refine xv_getr dX2_describeBoards_74 fl_X2_41 (go_3 hG) rfl (gr_3_9 hG) ?_
      refine xv_iload_n dX2_describeBoards_77 rfl rfl ?_
      refine xv_iload dX2_describeBoards_78 rfl ?_
      refine xv_if_ge (tgt := 87) dX2_describeBoards_80 rfl (fun c_80 => ?_) (fun c_80 => absurd (nI_pos' (by omega)) c_80)
      refine xv_iconst (v := 0) dX2_describeBoards_87 rfl ?_
      refine xv_aload_n dX2_describeBoards_88 rfl rfl ?_
      refine xv_getr dX2_describeBoards_89 fl_X2_9 (go_3 hG) rfl (gr_3_0 hG) ?_
      refine xv_iload dX2_describeBoards_92 rfl ?_
      refine xv_iaload dX2_describeBoards_94 (go_130 hG) (xv_ixn (by omega) (by decide)) ?_
      refine xv_nmI (show xv_ui I2 138 b (nI q) 130 q = I 130 q from congrFun ((xv_ui_ne (by decide)).trans e30) q) ?_
      refine xv_iload dX2_describeBoards_95 rfl ?_
      refine xv_isub dX2_describeBoards_97 ?_
      refine xv_aload_n dX2_describeBoards_98 rfl rfl ?_
      refine xv_geti dX2_describeBoards_99 fl_X2_18 (go_3 hG) rfl ?_
      refine xv_nmI (show xv_ui I2 138 b (nI q) 3 2 = nI lo from (congrFun ((xv_ui_ne (by decide)).trans (hi.1 3 (by decide) (by decide))) 2).trans hlo) ?_
      refine xv_isub dX2_describeBoards_102 ?_
      refine xv_maxI dX2_describeBoards_103 ml_X2_81 ms_J9_max_7cf53 my_max mi_J9 (Nat.le_of_ble_eq_true rfl) (Nat.zero_le _) (Nat.zero_le _) ?_
      refine xv_iastore dX2_describeBoards_106 (go_139 hG) (xv_ixn (by omega) (by decide)) ?_
      refine xv_iinc dX2_describeBoards_107 rfl (xv_inc _) (Nat.le_of_ble_eq_true rfl) rfl ?_
      refine xv_goto (tgt := 2) dX2_describeBoards_110 rfl ?_
      refine xv_fg [true, true, true, true, false, false] (ih (b + 1) _ (by omega) ⟨fun c g1 g2 => ?_, fun c hc => ?_⟩)
      · rw [xv_ui_ne g2, xv_ui_ne g1]; exact hi.1 c g1 g2
      · by_cases ec : c = b
        · subst ec
          rw [xv_ui_ne (by decide), xv_ui_s, xv_ui_s, rv_, e]
          exact ⟨rfl, rfl⟩
        · rw [xv_ui_ne (by decide), xv_ui_o ec, xv_ui_o ec, xv_ui_ne (by decide)]
          exact hi.2 c (by omega)

theorem s2_describeBoards {l : Launch} {D : va_G} {d : Nat} {G : xv_Gr} {I : xv_I} {J : xv_J} {Q : xv_Po} (hG : xg_ok G) {np : Nat} (hnp : np ≤ 12) {fr sz : Nat → Nat} (hfr : ∀ p, p < 12 → I 137 p = nI (fr p) ∧ fr p < 12) (hsz : ∀ p, p < np → I 104 p = nI (sz p)) {lo : Nat} (hlo : I 3 2 = nI lo) {us : Nat} (hus : I 3 6 = nI us) (hu2 : us ≤ 12) (hQ : ∀ I2, db_i I I2 fr sz lo np us → Q none G I2 J) : xv_Ev l D (d + 1) mX2_describeBoards none 0 [some (.ref 3), some (.int (nI np)), some (.ref 104), none, none, none] [] G I J 0 0 Q := by
  refine xv_iconst (v := nI 0) dX2_describeBoards_0 rfl ?_
  refine xv_istore_n dX2_describeBoards_1 rfl (Nat.le_of_ble_eq_true rfl) rfl ?_
  exact s2_db_l hG hnp hfr hsz hlo hus hu2 hQ us 0 I (by omega) ⟨fun _ _ _ => rfl, fun c hc => absurd hc (by omega)⟩

def ct_v (pv : Nat → Option Nat) (np v : Nat) : Prop := (np = 0 ∧ v = 0) ∨ (1 ≤ np ∧ ∃ bh, dp_k pv bh (2 ^ np - 1) ∧ Lm pv bh (2 ^ np - 1) v)
noncomputable def pvf (I : xv_I) (sz : Nat → Nat) (lo T : Nat) : Option Nat := (cs_ I (nI (ws_ sz lo T 12) - nI lo)).map (fun j => (I 131 j).toNatClampNeg * 13 + 1)
theorem pvf_cg {I I2 : xv_I} {sz : Nat → Nat} {lo : Nat} (h : I2 130 = I 130) (h2 : I2 131 = I 131) : pvf I2 sz lo = pvf I sz lo := by
  funext T
  rw [pvf, pvf, cs_cg h h2, h2]
def ct_P (I : xv_I) (sz : Nat → Nat) (i : Nat) : Prop := ∀ p, p < i → cs_ I (nI (sz p)) ≠ none
def ct_r (I I2 : xv_I) (np : Nat) (sz : Nat → Nat) (lo v : Nat) : Prop := I2 3 5 = nI (v / 743008370688 / 13) ∧ I2 3 6 = nI (v / 743008370688 % 13) ∧ (∀ p, p < 12 → I2 137 p = nI (dg_ v p)) ∧ ∀ b, b < v / 743008370688 % 13 → I2 138 b = ob_ (-1) (cs_ I (-(nI lo) + nI (dl_ (dg_ v) sz lo b np))) ∧ I2 139 b = rv_ I lo (-(nI lo) + nI (dl_ (dg_ v) sz lo b np))
def ct_ok (I I2 : xv_I) (np : Nat) (sz : Nat → Nat) (lo : Nat) : Prop := I2 3 4 = xbp (ct_P I sz np) ∧ (ct_P I sz np → ∃ v, v ≤ 1600000000000000000 ∧ ct_v (pvf I sz lo) np v ∧ ct_r I I2 np sz lo v)
def ct_f (I I2 : xv_I) (J J2 : xv_J) : Prop := (∀ b, b ≠ 3 → b ≠ 137 → b ≠ 138 → b ≠ 139 → b ≠ 140 → I2 b = I b) ∧ (∀ j, j ≠ 4 → j ≠ 5 → j ≠ 6 → I2 3 j = I 3 j) ∧ I2 140 0 = 0 ∧ (∀ b, b ≠ 141 → J2 b = J b) ∧ J2 141 0 = 0
theorem s2_bestNumber2 {l : Launch} {D : va_G} {d : Nat} {G : xv_Gr} {I : xv_I} {J : xv_J} {Q : xv_Po} (hG : xg_ok G) {np : Nat} (hnp : np ≤ 12) {pv : Nat → Option Nat} (hpv : ∀ T, T ≠ 0 → T < 2 ^ np → I 140 T = ob_ (-1) (pv T) ∧ ∀ p, pv T = some p → p ≤ 129988) (hfs : ∀ S, S ≠ 0 → S < 2 ^ np → ∃ q, pv (lw_ S) = some q) (h0 : J 141 0 = 0) (hQ : ∀ J2 v, (∀ b, b ≠ 141 → J2 b = J b) → J2 141 0 = 0 → ct_v pv np v → v ≤ 1600000000000000000 → Q (some (.long (lN v))) G I J2) : xv_Ev l D (d + 1) mX2_bestNumber none 0 [some (.ref 3), some (.int (nI np)), none, none] [] G I J 0 0 Q := by
  refine s2_bestNumber hG hnp hpv hfs h0 (fun e => hQ J 0 (fun _ _ => rfl) h0 (Or.inl ⟨e, rfl⟩) (Nat.zero_le _)) (fun h1 bh J2 v hj hd hv h6 => hQ J2 v hj.1 ?_ (Or.inr ⟨h1, bh, hd, hv⟩) h6)
  have q := hj.2 0 rfl (by decide)
  rw [hd.1] at q
  exact q

theorem ct_Py {I : xv_I} {sz : Nat → Nat} {i : Nat} (h : cs_ I (nI (sz i)) ≠ none) : ct_P I sz (i + 1) ↔ ct_P I sz i := ⟨fun g p hp => g p (by omega), fun g p hp => by
  by_cases e : p = i
  · subst e; exact h
  · exact g p (by omega)⟩
theorem ct_Pn {I : xv_I} {sz : Nat → Nat} {i : Nat} (h : cs_ I (nI (sz i)) = none) : ¬ ct_P I sz (i + 1) := fun g => g i (by omega) h
theorem s2_sk_l {l : Launch} {D : va_G} {d : Nat} {G : xv_Gr} {I : xv_I} {J : xv_J} {Q : xv_Po} (hG : xg_ok G) {np : Nat} (hnp : np ≤ 12) {sz : Nat → Nat} (hsz : ∀ p, p < np → I 104 p = nI (sz p)) {lo : Nat} (hlo : I 3 2 = nI lo) (kk : xv_Ev l D (d + 1) mX2_seekBest none 33 [some (.ref 3), some (.int (nI np)), some (.ref 104), some (.int (nI np))] [] G (xv_ui I 3 4 (xbp (ct_P I sz np))) J 0 0 Q) : ∀ (n i : Nat), i + n = np → xv_Ev l D (d + 1) mX2_seekBest none 7 [some (.ref 3), some (.int (nI np)), some (.ref 104), some (.int (nI i))] [] G (xv_ui I 3 4 (xbp (ct_P I sz i))) J 0 0 Q := by
  intro n
  induction n with
  | zero =>
    intro i hi
    refine xv_iload_n dX2_seekBest_7 rfl rfl ?_
    refine xv_iload_n dX2_seekBest_8 rfl rfl ?_
    refine xv_icmp_geN (tgt := 33) dX2_seekBest_9 rfl (by omega) (by omega) (fun c_9 => ?_) (fun c_9 => absurd c_9 (by omega))
    have e : i = np := by omega
    subst e
    exact kk
  | succ n ih =>
    intro i hi
    cases e : cs_ I (nI (sz i)) with
    | none =>
      refine xv_iload_n dX2_seekBest_7 rfl rfl ?_
      refine xv_iload_n dX2_seekBest_8 rfl rfl ?_
      refine xv_icmp_geN (tgt := 33) dX2_seekBest_9 rfl (by omega) (by omega) (fun c_9 => absurd c_9 (by omega)) (fun c_9 => ?_)
      refine xv_aload_n dX2_seekBest_12 rfl rfl ?_
      refine xv_aload_n dX2_seekBest_13 rfl rfl ?_
      refine xv_iload_n dX2_seekBest_14 rfl rfl ?_
      refine xv_iaload dX2_seekBest_15 (go_104 hG) (xv_ixn (by omega) (by decide)) ?_
      refine xv_nmI (show (xv_ui I 3 4 (xbp (ct_P I sz i))) 104 i = nI (sz i) from (congrFun (xv_ui_ne (by decide)) i).trans (hsz i (by omega))) ?_
      refine xv_callV0 (As := [_]) dX2_seekBest_16 cl_X2_51 rfl rfl rfl rfl (go_3 hG) rfl rfl (Nat.le_of_ble_eq_true rfl) (Nat.le_of_ble_eq_true rfl) (Nat.zero_le _) (Nat.zero_le _) ?_
      refine s2_cheapestSort hG ?_
      rw [show fl_ (fun k => nI (sz i) ≤ (xv_ui I 3 4 (xbp (ct_P I sz i))) 130 k) ((xv_ui I 3 4 (xbp (ct_P I sz i))) 131) 4 = none from (cs_cg (I := I) (xv_ui_ne (by decide)) (xv_ui_ne (by decide)) _).trans e]
      show xv_Ev l D (d + 1) mX2_seekBest none 19 [some (.ref 3), some (.int (nI np)), some (.ref 104), some (.int (nI i))] [.int (-1)] G (xv_ui I 3 4 (xbp (ct_P I sz i))) J 0 0 Q
      refine xv_if_ge (tgt := 27) dX2_seekBest_19 rfl (fun c_19 => absurd c_19 (by decide)) (fun c_19 => ?_)
      refine xv_aload_n dX2_seekBest_22 rfl rfl ?_
      refine xv_iconst (v := 0) dX2_seekBest_23 rfl ?_
      refine xv_puti dX2_seekBest_24 fl_X2_26 (go_3 hG) rfl rfl rfl ?_
      refine xv_iinc dX2_seekBest_27 rfl (xv_inc _) (Nat.le_of_ble_eq_true rfl) rfl ?_
      refine xv_goto (tgt := 7) dX2_seekBest_30 rfl ?_
      have h := ih (i + 1) (by omega)
      rw [xbp_F (ct_Pn e)] at h
      rw [xv_ui_u]
      exact h
    | some q =>
      have hq := (fl_lt e).1
      refine xv_iload_n dX2_seekBest_7 rfl rfl ?_
      refine xv_iload_n dX2_seekBest_8 rfl rfl ?_
      refine xv_icmp_geN (tgt := 33) dX2_seekBest_9 rfl (by omega) (by omega) (fun c_9 => absurd c_9 (by omega)) (fun c_9 => ?_)
      refine xv_aload_n dX2_seekBest_12 rfl rfl ?_
      refine xv_aload_n dX2_seekBest_13 rfl rfl ?_
      refine xv_iload_n dX2_seekBest_14 rfl rfl ?_
      refine xv_iaload dX2_seekBest_15 (go_104 hG) (xv_ixn (by omega) (by decide)) ?_
      refine xv_nmI (show (xv_ui I 3 4 (xbp (ct_P I sz i))) 104 i = nI (sz i) from (congrFun (xv_ui_ne (by decide)) i).trans (hsz i (by omega))) ?_
      refine xv_callV0 (As := [_]) dX2_seekBest_16 cl_X2_51 rfl rfl rfl rfl (go_3 hG) rfl rfl (Nat.le_of_ble_eq_true rfl) (Nat.le_of_ble_eq_true rfl) (Nat.zero_le _) (Nat.zero_le _) ?_
      refine s2_cheapestSort hG ?_
      rw [show fl_ (fun k => nI (sz i) ≤ (xv_ui I 3 4 (xbp (ct_P I sz i))) 130 k) ((xv_ui I 3 4 (xbp (ct_P I sz i))) 131) 4 = some q from (cs_cg (I := I) (xv_ui_ne (by decide)) (xv_ui_ne (by decide)) _).trans e]
      show xv_Ev l D (d + 1) mX2_seekBest none 19 [some (.ref 3), some (.int (nI np)), some (.ref 104), some (.int (nI i))] [.int (nI q)] G (xv_ui I 3 4 (xbp (ct_P I sz i))) J 0 0 Q
      refine xv_if_ge (tgt := 27) dX2_seekBest_19 rfl (fun c_19 => ?_) (fun c_19 => absurd (nI_pos' (by omega)) c_19)
      refine xv_iinc dX2_seekBest_27 rfl (xv_inc _) (Nat.le_of_ble_eq_true rfl) rfl ?_
      refine xv_goto (tgt := 7) dX2_seekBest_30 rfl ?_
      have h := ih (i + 1) (by omega)
      rw [xbp_iff (ct_Py (by rw [e]; exact fun z => by cases z))] at h
      exact h

theorem pvf_bv {I : xv_I} {sz : Nat → Nat} {lo T : Nat} (hpr : ∀ j, j < 4 → ∃ p, p ≤ 9999 ∧ I 131 j = nI p) : bv_ I (nI (ws_ sz lo T 12) - nI lo) = ob_ (-1) (pvf I sz lo T) ∧ ∀ p, pvf I sz lo T = some p → p ≤ 129988 := by
  rw [pvf, bv_, show fl_ (fun k => nI (ws_ sz lo T 12) - nI lo ≤ I 130 k) (I 131) 4 = cs_ I (nI (ws_ sz lo T 12) - nI lo) from rfl]
  cases e : cs_ I (nI (ws_ sz lo T 12) - nI lo) with
  | none => exact ⟨rfl, fun p hp => by cases hp⟩
  | some j =>
    obtain ⟨p, h1, h2⟩ := hpr j (fl_lt e).1
    refine ⟨?_, fun r hr => ?_⟩
    · show I 131 j * 13 + 1 = nI ((I 131 j).toNatClampNeg * 13 + 1)
      rw [h2, nI_clamp (by omega), show (13 : Int32) = nI 13 from rfl, pk_mul, nI_1]
    · rw [Option.map_some] at hr
      cases hr
      rw [h2, nI_clamp (by omega)]
      omega
theorem ws_1 {sz : Nat → Nat} {lo i : Nat} (hi : i < 12) : ws_ sz lo (2 ^ i) 12 = sz i + lo := by
  have h := ws_add (sz := sz) (lo := lo) (i := i) (s := 0) (Nat.two_pow_pos i) 12
  rw [Nat.or_zero, ws_0, if_pos hi, Nat.zero_add] at h
  exact h
theorem lw_pw {S : Nat} (h : S ≠ 0) (h4 : S < 4096) : ∃ i, i < 12 ∧ lw_ S = 2 ^ i := by
  have h2 : ∀ a, a < 64 → ∀ b, b < 64 → 64 * a + b ≠ 0 → ∃ i, i < 12 ∧ lw_ (64 * a + b) = 2 ^ i := by decide +kernel
  have h1 := h2 (S / 64) (by omega) (S % 64) (by omega)
  rw [Nat.div_add_mod] at h1
  exact h1 h
theorem s2_seekBest {l : Launch} {D : va_G} {d : Nat} {G : xv_Gr} {I : xv_I} {J : xv_J} {Q : xv_Po} (hG : xg_ok G) {np : Nat} (hnp : np ≤ 12) {sz : Nat → Nat} (hsz : ∀ p, p < np → I 104 p = nI (sz p)) {lo : Nat} (hlo : I 3 2 = nI lo) (hpr : ∀ j, j < 4 → ∃ p, p ≤ 9999 ∧ I 131 j = nI p) (h40 : I 140 0 = 0) (h41 : J 141 0 = 0) (hQ : ∀ I2 J2, ct_f I I2 J J2 → ct_ok I I2 np sz lo → Q none G I2 J2) : xv_Ev l D (d + 3) mX2_seekBest none 0 [some (.ref 3), some (.int (nI np)), some (.ref 104), none] [] G I J 0 0 Q := by
  refine xv_aload_n dX2_seekBest_0 rfl rfl ?_
  refine xv_iconst (v := 1) dX2_seekBest_1 rfl ?_
  refine xv_puti dX2_seekBest_2 fl_X2_26 (go_3 hG) rfl rfl rfl ?_
  refine xv_iconst (v := nI 0) dX2_seekBest_5 rfl ?_
  refine xv_istore_n dX2_seekBest_6 rfl (Nat.le_of_ble_eq_true rfl) rfl ?_
  refine xv_nmM (show xv_ui I 3 4 1 = xv_ui I 3 4 (xbp (ct_P I sz 0)) from by rw [xbp_T (show ct_P I sz 0 from fun p hp => absurd hp (by omega))]) ?_
  refine s2_sk_l (d := d + 2) hG hnp hsz hlo ?_ np 0 (by omega)
  refine xv_aload_n dX2_seekBest_33 rfl rfl ?_
  refine xv_geti dX2_seekBest_34 fl_X2_26 (go_3 hG) rfl ?_
  refine xv_nmI xv_ui_s ?_
  refine xv_if_eqP (tgt := 61) dX2_seekBest_37 rfl (fun c_37 => ?_) (fun c_37 => ?_)
  · refine xv_vret dX2_seekBest_61 rfl (Nat.zero_le _) (Nat.zero_le _) ?_
    refine hQ _ J ⟨fun b g1 _ _ _ _ => xv_ui_ne g1, fun j g1 _ _ => xv_ui_o g1, (congrFun (xv_ui_ne (by decide)) 0).trans h40, fun _ _ => rfl, h41⟩ ⟨xv_ui_s, fun z => absurd z c_37⟩
  · refine xv_aload_n dX2_seekBest_40 rfl rfl ?_
    refine xv_iload_n dX2_seekBest_41 rfl rfl ?_
    refine xv_aload_n dX2_seekBest_42 rfl rfl ?_
    refine xv_callV0 (As := [_, _]) dX2_seekBest_43 cl_X2_55 rfl rfl rfl rfl (go_3 hG) rfl rfl (Nat.le_of_ble_eq_true rfl) (Nat.le_of_ble_eq_true rfl) (Nat.zero_le _) (Nat.zero_le _) ?_
    refine s2_weighBoards hG (I := (xv_ui I 3 4 (xbp (ct_P I sz np)))) hnp (sz := sz) (lo := lo) (fun p hp => (congrFun (xv_ui_ne (by decide)) p).trans (hsz p hp)) ((xv_ui_o (by decide)).trans hlo) ((congrFun (xv_ui_ne (by decide)) 0).trans h40) (fun I2 hw => ?_)
    · have e30 : I2 130 = I 130 := (hw.1 130 (by decide)).trans (xv_ui_ne (by decide))
      have e31 : I2 131 = I 131 := (hw.1 131 (by decide)).trans (xv_ui_ne (by decide))
      have hpv : ∀ T, T ≠ 0 → T < 2 ^ np → I2 140 T = ob_ (-1) (pvf I sz lo T) ∧ ∀ p, pvf I sz lo T = some p → p ≤ 129988 := fun T k1 k2 => by
        have q := pvf_bv (sz := sz) (lo := lo) (T := T) hpr
        refine ⟨?_, q.2⟩
        rw [hw.2.2.1 T (by omega) k2, ← q.1]
        rfl
      have hfs : ∀ S, S ≠ 0 → S < 2 ^ np → ∃ q, pvf I sz lo (lw_ S) = some q := fun S k1 k2 => by
        have h2 : 2 ^ np ≤ 2 ^ 12 := Nat.pow_le_pow_right (by decide) hnp
        obtain ⟨i, hi, e⟩ := lw_pw k1 (show S < 4096 by omega)
        have hi2 : i < np := by
          have q := sb_le (lw_sb S)
          rw [e] at q
          exact (Nat.pow_lt_pow_iff_right (by decide)).mp (Nat.lt_of_le_of_lt q k2)
        have hc := c_37 i hi2
        rw [e, pvf, ws_1 hi, pk_sub (by omega), Nat.add_sub_cancel]
        cases e2 : cs_ I (nI (sz i)) with
        | none => exact absurd e2 hc
        | some j => exact ⟨_, rfl⟩
      refine xv_aload_n dX2_seekBest_46 rfl rfl ?_
      refine xv_aload_n dX2_seekBest_47 rfl rfl ?_
      refine xv_iload_n dX2_seekBest_48 rfl rfl ?_
      refine xv_callV0 (As := [_]) dX2_seekBest_49 cl_X2_59 rfl rfl rfl rfl (go_3 hG) rfl rfl (Nat.le_of_ble_eq_true rfl) (Nat.le_of_ble_eq_true rfl) (Nat.zero_le _) (Nat.zero_le _) ?_
      refine s2_bestNumber2 (d := d + 1) hG hnp hpv hfs h41 (fun J2 v hj1 hj2 hv hv6 => ?_)
      · refine xv_callV0 (As := [_]) dX2_seekBest_52 cl_X2_63 rfl rfl rfl rfl (go_3 hG) rfl rfl (Nat.le_of_ble_eq_true rfl) (Nat.le_of_ble_eq_true rfl) (Nat.zero_le _) (Nat.zero_le _) ?_
        refine s2_readDigits (d := d + 2) hG (v := v) hv6 (fun I3 hr => ?_)
        · refine xv_aload_n dX2_seekBest_55 rfl rfl ?_
          refine xv_iload_n dX2_seekBest_56 rfl rfl ?_
          refine xv_aload_n dX2_seekBest_57 rfl rfl ?_
          refine xv_callV0 (As := [_, _]) dX2_seekBest_58 cl_X2_67 rfl rfl rfl rfl (go_3 hG) rfl rfl (Nat.le_of_ble_eq_true rfl) (Nat.le_of_ble_eq_true rfl) (Nat.zero_le _) (Nat.zero_le _) ?_
          refine s2_describeBoards (d := d + 1) hG (I := I3) hnp (fr := dg_ v) (sz := sz) (lo := lo) (fun p hp => ⟨hr.2.2.2.2 p hp, Nat.mod_lt _ (by decide)⟩) (fun p hp => by rw [hr.1 104 (by decide) (by decide), hw.1 104 (by decide), xv_ui_ne (by decide)]; exact hsz p hp) (by rw [hr.2.1 2 (by decide) (by decide), hw.1 3 (by decide), xv_ui_o (by decide)]; exact hlo) hr.2.2.2.1 (by have : v / 743008370688 % 13 < 13 := Nat.mod_lt _ (by decide); omega) (fun I4 hd => ?_)
          · refine xv_vret dX2_seekBest_61 rfl (Nat.zero_le _) (Nat.zero_le _) ?_
            refine hQ I4 J2 ⟨fun b g1 g2 g3 g4 g5 => ?_, fun j g1 g2 g3 => ?_, ?_, hj1, hj2⟩ ⟨?_, fun _ => ⟨v, hv6, hv, ?_, ?_, fun p hp => ?_, fun b hb => ?_⟩⟩
            · rw [hd.1 b g3 g4, hr.1 b g1 g2, hw.1 b g5, xv_ui_ne g1]
            · rw [hd.1 3 (by decide) (by decide), hr.2.1 j g2 g3, hw.1 3 (by decide), xv_ui_o g1]
            · rw [hd.1 140 (by decide) (by decide), hr.1 140 (by decide) (by decide), hw.2.1]; rfl
            · rw [hd.1 3 (by decide) (by decide), hr.2.1 4 (by decide) (by decide), hw.1 3 (by decide), xv_ui_s]
            · rw [hd.1 3 (by decide) (by decide)]; exact hr.2.2.1
            · rw [hd.1 3 (by decide) (by decide)]; exact hr.2.2.2.1
            · rw [hd.1 137 (by decide) (by decide)]; exact hr.2.2.2.2 p hp
            · have k := hd.2 b hb
              have f30 : I3 130 = I 130 := (hr.1 130 (by decide) (by decide)).trans e30
              have f31 : I3 131 = I 131 := (hr.1 131 (by decide) (by decide)).trans e31
              rw [cs_cg f30 f31, rv_cg f30 f31] at k
              exact k
