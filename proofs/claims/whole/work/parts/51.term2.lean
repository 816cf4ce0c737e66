/-! terms of the class: the text s fault, bytes that come behind it -/
noncomputable def tm_st (t : Nat → Int32) (dg : Nat) : Nat → Nat × Nat × Nat
  | 0 => (0, 0, dg)
  | i + 1 => tm_nx (t i) (tm_st t dg i)
theorem tm_nx_b {c : Int32} {s : Nat × Nat × Nat} (hw : s.1 ≤ 5) : (tm_nx c s).1 ≤ 5 ∧ (tm_nx c s).2.1 ≤ s.2.1 + 1 ∧ (tm_nx c s).2.2 ≤ s.2.2 + 1 := by
  obtain ⟨w, op, dg⟩ := s
  simp only at hw
  unfold tm_nx
  simp only
  by_cases h : c = 32
  · rw [if_pos h]
    refine ⟨?_, by simp only; omega, by simp only; omega⟩
    simp only
    split <;> omega
  · rw [if_neg h]
    rcases (show w = 0 ∨ w = 1 ∨ w = 2 ∨ w = 3 ∨ w = 4 ∨ w = 5 by omega) with rfl | rfl | rfl | rfl | rfl | rfl <;> simp only <;> (repeat' split) <;> simp only <;> (try split) <;> omega
theorem tm_st_b {t : Nat → Int32} {dg : Nat} : ∀ i, (tm_st t dg i).1 ≤ 5 ∧ (tm_st t dg i).2.1 ≤ i ∧ (tm_st t dg i).2.2 ≤ dg + i
  | 0 => ⟨by simp only [tm_st]; omega, by simp only [tm_st]; omega, by simp only [tm_st]; omega⟩
  | i + 1 => by
    have ih := tm_st_b (t := t) (dg := dg) i
    have h := tm_nx_b (c := t i) ih.1
    simp only [tm_st]
    omega
/-- where the text t of n bytes goes wrong, from place i on -/
noncomputable def tm_wr (t : Nat → Int32) (dg n : Nat) : Nat → Nat → Int32 × Nat
  | 0, _ => (@ite _ ((tm_st t dg n).2.1 = 0 ∧ ((tm_st t dg n).1 = 3 ∨ (tm_st t dg n).1 = 4)) (Classical.propDecidable _) (-900009) (nI n), n)
  | k + 1, i => @ite _ ((tm_st t dg (i + 1)).1 = 5) (Classical.propDecidable _) (nI i, i + 1) (tm_wr t dg n k (i + 1))
theorem s8_fw_l {l : Launch} {D : va_G} {d : Nat} {G : xv_Gr} {I : xv_I} {J : xv_J} {Q : xv_Po} {a : Nat} (hT : xg_tm G a) {sz dg : Nat} (hsz : I a 1 = nI sz) (h60 : sz ≤ 60) (hdg : dg ≤ 6) : ∀ (n i : Nat), i + n = sz → (tm_st (I (a + 1)) dg i).1 < 5 → Q (some (.int (tm_wr (I (a + 1)) dg sz n i).1)) G (tm_M I a (tm_st (I (a + 1)) dg (tm_wr (I (a + 1)) dg sz n i).2).2.1 (tm_st (I (a + 1)) dg (tm_wr (I (a + 1)) dg sz n i).2).2.2) J → xv_Ev l D (d + 3) mX8_findWrong none 9 [some (.ref a), some (.int (nI (tm_st (I (a + 1)) dg i).1)), some (.int (nI i))] [] G (tm_M I a (tm_st (I (a + 1)) dg i).2.1 (tm_st (I (a + 1)) dg i).2.2) J 0 0 Q := by
  intro n
  induction n with
  | zero =>
    intro i hi hw5 hQ
    refine xv_iload_n dX8_findWrong_9 rfl rfl ?_
    refine xv_aload_n dX8_findWrong_10 rfl rfl ?_
    refine xv_geti dX8_findWrong_11 fl_X8_9 hT.1 rfl ?_
    refine xv_nmI (tm_M1.trans hsz) ?_
    refine xv_icmp_geN (tgt := 42) dX8_findWrong_14 rfl (by omega) (by omega) (fun c_14 => ?_) (fun c_14 => absurd c_14 (by omega))
    have e : sz = i := by omega
    subst e
    have hbb := tm_st_b (t := I (a + 1)) (dg := dg) sz
    refine xv_aload_n dX8_findWrong_42 rfl rfl ?_
    refine xv_geti dX8_findWrong_43 fl_X8_22 hT.1 rfl ?_
    refine xv_nmI tm_M4 ?_
    refine xv_if_ne (tgt := 63) dX8_findWrong_46 rfl (fun c_46 => ?_) (fun c_46 => ?_)
    · refine xv_iconst (v := 0) dX8_findWrong_63 rfl ?_
      refine xv_istore_n dX8_findWrong_64 rfl (Nat.le_of_ble_eq_true rfl) rfl ?_
      refine xv_iload_n dX8_findWrong_65 rfl rfl ?_
      refine xv_if_eq (tgt := 74) dX8_findWrong_66 rfl (fun c_66 => ?_) (fun c_66 => absurd (by decide) c_66)
      refine xv_aload_n dX8_findWrong_74 rfl rfl ?_
      refine xv_geti dX8_findWrong_75 fl_X8_9 hT.1 rfl ?_
      refine xv_nmI (tm_M1.trans hsz) ?_
      refine xv_iret dX8_findWrong_78 rfl (Nat.zero_le _) (Nat.zero_le _) ?_
      have hg : ¬ ((tm_st (I (a + 1)) dg sz).2.1 = 0 ∧ ((tm_st (I (a + 1)) dg sz).1 = 3 ∨ (tm_st (I (a + 1)) dg sz).1 = 4)) := fun h => c_46 (by rw [h.1]; rfl)
      simp only [tm_wr, if_neg hg] at hQ
      exact hQ
    · refine xv_iload_n dX8_findWrong_49 rfl rfl ?_
      refine xv_iconst (v := nI 3) dX8_findWrong_50 rfl ?_
      refine xv_icmp_eqN (tgt := 59) dX8_findWrong_51 rfl (by omega) (by omega) (fun c_51 => ?_) (fun c_51 => ?_)
      · refine xv_iconst (v := 1) dX8_findWrong_59 rfl ?_
        refine xv_goto (tgt := 64) dX8_findWrong_60 rfl ?_
        refine xv_istore_n dX8_findWrong_64 rfl (Nat.le_of_ble_eq_true rfl) rfl ?_
        refine xv_iload_n dX8_findWrong_65 rfl rfl ?_
        refine xv_if_eq (tgt := 74) dX8_findWrong_66 rfl (fun c_66 => absurd c_66 (by decide)) (fun c_66 => ?_)
        refine xv_ldc dX8_findWrong_69 ld_X8_74 ?_
        refine xv_goto (tgt := 78) dX8_findWrong_71 rfl ?_
        refine xv_iret dX8_findWrong_78 rfl (Nat.zero_le _) (Nat.zero_le _) ?_
        have hg : ((tm_st (I (a + 1)) dg sz).2.1 = 0 ∧ ((tm_st (I (a + 1)) dg sz).1 = 3 ∨ (tm_st (I (a + 1)) dg sz).1 = 4)) := ⟨(xi_0 (by omega)).mp c_46, Or.inl c_51⟩
        simp only [tm_wr, if_pos hg] at hQ
        exact hQ
      · refine xv_iload_n dX8_findWrong_54 rfl rfl ?_
        refine xv_iconst (v := nI 4) dX8_findWrong_55 rfl ?_
        refine xv_icmp_neN (tgt := 63) dX8_findWrong_56 rfl (by omega) (by omega) (fun c_56 => ?_) (fun c_56 => ?_)
        · refine xv_iconst (v := 0) dX8_findWrong_63 rfl ?_
          refine xv_istore_n dX8_findWrong_64 rfl (Nat.le_of_ble_eq_true rfl) rfl ?_
          refine xv_iload_n dX8_findWrong_65 rfl rfl ?_
          refine xv_if_eq (tgt := 74) dX8_findWrong_66 rfl (fun c_66 => ?_) (fun c_66 => absurd (by decide) c_66)
          refine xv_aload_n dX8_findWrong_74 rfl rfl ?_
          refine xv_geti dX8_findWrong_75 fl_X8_9 hT.1 rfl ?_
          refine xv_nmI (tm_M1.trans hsz) ?_
          refine xv_iret dX8_findWrong_78 rfl (Nat.zero_le _) (Nat.zero_le _) ?_
          have hg : ¬ ((tm_st (I (a + 1)) dg sz).2.1 = 0 ∧ ((tm_st (I (a + 1)) dg sz).1 = 3 ∨ (tm_st (I (a + 1)) dg sz).1 = 4)) := fun h => h.2.elim c_51 c_56
          simp only [tm_wr, if_neg hg] at hQ
          exact hQ
        · refine xv_iconst (v := 1) dX8_findWrong_59 rfl ?_
          refine xv_goto (tgt := 64) dX8_findWrong_60 rfl ?_
          refine xv_istore_n dX8_findWrong_64 rfl (Nat.le_of_ble_eq_true rfl) rfl ?_
          refine xv_iload_n dX8_findWrong_65 rfl rfl ?_
          refine xv_if_eq (tgt := 74) dX8_findWrong_66 rfl (fun c_66 => absurd c_66 (by decide)) (fun c_66 => ?_)
          refine xv_ldc dX8_findWrong_69 ld_X8_74 ?_
          refine xv_goto (tgt := 78) dX8_findWrong_71 rfl ?_
          refine xv_iret dX8_findWrong_78 rfl (Nat.zero_le _) (Nat.zero_le _) ?_
          have hg : ((tm_st (I (a + 1)) dg sz).2.1 = 0 ∧ ((tm_st (I (a + 1)) dg sz).1 = 3 ∨ (tm_st (I (a + 1)) dg sz).1 = 4)) := ⟨(xi_0 (by omega)).mp c_46, Or.inr c_56⟩
          simp only [tm_wr, if_pos hg] at hQ
          exact hQ
  | succ n ih =>
    intro i hi hw5 hQ
    have hbb := tm_st_b (t := I (a + 1)) (dg := dg) i
    have hbc := tm_st_b (t := I (a + 1)) (dg := dg) (i + 1)
    refine xv_iload_n dX8_findWrong_9 rfl rfl ?_
    refine xv_aload_n dX8_findWrong_10 rfl rfl ?_
    refine xv_geti dX8_findWrong_11 fl_X8_9 hT.1 rfl ?_
    refine xv_nmI (tm_M1.trans hsz) ?_
    refine xv_icmp_geN (tgt := 42) dX8_findWrong_14 rfl (by omega) (by omega) (fun c_14 => absurd c_14 (by omega)) (fun c_14 => ?_)
    refine xv_aload_n dX8_findWrong_17 rfl rfl ?_
    refine xv_iload_n dX8_findWrong_18 rfl rfl ?_
    refine xv_aload_n dX8_findWrong_19 rfl rfl ?_
    refine xv_getr dX8_findWrong_20 fl_X8_18 hT.1 rfl hT.2.1 ?_
    refine xv_iload_n dX8_findWrong_23 rfl rfl ?_
    refine xv_baload dX8_findWrong_24 hT.2.2 (xv_ixn (by omega) (by decide)) ?_
    refine xv_nmI (tm_Mt i) ?_
    refine xv_callV0 (As := [_, _]) dX8_findWrong_25 cl_X8_70 rfl rfl rfl rfl hT.1 rfl rfl (Nat.le_of_ble_eq_true rfl) (Nat.le_of_ble_eq_true rfl) (Nat.zero_le _) (Nat.zero_le _) ?_
    refine s8_wantsAfter hT (by omega) (by omega) (by omega) ?_
    refine xv_nmI (y := nI (tm_st (I (a + 1)) dg (i + 1)).1) rfl ?_
    refine xv_nmM (I2 := (tm_M I a (tm_st (I (a + 1)) dg (i + 1)).2.1 (tm_st (I (a + 1)) dg (i + 1)).2.2)) rfl ?_
    refine xv_istore_n dX8_findWrong_28 rfl (Nat.le_of_ble_eq_true rfl) rfl ?_
    refine xv_iload_n dX8_findWrong_29 rfl rfl ?_
    refine xv_iconst (v := nI 5) dX8_findWrong_30 rfl ?_
    refine xv_icmp_neN (tgt := 36) dX8_findWrong_31 rfl (by omega) (by omega) (fun c_31 => ?_) (fun c_31 => ?_)
    · refine xv_iinc dX8_findWrong_36 rfl (xv_inc _) (Nat.le_of_ble_eq_true rfl) rfl ?_
      refine xv_goto (tgt := 9) dX8_findWrong_39 rfl ?_
      have hn : ¬ (tm_st (I (a + 1)) dg (i + 1)).1 = 5 := c_31
      simp only [tm_wr, if_neg hn] at hQ
      exact ih (i + 1) (by omega) (by have := tm_nx_b (c := I (a + 1) i) hbb.1; simp only [tm_st] at hn ⊢; omega) hQ
    · refine xv_iload_n dX8_findWrong_34 rfl rfl ?_
      refine xv_iret dX8_findWrong_35 rfl (Nat.zero_le _) (Nat.zero_le _) ?_
      simp only [tm_wr, if_pos (show (tm_st (I (a + 1)) dg (i + 1)).1 = 5 from c_31)] at hQ
      exact hQ

theorem s8_findWrong {l : Launch} {D : va_G} {d : Nat} {G : xv_Gr} {I : xv_I} {J : xv_J} {Q : xv_Po} {a : Nat} (hT : xg_tm G a) {sz dg : Nat} (hsz : I a 1 = nI sz) (h60 : sz ≤ 60) (hdg : dg ≤ 6) (hd5 : I a 5 = nI dg) (hQ : Q (some (.int (tm_wr (I (a + 1)) dg sz sz 0).1)) G (tm_M I a (tm_st (I (a + 1)) dg (tm_wr (I (a + 1)) dg sz sz 0).2).2.1 (tm_st (I (a + 1)) dg (tm_wr (I (a + 1)) dg sz sz 0).2).2.2) J) : xv_Ev l D (d + 3) mX8_findWrong none 0 [some (.ref a), none, none] [] G I J 0 0 Q := by
  refine xv_iconst (v := 0) dX8_findWrong_0 rfl ?_
  refine xv_istore_n dX8_findWrong_1 rfl (Nat.le_of_ble_eq_true rfl) rfl ?_
  refine xv_aload_n dX8_findWrong_2 rfl rfl ?_
  refine xv_iconst (v := 0) dX8_findWrong_3 rfl ?_
  refine xv_puti dX8_findWrong_4 fl_X8_22 hT.1 rfl rfl rfl ?_
  refine xv_iconst (v := 0) dX8_findWrong_7 rfl ?_
  refine xv_istore_n dX8_findWrong_8 rfl (Nat.le_of_ble_eq_true rfl) rfl ?_
  refine xv_nmM (I2 := (tm_M I a (tm_st (I (a + 1)) dg 0).2.1 (tm_st (I (a + 1)) dg 0).2.2)) ?_ (s8_fw_l hT hsz h60 hdg sz 0 (by omega) (by show 0 < 5; decide) hQ)
  show xv_ui I a 4 0 = xv_ui (xv_ui I a 4 (nI 0)) a 5 (nI dg)
  rw [nI_0]
  exact (xv_ui_id (by rw [xv_ui_o (by decide)]; exact hd5)).symm

def tm_by (x : Int64) (k : Nat) : Int64 := (x.toUInt64 >>> ((nI (8 * k)).toInt64.toUInt64 &&& Int64.toUInt64 63)).toInt64
def tm_bt (x : Int64) (k : Nat) : Int32 := (tm_by x k).toInt32.toInt8.toInt32
/-- how many bytes come: up to a byte 0 -/
noncomputable def tm_mn (x : Int64) : Nat := xfst (fun k => tm_by x k &&& 255 = 0) (fun k => k) 8 8 0
def tm_cp (I : xv_I) (b sz : Nat) (x : Int64) (i : Nat) : xv_I := fun c k => if c = b ∧ sz ≤ k ∧ k < sz + i then tm_bt x (k - sz) else I c k
theorem tm_cp_put {I : xv_I} {b sz i : Nat} {x : Int64} : xv_ui (tm_cp I b sz x i) b (sz + i) (tm_bt x i) = tm_cp I b sz x (i + 1) := by
  funext c k
  simp only [xv_ui_ap, tm_cp]
  by_cases h : c = b
  · by_cases h2 : k = sz + i
    · subst h2
      have e : sz + i - sz = i := by omega
      simp only [h, if_true, true_and, e]
      rw [if_pos (by omega)]
    · simp only [h, if_true, h2, if_false, true_and]
      by_cases h3 : sz ≤ k ∧ k < sz + i
      · rw [if_pos h3, if_pos (by omega)]
      · rw [if_neg h3, if_neg (by omega)]
  · simp [h]
theorem tm_cp_0 {I : xv_I} {b sz : Nat} {x : Int64} : tm_cp I b sz x 0 = I := by
  funext c k
  simp only [tm_cp]
  rw [if_neg (by omega)]
theorem tm_cp_a {I : xv_I} {b sz c : Nat} {x : Int64} (h : c ≠ b) (i : Nat) : tm_cp I b sz x i c = I c := by
  funext k
  simp [tm_cp, h]
theorem xfst_8 {P : Nat → Prop} : ∀ n i, i + n = 8 → xfst P (fun k => k) 8 n i ≤ 8
  | 0, i, h => by rw [xfst_0]; omega
  | n + 1, i, h => by
    by_cases hp : P i
    · rw [xfst_y hp]; omega
    · rw [xfst_n hp]; exact xfst_8 n (i + 1) (by omega)
theorem tm_bt_b (x : Int64) (k : Nat) : vp_nar .byte (tm_bt x k) = tm_bt x k := pk_vb _
theorem s8_tb_c {l : Launch} {D : va_G} {d : Nat} {G : xv_Gr} {I : xv_I} {J : xv_J} {Q : xv_Po} {a : Nat} {x : Int64} (kk : xv_Ev l D d mX8_takeBytes none 29 [some (.ref a), some (.long x), none, some (.int (nI (tm_mn x))), none] [] G I J 0 0 Q) : ∀ (n i : Nat), i + n = 8 → xfst (fun k => tm_by x k &&& 255 = 0) (fun k => k) 8 n i = tm_mn x → xv_Ev l D d mX8_takeBytes none 2 [some (.ref a), some (.long x), none, some (.int (nI i)), none] [] G I J 0 0 Q := by
  intro n
  induction n with
  | zero =>
    intro i hi hx
    refine xv_iload_n dX8_takeBytes_2 rfl rfl ?_
    refine xv_bipush (v := nI 8) dX8_takeBytes_3 rfl ?_
    refine xv_icmp_geN (tgt := 29) dX8_takeBytes_5 rfl (by omega) (by omega) (fun c_5 => ?_) (fun c_5 => absurd c_5 (by omega))
    have e : i = 8 := by omega
    subst e
    rw [xfst_0] at hx
    rw [← hx] at kk
    exact kk
  | succ n ih =>
    intro i hi hx
    refine xv_iload_n dX8_takeBytes_2 rfl rfl ?_
    refine xv_bipush (v := nI 8) dX8_takeBytes_3 rfl ?_
    refine xv_icmp_geN (tgt := 29) dX8_takeBytes_5 rfl (by omega) (by omega) (fun c_5 => absurd c_5 (by omega)) (fun c_5 => ?_)
    refine xv_lload_n dX8_takeBytes_8 rfl rfl ?_
    refine xv_bipush (v := nI 8) dX8_takeBytes_9 rfl ?_
    refine xv_iload_n dX8_takeBytes_11 rfl rfl ?_
    refine xv_imul dX8_takeBytes_12 ?_
    refine xv_nmI (pk_mul _ _) ?_
    refine xv_lushr dX8_takeBytes_13 ?_
    refine xv_ldc2 dX8_takeBytes_14 ld_X8_31 ?_
    refine xv_land dX8_takeBytes_17 ?_
    refine xv_lconst (v := 0) dX8_takeBytes_18 rfl ?_
    refine xv_lcmp dX8_takeBytes_19 ?_
    refine xv_if_eq (tgt := 29) dX8_takeBytes_20 rfl (fun c_20 => ?_) (fun c_20 => ?_)
    · have hz : tm_by x i &&& 255 = 0 := (xn_cmp_eq _ _).mp c_20
      rw [xfst_y (P := fun k => tm_by x k &&& 255 = 0) hz] at hx
      rw [← hx] at kk
      exact kk
    · refine xv_iinc dX8_takeBytes_23 rfl (xv_inc _) (Nat.le_of_ble_eq_true rfl) rfl ?_
      refine xv_goto (tgt := 2) dX8_takeBytes_26 rfl ?_
      have hz : ¬ tm_by x i &&& 255 = 0 := fun h => c_20 ((xn_cmp_eq _ _).mpr h)
      rw [xfst_n (P := fun k => tm_by x k &&& 255 = 0) hz] at hx
      exact ih (i + 1) (by omega) hx

theorem s8_tb_d {l : Launch} {D : va_G} {d : Nat} {G : xv_Gr} {I : xv_I} {J : xv_J} {Q : xv_Po} {a : Nat} (hT : xg_tm G a) {sz mn : Nat} (hsz : I a 1 = nI sz) (h60 : sz + mn ≤ 60) (h8 : mn ≤ 8) {x : Int64} (kk : xv_Ev l D d mX8_takeBytes none 78 [some (.ref a), some (.long x), none, some (.int (nI mn)), some (.int (nI mn))] [] G (tm_cp I (a + 1) sz x mn) J 0 0 Q) : ∀ (n i : Nat), i + n = mn → xv_Ev l D d mX8_takeBytes none 45 [some (.ref a), some (.long x), none, some (.int (nI mn)), some (.int (nI i))] [] G (tm_cp I (a + 1) sz x i) J 0 0 Q := by
  intro n
  induction n with
  | zero =>
    intro i hi
    refine xv_iload dX8_takeBytes_45 rfl ?_
    refine xv_iload_n dX8_takeBytes_47 rfl rfl ?_
    refine xv_icmp_geN (tgt := 78) dX8_takeBytes_48 rfl (by omega) (by omega) (fun c_48 => ?_) (fun c_48 => absurd c_48 (by omega))
    have e : mn = i := by omega
    subst e
    exact kk
  | succ n ih =>
    intro i hi
    refine xv_iload dX8_takeBytes_45 rfl ?_
    refine xv_iload_n dX8_takeBytes_47 rfl rfl ?_
    refine xv_icmp_geN (tgt := 78) dX8_takeBytes_48 rfl (by omega) (by omega) (fun c_48 => absurd c_48 (by omega)) (fun c_48 => ?_)
    refine xv_aload_n dX8_takeBytes_51 rfl rfl ?_
    refine xv_getr dX8_takeBytes_52 fl_X8_18 hT.1 rfl hT.2.1 ?_
    refine xv_aload_n dX8_takeBytes_55 rfl rfl ?_
    refine xv_geti dX8_takeBytes_56 fl_X8_9 hT.1 rfl ?_
    refine xv_nmI ((congrFun (tm_cp_a (by omega) i) 1).trans hsz) ?_
    refine xv_iload dX8_takeBytes_59 rfl ?_
    refine xv_iadd dX8_takeBytes_61 ?_
    refine xv_nmI (nI_add _ _) ?_
    refine xv_lload_n dX8_takeBytes_62 rfl rfl ?_
    refine xv_bipush (v := nI 8) dX8_takeBytes_63 rfl ?_
    refine xv_iload dX8_takeBytes_65 rfl ?_
    refine xv_imul dX8_takeBytes_67 ?_
    refine xv_nmI (pk_mul _ _) ?_
    refine xv_lushr dX8_takeBytes_68 ?_
    refine xv_l2i dX8_takeBytes_69 ?_
    refine xv_i2b dX8_takeBytes_70 ?_
    refine xv_bastore dX8_takeBytes_71 hT.2.2 (xv_ixn (by omega) (by decide)) (tm_bt_b x i) ?_
    refine xv_iinc dX8_takeBytes_72 rfl (xv_inc _) (Nat.le_of_ble_eq_true rfl) rfl ?_
    refine xv_goto (tgt := 45) dX8_takeBytes_75 rfl ?_
    refine xv_nmM (I2 := (tm_cp I (a + 1) sz x (i + 1))) tm_cp_put ?_
    exact ih (i + 1) (by omega)

theorem s8_takeBytes {l : Launch} {D : va_G} {d : Nat} {G : xv_Gr} {I : xv_I} {J : xv_J} {Q : xv_Po} {a : Nat} (hT : xg_tm G a) {sz dg : Nat} (hsz : I a 1 = nI sz) (h60 : sz ≤ 60) (hd5 : I a 5 = nI dg) (hdg : dg ≤ 6) {x : Int64} (h1 : 60 < sz + tm_mn x → Q (some (.int 0)) G I J) (h2 : sz + tm_mn x ≤ 60 → Q (some (.int 1)) G (xv_ui (tm_M (xv_ui (tm_cp I (a + 1) sz x (tm_mn x)) a 1 (nI (sz + tm_mn x))) a (tm_st ((xv_ui (tm_cp I (a + 1) sz x (tm_mn x)) a 1 (nI (sz + tm_mn x))) (a + 1)) dg (tm_wr ((xv_ui (tm_cp I (a + 1) sz x (tm_mn x)) a 1 (nI (sz + tm_mn x))) (a + 1)) dg (sz + tm_mn x) (sz + tm_mn x) 0).2).2.1 (tm_st ((xv_ui (tm_cp I (a + 1) sz x (tm_mn x)) a 1 (nI (sz + tm_mn x))) (a + 1)) dg (tm_wr ((xv_ui (tm_cp I (a + 1) sz x (tm_mn x)) a 1 (nI (sz + tm_mn x))) (a + 1)) dg (sz + tm_mn x) (sz + tm_mn x) 0).2).2.2) a 2 (tm_wr ((xv_ui (tm_cp I (a + 1) sz x (tm_mn x)) a 1 (nI (sz + tm_mn x))) (a + 1)) dg (sz + tm_mn x) (sz + tm_mn x) 0).1) J) : xv_Ev l D (d + 4) mX8_takeBytes none 0 [some (.ref a), some (.long x), none, none, none] [] G I J 0 0 Q := by
  have hm8 : tm_mn x ≤ 8 := xfst_8 8 0 (by omega)
  refine xv_iconst (v := 0) dX8_takeBytes_0 rfl ?_
  refine xv_istore_n dX8_takeBytes_1 rfl (Nat.le_of_ble_eq_true rfl) rfl ?_
  refine s8_tb_c ?_ 8 0 (by omega) rfl
  refine xv_aload_n dX8_takeBytes_29 rfl rfl ?_
  refine xv_geti dX8_takeBytes_30 fl_X8_9 hT.1 rfl ?_
  refine xv_nmI hsz ?_
  refine xv_iload_n dX8_takeBytes_33 rfl rfl ?_
  refine xv_iadd dX8_takeBytes_34 ?_
  refine xv_nmI (nI_add _ _) ?_
  refine xv_bipush (v := nI 60) dX8_takeBytes_35 rfl ?_
  refine xv_icmp_leN (tgt := 42) dX8_takeBytes_37 rfl (by omega) (by omega) (fun c_37 => ?_) (fun c_37 => ?_)
  · refine xv_iconst (v := 0) dX8_takeBytes_42 rfl ?_
    refine xv_istore dX8_takeBytes_43 (Nat.le_of_ble_eq_true rfl) rfl ?_
    refine xv_nmM (I2 := (tm_cp I (a + 1) sz x 0)) tm_cp_0.symm ?_
    refine s8_tb_d hT hsz c_37 hm8 ?_ (tm_mn x) 0 (by omega)
    refine xv_aload_n dX8_takeBytes_78 rfl rfl ?_
    refine xv_dup dX8_takeBytes_79 rfl ?_
    refine xv_geti dX8_takeBytes_80 fl_X8_9 hT.1 rfl ?_
    refine xv_nmI ((congrFun (tm_cp_a (by omega) (tm_mn x)) 1).trans hsz) ?_
    refine xv_iload_n dX8_takeBytes_83 rfl rfl ?_
    refine xv_iadd dX8_takeBytes_84 ?_
    refine xv_nmI (nI_add _ _) ?_
    refine xv_puti dX8_takeBytes_85 fl_X8_9 hT.1 rfl rfl rfl ?_
    refine xv_aload_n dX8_takeBytes_88 rfl rfl ?_
    refine xv_aload_n dX8_takeBytes_89 rfl rfl ?_
    refine xv_callV0 (As := []) dX8_takeBytes_90 cl_X8_33 rfl rfl rfl rfl hT.1 rfl rfl (Nat.le_of_ble_eq_true rfl) (Nat.le_of_ble_eq_true rfl) (Nat.zero_le _) (Nat.zero_le _) ?_
    refine s8_findWrong hT (I := (xv_ui (tm_cp I (a + 1) sz x (tm_mn x)) a 1 (nI (sz + tm_mn x)))) xv_ui_s c_37 hdg ((xv_ui_o (by decide)).trans ((congrFun (tm_cp_a (by omega) (tm_mn x)) 5).trans hd5)) ?_
    refine xv_puti dX8_takeBytes_93 fl_X8_15 hT.1 rfl rfl rfl ?_
    refine xv_iconst (v := 1) dX8_takeBytes_96 rfl ?_
    refine xv_zret dX8_takeBytes_97 rfl rfl (Nat.zero_le _) (Nat.zero_le _) ?_
    exact h2 c_37
  · refine xv_iconst (v := 0) dX8_takeBytes_40 rfl ?_
    refine xv_zret dX8_takeBytes_41 rfl rfl (Nat.zero_le _) (Nat.zero_le _) ?_
    exact h1 c_37
