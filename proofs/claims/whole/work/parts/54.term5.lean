/-! terms in force, houses taken back (class) -/
theorem s0_termOf {l : Launch} {D : va_G} {d : Nat} {G : xv_Gr} {I : xv_I} {J : xv_J} {Q : xv_Po} (hG : xg_ok G) {nl nt : Nat} (hD : xg_dy G nl nt) (hnt2 : I 6 2 = nI nt) (ht4 : nt ≤ 4) {x : Int32} (h1 : ¬ (0 ≤ x ∧ x < nI nt) → Q (some .null) G I J) (h2 : ∀ t, t < nt → x = nI t → Q (some (.ref (300 + 2 * t))) G I J) : xv_Ev l D d mX0_termOf none 0 [some (.ref 6), some (.int x)] [] G I J 0 0 Q := by
  have hnt : (nI nt).toInt = (nt : Int) := nI_toInt (by omega)
  refine xv_iload_n dX0_termOf_0 rfl rfl ?_
  refine xv_if_lt (tgt := 21) dX0_termOf_1 rfl (fun c_1 => ?_) (fun c_1 => ?_)
  · refine xv_null dX0_termOf_21 ?_
    refine xv_aretN dX0_termOf_22 rfl (Nat.zero_le _) (Nat.zero_le _) ?_
    exact h1 (by simp only [xn_lt, xn_le, hnt, Int32.reduceToInt] at *; omega)
  · refine xv_iload_n dX0_termOf_4 rfl rfl ?_
    refine xv_aload_n dX0_termOf_5 rfl rfl ?_
    refine xv_geti dX0_termOf_6 fl_X0_18 (go_6 hG) rfl ?_
    refine xv_nmI hnt2 ?_
    refine xv_icmp_ge (tgt := 21) dX0_termOf_9 rfl (fun c_9 => ?_) (fun c_9 => ?_)
    · refine xv_null dX0_termOf_21 ?_
      refine xv_aretN dX0_termOf_22 rfl (Nat.zero_le _) (Nat.zero_le _) ?_
      exact h1 (by simp only [xn_lt, xn_le, hnt, Int32.reduceToInt] at *; omega)
    · have hr : (0 ≤ x ∧ x < nI nt) := (by simp only [xn_lt, xn_le, hnt, Int32.reduceToInt] at *; omega)
      obtain ⟨t, ht, rfl⟩ : ∃ j : Nat, j < nt ∧ x = nI j := xn_nat (n := nt) (by have h := hr; simp only [xn_lt, xn_le, hnt, Int32.reduceToInt] at h; omega) (by have h := hr; simp only [xn_lt, xn_le, hnt, Int32.reduceToInt] at h; omega) (by omega)
      refine xv_aload_n dX0_termOf_12 rfl rfl ?_
      refine xv_getr dX0_termOf_13 fl_X0_29 (go_6 hG) rfl (gr_6_4 hG) ?_
      refine xv_iload_n dX0_termOf_16 rfl rfl ?_
      refine xv_aaload dX0_termOf_17 (go_174 hG) (xv_ixn (by omega) (by decide)) (hD.2.1 t ht).1 ?_
      refine xv_goto (tgt := 22) dX0_termOf_18 rfl ?_
      refine xv_aret dX0_termOf_22 rfl (Nat.zero_le _) (Nat.zero_le _) ?_
      exact h2 t ht rfl

def ti_c (I : xv_I) (wh : Int32) (t : Nat) (la : Int32) : Prop := I (300 + 2 * t) 2 = -900009 ∧ I (300 + 2 * t) 0 ≤ wh ∧ la ≤ I (300 + 2 * t) 0
noncomputable def ti_st (I : xv_I) (wh : Int32) : Nat → Int32 × Int32
  | 0 => (-900009, 0)
  | t + 1 => @ite _ (ti_c I wh t (ti_st I wh t).2) (Classical.propDecidable _) (nI t, I (300 + 2 * t) 0) (ti_st I wh t)
theorem ti_st_c (I : xv_I) (wh : Int32) : ∀ n, (ti_st I wh n).1 = -900009 ∨ ∃ t, t < n ∧ (ti_st I wh n).1 = nI t ∧ I (300 + 2 * t) 2 = -900009
  | 0 => Or.inl rfl
  | n + 1 => by
    by_cases h : ti_c I wh n (ti_st I wh n).2
    · right
      refine ⟨n, by omega, ?_, h.1⟩
      rw [ti_st, if_pos h]
    · rw [ti_st, if_neg h]
      rcases ti_st_c I wh n with e | ⟨t, h1, h2⟩
      · exact Or.inl e
      · exact Or.inr ⟨t, by omega, h2⟩
theorem s0_ti_l {l : Launch} {D : va_G} {d : Nat} {G : xv_Gr} {I : xv_I} {J : xv_J} {Q : xv_Po} (hG : xg_ok G) {nl nt : Nat} (hD : xg_dy G nl nt) (hnt2 : I 6 2 = nI nt) (ht4 : nt ≤ 4) {wh : Int32} (hQ : Q (some (.int (ti_st I wh nt).1)) G I J) : ∀ (n i : Nat), i + n = nt → xv_Ev l D d mX0_termIn none 8 [some (.ref 6), some (.int wh), some (.int (ti_st I wh i).1), some (.int (ti_st I wh i).2), some (.int (nI i)), none] [] G I J 0 0 Q := by
  intro n
  induction n with
  | zero =>
    intro i hi
    refine xv_iload dX0_termIn_8 rfl ?_
    refine xv_aload_n dX0_termIn_10 rfl rfl ?_
    refine xv_geti dX0_termIn_11 fl_X0_18 (go_6 hG) rfl ?_
    refine xv_nmI hnt2 ?_
    refine xv_icmp_geN (tgt := 74) dX0_termIn_14 rfl (by omega) (by omega) (fun c_14 => ?_) (fun c_14 => absurd c_14 (by omega))
    refine xv_iload_n dX0_termIn_74 rfl rfl ?_
    refine xv_iret dX0_termIn_75 rfl (Nat.zero_le _) (Nat.zero_le _) ?_
    have e : nt = i := by omega
    subst e
    exact hQ
  | succ n ih =>
    intro i hi
    refine xv_iload dX0_termIn_8 rfl ?_
    refine xv_aload_n dX0_termIn_10 rfl rfl ?_
    refine xv_geti dX0_termIn_11 fl_X0_18 (go_6 hG) rfl ?_
    refine xv_nmI hnt2 ?_
    refine xv_icmp_geN (tgt := 74) dX0_termIn_14 rfl (by omega) (by omega) (fun c_14 => absurd c_14 (by omega)) (fun c_14 => ?_)
    refine xv_aload_n dX0_termIn_17 rfl rfl ?_
    refine xv_getr dX0_termIn_18 fl_X0_29 (go_6 hG) rfl (gr_6_4 hG) ?_
    refine xv_iload dX0_termIn_21 rfl ?_
    refine xv_aaload dX0_termIn_23 (go_174 hG) (xv_ixn (by omega) (by decide)) (hD.2.1 i (by omega)).1 ?_
    refine xv_astore dX0_termIn_24 (Nat.le_of_ble_eq_true rfl) rfl ?_
    refine xv_aload dX0_termIn_26 rfl ?_
    refine xv_ifnull dX0_termIn_28 ?_
    refine xv_aload dX0_termIn_31 rfl ?_
    refine xv_geti dX0_termIn_33 fl_X0_61 (hD.2.1 i (by omega)).2.1 rfl ?_
    refine xv_ldc dX0_termIn_36 ld_X0_60 ?_
    refine xv_icmp_ne (tgt := 68) dX0_termIn_38 rfl (fun c_38 => ?_) (fun c_38 => ?_)
    · refine xv_iinc dX0_termIn_68 rfl (xv_inc _) (Nat.le_of_ble_eq_true rfl) rfl ?_
      refine xv_goto (tgt := 8) dX0_termIn_71 rfl ?_
      have hc : ¬ ti_c I wh i (ti_st I wh i).2 := fun h => c_38 h.1
      have ih2 := ih (i + 1) (by omega)
      rw [ti_st, if_neg hc] at ih2
      exact xv_fg [true, true, true, true, true, false] ih2
    · refine xv_aload dX0_termIn_41 rfl ?_
      refine xv_geti dX0_termIn_43 fl_X0_64 (hD.2.1 i (by omega)).2.1 rfl ?_
      refine xv_iload_n dX0_termIn_46 rfl rfl ?_
      refine xv_icmp_gt (tgt := 68) dX0_termIn_47 rfl (fun c_47 => ?_) (fun c_47 => ?_)
      · refine xv_iinc dX0_termIn_68 rfl (xv_inc _) (Nat.le_of_ble_eq_true rfl) rfl ?_
        refine xv_goto (tgt := 8) dX0_termIn_71 rfl ?_
        have hc : ¬ ti_c I wh i (ti_st I wh i).2 := fun h => absurd h.2.1 (by simp only [xn_lt, xn_le] at *; omega)
        have ih2 := ih (i + 1) (by omega)
        rw [ti_st, if_neg hc] at ih2
        exact xv_fg [true, true, true, true, true, false] ih2
      · refine xv_aload dX0_termIn_50 rfl ?_
        refine xv_geti dX0_termIn_52 fl_X0_64 (hD.2.1 i (by omega)).2.1 rfl ?_
        refine xv_iload_n dX0_termIn_55 rfl rfl ?_
        refine xv_icmp_lt (tgt := 68) dX0_termIn_56 rfl (fun c_56 => ?_) (fun c_56 => ?_)
        · refine xv_iinc dX0_termIn_68 rfl (xv_inc _) (Nat.le_of_ble_eq_true rfl) rfl ?_
          refine xv_goto (tgt := 8) dX0_termIn_71 rfl ?_
          have hc : ¬ ti_c I wh i (ti_st I wh i).2 := fun h => absurd h.2.2 (by simp only [xn_lt, xn_le] at *; omega)
          have ih2 := ih (i + 1) (by omega)
          rw [ti_st, if_neg hc] at ih2
          exact xv_fg [true, true, true, true, true, false] ih2
        · refine xv_iload dX0_termIn_59 rfl ?_
          refine xv_istore_n dX0_termIn_61 rfl (Nat.le_of_ble_eq_true rfl) rfl ?_
          refine xv_aload dX0_termIn_62 rfl ?_
          refine xv_geti dX0_termIn_64 fl_X0_64 (hD.2.1 i (by omega)).2.1 rfl ?_
          refine xv_istore_n dX0_termIn_67 rfl (Nat.le_of_ble_eq_true rfl) rfl ?_
          refine xv_iinc dX0_termIn_68 rfl (xv_inc _) (Nat.le_of_ble_eq_true rfl) rfl ?_
          refine xv_goto (tgt := 8) dX0_termIn_71 rfl ?_
          have hc : ti_c I wh i (ti_st I wh i).2 := ⟨c_38, by simp only [xn_lt, xn_le] at *; omega, by simp only [xn_lt, xn_le] at *; omega⟩
          have ih2 := ih (i + 1) (by omega)
          rw [ti_st, if_pos hc] at ih2
          exact xv_fg [true, true, true, true, true, false] ih2

theorem s0_termIn {l : Launch} {D : va_G} {d : Nat} {G : xv_Gr} {I : xv_I} {J : xv_J} {Q : xv_Po} (hG : xg_ok G) {nl nt : Nat} (hD : xg_dy G nl nt) (hnt2 : I 6 2 = nI nt) (ht4 : nt ≤ 4) {wh : Int32} (hQ : Q (some (.int (ti_st I wh nt).1)) G I J) : xv_Ev l D d mX0_termIn none 0 [some (.ref 6), some (.int wh), none, none, none, none] [] G I J 0 0 Q := by
  refine xv_ldc dX0_termIn_0 ld_X0_60 ?_
  refine xv_istore_n dX0_termIn_2 rfl (Nat.le_of_ble_eq_true rfl) rfl ?_
  refine xv_iconst (v := 0) dX0_termIn_3 rfl ?_
  refine xv_istore_n dX0_termIn_4 rfl (Nat.le_of_ble_eq_true rfl) rfl ?_
  refine xv_iconst (v := 0) dX0_termIn_5 rfl ?_
  refine xv_istore dX0_termIn_6 (Nat.le_of_ble_eq_true rfl) rfl ?_
  exact s0_ti_l hG hD hnt2 ht4 hQ nt 0 (by omega)

noncomputable def vl_ (o d : Int64) (p w mo c : Int32) : Int64 := if c = 97 then d / p.toInt64 else if c = 100 then d else if c = 111 then o else if c = 109 then mo.toInt64 else if w = 0 then 0 else 1
def vd_fr {α : Type} (F F' : Nat → α) : Prop := ∀ b, b ≠ 176 → F' b = F b
def vs_wf (t : Nat → Int32) (sz : Nat) : Prop := ∀ val : Int32 → Int64, (∀ i, i ≤ sz → vd_ok (vs_st t val sz i)) ∧ ∀ i, i < sz → t i = 41 → 0 < (vs_st t val sz i).2.2.2
def al_s (I : xv_I) (szf : Nat → Nat) (o d : Int64) (p w mo : Int32) (t : Nat) : Prop := vd_is (vs_st (I (300 + 2 * t + 1)) (vl_ o d p w mo) (szf t) (szf t))
def al_P (I : xv_I) (nt : Nat) (szf : Nat → Nat) (o d : Int64) (p w wh si : Int32) : Prop := ∃ t, t < nt ∧ (ti_st I wh nt).1 = nI t ∧ al_s I szf o d p w (wh - si) t
theorem nI_inj4 {a b : Nat} (ha : a < 2 ^ 31) (hb : b < 2 ^ 31) (h : nI a = nI b) : a = b := (nI_eq ha hb).mp h
theorem nI_nNONE {t : Nat} (h : t < 2 ^ 31) : ¬ nI t = -900009 := fun e => by
  have h1 := congrArg Int32.toInt e
  rw [nI_toInt h, show (-900009 : Int32).toInt = -900009 by decide] at h1
  omega
theorem s0_allows {l : Launch} {D : va_G} {d : Nat} {G : xv_Gr} {I : xv_I} {J : xv_J} {Q : xv_Po} (hG : xg_ok G) {nl nt : Nat} (hD : xg_dy G nl nt) (hnt2 : I 6 2 = nI nt) (ht4 : nt ≤ 4) {szf : Nat → Nat} (hsf : ∀ t, t < nt → I (300 + 2 * t) 1 = nI (szf t) ∧ szf t ≤ 60) (hwf : ∀ t, t < nt → I (300 + 2 * t) 2 = -900009 → vs_wf (I (300 + 2 * t + 1)) (szf t)) {b : Nat} (hb : G.1 b = some (.inl 7)) (hp : 0 < I b 3) (hb6 : b ≠ 176) {wh si : Int32} (hQ : ∀ I2 J2, vd_fr I I2 → vd_fr J J2 → Q (some (.int (xbp (al_P I nt szf (J b 0) (J b 1) (I b 3) (I b 4) wh si)))) G I2 J2) : xv_Ev l D (d + 4) mX0_allows none 0 [some (.ref 6), some (.ref b), some (.int wh), some (.int si), none] [] G I J 0 0 Q := by
  refine xv_aload_n dX0_allows_0 rfl rfl ?_
  refine xv_aload_n dX0_allows_1 rfl rfl ?_
  refine xv_iload_n dX0_allows_2 rfl rfl ?_
  refine xv_callV0 (As := [_]) dX0_allows_3 cl_X0_90 rfl rfl rfl rfl (go_6 hG) rfl rfl (Nat.le_of_ble_eq_true rfl) (Nat.le_of_ble_eq_true rfl) (Nat.zero_le _) (Nat.zero_le _) ?_
  refine s0_termIn hG hD hnt2 ht4 ?_
  refine xv_callV0 (As := [_]) dX0_allows_6 cl_X0_94 rfl rfl rfl rfl (go_6 hG) rfl rfl (Nat.le_of_ble_eq_true rfl) (Nat.le_of_ble_eq_true rfl) (Nat.zero_le _) (Nat.zero_le _) ?_
  refine s0_termOf hG hD hnt2 ht4 (fun h => ?_) (fun t ht e => ?_)
  · refine xv_astoreN dX0_allows_9 (Nat.le_of_ble_eq_true rfl) rfl ?_
    refine xv_aloadN dX0_allows_11 rfl ?_
    refine xv_ifnullN (tgt := 36) dX0_allows_13 rfl ?_
    refine xv_iconst (v := 0) dX0_allows_36 rfl ?_
    refine xv_zret dX0_allows_37 rfl rfl (Nat.zero_le _) (Nat.zero_le _) ?_
    exact xqp_F (Q := fun v => Q (some v) G I J) (hQ I J (fun _ _ => rfl) (fun _ _ => rfl)) (fun hh => by
      obtain ⟨t, h1, h2, -⟩ := hh
      exact h (by rw [h2]; exact ⟨nI_pos' (by omega), nI_lt h1 (by omega)⟩))
  · have hw : I (300 + 2 * t) 2 = -900009 := by
      rcases ti_st_c I wh nt with q | ⟨t5, h1, h2, h3⟩
      · exact absurd (e.symm.trans q) (nI_nNONE (by omega))
      · have e4 : t5 = t := nI_inj4 (by omega) (by omega) (h2.symm.trans e)
        subst e4
        exact h3
    refine xv_astore dX0_allows_9 (Nat.le_of_ble_eq_true rfl) rfl ?_
    refine xv_aload dX0_allows_11 rfl ?_
    refine xv_ifnull dX0_allows_13 ?_
    refine xv_aload dX0_allows_16 rfl ?_
    refine xv_aload_n dX0_allows_18 rfl rfl ?_
    refine xv_iload_n dX0_allows_19 rfl rfl ?_
    refine xv_iload_n dX0_allows_20 rfl rfl ?_
    refine xv_isub dX0_allows_21 ?_
    refine xv_aload_n dX0_allows_22 rfl rfl ?_
    refine xv_getr dX0_allows_23 fl_X0_43 (go_6 hG) rfl (gr_6_6 hG) ?_
    refine xv_callV0 (As := [_, _, _]) dX0_allows_26 cl_X0_98 rfl rfl rfl rfl (hD.2.1 t ht).2.1 rfl rfl (Nat.le_of_ble_eq_true rfl) (Nat.le_of_ble_eq_true rfl) (Nat.zero_le _) (Nat.zero_le _) ?_
    refine s8_saysOf hG (hD.2.1 t ht).2 hb hp hb6 (by omega) (by omega) (hsf t ht).1 (hsf t ht).2 ((hwf t ht hw) _).1 ((hwf t ht hw) _).2 ?_
    refine xv_if_eqP (tgt := 36) dX0_allows_29 rfl (fun c_29 => ?_) (fun c_29 => ?_)
    · refine xv_iconst (v := 0) dX0_allows_36 rfl ?_
      refine xv_zret dX0_allows_37 rfl rfl (Nat.zero_le _) (Nat.zero_le _) ?_
      refine xqp_F (Q := fun v => Q (some v) G _ _) (hQ _ _ (fun b h => vd_Ir h) (fun b h => vd_Jr h)) ?_
      rintro ⟨t2, h1, h2, h3⟩
      have e3 : t2 = t := nI_inj4 (by omega) (by omega) (h2.symm.trans e)
      subst e3
      exact c_29 h3
    · refine xv_iconst (v := 1) dX0_allows_32 rfl ?_
      refine xv_goto (tgt := 37) dX0_allows_33 rfl ?_
      refine xv_zret dX0_allows_37 rfl rfl (Nat.zero_le _) (Nat.zero_le _) ?_
      refine xqp_T (Q := fun v => Q (some v) G _ _) (hQ _ _ (fun b h => vd_Ir h) (fun b h => vd_Jr h)) ?_
      exact ⟨t, ht, e, c_29⟩
