/-! may, takeBack, soon, feed, fault, force (class) -/
theorem s0_allowsNow {l : Launch} {D : va_G} {d : Nat} {G : xv_Gr} {I : xv_I} {J : xv_J} {Q : xv_Po} (hG : xg_ok G) {nl nt : Nat} (hD : xg_dy G nl nt) (hnl : I 6 1 = nI nl) (hl8 : nl ≤ 8) (hnt2 : I 6 2 = nI nt) (ht4 : nt ≤ 4) {mo : Nat} (hmo : I 6 0 = nI mo) (hm5 : mo ≤ 599) {szf : Nat → Nat} (hsf : ∀ t, t < nt → I (300 + 2 * t) 1 = nI (szf t) ∧ szf t ≤ 60) (hwf : ∀ t, t < nt → I (300 + 2 * t) 2 = -900009 → vs_wf (I (300 + 2 * t + 1)) (szf t)) (hpp : ∀ i, i < nl → 0 < I (200 + 4 * i + 1) 3) {i : Nat} (hi : i < nl) (hQ : ∀ I2 J2, vd_fr I I2 → vd_fr J J2 → Q (some (.int (xbp (I (200 + 4 * i) 2 = 1 ∧ (al_P I nt szf (J (200 + 4 * i + 1) 0) (J (200 + 4 * i + 1) 1) (I (200 + 4 * i + 1) 3) (I (200 + 4 * i + 1) 4) (nI mo) (I (200 + 4 * i) 0)))))) G I2 J2) : xv_Ev l D (d + 5) mX0_allowsNow none 0 [some (.ref 6), some (.ref (200 + 4 * i))] [] G I J 0 0 Q := by
  refine xv_aload_n dX0_allowsNow_0 rfl rfl ?_
  refine xv_callV0 (As := []) dX0_allowsNow_1 cl_X0_53 rfl rfl rfl rfl (hD.1 i hi).2.1 rfl rfl (Nat.le_of_ble_eq_true rfl) (Nat.le_of_ble_eq_true rfl) (Nat.zero_le _) (Nat.zero_le _) ?_
  refine s4_isOpen (hD.1 i hi).2 ?_
  refine xv_if_eqP (tgt := 30) dX0_allowsNow_4 rfl (fun c_4 => ?_) (fun c_4 => ?_)
  · refine xv_iconst (v := 0) dX0_allowsNow_30 rfl ?_
    refine xv_zret dX0_allowsNow_31 rfl rfl (Nat.zero_le _) (Nat.zero_le _) ?_
    exact xqp_F (Q := fun v => Q (some v) G I J) (hQ I J (fun _ _ => rfl) (fun _ _ => rfl)) (fun h => c_4 h.1)
  · refine xv_aload_n dX0_allowsNow_7 rfl rfl ?_
    refine xv_aload_n dX0_allowsNow_8 rfl rfl ?_
    refine xv_getr dX0_allowsNow_9 fl_X0_67 (hD.1 i hi).2.1 rfl (hD.1 i hi).2.2.1 ?_
    refine xv_aload_n dX0_allowsNow_12 rfl rfl ?_
    refine xv_geti dX0_allowsNow_13 fl_X0_9 (go_6 hG) rfl ?_
    refine xv_nmI hmo ?_
    refine xv_aload_n dX0_allowsNow_16 rfl rfl ?_
    refine xv_geti dX0_allowsNow_17 fl_X0_70 (hD.1 i hi).2.1 rfl ?_
    refine xv_callV0 (As := [_, _, _]) dX0_allowsNow_20 cl_X0_73 rfl rfl rfl rfl (go_6 hG) rfl rfl (Nat.le_of_ble_eq_true rfl) (Nat.le_of_ble_eq_true rfl) (Nat.zero_le _) (Nat.zero_le _) ?_
    refine s0_allows hG hD hnt2 ht4 hsf hwf (hD.1 i hi).2.2.2.1 (hpp i hi) (by omega) (fun I2 J2 hfi hfj => ?_)
    · refine xv_if_eqP (tgt := 30) dX0_allowsNow_23 rfl (fun c_23 => ?_) (fun c_23 => ?_)
      · refine xv_iconst (v := 0) dX0_allowsNow_30 rfl ?_
        refine xv_zret dX0_allowsNow_31 rfl rfl (Nat.zero_le _) (Nat.zero_le _) ?_
        exact xqp_F (Q := fun v => Q (some v) G _ _) (hQ _ _ hfi hfj) (fun h => c_23 h.2)
      · refine xv_iconst (v := 1) dX0_allowsNow_26 rfl ?_
        refine xv_goto (tgt := 31) dX0_allowsNow_27 rfl ?_
        refine xv_zret dX0_allowsNow_31 rfl rfl (Nat.zero_le _) (Nat.zero_le _) ?_
        exact xqp_T (Q := fun v => Q (some v) G _ _) (hQ _ _ hfi hfj) ⟨c_4, c_23⟩

theorem s10_may {l : Launch} {D : va_G} {d : Nat} {G : xv_Gr} {I : xv_I} {J : xv_J} {Q : xv_Po} (hG : xg_ok G) {nl nt : Nat} (hD : xg_dy G nl nt) (hnl : I 6 1 = nI nl) (hl8 : nl ≤ 8) (hnt2 : I 6 2 = nI nt) (ht4 : nt ≤ 4) {mo : Nat} (hmo : I 6 0 = nI mo) (hm5 : mo ≤ 599) {szf : Nat → Nat} (hsf : ∀ t, t < nt → I (300 + 2 * t) 1 = nI (szf t) ∧ szf t ≤ 60) (hwf : ∀ t, t < nt → I (300 + 2 * t) 2 = -900009 → vs_wf (I (300 + 2 * t + 1)) (szf t)) (hpp : ∀ i, i < nl → 0 < I (200 + 4 * i + 1) 3) {x : Int32} (h1 : ¬ (0 ≤ x ∧ x < nI nl) → Q (some (.int (-900001))) G I J) (h2 : ∀ i, i < nl → x = nI i → ∀ I2 J2, vd_fr I I2 → vd_fr J J2 → Q (some (.int (xbp (I (200 + 4 * i) 2 = 1 ∧ (al_P I nt szf (J (200 + 4 * i + 1) 0) (J (200 + 4 * i + 1) 1) (I (200 + 4 * i + 1) 3) (I (200 + 4 * i + 1) 4) (nI mo) (I (200 + 4 * i) 0)))))) G I2 J2) : xv_Ev l D (d + 6) mX10_may none 0 [some (.ref 0), some (.int x), none] [] G I J 0 0 Q := by
  refine xv_aload_n dX10_may_0 rfl rfl ?_
  refine xv_getr dX10_may_1 fl_X10_47 (go_0 hG) rfl (gr_0_5 hG) ?_
  refine xv_iload_n dX10_may_4 rfl rfl ?_
  refine xv_callV0 (As := [_]) dX10_may_5 cl_X10_235 rfl rfl rfl rfl (go_6 hG) rfl rfl (Nat.le_of_ble_eq_true rfl) (Nat.le_of_ble_eq_true rfl) (Nat.zero_le _) (Nat.zero_le _) ?_
  refine s0_loanOf hG hD hnl hl8 (fun h => ?_) (fun i hi e => ?_)
  · refine xv_astore_nN dX10_may_8 rfl (Nat.le_of_ble_eq_true rfl) rfl ?_
    refine xv_aload_nN dX10_may_9 rfl rfl ?_
    refine xv_ifnonnullN dX10_may_10 ?_
    refine xv_ldc dX10_may_13 ld_X10_75 ?_
    refine xv_iret dX10_may_15 rfl (Nat.zero_le _) (Nat.zero_le _) ?_
    exact h1 h
  · subst e
    refine xv_astore_n dX10_may_8 rfl (Nat.le_of_ble_eq_true rfl) rfl ?_
    refine xv_aload_n dX10_may_9 rfl rfl ?_
    refine xv_ifnonnull (tgt := 16) dX10_may_10 rfl ?_
    refine xv_aload_n dX10_may_16 rfl rfl ?_
    refine xv_getr dX10_may_17 fl_X10_47 (go_0 hG) rfl (gr_0_5 hG) ?_
    refine xv_aload_n dX10_may_20 rfl rfl ?_
    refine xv_callV0 (As := [_]) dX10_may_21 cl_X10_298 rfl rfl rfl rfl (go_6 hG) rfl rfl (Nat.le_of_ble_eq_true rfl) (Nat.le_of_ble_eq_true rfl) (Nat.zero_le _) (Nat.zero_le _) ?_
    refine s0_allowsNow hG hD hnl hl8 hnt2 ht4 hmo hm5 hsf hwf hpp hi (fun I2 J2 hfi hfj => ?_)
    · refine xv_if_eqP (tgt := 31) dX10_may_24 rfl (fun c_24 => ?_) (fun c_24 => ?_)
      · refine xv_iconst (v := 0) dX10_may_31 rfl ?_
        refine xv_iret dX10_may_32 rfl (Nat.zero_le _) (Nat.zero_le _) ?_
        exact xqp_F (Q := fun v => Q (some v) G _ _) (h2 i hi rfl _ _ hfi hfj) c_24
      · refine xv_iconst (v := 1) dX10_may_27 rfl ?_
        refine xv_goto (tgt := 32) dX10_may_28 rfl ?_
        refine xv_iret dX10_may_32 rfl (Nat.zero_le _) (Nat.zero_le _) ?_
        exact xqp_T (Q := fun v => Q (some v) G _ _) (h2 i hi rfl _ _ hfi hfj) c_24

theorem s10_takeBack {l : Launch} {D : va_G} {d : Nat} {G : xv_Gr} {I : xv_I} {J : xv_J} {Q : xv_Po} (hG : xg_ok G) {nl nt : Nat} (hD : xg_dy G nl nt) (hnl : I 6 1 = nI nl) (hl8 : nl ≤ 8) (hnt2 : I 6 2 = nI nt) (ht4 : nt ≤ 4) {mo : Nat} (hmo : I 6 0 = nI mo) (hm5 : mo ≤ 599) {szf : Nat → Nat} (hsf : ∀ t, t < nt → I (300 + 2 * t) 1 = nI (szf t) ∧ szf t ≤ 60) (hwf : ∀ t, t < nt → I (300 + 2 * t) 2 = -900009 → vs_wf (I (300 + 2 * t + 1)) (szf t)) (hpp : ∀ i, i < nl → 0 < I (200 + 4 * i + 1) 3) {x : Int32} (h1 : ¬ (0 ≤ x ∧ x < nI nl) → Q (some (.long (-900001))) G I J) (h2 : ∀ i, i < nl → x = nI i → ¬ (I (200 + 4 * i) 2 = 1 ∧ (al_P I nt szf (J (200 + 4 * i + 1) 0) (J (200 + 4 * i + 1) 1) (I (200 + 4 * i + 1) 3) (I (200 + 4 * i + 1) 4) (nI mo) (I (200 + 4 * i) 0))) → ∀ I2 J2, vd_fr I I2 → vd_fr J J2 → Q (some (.long (-900003))) G I2 J2) (h3 : ∀ i, i < nl → x = nI i → (I (200 + 4 * i) 2 = 1 ∧ (al_P I nt szf (J (200 + 4 * i + 1) 0) (J (200 + 4 * i + 1) 1) (I (200 + 4 * i + 1) 3) (I (200 + 4 * i + 1) 4) (nI mo) (I (200 + 4 * i) 0))) → ∀ I2 J2, vd_fr I I2 → vd_fr J J2 → Q (some (.long (J (200 + 4 * i + 1) 0))) G (xv_ui (xv_ui I2 (200 + 4 * i) 2 3) (200 + 4 * i) 3 (nI mo)) J2) : xv_Ev l D (d + 6) mX10_takeBack none 0 [some (.ref 0), some (.int x), none] [] G I J 0 0 Q := by
  refine xv_aload_n dX10_takeBack_0 rfl rfl ?_
  refine xv_getr dX10_takeBack_1 fl_X10_47 (go_0 hG) rfl (gr_0_5 hG) ?_
  refine xv_iload_n dX10_takeBack_4 rfl rfl ?_
  refine xv_callV0 (As := [_]) dX10_takeBack_5 cl_X10_235 rfl rfl rfl rfl (go_6 hG) rfl rfl (Nat.le_of_ble_eq_true rfl) (Nat.le_of_ble_eq_true rfl) (Nat.zero_le _) (Nat.zero_le _) ?_
  refine s0_loanOf hG hD hnl hl8 (fun h => ?_) (fun i hi e => ?_)
  · refine xv_astore_nN dX10_takeBack_8 rfl (Nat.le_of_ble_eq_true rfl) rfl ?_
    refine xv_aload_nN dX10_takeBack_9 rfl rfl ?_
    refine xv_ifnonnullN dX10_takeBack_10 ?_
    refine xv_ldc2 dX10_takeBack_13 ld_X10_256 ?_
    refine xv_lret dX10_takeBack_16 rfl (Nat.zero_le _) (Nat.zero_le _) ?_
    exact h1 h
  · subst e
    refine xv_astore_n dX10_takeBack_8 rfl (Nat.le_of_ble_eq_true rfl) rfl ?_
    refine xv_aload_n dX10_takeBack_9 rfl rfl ?_
    refine xv_ifnonnull (tgt := 17) dX10_takeBack_10 rfl ?_
    refine xv_aload_n dX10_takeBack_17 rfl rfl ?_
    refine xv_getr dX10_takeBack_18 fl_X10_47 (go_0 hG) rfl (gr_0_5 hG) ?_
    refine xv_aload_n dX10_takeBack_21 rfl rfl ?_
    refine xv_callV0 (As := [_]) dX10_takeBack_22 cl_X10_298 rfl rfl rfl rfl (go_6 hG) rfl rfl (Nat.le_of_ble_eq_true rfl) (Nat.le_of_ble_eq_true rfl) (Nat.zero_le _) (Nat.zero_le _) ?_
    refine s0_allowsNow hG hD hnl hl8 hnt2 ht4 hmo hm5 hsf hwf hpp hi (fun I2 J2 hfi hfj => ?_)
    · refine xv_if_neP (tgt := 32) dX10_takeBack_25 rfl (fun c_25 => ?_) (fun c_25 => ?_)
      · refine xv_aload_n dX10_takeBack_32 rfl rfl ?_
        refine xv_iconst (v := 3) dX10_takeBack_33 rfl ?_
        refine xv_aload_n dX10_takeBack_34 rfl rfl ?_
        refine xv_getr dX10_takeBack_35 fl_X10_47 (go_0 hG) rfl (gr_0_5 hG) ?_
        refine xv_geti dX10_takeBack_38 fl_X10_221 (go_6 hG) rfl ?_
        refine xv_nmI ((congrFun (hfi 6 (by decide)) 0).trans hmo) ?_
        refine xv_callV0 (As := [_, _]) dX10_takeBack_41 cl_X10_304 rfl rfl rfl rfl (hD.1 i hi).2.1 rfl rfl (Nat.le_of_ble_eq_true rfl) (Nat.le_of_ble_eq_true rfl) (Nat.zero_le _) (Nat.zero_le _) ?_
        refine s4_close (hD.1 i hi).2 ?_
        refine xv_aload_n dX10_takeBack_44 rfl rfl ?_
        refine xv_getr dX10_takeBack_45 fl_X10_247 (hD.1 i hi).2.1 rfl (hD.1 i hi).2.2.1 ?_
        refine xv_getj dX10_takeBack_48 fl_X10_308 (hD.1 i hi).2.2.2.1 rfl ?_
        refine xv_nmJ (congrFun (hfj (200 + 4 * i + 1) (by omega)) 0) ?_
        refine xv_lret dX10_takeBack_51 rfl (Nat.zero_le _) (Nat.zero_le _) ?_
        exact h3 i hi rfl c_25 _ _ hfi hfj
      · refine xv_ldc2 dX10_takeBack_28 ld_X10_302 ?_
        refine xv_lret dX10_takeBack_31 rfl (Nat.zero_le _) (Nat.zero_le _) ?_
        exact h2 i hi rfl c_25 _ _ hfi hfj

/-- a standing that goes on for k months -/
def go_o (o : Int64) (r : Int32) : Nat → Int64
  | 0 => o
  | k + 1 => ln_o (go_o o r k) r
def go_d (o d : Int64) (r p : Int32) : Nat → Int64
  | 0 => d
  | k + 1 => ln_d (go_d o d r p k) (go_o o r (k + 1)) p
def gf_ {α : Type} (F F' : Nat → α) : Prop := ∀ b, b ≠ 175 → b ≠ 176 → F' b = F b
theorem ti_st_fr {I I2 : xv_I} (h : ∀ t, I2 (300 + 2 * t) = I (300 + 2 * t)) (wh : Int32) : ∀ n, ti_st I2 wh n = ti_st I wh n
  | 0 => rfl
  | n + 1 => by
    have ih := ti_st_fr h wh n
    have e : ti_c I2 wh n (ti_st I2 wh n).2 ↔ ti_c I wh n (ti_st I wh n).2 := by rw [ti_c, ti_c, h n, ih]
    by_cases q : ti_c I wh n (ti_st I wh n).2
    · rw [ti_st, ti_st, if_pos q, if_pos (e.mpr q), h n]
    · rw [ti_st, ti_st, if_neg q, if_neg (fun z => q (e.mp z)), ih]
theorem al_P_fr {I I2 : xv_I} (h : ∀ t, I2 (300 + 2 * t) = I (300 + 2 * t)) (h2 : ∀ t, I2 (300 + 2 * t + 1) = I (300 + 2 * t + 1)) {nt : Nat} {szf : Nat → Nat} {o d : Int64} {p w wh si : Int32} : al_P I2 nt szf o d p w wh si ↔ al_P I nt szf o d p w wh si := by
  unfold al_P al_s
  simp only [h2, ti_st_fr h]
theorem s0_mu_l {l : Launch} {D : va_G} {d : Nat} {G : xv_Gr} {I : xv_I} {J : xv_J} {Q : xv_Po} (hG : xg_ok G) {nl nt : Nat} (hD : xg_dy G nl nt) (hnl : I 6 1 = nI nl) (hl8 : nl ≤ 8) (hnt2 : I 6 2 = nI nt) (ht4 : nt ≤ 4) {mo : Nat} (hmo : I 6 0 = nI mo) (hm5 : mo ≤ 599) {szf : Nat → Nat} (hsf : ∀ t, t < nt → I (300 + 2 * t) 1 = nI (szf t) ∧ szf t ≤ 60) (hwf : ∀ t, t < nt → I (300 + 2 * t) 2 = -900009 → vs_wf (I (300 + 2 * t + 1)) (szf t)) (hpp : ∀ i, i < nl → 0 < I (200 + 4 * i + 1) 3) {i ms : Nat} (hi : i < nl) (hms : mo + ms ≤ 599) : ∀ (n k : Nat) (I2 : xv_I) (J2 : xv_J), k + n = ms + 1 → gf_ I I2 ∧ gf_ J J2 ∧ J2 175 0 = (go_o (J (200 + 4 * i + 1) 0) (I (200 + 4 * i + 1) 2) k) ∧ J2 175 1 = (go_d (J (200 + 4 * i + 1) 0) (J (200 + 4 * i + 1) 1) (I (200 + 4 * i + 1) 2) (I (200 + 4 * i + 1) 3) k) ∧ I2 175 2 = I (200 + 4 * i + 1) 2 ∧ I2 175 3 = I (200 + 4 * i + 1) 3 ∧ I2 175 4 = I (200 + 4 * i + 1) 4 → (∀ I2 J2, gf_ I I2 → gf_ J J2 → Q (some (.int (xfst (fun k => al_P I nt szf (go_o (J (200 + 4 * i + 1) 0) (I (200 + 4 * i + 1) 2) k) (go_d (J (200 + 4 * i + 1) 0) (J (200 + 4 * i + 1) 1) (I (200 + 4 * i + 1) 2) (I (200 + 4 * i + 1) 3) k) (I (200 + 4 * i + 1) 3) (I (200 + 4 * i + 1) 4) (nI (mo + k)) (I (200 + 4 * i) 0)) (fun k => nI k) (-900009) n k))) G I2 J2) → xv_Ev l D (d + 5) mX0_monthsUntilAllowed none 27 [some (.ref 6), some (.ref (200 + 4 * i)), some (.int (nI ms)), some (.int (nI k))] [] G I2 J2 0 0 Q := by
  intro n
  induction n with
  | zero =>
    intro k I2 J2 hk hM hQ
    obtain ⟨hgi, hgj, g0, g1, g2, g3, g4⟩ := hM
    have hmo2 : I2 6 0 = nI mo := (congrFun (hgi 6 (by decide) (by decide)) 0).trans hmo
    have hn22 : I2 6 2 = nI nt := (congrFun (hgi 6 (by decide) (by decide)) 2).trans hnt2
    refine xv_iload_n dX0_monthsUntilAllowed_27 rfl rfl ?_
    refine xv_iload_n dX0_monthsUntilAllowed_28 rfl rfl ?_
    refine xv_icmp_gtN (tgt := 68) dX0_monthsUntilAllowed_29 rfl (by omega) (by omega) (fun c_29 => ?_) (fun c_29 => absurd c_29 (by omega))
    refine xv_ldc dX0_monthsUntilAllowed_68 ld_X0_60 ?_
    refine xv_iret dX0_monthsUntilAllowed_70 rfl (Nat.zero_le _) (Nat.zero_le _) ?_
    exact hQ I2 J2 hgi hgj
  | succ n ih =>
    intro k I2 J2 hk hM hQ
    obtain ⟨hgi, hgj, g0, g1, g2, g3, g4⟩ := hM
    have hmo2 : I2 6 0 = nI mo := (congrFun (hgi 6 (by decide) (by decide)) 0).trans hmo
    have hn22 : I2 6 2 = nI nt := (congrFun (hgi 6 (by decide) (by decide)) 2).trans hnt2
    have hcn : al_P I2 nt szf (J2 175 0) (J2 175 1) (I2 175 3) (I2 175 4) (nI (mo + k)) (I2 (200 + 4 * i) 0) ↔ (fun k => al_P I nt szf (go_o (J (200 + 4 * i + 1) 0) (I (200 + 4 * i + 1) 2) k) (go_d (J (200 + 4 * i + 1) 0) (J (200 + 4 * i + 1) 1) (I (200 + 4 * i + 1) 2) (I (200 + 4 * i + 1) 3) k) (I (200 + 4 * i + 1) 3) (I (200 + 4 * i + 1) 4) (nI (mo + k)) (I (200 + 4 * i) 0)) k := by
      rw [g0, g1, g3, g4, hgi (200 + 4 * i) (by omega) (by omega)]
      exact al_P_fr (fun t => hgi _ (by omega) (by omega)) (fun t => hgi _ (by omega) (by omega))
    refine xv_iload_n dX0_monthsUntilAllowed_27 rfl rfl ?_
    refine xv_iload_n dX0_monthsUntilAllowed_28 rfl rfl ?_
    refine xv_icmp_gtN (tgt := 68) dX0_monthsUntilAllowed_29 rfl (by omega) (by omega) (fun c_29 => absurd c_29 (by omega)) (fun c_29 => ?_)
    refine xv_aload_n dX0_monthsUntilAllowed_32 rfl rfl ?_
    refine xv_aload_n dX0_monthsUntilAllowed_33 rfl rfl ?_
    refine xv_getr dX0_monthsUntilAllowed_34 fl_X0_36 (go_6 hG) rfl (gr_6_5 hG) ?_
    refine xv_aload_n dX0_monthsUntilAllowed_37 rfl rfl ?_
    refine xv_geti dX0_monthsUntilAllowed_38 fl_X0_9 (go_6 hG) rfl ?_
    refine xv_nmI hmo2 ?_
    refine xv_iload_n dX0_monthsUntilAllowed_41 rfl rfl ?_
    refine xv_iadd dX0_monthsUntilAllowed_42 ?_
    refine xv_nmI (nI_add _ _) ?_
    refine xv_aload_n dX0_monthsUntilAllowed_43 rfl rfl ?_
    refine xv_geti dX0_monthsUntilAllowed_44 fl_X0_70 (hD.1 i hi).2.1 rfl ?_
    refine xv_callV0 (As := [_, _, _]) dX0_monthsUntilAllowed_47 cl_X0_73 rfl rfl rfl rfl (go_6 hG) rfl rfl (Nat.le_of_ble_eq_true rfl) (Nat.le_of_ble_eq_true rfl) (Nat.zero_le _) (Nat.zero_le _) ?_
    refine s0_allows hG (I := I2) (J := J2) hD hn22 ht4 (szf := szf) (fun t ht => by rw [hgi _ (by omega) (by omega)]; exact hsf t ht) (fun t ht hw => by rw [hgi _ (by omega) (by omega)] at hw ⊢; exact hwf t ht hw) (go_175 hG) (by rw [g3]; exact hpp i hi) (by decide) (fun I3 J3 hfi hfj => ?_)
    · refine xv_if_eqP (tgt := 55) dX0_monthsUntilAllowed_50 rfl (fun c_50 => ?_) (fun c_50 => ?_)
      · refine xv_aload_n dX0_monthsUntilAllowed_55 rfl rfl ?_
        refine xv_getr dX0_monthsUntilAllowed_56 fl_X0_36 (go_6 hG) rfl (gr_6_5 hG) ?_
        refine xv_callV0 (As := []) dX0_monthsUntilAllowed_59 cl_X0_87 rfl rfl rfl rfl (go_175 hG) rfl rfl (Nat.le_of_ble_eq_true rfl) (Nat.le_of_ble_eq_true rfl) (Nat.zero_le _) (Nat.zero_le _) ?_
        refine s7_grow (go_175 hG) ?_
        refine xv_iinc dX0_monthsUntilAllowed_62 rfl (xv_inc _) (Nat.le_of_ble_eq_true rfl) rfl ?_
        refine xv_goto (tgt := 27) dX0_monthsUntilAllowed_65 rfl ?_
        have hk2 : ¬ (fun k => al_P I nt szf (go_o (J (200 + 4 * i + 1) 0) (I (200 + 4 * i + 1) 2) k) (go_d (J (200 + 4 * i + 1) 0) (J (200 + 4 * i + 1) 1) (I (200 + 4 * i + 1) 2) (I (200 + 4 * i + 1) 3) k) (I (200 + 4 * i + 1) 3) (I (200 + 4 * i + 1) 4) (nI (mo + k)) (I (200 + 4 * i) 0)) k := fun q => c_50 (hcn.mpr q)
        rw [xfst_n hk2] at hQ
        refine ih (k + 1) _ _ (by omega) ⟨fun b h5 h6 => ?_, fun b h5 h6 => ?_, ?_, ?_, ?_, ?_, ?_⟩ hQ
        · rw [hfi b h6]; exact hgi b h5 h6
        · rw [xv_uj_ne h5, xv_uj_ne h5, hfj b h6]; exact hgj b h5 h6
        · rw [xv_uj_o (by decide), xv_uj_s, hfj 175 (by decide), hfi 175 (by decide), g0, g2]; rfl
        · rw [xv_uj_s, hfj 175 (by decide), hfi 175 (by decide), g0, g1, g2, g3]; rfl
        · rw [hfi 175 (by decide)]; exact g2
        · rw [hfi 175 (by decide)]; exact g3
        · rw [hfi 175 (by decide)]; exact g4
      · refine xv_iload_n dX0_monthsUntilAllowed_53 rfl rfl ?_
        refine xv_iret dX0_monthsUntilAllowed_54 rfl (Nat.zero_le _) (Nat.zero_le _) ?_
        rw [xfst_y (show (fun k => al_P I nt szf (go_o (J (200 + 4 * i + 1) 0) (I (200 + 4 * i + 1) 2) k) (go_d (J (200 + 4 * i + 1) 0) (J (200 + 4 * i + 1) 1) (I (200 + 4 * i + 1) 2) (I (200 + 4 * i + 1) 3) k) (I (200 + 4 * i + 1) 3) (I (200 + 4 * i + 1) 4) (nI (mo + k)) (I (200 + 4 * i) 0)) k from hcn.mp c_50)] at hQ
        exact hQ _ _ (fun b h5 h6 => by rw [hfi b h6]; exact hgi b h5 h6) (fun b h5 h6 => by rw [hfj b h6]; exact hgj b h5 h6)

theorem s0_monthsUntil {l : Launch} {D : va_G} {d : Nat} {G : xv_Gr} {I : xv_I} {J : xv_J} {Q : xv_Po} (hG : xg_ok G) {nl nt : Nat} (hD : xg_dy G nl nt) (hnl : I 6 1 = nI nl) (hl8 : nl ≤ 8) (hnt2 : I 6 2 = nI nt) (ht4 : nt ≤ 4) {mo : Nat} (hmo : I 6 0 = nI mo) (hm5 : mo ≤ 599) {szf : Nat → Nat} (hsf : ∀ t, t < nt → I (300 + 2 * t) 1 = nI (szf t) ∧ szf t ≤ 60) (hwf : ∀ t, t < nt → I (300 + 2 * t) 2 = -900009 → vs_wf (I (300 + 2 * t + 1)) (szf t)) (hpp : ∀ i, i < nl → 0 < I (200 + 4 * i + 1) 3) (hww : ∀ i, i < nl → narrow .boolean (.int (I (200 + 4 * i + 1) 4)) = .int (I (200 + 4 * i + 1) 4) ∧ fits .boolean (.int (I (200 + 4 * i + 1) 4)) = true) {i : Nat} (hi : i < nl) (hQ : ∀ I2 J2, gf_ I I2 → gf_ J J2 → Q (some (.int (xfst (fun k => al_P I nt szf (go_o (J (200 + 4 * i + 1) 0) (I (200 + 4 * i + 1) 2) k) (go_d (J (200 + 4 * i + 1) 0) (J (200 + 4 * i + 1) 1) (I (200 + 4 * i + 1) 2) (I (200 + 4 * i + 1) 3) k) (I (200 + 4 * i + 1) 3) (I (200 + 4 * i + 1) 4) (nI (mo + k)) (I (200 + 4 * i) 0)) (fun k => nI k) (-900009) ((if 599 - mo < 120 then 599 - mo else 120) + 1) 0))) G I2 J2) : xv_Ev l D (d + 5) mX0_monthsUntilAllowed none 0 [some (.ref 6), some (.ref (200 + 4 * i)), none, none] [] G I J 0 0 Q := by
  refine xv_aload_n dX0_monthsUntilAllowed_0 rfl rfl ?_
  refine xv_getr dX0_monthsUntilAllowed_1 fl_X0_36 (go_6 hG) rfl (gr_6_5 hG) ?_
  refine xv_aload_n dX0_monthsUntilAllowed_4 rfl rfl ?_
  refine xv_getr dX0_monthsUntilAllowed_5 fl_X0_67 (hD.1 i hi).2.1 rfl (hD.1 i hi).2.2.1 ?_
  refine xv_callV0 (As := [_]) dX0_monthsUntilAllowed_8 cl_X0_77 rfl rfl rfl rfl (go_175 hG) rfl rfl (Nat.le_of_ble_eq_true rfl) (Nat.le_of_ble_eq_true rfl) (Nat.zero_le _) (Nat.zero_le _) ?_
  refine s7_copy (go_175 hG) (hD.1 i hi).2.2.2.1 (by omega) (hww i hi) ?_
  refine xv_bipush (v := nI 120) dX0_monthsUntilAllowed_11 rfl ?_
  refine xv_sipush (v := nI 599) dX0_monthsUntilAllowed_13 rfl ?_
  refine xv_aload_n dX0_monthsUntilAllowed_16 rfl rfl ?_
  refine xv_geti dX0_monthsUntilAllowed_17 fl_X0_9 (go_6 hG) rfl ?_
  refine xv_nmI hmo ?_
  refine xv_isub dX0_monthsUntilAllowed_20 ?_
  refine xv_nmI (pk_sub (by omega)) ?_
  refine xv_minI dX0_monthsUntilAllowed_21 ml_X0_81 ms_J9_min_7cf53 my_min mi_J9 (Nat.le_of_ble_eq_true rfl) (Nat.zero_le _) (Nat.zero_le _) ?_
  have em : (if nI (599 - mo) < nI 120 then nI (599 - mo) else nI 120) = nI (if 599 - mo < 120 then 599 - mo else 120) := by
    by_cases q : 599 - mo < 120
    · rw [if_pos q, if_pos ((nI_ltI (by omega) (by omega)).mpr q)]
    · rw [if_neg q, if_neg (fun z => q ((nI_ltI (by omega) (by omega)).mp z))]
  refine xv_nmI em ?_
  refine xv_istore_n dX0_monthsUntilAllowed_24 rfl (Nat.le_of_ble_eq_true rfl) rfl ?_
  refine xv_iconst (v := 0) dX0_monthsUntilAllowed_25 rfl ?_
  refine xv_istore_n dX0_monthsUntilAllowed_26 rfl (Nat.le_of_ble_eq_true rfl) rfl ?_
  refine s0_mu_l hG hD hnl hl8 hnt2 ht4 hmo hm5 hsf hwf hpp (ms := (if 599 - mo < 120 then 599 - mo else 120)) hi (by split <;> omega) ((if 599 - mo < 120 then 599 - mo else 120) + 1) 0 (xv_ui (xv_ui (xv_ui I 175 2 (I (200 + 4 * i + 1) 2)) 175 3 (I (200 + 4 * i + 1) 3)) 175 4 (I (200 + 4 * i + 1) 4)) (xv_uj (xv_uj J 175 0 (J (200 + 4 * i + 1) 0)) 175 1 (J (200 + 4 * i + 1) 1)) (by omega) ⟨fun b h5 h6 => ?_, fun b h5 h6 => ?_, ?_, ?_, ?_, ?_, ?_⟩ hQ
  · rw [xv_ui_ne h5, xv_ui_ne h5, xv_ui_ne h5]
  · rw [xv_uj_ne h5, xv_uj_ne h5]
  · rw [xv_uj_o (by decide), xv_uj_s]; rfl
  · rw [xv_uj_s]; rfl
  · rw [xv_ui_o (by decide), xv_ui_o (by decide), xv_ui_s]
  · rw [xv_ui_o (by decide), xv_ui_s]
  · rw [xv_ui_s]

theorem s10_soon {l : Launch} {D : va_G} {d : Nat} {G : xv_Gr} {I : xv_I} {J : xv_J} {Q : xv_Po} (hG : xg_ok G) {nl nt : Nat} (hD : xg_dy G nl nt) (hnl : I 6 1 = nI nl) (hl8 : nl ≤ 8) (hnt2 : I 6 2 = nI nt) (ht4 : nt ≤ 4) {mo : Nat} (hmo : I 6 0 = nI mo) (hm5 : mo ≤ 599) {szf : Nat → Nat} (hsf : ∀ t, t < nt → I (300 + 2 * t) 1 = nI (szf t) ∧ szf t ≤ 60) (hwf : ∀ t, t < nt → I (300 + 2 * t) 2 = -900009 → vs_wf (I (300 + 2 * t + 1)) (szf t)) (hpp : ∀ i, i < nl → 0 < I (200 + 4 * i + 1) 3) {x : Int32} (hww : ∀ i, i < nl → narrow .boolean (.int (I (200 + 4 * i + 1) 4)) = .int (I (200 + 4 * i + 1) 4) ∧ fits .boolean (.int (I (200 + 4 * i + 1) 4)) = true) (h1 : ¬ (0 ≤ x ∧ x < nI nl) → Q (some (.int (-900001))) G I J) (h2 : ∀ i, i < nl → x = nI i → ¬ I (200 + 4 * i) 2 = 1 → Q (some (.int (-900003))) G I J) (h3 : ∀ i, i < nl → x = nI i → I (200 + 4 * i) 2 = 1 → ∀ I2 J2, gf_ I I2 → gf_ J J2 → Q (some (.int (xfst (fun k => al_P I nt szf (go_o (J (200 + 4 * i + 1) 0) (I (200 + 4 * i + 1) 2) k) (go_d (J (200 + 4 * i + 1) 0) (J (200 + 4 * i + 1) 1) (I (200 + 4 * i + 1) 2) (I (200 + 4 * i + 1) 3) k) (I (200 + 4 * i + 1) 3) (I (200 + 4 * i + 1) 4) (nI (mo + k)) (I (200 + 4 * i) 0)) (fun k => nI k) (-900009) ((if 599 - mo < 120 then 599 - mo else 120) + 1) 0))) G I2 J2) : xv_Ev l D (d + 6) mX10_soon none 0 [some (.ref 0), some (.int x), none] [] G I J 0 0 Q := by
  refine xv_aload_n dX10_soon_0 rfl rfl ?_
  refine xv_getr dX10_soon_1 fl_X10_47 (go_0 hG) rfl (gr_0_5 hG) ?_
  refine xv_iload_n dX10_soon_4 rfl rfl ?_
  refine xv_callV0 (As := [_]) dX10_soon_5 cl_X10_235 rfl rfl rfl rfl (go_6 hG) rfl rfl (Nat.le_of_ble_eq_true rfl) (Nat.le_of_ble_eq_true rfl) (Nat.zero_le _) (Nat.zero_le _) ?_
  refine s0_loanOf hG hD hnl hl8 (fun h => ?_) (fun i hi e => ?_)
  · refine xv_astore_nN dX10_soon_8 rfl (Nat.le_of_ble_eq_true rfl) rfl ?_
    refine xv_aload_nN dX10_soon_9 rfl rfl ?_
    refine xv_ifnonnullN dX10_soon_10 ?_
    refine xv_ldc dX10_soon_13 ld_X10_75 ?_
    refine xv_iret dX10_soon_15 rfl (Nat.zero_le _) (Nat.zero_le _) ?_
    exact h1 h
  · subst e
    refine xv_astore_n dX10_soon_8 rfl (Nat.le_of_ble_eq_true rfl) rfl ?_
    refine xv_aload_n dX10_soon_9 rfl rfl ?_
    refine xv_ifnonnull (tgt := 16) dX10_soon_10 rfl ?_
    refine xv_aload_n dX10_soon_16 rfl rfl ?_
    refine xv_callV0 (As := []) dX10_soon_17 cl_X10_239 rfl rfl rfl rfl (hD.1 i hi).2.1 rfl rfl (Nat.le_of_ble_eq_true rfl) (Nat.le_of_ble_eq_true rfl) (Nat.zero_le _) (Nat.zero_le _) ?_
    refine s4_isOpen (hD.1 i hi).2 ?_
    refine xv_if_eqP (tgt := 34) dX10_soon_20 rfl (fun c_20 => ?_) (fun c_20 => ?_)
    · refine xv_ldc dX10_soon_34 ld_X10_90 ?_
      refine xv_iret dX10_soon_36 rfl (Nat.zero_le _) (Nat.zero_le _) ?_
      exact h2 i hi rfl c_20
    · refine xv_aload_n dX10_soon_23 rfl rfl ?_
      refine xv_getr dX10_soon_24 fl_X10_47 (go_0 hG) rfl (gr_0_5 hG) ?_
      refine xv_aload_n dX10_soon_27 rfl rfl ?_
      refine xv_callV0 (As := [_]) dX10_soon_28 cl_X10_312 rfl rfl rfl rfl (go_6 hG) rfl rfl (Nat.le_of_ble_eq_true rfl) (Nat.le_of_ble_eq_true rfl) (Nat.zero_le _) (Nat.zero_le _) ?_
      refine s0_monthsUntil hG hD hnl hl8 hnt2 ht4 hmo hm5 hsf hwf hpp hww hi (fun I2 J2 hgi hgj => ?_)
      · refine xv_goto (tgt := 36) dX10_soon_31 rfl ?_
        refine xv_iret dX10_soon_36 rfl (Nat.zero_le _) (Nat.zero_le _) ?_
        exact h3 i hi rfl c_20 _ _ hgi hgj
