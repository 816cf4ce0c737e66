/-! boards (class): cheapestSort, shortestRest -/
def ob_ (z : Int32) : Option Nat → Int32
  | none => z
  | some j => nI j
/-- the first least: of those k < n with R k, the first whose W is least -/
def fl_c (R : Nat → Prop) (W : Nat → Int32) (k : Nat) (b : Option Nat) : Prop := R k ∧ ∀ j, b = some j → W k < W j
noncomputable def fl_ (R : Nat → Prop) (W : Nat → Int32) : Nat → Option Nat
  | 0 => none
  | k + 1 => @ite _ (fl_c R W k (fl_ R W k)) (Classical.propDecidable _) (some k) (fl_ R W k)
theorem fl_y {R : Nat → Prop} {W : Nat → Int32} {k : Nat} (h : fl_c R W k (fl_ R W k)) : fl_ R W (k + 1) = some k := by rw [fl_, if_pos h]
theorem fl_n {R : Nat → Prop} {W : Nat → Int32} {k : Nat} (h : ¬ fl_c R W k (fl_ R W k)) : fl_ R W (k + 1) = fl_ R W k := by rw [fl_, if_neg h]
theorem fl_lt {R : Nat → Prop} {W : Nat → Int32} : ∀ {k j : Nat}, fl_ R W k = some j → j < k ∧ R j
  | 0, j, h => by cases h
  | k + 1, j, h => by
    by_cases q : fl_c R W k (fl_ R W k)
    · rw [fl_y q] at h; cases h; exact ⟨by omega, q.1⟩
    · rw [fl_n q] at h
      have := fl_lt h
      exact ⟨by omega, this.2⟩
theorem s2_cs_l {l : Launch} {D : va_G} {d : Nat} {G : xv_Gr} {I : xv_I} {J : xv_J} {Q : xv_Po} (hG : xg_ok G) {x : Int32} (hQ : Q (some (.int (ob_ (-1) (fl_ (fun k => x ≤ I 130 k) (I 131) 4)))) G I J) : ∀ (n s : Nat), s + n = 4 → xv_Ev l D d mX2_cheapestSort none 4 [some (.ref 3), some (.int x), some (.int (ob_ (-1) (fl_ (fun k => x ≤ I 130 k) (I 131) s))), some (.int (nI s))] [] G I J 0 0 Q := by
  intro n
  induction n with
  | zero =>
    intro s hs
    refine xv_iload_n dX2_cheapestSort_4 rfl rfl ?_
    refine xv_iconst (v := nI 4) dX2_cheapestSort_5 rfl ?_
    refine xv_icmp_geN (tgt := 46) dX2_cheapestSort_6 rfl (by omega) (by omega) (fun c_6 => ?_) (fun c_6 => absurd c_6 (by omega))
    refine xv_iload_n dX2_cheapestSort_46 rfl rfl ?_
    refine xv_iret dX2_cheapestSort_47 rfl (Nat.zero_le _) (Nat.zero_le _) ?_
    have e : s = 4 := by omega
    subst e
    exact hQ
  | succ n ih =>
    intro s hs
    cases e : fl_ (fun k => x ≤ I 130 k) (I 131) s with
    | none =>
      show xv_Ev l D d mX2_cheapestSort none 4 [some (.ref 3), some (.int x), some (.int (-1)), some (.int (nI s))] [] G I J 0 0 Q
      refine xv_iload_n dX2_cheapestSort_4 rfl rfl ?_
      refine xv_iconst (v := nI 4) dX2_cheapestSort_5 rfl ?_
      refine xv_icmp_geN (tgt := 46) dX2_cheapestSort_6 rfl (by omega) (by omega) (fun c_6 => absurd c_6 (by omega)) (fun c_6 => ?_)
      refine xv_aload_n dX2_cheapestSort_9 rfl rfl ?_
      refine xv_getr dX2_cheapestSort_10 fl_X2_9 (go_3 hG) rfl (gr_3_0 hG) ?_
      refine xv_iload_n dX2_cheapestSort_13 rfl rfl ?_
      refine xv_iaload dX2_cheapestSort_14 (go_130 hG) (xv_ixn (by omega) (by decide)) ?_
      refine xv_iload_n dX2_cheapestSort_15 rfl rfl ?_
      refine xv_icmp_lt (tgt := 40) dX2_cheapestSort_16 rfl (fun c_16 => ?_) (fun c_16 => ?_)
      · refine xv_iinc dX2_cheapestSort_40 rfl (xv_inc _) (Nat.le_of_ble_eq_true rfl) rfl ?_
        refine xv_goto (tgt := 4) dX2_cheapestSort_43 rfl ?_
        have hc : ¬ fl_c (fun k => x ≤ I 130 k) (I 131) s (fl_ (fun k => x ≤ I 130 k) (I 131) s) := fun h => absurd h.1 (by simp only [xn_lt, xn_le] at *; omega)
        have h := ih (s + 1) (by omega)
        rw [fl_n hc, e] at h
        exact h
      · refine xv_iload_n dX2_cheapestSort_19 rfl rfl ?_
        refine xv_if_lt (tgt := 38) dX2_cheapestSort_20 rfl (fun c_20 => ?_) (fun c_20 => absurd (by decide) c_20)
        refine xv_iload_n dX2_cheapestSort_38 rfl rfl ?_
        refine xv_istore_n dX2_cheapestSort_39 rfl (Nat.le_of_ble_eq_true rfl) rfl ?_
        refine xv_iinc dX2_cheapestSort_40 rfl (xv_inc _) (Nat.le_of_ble_eq_true rfl) rfl ?_
        refine xv_goto (tgt := 4) dX2_cheapestSort_43 rfl ?_
        have hc : fl_c (fun k => x ≤ I 130 k) (I 131) s (fl_ (fun k => x ≤ I 130 k) (I 131) s) := ⟨by simp only [xn_lt, xn_le] at *; omega, fun j hj => by rw [e] at hj; cases hj⟩
        have h := ih (s + 1) (by omega)
        rw [fl_y hc] at h
        exact h
    | some q =>
      have hq := (fl_lt e).1
      show xv_Ev l D d mX2_cheapestSort none 4 [some (.ref 3), some (.int x), some (.int (nI q)), some (.int (nI s))] [] G I J 0 0 Q
      refine xv_iload_n dX2_cheapestSort_4 rfl rfl ?_
      refine xv_iconst (v := nI 4) dX2_cheapestSort_5 rfl ?_
      refine xv_icmp_geN (tgt := 46) dX2_cheapestSort_6 rfl (by omega) (by omega) (fun c_6 => absurd c_6 (by omega)) (fun c_6 => ?_)
      refine xv_aload_n dX2_cheapestSort_9 rfl rfl ?_
      refine xv_getr dX2_cheapestSort_10 fl_X2_9 (go_3 hG) rfl (gr_3_0 hG) ?_
      refine xv_iload_n dX2_cheapestSort_13 rfl rfl ?_
      refine xv_iaload dX2_cheapestSort_14 (go_130 hG) (xv_ixn (by omega) (by decide)) ?_
      refine xv_iload_n dX2_cheapestSort_15 rfl rfl ?_
      refine xv_icmp_lt (tgt := 40) dX2_cheapestSort_16 rfl (fun c_16 => ?_) (fun c_16 => ?_)
      · refine xv_iinc dX2_cheapestSort_40 rfl (xv_inc _) (Nat.le_of_ble_eq_true rfl) rfl ?_
        refine xv_goto (tgt := 4) dX2_cheapestSort_43 rfl ?_
        have hc : ¬ fl_c (fun k => x ≤ I 130 k) (I 131) s (fl_ (fun k => x ≤ I 130 k) (I 131) s) := fun h => absurd h.1 (by simp only [xn_lt, xn_le] at *; omega)
        have h := ih (s + 1) (by omega)
        rw [fl_n hc, e] at h
        exact h
      · refine xv_iload_n dX2_cheapestSort_19 rfl rfl ?_
        refine xv_if_lt (tgt := 38) dX2_cheapestSort_20 rfl (fun c_20 => absurd c_20 (by simp only [xn_lt, nI_toInt (show q < 2 ^ 31 by omega), Int32.reduceToInt]; omega)) (fun c_20 => ?_)
        refine xv_aload_n dX2_cheapestSort_23 rfl rfl ?_
        refine xv_getr dX2_cheapestSort_24 fl_X2_15 (go_3 hG) rfl (gr_3_1 hG) ?_
        refine xv_iload_n dX2_cheapestSort_27 rfl rfl ?_
        refine xv_iaload dX2_cheapestSort_28 (go_131 hG) (xv_ixn (by omega) (by decide)) ?_
        refine xv_aload_n dX2_cheapestSort_29 rfl rfl ?_
        refine xv_getr dX2_cheapestSort_30 fl_X2_15 (go_3 hG) rfl (gr_3_1 hG) ?_
        refine xv_iload_n dX2_cheapestSort_33 rfl rfl ?_
        refine xv_iaload dX2_cheapestSort_34 (go_131 hG) (xv_ixn (by omega) (by decide)) ?_
        refine xv_icmp_ge (tgt := 40) dX2_cheapestSort_35 rfl (fun c_35 => ?_) (fun c_35 => ?_)
        · refine xv_iinc dX2_cheapestSort_40 rfl (xv_inc _) (Nat.le_of_ble_eq_true rfl) rfl ?_
          refine xv_goto (tgt := 4) dX2_cheapestSort_43 rfl ?_
          have hc : ¬ fl_c (fun k => x ≤ I 130 k) (I 131) s (fl_ (fun k => x ≤ I 130 k) (I 131) s) := fun h => absurd (h.2 q e) (by simp only [xn_lt, xn_le] at *; omega)
          have h := ih (s + 1) (by omega)
          rw [fl_n hc, e] at h
          exact h
        · refine xv_iload_n dX2_cheapestSort_38 rfl rfl ?_
          refine xv_istore_n dX2_cheapestSort_39 rfl (Nat.le_of_ble_eq_true rfl) rfl ?_
          refine xv_iinc dX2_cheapestSort_40 rfl (xv_inc _) (Nat.le_of_ble_eq_true rfl) rfl ?_
          refine xv_goto (tgt := 4) dX2_cheapestSort_43 rfl ?_
          have hc : fl_c (fun k => x ≤ I 130 k) (I 131) s (fl_ (fun k => x ≤ I 130 k) (I 131) s) := ⟨by simp only [xn_lt, xn_le] at *; omega, fun j hj => by rw [e] at hj; cases hj; simp only [xn_lt, xn_le] at *; omega⟩
          have h := ih (s + 1) (by omega)
          rw [fl_y hc] at h
          exact h

theorem s2_cheapestSort {l : Launch} {D : va_G} {d : Nat} {G : xv_Gr} {I : xv_I} {J : xv_J} {Q : xv_Po} (hG : xg_ok G) {x : Int32} (hQ : Q (some (.int (ob_ (-1) (fl_ (fun k => x ≤ I 130 k) (I 131) 4)))) G I J) : xv_Ev l D d mX2_cheapestSort none 0 [some (.ref 3), some (.int x), none, none] [] G I J 0 0 Q := by
  refine xv_iconst (v := -1) dX2_cheapestSort_0 rfl ?_
  refine xv_istore_n dX2_cheapestSort_1 rfl (Nat.le_of_ble_eq_true rfl) rfl ?_
  refine xv_iconst (v := nI 0) dX2_cheapestSort_2 rfl ?_
  refine xv_istore_n dX2_cheapestSort_3 rfl (Nat.le_of_ble_eq_true rfl) rfl ?_
  exact s2_cs_l hG hQ 4 0 (by omega)

theorem s2_sr_l {l : Launch} {D : va_G} {d : Nat} {G : xv_Gr} {I : xv_I} {J : xv_J} {Q : xv_Po} (hG : xg_ok G) {us : Nat} (hu : I 3 6 = nI us) (hu2 : us ≤ 12) {x : Int32} (hQ : Q (some (.int (ob_ (-900009) (fl_ (fun k => x ≤ I 139 k) (I 139) us)))) G I J) : ∀ (n s : Nat), s + n = us → xv_Ev l D d mX2_shortestRest none 5 [some (.ref 3), some (.int x), some (.int (ob_ (-900009) (fl_ (fun k => x ≤ I 139 k) (I 139) s))), some (.int (nI s))] [] G I J 0 0 Q := by
  intro n
  induction n with
  | zero =>
    intro s hs
    refine xv_iload_n dX2_shortestRest_5 rfl rfl ?_
    refine xv_aload_n dX2_shortestRest_6 rfl rfl ?_
    refine xv_geti dX2_shortestRest_7 fl_X2_32 (go_3 hG) rfl ?_
    refine xv_nmI hu ?_
    refine xv_icmp_geN (tgt := 52) dX2_shortestRest_10 rfl (by omega) (by omega) (fun c_10 => ?_) (fun c_10 => absurd c_10 (by omega))
    refine xv_iload_n dX2_shortestRest_52 rfl rfl ?_
    refine xv_iret dX2_shortestRest_53 rfl (Nat.zero_le _) (Nat.zero_le _) ?_
    have e : us = s := by omega
    subst e
    exact hQ
  | succ n ih =>
    intro s hs
    cases e : fl_ (fun k => x ≤ I 139 k) (I 139) s with
    | none =>
      show xv_Ev l D d mX2_shortestRest none 5 [some (.ref 3), some (.int x), some (.int (-900009)), some (.int (nI s))] [] G I J 0 0 Q
      refine xv_iload_n dX2_shortestRest_5 rfl rfl ?_
      refine xv_aload_n dX2_shortestRest_6 rfl rfl ?_
      refine xv_geti dX2_shortestRest_7 fl_X2_32 (go_3 hG) rfl ?_
      refine xv_nmI hu ?_
      refine xv_icmp_geN (tgt := 52) dX2_shortestRest_10 rfl (by omega) (by omega) (fun c_10 => absurd c_10 (by omega)) (fun c_10 => ?_)
      refine xv_aload_n dX2_shortestRest_13 rfl rfl ?_
      refine xv_getr dX2_shortestRest_14 fl_X2_41 (go_3 hG) rfl (gr_3_9 hG) ?_
      refine xv_iload_n dX2_shortestRest_17 rfl rfl ?_
      refine xv_iaload dX2_shortestRest_18 (go_139 hG) (xv_ixn (by omega) (by decide)) ?_
      refine xv_iload_n dX2_shortestRest_19 rfl rfl ?_
      refine xv_icmp_lt (tgt := 46) dX2_shortestRest_20 rfl (fun c_20 => ?_) (fun c_20 => ?_)
      · refine xv_iinc dX2_shortestRest_46 rfl (xv_inc _) (Nat.le_of_ble_eq_true rfl) rfl ?_
        refine xv_goto (tgt := 5) dX2_shortestRest_49 rfl ?_
        have hc : ¬ fl_c (fun k => x ≤ I 139 k) (I 139) s (fl_ (fun k => x ≤ I 139 k) (I 139) s) := fun h => absurd h.1 (by simp only [xn_lt, xn_le] at *; omega)
        have h := ih (s + 1) (by omega)
        rw [fl_n hc, e] at h
        exact h
      · refine xv_iload_n dX2_shortestRest_23 rfl rfl ?_
        refine xv_ldc dX2_shortestRest_24 ld_X2_70 ?_
        refine xv_icmp_eq (tgt := 44) dX2_shortestRest_26 rfl (fun c_26 => ?_) (fun c_26 => absurd rfl c_26)
        refine xv_iload_n dX2_shortestRest_44 rfl rfl ?_
        refine xv_istore_n dX2_shortestRest_45 rfl (Nat.le_of_ble_eq_true rfl) rfl ?_
        refine xv_iinc dX2_shortestRest_46 rfl (xv_inc _) (Nat.le_of_ble_eq_true rfl) rfl ?_
        refine xv_goto (tgt := 5) dX2_shortestRest_49 rfl ?_
        have hc : fl_c (fun k => x ≤ I 139 k) (I 139) s (fl_ (fun k => x ≤ I 139 k) (I 139) s) := ⟨by simp only [xn_lt, xn_le] at *; omega, fun j hj => by rw [e] at hj; cases hj⟩
        have h := ih (s + 1) (by omega)
        rw [fl_y hc] at h
        exact h
    | some q =>
      have hq := (fl_lt e).1
      show xv_Ev l D d mX2_shortestRest none 5 [some (.ref 3), some (.int x), some (.int (nI q)), some (.int (nI s))] [] G I J 0 0 Q
      refine xv_iload_n dX2_shortestRest_5 rfl rfl ?_
      refine xv_aload_n dX2_shortestRest_6 rfl rfl ?_
      refine xv_geti dX2_shortestRest_7 fl_X2_32 (go_3 hG) rfl ?_
      refine xv_nmI hu ?_
      refine xv_icmp_geN (tgt := 52) dX2_shortestRest_10 rfl (by omega) (by omega) (fun c_10 => absurd c_10 (by omega)) (fun c_10 => ?_)
      refine xv_aload_n dX2_shortestRest_13 rfl rfl ?_
      refine xv_getr dX2_shortestRest_14 fl_X2_41 (go_3 hG) rfl (gr_3_9 hG) ?_
      refine xv_iload_n dX2_shortestRest_17 rfl rfl ?_
      refine xv_iaload dX2_shortestRest_18 (go_139 hG) (xv_ixn (by omega) (by decide)) ?_
      refine xv_iload_n dX2_shortestRest_19 rfl rfl ?_
      refine xv_icmp_lt (tgt := 46) dX2_shortestRest_20 rfl (fun c_20 => ?_) (fun c_20 => ?_)
      · refine xv_iinc dX2_shortestRest_46 rfl (xv_inc _) (Nat.le_of_ble_eq_true rfl) rfl ?_
        refine xv_goto (tgt := 5) dX2_shortestRest_49 rfl ?_
        have hc : ¬ fl_c (fun k => x ≤ I 139 k) (I 139) s (fl_ (fun k => x ≤ I 139 k) (I 139) s) := fun h => absurd h.1 (by simp only [xn_lt, xn_le] at *; omega)
        have h := ih (s + 1) (by omega)
        rw [fl_n hc, e] at h
        exact h
      · refine xv_iload_n dX2_shortestRest_23 rfl rfl ?_
        refine xv_ldc dX2_shortestRest_24 ld_X2_70 ?_
        refine xv_icmp_eq (tgt := 44) dX2_shortestRest_26 rfl (fun c_26 => absurd c_26 (nI_nb (by omega))) (fun c_26 => ?_)
        refine xv_aload_n dX2_shortestRest_29 rfl rfl ?_
        refine xv_getr dX2_shortestRest_30 fl_X2_41 (go_3 hG) rfl (gr_3_9 hG) ?_
        refine xv_iload_n dX2_shortestRest_33 rfl rfl ?_
        refine xv_iaload dX2_shortestRest_34 (go_139 hG) (xv_ixn (by omega) (by decide)) ?_
        refine xv_aload_n dX2_shortestRest_35 rfl rfl ?_
        refine xv_getr dX2_shortestRest_36 fl_X2_41 (go_3 hG) rfl (gr_3_9 hG) ?_
        refine xv_iload_n dX2_shortestRest_39 rfl rfl ?_
        refine xv_iaload dX2_shortestRest_40 (go_139 hG) (xv_ixn (by omega) (by decide)) ?_
        refine xv_icmp_ge (tgt := 46) dX2_shortestRest_41 rfl (fun c_41 => ?_) (fun c_41 => ?_)
        · refine xv_iinc dX2_shortestRest_46 rfl (xv_inc _) (Nat.le_of_ble_eq_true rfl) rfl ?_
          refine xv_goto (tgt := 5) dX2_shortestRest_49 rfl ?_
          have hc : ¬ fl_c (fun k => x ≤ I 139 k) (I 139) s (fl_ (fun k => x ≤ I 139 k) (I 139) s) := fun h => absurd (h.2 q e) (by simp only [xn_lt, xn_le] at *; omega)
          have h := ih (s + 1) (by omega)
          rw [fl_n hc, e] at h
          exact h
        · refine xv_iload_n dX2_shortestRest_44 rfl rfl ?_
          refine xv_istore_n dX2_shortestRest_45 rfl (Nat.le_of_ble_eq_true rfl) rfl ?_
          refine xv_iinc dX2_shortestRest_46 rfl (xv_inc _) (Nat.le_of_ble_eq_true rfl) rfl ?_
          refine xv_goto (tgt := 5) dX2_shortestRest_49 rfl ?_
          have hc : fl_c (fun k => x ≤ I 139 k) (I 139) s (fl_ (fun k => x ≤ I 139 k) (I 139) s) := ⟨by simp only [xn_lt, xn_le] at *; omega, fun j hj => by rw [e] at hj; cases hj; simp only [xn_lt, xn_le] at *; omega⟩
          have h := ih (s + 1) (by omega)
          rw [fl_y hc] at h
          exact h

theorem s2_shortestRest {l : Launch} {D : va_G} {d : Nat} {G : xv_Gr} {I : xv_I} {J : xv_J} {Q : xv_Po} (hG : xg_ok G) {us : Nat} (hu : I 3 6 = nI us) (hu2 : us ≤ 12) {x : Int32} (hQ : Q (some (.int (ob_ (-900009) (fl_ (fun k => x ≤ I 139 k) (I 139) us)))) G I J) : xv_Ev l D d mX2_shortestRest none 0 [some (.ref 3), some (.int x), none, none] [] G I J 0 0 Q := by
  refine xv_ldc dX2_shortestRest_0 ld_X2_70 ?_
  refine xv_istore_n dX2_shortestRest_2 rfl (Nat.le_of_ble_eq_true rfl) rfl ?_
  refine xv_iconst (v := nI 0) dX2_shortestRest_3 rfl ?_
  refine xv_istore_n dX2_shortestRest_4 rfl (Nat.le_of_ble_eq_true rfl) rfl ?_
  exact s2_sr_l hG hu hu2 hQ us 0 (by omega)
