/-! leaning: the model -/
def lm_i (on : Nat → Nat) (s : Nat) : Nat → Nat
  | 0 => s
  | i + 1 => if (lm_i on s i).testBit i then lm_i on s i ||| on i else lm_i on s i
def lm_it (on : Nat → Nat) (np : Nat) : Nat → Nat → Nat
  | 0, s => s
  | k + 1, s => lm_it on np k (lm_i on s np)
theorem lm_i_lt {on : Nat → Nat} {k : Nat} (h : ∀ p, p < 12 → on p < 2 ^ k) {s : Nat} (hs : s < 2 ^ k) : ∀ i, i ≤ 12 → lm_i on s i < 2 ^ k
  | 0, _ => hs
  | i + 1, hi => by
    have ih := lm_i_lt h hs i (by omega)
    simp only [lm_i]
    split
    · exact xor_lt ih (h i (by omega))
    · exact ih
theorem lm_it_lt {on : Nat → Nat} {k np : Nat} (hnp : np ≤ 12) (h : ∀ p, p < 12 → on p < 2 ^ k) : ∀ n s, s < 2 ^ k → lm_it on np n s < 2 ^ k
  | 0, s, hs => hs
  | n + 1, s, hs => lm_it_lt hnp h n _ (lm_i_lt h hs np hnp)
theorem xi_or0 (t : Nat) : nI t ||| 0 = nI t := by
  have h := xi_or t 0
  rw [Nat.or_zero] at h
  exact h
theorem xfst_sp {P : Nat → Prop} : ∀ n i, (∃ k, i ≤ k ∧ k < i + n ∧ P k) → P (xfst P (fun p => p) 0 n i) ∧ xfst P (fun p => p) 0 n i < i + n ∧ ∀ k, i ≤ k → k < xfst P (fun p => p) 0 n i → ¬ P k
  | 0, i, h => by obtain ⟨k, h1, h2, -⟩ := h; exact absurd h2 (by omega)
  | n + 1, i, h => by
    by_cases hp : P i
    · rw [xfst_y hp]
      exact ⟨hp, by omega, fun k h1 h2 => absurd h2 (by omega)⟩
    · rw [xfst_n hp]
      obtain ⟨k, h1, h2, h3⟩ := h
      have hk : k ≠ i := fun e => hp (e ▸ h3)
      obtain ⟨a, b, c⟩ := xfst_sp n (i + 1) ⟨k, by omega, by omega, h3⟩
      refine ⟨a, by omega, fun q h4 h5 => ?_⟩
      rcases Nat.lt_or_ge i q with z | z
      · exact c q (by omega) h5
      · have e : q = i := by omega
        subst e
        exact hp
theorem s11_un_i {l : Launch} {D : va_G} {d : Nat} {G : xv_Gr} {I : xv_I} {J : xv_J} {Q : xv_Po} (hG : xg_ok G) {np : Nat} (hn : I 40 1 = nI np) (hnp : np ≤ 12) {on : Nat → Nat} (ho : ∀ p, p < 12 → I 61 p = nI (on p) ∧ on p < 2 ^ 12) {x : Int32} {s j : Nat} (hs : s < 2 ^ 12) (kk : xv_Ev l D d mX11_under none 59 [some (.ref 40), some (.int x), some (.int (nI (lm_i on s np))), some (.int (nI j)), some (.int (nI np))] [] G I J 0 0 Q) : ∀ (n i : Nat), i + n = np → xv_Ev l D d mX11_under none 20 [some (.ref 40), some (.int x), some (.int (nI (lm_i on s i))), some (.int (nI j)), some (.int (nI i))] [] G I J 0 0 Q := by
  intro n
  induction n with
  | zero =>
    intro i hi
    refine xv_iload dX11_under_20 rfl ?_
    refine xv_aload_n dX11_under_22 rfl rfl ?_
    refine xv_geti dX11_under_23 fl_X11_135 (go_40 hG) rfl ?_
    refine xv_nmI hn ?_
    refine xv_icmp_geN (tgt := 59) dX11_under_26 rfl (by omega) (by omega) (fun c_26 => ?_) (fun c_26 => absurd c_26 (by omega))
    have e : np = i := by omega
    subst e
    exact kk
  | succ n ih =>
    intro i hi
    refine xv_iload dX11_under_20 rfl ?_
    refine xv_aload_n dX11_under_22 rfl rfl ?_
    refine xv_geti dX11_under_23 fl_X11_135 (go_40 hG) rfl ?_
    refine xv_nmI hn ?_
    refine xv_icmp_geN (tgt := 59) dX11_under_26 rfl (by omega) (by omega) (fun c_26 => absurd c_26 (by omega)) (fun c_26 => ?_)
    refine xv_iload_n dX11_under_29 rfl rfl ?_
    refine xv_iload_n dX11_under_30 rfl rfl ?_
    refine xv_iload dX11_under_31 rfl ?_
    refine xv_ishr dX11_under_33 ?_
    refine xv_iconst (v := 1) dX11_under_34 rfl ?_
    refine xv_iand dX11_under_35 ?_
    refine xv_nmI (xi_bit (by have := lm_i_lt (fun p hp => (ho p hp).2) hs i (by omega); omega) (by omega)) ?_
    refine xv_iconst (v := 1) dX11_under_36 rfl ?_
    refine xv_icmp_ne (tgt := 50) dX11_under_37 rfl (fun c_37 => ?_) (fun c_37 => ?_)
    · refine xv_iconst (v := 0) dX11_under_50 rfl ?_
      refine xv_ior dX11_under_51 ?_
      refine xv_nmI (xi_or0 _) ?_
      refine xv_istore_n dX11_under_52 rfl (Nat.le_of_ble_eq_true rfl) rfl ?_
      refine xv_iinc dX11_under_53 rfl (xv_inc _) (Nat.le_of_ble_eq_true rfl) rfl ?_
      refine xv_goto (tgt := 20) dX11_under_56 rfl ?_
      have hb := xt_F1 c_37
      have ih2 := ih (i + 1) (by omega)
      simp only [lm_i, hb, if_true, Bool.false_eq_true, if_false] at ih2
      exact ih2
    · refine xv_aload_n dX11_under_40 rfl rfl ?_
      refine xv_getr dX11_under_41 fl_X11_39 (go_40 hG) rfl (gr_40_11 hG) ?_
      refine xv_iload dX11_under_44 rfl ?_
      refine xv_iaload dX11_under_46 (go_61 hG) (xv_ixn (by omega) (by decide)) ?_
      refine xv_nmI (ho i (by omega)).1 ?_
      refine xv_goto (tgt := 51) dX11_under_47 rfl ?_
      refine xv_ior dX11_under_51 ?_
      refine xv_nmI (xi_or _ _) ?_
      refine xv_istore_n dX11_under_52 rfl (Nat.le_of_ble_eq_true rfl) rfl ?_
      refine xv_iinc dX11_under_53 rfl (xv_inc _) (Nat.le_of_ble_eq_true rfl) rfl ?_
      refine xv_goto (tgt := 20) dX11_under_56 rfl ?_
      have hb := xt_T1 c_37
      have ih2 := ih (i + 1) (by omega)
      simp only [lm_i, hb, if_true, Bool.false_eq_true, if_false] at ih2
      exact ih2

theorem s11_un_l {l : Launch} {D : va_G} {d : Nat} {G : xv_Gr} {I : xv_I} {J : xv_J} {Q : xv_Po} (hG : xg_ok G) {np : Nat} (hn : I 40 1 = nI np) (hnp : np ≤ 12) {on : Nat → Nat} (ho : ∀ p, p < 12 → I 61 p = nI (on p) ∧ on p < 2 ^ 12) {x : Int32} : ∀ (n j s : Nat), j + n = np → s < 2 ^ 12 → Q (some (.int (nI (lm_it on np n s)))) G I J → xv_Ev l D d mX11_under none 9 [some (.ref 40), some (.int x), some (.int (nI s)), some (.int (nI j)), none] [] G I J 0 0 Q := by
  intro n
  induction n with
  | zero =>
    intro j s hi hs hQ
    refine xv_iload_n dX11_under_9 rfl rfl ?_
    refine xv_aload_n dX11_under_10 rfl rfl ?_
    refine xv_geti dX11_under_11 fl_X11_135 (go_40 hG) rfl ?_
    refine xv_nmI hn ?_
    refine xv_icmp_geN (tgt := 65) dX11_under_14 rfl (by omega) (by omega) (fun c_14 => ?_) (fun c_14 => absurd c_14 (by omega))
    refine xv_iload_n dX11_under_65 rfl rfl ?_
    refine xv_iret dX11_under_66 rfl (Nat.zero_le _) (Nat.zero_le _) ?_
    exact hQ
  | succ n ih =>
    intro j s hi hs hQ
    refine xv_iload_n dX11_under_9 rfl rfl ?_
    refine xv_aload_n dX11_under_10 rfl rfl ?_
    refine xv_geti dX11_under_11 fl_X11_135 (go_40 hG) rfl ?_
    refine xv_nmI hn ?_
    refine xv_icmp_geN (tgt := 65) dX11_under_14 rfl (by omega) (by omega) (fun c_14 => absurd c_14 (by omega)) (fun c_14 => ?_)
    refine xv_iconst (v := 0) dX11_under_17 rfl ?_
    refine xv_istore dX11_under_18 (Nat.le_of_ble_eq_true rfl) rfl ?_
    refine s11_un_i hG hn hnp ho hs ?_ np 0 (by omega)
    refine xv_iinc dX11_under_59 rfl (xv_inc _) (Nat.le_of_ble_eq_true rfl) rfl ?_
    refine xv_goto (tgt := 9) dX11_under_62 rfl ?_
    refine xv_fg [true, true, true, true, false] ?_
    exact ih (j + 1) (lm_i on s np) (by omega) (lm_i_lt (fun p hp => (ho p hp).2) hs np hnp) hQ

theorem s11_under {l : Launch} {D : va_G} {d : Nat} {G : xv_Gr} {I : xv_I} {J : xv_J} {Q : xv_Po} (hG : xg_ok G) {np : Nat} (hn : I 40 1 = nI np) (hnp : np ≤ 12) {on : Nat → Nat} (ho : ∀ p, p < 12 → I 61 p = nI (on p) ∧ on p < 2 ^ 12) {x : Int32} {p : Nat} (hx : xv_ix x 12 p) (hp : p < 12) (hQ : Q (some (.int (nI (lm_it on np np (on p))))) G I J) : xv_Ev l D d mX11_under none 0 [some (.ref 40), some (.int x), none, none, none] [] G I J 0 0 Q := by
  refine xv_aload_n dX11_under_0 rfl rfl ?_
  refine xv_getr dX11_under_1 fl_X11_39 (go_40 hG) rfl (gr_40_11 hG) ?_
  refine xv_iload_n dX11_under_4 rfl rfl ?_
  refine xv_iaload dX11_under_5 (go_61 hG) hx ?_
  refine xv_nmI (ho p hp).1 ?_
  refine xv_istore_n dX11_under_6 rfl (Nat.le_of_ble_eq_true rfl) rfl ?_
  refine xv_iconst (v := 0) dX11_under_7 rfl ?_
  refine xv_istore_n dX11_under_8 rfl (Nat.le_of_ble_eq_true rfl) rfl ?_
  exact s11_un_l hG hn hnp ho np 0 (on p) (by omega) (ho p hp).2 hQ

theorem s11_on_l {l : Launch} {D : va_G} {d : Nat} {G : xv_Gr} {I : xv_I} {J : xv_J} {Q : xv_Po} {s : Nat} (hs : s < 2 ^ 31) (hQ : Q (some (.int (nI (xpc s 16)))) G I J) : ∀ (n i : Nat), i + n = 16 → xv_Ev l D d mX11_ones none 4 [some (.int (nI s)), some (.int (nI (xpc s i))), some (.int (nI i))] [] G I J 0 0 Q := by
  intro n
  induction n with
  | zero =>
    intro i hi
    refine xv_iload_n dX11_ones_4 rfl rfl ?_
    refine xv_bipush (v := nI 16) dX11_ones_5 rfl ?_
    refine xv_icmp_geN (tgt := 24) dX11_ones_7 rfl (by omega) (by omega) (fun c_7 => ?_) (fun c_7 => absurd c_7 (by omega))
    refine xv_iload_n dX11_ones_24 rfl rfl ?_
    refine xv_iret dX11_ones_25 rfl (Nat.zero_le _) (Nat.zero_le _) ?_
    have e : i = 16 := by omega
    subst e
    exact hQ
  | succ n ih =>
    intro i hi
    refine xv_iload_n dX11_ones_4 rfl rfl ?_
    refine xv_bipush (v := nI 16) dX11_ones_5 rfl ?_
    refine xv_icmp_geN (tgt := 24) dX11_ones_7 rfl (by omega) (by omega) (fun c_7 => absurd c_7 (by omega)) (fun c_7 => ?_)
    refine xv_iload_n dX11_ones_10 rfl rfl ?_
    refine xv_iload_n dX11_ones_11 rfl rfl ?_
    refine xv_iload_n dX11_ones_12 rfl rfl ?_
    refine xv_ishr dX11_ones_13 ?_
    refine xv_iconst (v := 1) dX11_ones_14 rfl ?_
    refine xv_iand dX11_ones_15 ?_
    refine xv_nmI (xi_bit (by omega) (by omega)) ?_
    refine xv_iadd dX11_ones_16 ?_
    refine xv_nmI (nI_add _ _) ?_
    refine xv_istore_n dX11_ones_17 rfl (Nat.le_of_ble_eq_true rfl) rfl ?_
    refine xv_iinc dX11_ones_18 rfl (xv_inc _) (Nat.le_of_ble_eq_true rfl) rfl ?_
    refine xv_goto (tgt := 4) dX11_ones_21 rfl ?_
    exact ih (i + 1) (by omega)

theorem s11_ones {l : Launch} {D : va_G} {d : Nat} {G : xv_Gr} {I : xv_I} {J : xv_J} {Q : xv_Po} {s : Nat} (hs : s < 2 ^ 31) (hQ : Q (some (.int (nI (xpc s 16)))) G I J) : xv_Ev l D d mX11_ones none 0 [some (.int (nI s)), none, none] [] G I J 0 0 Q := by
  refine xv_iconst (v := 0) dX11_ones_0 rfl ?_
  refine xv_istore_n dX11_ones_1 rfl (Nat.le_of_ble_eq_true rfl) rfl ?_
  refine xv_iconst (v := 0) dX11_ones_2 rfl ?_
  refine xv_istore_n dX11_ones_3 rfl (Nat.le_of_ble_eq_true rfl) rfl ?_
  exact s11_on_l hs hQ 16 0 (by omega)

theorem s11_below {l : Launch} {D : va_G} {d : Nat} {G : xv_Gr} {I : xv_I} {J : xv_J} {Q : xv_Po} (hG : xg_ok G) {np : Nat} (hn : I 40 1 = nI np) (hnp : np ≤ 12) {on : Nat → Nat} (ho : ∀ p, p < 12 → I 61 p = nI (on p) ∧ on p < 2 ^ 12) {x : Int32} (h1 : ¬ (0 ≤ x ∧ x < nI np) → Q (some (.int (-900001))) G I J) (h2 : ∀ j, j < np → x = nI j → Q (some (.int (nI (xpc (lm_it on np np (on j)) 16)))) G I J) : xv_Ev l D (d + 2) mX11_below none 0 [some (.ref 40), some (.int x)] [] G I J 0 0 Q := by
  have hnt : (nI np).toInt = (np : Int) := nI_toInt (by omega)
  refine xv_aload_n dX11_below_0 rfl rfl ?_
  refine xv_iload_n dX11_below_1 rfl rfl ?_
  refine xv_callV0 (As := [_]) dX11_below_2 cl_X11_139 rfl rfl rfl rfl (go_40 hG) rfl rfl (Nat.le_of_ble_eq_true rfl) (Nat.le_of_ble_eq_true rfl) (Nat.zero_le _) (Nat.zero_le _) ?_
  refine s11_isPiece hG hn hnp ?_
  refine xv_if_eqD (tgt := 19) dX11_below_5 rfl (fun c_5 => ?_) (fun c_5 => ?_)
  · refine xv_ldc dX11_below_19 ld_X11_143 ?_
    refine xv_iret dX11_below_21 rfl (Nat.zero_le _) (Nat.zero_le _) ?_
    exact h1 c_5
  · refine xv_aload_n dX11_below_8 rfl rfl ?_
    refine xv_iload_n dX11_below_9 rfl rfl ?_
    refine xv_callV0 (As := [_]) dX11_below_10 cl_X11_169 rfl rfl rfl rfl (go_40 hG) rfl rfl (Nat.le_of_ble_eq_true rfl) (Nat.le_of_ble_eq_true rfl) (Nat.zero_le _) (Nat.zero_le _) ?_
    have hr := c_5
    obtain ⟨j, hj, rfl⟩ : ∃ j : Nat, j < np ∧ x = nI j := xn_nat (n := np) (by have h := hr; simp only [xn_lt, xn_le, hnt, Int32.reduceToInt] at h; omega) (by have h := hr; simp only [xn_lt, xn_le, hnt, Int32.reduceToInt] at h; omega) (by omega)
    refine s11_under hG hn hnp ho (xv_ixn (by omega) (by decide)) (by omega) ?_
    refine xv_callS0 (As := [_]) dX11_below_13 cl_X11_176 rfl rfl rfl rfl (Nat.le_of_ble_eq_true rfl) (Nat.le_of_ble_eq_true rfl) (Nat.zero_le _) (Nat.zero_le _) ?_
    refine s11_ones (by have := lm_it_lt (k := 12) hnp (fun p hp => (ho p hp).2) np (on j) (ho j (by omega)).2; omega) ?_
    refine xv_goto (tgt := 21) dX11_below_16 rfl ?_
    refine xv_iret dX11_below_21 rfl (Nat.zero_le _) (Nat.zero_le _) ?_
    exact h2 j hj rfl

theorem s11_lean {l : Launch} {D : va_G} {d : Nat} {G : xv_Gr} {I : xv_I} {J : xv_J} {Q : xv_Po} (hG : xg_ok G) {np : Nat} (hn : I 40 1 = nI np) (hnp : np ≤ 12) {on : Nat → Nat} (ho : ∀ p, p < 12 → I 61 p = nI (on p) ∧ on p < 2 ^ 12) {x y f : Int32} (h1 : ¬ ((0 ≤ x ∧ x < nI np) ∧ (0 ≤ y ∧ y < nI np)) → Q (some (.int (-900001))) G I J) (h2 : ∀ a, a < np → ∀ b, b < np → x = nI a → y = nI b → (¬ f = 0 ∧ (a = b ∨ (lm_it on np np (on b)).testBit a = true)) → Q (some (.int (-900003))) G I J) (h3 : ∀ a, a < np → ∀ b, b < np → x = nI a → y = nI b → ¬ (¬ f = 0 ∧ (a = b ∨ (lm_it on np np (on b)).testBit a = true)) → Q (some (.int (nI (on a / 2 ^ b % 2)))) G (xv_ui I 61 a (nI (@ite Nat (f = 0) (Classical.propDecidable _) (xdf (on a) (2 ^ b)) (on a ||| 2 ^ b)))) J) : xv_Ev l D (d + 2) mX11_lean none 0 [some (.ref 40), some (.int x), some (.int y), some (.int f), none] [] G I J 0 0 Q := by
  have hnt : (nI np).toInt = (np : Int) := nI_toInt (by omega)
  refine xv_aload_n dX11_lean_0 rfl rfl ?_
  refine xv_iload_n dX11_lean_1 rfl rfl ?_
  refine xv_callV0 (As := [_]) dX11_lean_2 cl_X11_139 rfl rfl rfl rfl (go_40 hG) rfl rfl (Nat.le_of_ble_eq_true rfl) (Nat.le_of_ble_eq_true rfl) (Nat.zero_le _) (Nat.zero_le _) ?_
  refine s11_isPiece hG hn hnp ?_
  refine xv_if_eqD (tgt := 16) dX11_lean_5 rfl (fun c_5 => ?_) (fun c_5 => ?_)
  · refine xv_ldc dX11_lean_16 ld_X11_143 ?_
    refine xv_iret dX11_lean_18 rfl (Nat.zero_le _) (Nat.zero_le _) ?_
    exact h1 (fun h => c_5 h.1)
  · refine xv_aload_n dX11_lean_8 rfl rfl ?_
    refine xv_iload_n dX11_lean_9 rfl rfl ?_
    refine xv_callV0 (As := [_]) dX11_lean_10 cl_X11_139 rfl rfl rfl rfl (go_40 hG) rfl rfl (Nat.le_of_ble_eq_true rfl) (Nat.le_of_ble_eq_true rfl) (Nat.zero_le _) (Nat.zero_le _) ?_
    refine s11_isPiece hG hn hnp ?_
    refine xv_if_neD (tgt := 19) dX11_lean_13 rfl (fun c_13 => ?_) (fun c_13 => ?_)
    · obtain ⟨a, ha, rfl⟩ : ∃ j : Nat, j < np ∧ x = nI j := xn_nat (n := np) (by have h := c_5; simp only [xn_lt, xn_le, hnt, Int32.reduceToInt] at h; omega) (by have h := c_5; simp only [xn_lt, xn_le, hnt, Int32.reduceToInt] at h; omega) (by omega)
      obtain ⟨b, hb, rfl⟩ : ∃ j : Nat, j < np ∧ y = nI j := xn_nat (n := np) (by have h := c_13; simp only [xn_lt, xn_le, hnt, Int32.reduceToInt] at h; omega) (by have h := c_13; simp only [xn_lt, xn_le, hnt, Int32.reduceToInt] at h; omega) (by omega)
      have hoa := ho a (by omega)
      have hlt := lm_it_lt (k := 12) hnp (fun p hp => (ho p hp).2) np (on b) (ho b (by omega)).2
      refine xv_iload_n dX11_lean_19 rfl rfl ?_
      refine xv_if_eq (tgt := 44) dX11_lean_20 rfl (fun c_20 => ?_) (fun c_20 => ?_)
      · refine xv_aload_n dX11_lean_44 rfl rfl ?_
        refine xv_getr dX11_lean_45 fl_X11_39 (go_40 hG) rfl (gr_40_11 hG) ?_
        refine xv_iload_n dX11_lean_48 rfl rfl ?_
        refine xv_iaload dX11_lean_49 (go_61 hG) (xv_ixn (by omega) (by decide)) ?_
        refine xv_nmI hoa.1 ?_
        refine xv_iload_n dX11_lean_50 rfl rfl ?_
        refine xv_ishr dX11_lean_51 ?_
        refine xv_iconst (v := 1) dX11_lean_52 rfl ?_
        refine xv_iand dX11_lean_53 ?_
        refine xv_nmI (xi_bit (by omega) (by omega)) ?_
        refine xv_istore dX11_lean_54 (Nat.le_of_ble_eq_true rfl) rfl ?_
        refine xv_aload_n dX11_lean_56 rfl rfl ?_
        refine xv_getr dX11_lean_57 fl_X11_39 (go_40 hG) rfl (gr_40_11 hG) ?_
        refine xv_iload_n dX11_lean_60 rfl rfl ?_
        refine xv_iload_n dX11_lean_61 rfl rfl ?_
        refine xv_if_eq (tgt := 78) dX11_lean_62 rfl (fun c_62 => ?_) (fun c_62 => absurd c_20 c_62)
        refine xv_aload_n dX11_lean_78 rfl rfl ?_
        refine xv_getr dX11_lean_79 fl_X11_39 (go_40 hG) rfl (gr_40_11 hG) ?_
        refine xv_iload_n dX11_lean_82 rfl rfl ?_
        refine xv_iaload dX11_lean_83 (go_61 hG) (xv_ixn (by omega) (by decide)) ?_
        refine xv_nmI hoa.1 ?_
        refine xv_iconst (v := 1) dX11_lean_84 rfl ?_
        refine xv_iload_n dX11_lean_85 rfl rfl ?_
        refine xv_ishl dX11_lean_86 ?_
        refine xv_nmI (xi_one (by omega)) ?_
        refine xv_iconst (v := -1) dX11_lean_87 rfl ?_
        refine xv_ixor dX11_lean_88 ?_
        refine xv_iand dX11_lean_89 ?_
        refine xv_nmI (xi_andn _ _) ?_
        refine xv_iastore dX11_lean_90 (go_61 hG) (xv_ixn (by omega) (by decide)) ?_
        refine xv_iload dX11_lean_91 rfl ?_
        refine xv_iret dX11_lean_93 rfl (Nat.zero_le _) (Nat.zero_le _) ?_
        have h := h3 a ha b hb rfl rfl (fun h => h.1 c_20)
        rw [if_pos c_62] at h
        exact h
      · refine xv_iload_n dX11_lean_23 rfl rfl ?_
        refine xv_iload_n dX11_lean_24 rfl rfl ?_
        refine xv_icmp_eqN (tgt := 41) dX11_lean_25 rfl (by omega) (by omega) (fun c_25 => ?_) (fun c_25 => ?_)
        · refine xv_ldc dX11_lean_41 ld_X11_144 ?_
          refine xv_iret dX11_lean_43 rfl (Nat.zero_le _) (Nat.zero_le _) ?_
          exact h2 a ha b hb rfl rfl ⟨c_20, Or.inl c_25⟩
        · refine xv_aload_n dX11_lean_28 rfl rfl ?_
          refine xv_iload_n dX11_lean_29 rfl rfl ?_
          refine xv_callV0 (As := [_]) dX11_lean_30 cl_X11_169 rfl rfl rfl rfl (go_40 hG) rfl rfl (Nat.le_of_ble_eq_true rfl) (Nat.le_of_ble_eq_true rfl) (Nat.zero_le _) (Nat.zero_le _) ?_
          refine s11_under hG hn hnp ho (xv_ixn (by omega) (by decide)) (by omega) ?_
          refine xv_iload_n dX11_lean_33 rfl rfl ?_
          refine xv_ishr dX11_lean_34 ?_
          refine xv_iconst (v := 1) dX11_lean_35 rfl ?_
          refine xv_iand dX11_lean_36 ?_
          refine xv_nmI (xi_bit (by omega) (by omega)) ?_
          refine xv_iconst (v := 1) dX11_lean_37 rfl ?_
          refine xv_icmp_ne (tgt := 44) dX11_lean_38 rfl (fun c_38 => ?_) (fun c_38 => ?_)
          · refine xv_aload_n dX11_lean_44 rfl rfl ?_
            refine xv_getr dX11_lean_45 fl_X11_39 (go_40 hG) rfl (gr_40_11 hG) ?_
            refine xv_iload_n dX11_lean_48 rfl rfl ?_
            refine xv_iaload dX11_lean_49 (go_61 hG) (xv_ixn (by omega) (by decide)) ?_
            refine xv_nmI hoa.1 ?_
            refine xv_iload_n dX11_lean_50 rfl rfl ?_
            refine xv_ishr dX11_lean_51 ?_
            refine xv_iconst (v := 1) dX11_lean_52 rfl ?_
            refine xv_iand dX11_lean_53 ?_
            refine xv_nmI (xi_bit (by omega) (by omega)) ?_
            refine xv_istore dX11_lean_54 (Nat.le_of_ble_eq_true rfl) rfl ?_
            refine xv_aload_n dX11_lean_56 rfl rfl ?_
            refine xv_getr dX11_lean_57 fl_X11_39 (go_40 hG) rfl (gr_40_11 hG) ?_
            refine xv_iload_n dX11_lean_60 rfl rfl ?_
            refine xv_iload_n dX11_lean_61 rfl rfl ?_
            refine xv_if_eq (tgt := 78) dX11_lean_62 rfl (fun c_62 => absurd c_62 c_20) (fun c_62 => ?_)
            refine xv_aload_n dX11_lean_65 rfl rfl ?_
            refine xv_getr dX11_lean_66 fl_X11_39 (go_40 hG) rfl (gr_40_11 hG) ?_
            refine xv_iload_n dX11_lean_69 rfl rfl ?_
            refine xv_iaload dX11_lean_70 (go_61 hG) (xv_ixn (by omega) (by decide)) ?_
            refine xv_nmI hoa.1 ?_
            refine xv_iconst (v := 1) dX11_lean_71 rfl ?_
            refine xv_iload_n dX11_lean_72 rfl rfl ?_
            refine xv_ishl dX11_lean_73 ?_
            refine xv_nmI (xi_one (by omega)) ?_
            refine xv_ior dX11_lean_74 ?_
            refine xv_nmI (xi_or _ _) ?_
            refine xv_goto (tgt := 90) dX11_lean_75 rfl ?_
            refine xv_iastore dX11_lean_90 (go_61 hG) (xv_ixn (by omega) (by decide)) ?_
            refine xv_iload dX11_lean_91 rfl ?_
            refine xv_iret dX11_lean_93 rfl (Nat.zero_le _) (Nat.zero_le _) ?_
            have h := h3 a ha b hb rfl rfl (fun h => h.2.elim (fun e => c_25 e) (fun e => Bool.false_ne_true ((xt_F1 c_38).symm.trans e)))
            rw [if_neg c_62] at h
            exact h
          · refine xv_ldc dX11_lean_41 ld_X11_144 ?_
            refine xv_iret dX11_lean_43 rfl (Nat.zero_le _) (Nat.zero_le _) ?_
            exact h2 a ha b hb rfl rfl ⟨c_20, Or.inr (xt_T1 c_38)⟩
    · refine xv_ldc dX11_lean_16 ld_X11_143 ?_
      refine xv_iret dX11_lean_18 rfl (Nat.zero_le _) (Nat.zero_le _) ?_
      exact h1 (fun h => c_13 h.2)

theorem s11_lo_i {l : Launch} {D : va_G} {d : Nat} {G : xv_Gr} {I : xv_I} {J : xv_J} {Q : xv_Po} (hG : xg_ok G) {on : Nat → Nat} (ho : ∀ p, p < 12 → I 61 p = nI (on p) ∧ on p < 2 ^ 12) {np : Nat} (hnp : np ≤ 12) {j bu q : Nat} (hbu : bu < 2 ^ 12) (hq12 : q < 12) (hq : lo_r on bu q) (hmin : ∀ k, k < q → ¬ lo_r on bu k) (kk : xv_Ev l D d mX11_layOrder none 42 [some (.ref 40), some (.int (nI bu)), some (.int (nI j)), some (.int (nI q))] [] G (xfl I 62 (lo_w on np) j) J 0 0 Q) : ∀ (n i : Nat), i + n = q → xv_Ev l D d mX11_layOrder none 14 [some (.ref 40), some (.int (nI bu)), some (.int (nI j)), some (.int (nI i))] [] G (xfl I 62 (lo_w on np) j) J 0 0 Q := by
  intro n
  induction n with
  | zero =>
    intro i hi
    have e : q = i := by omega
    refine xv_iload_n dX11_layOrder_14 rfl rfl ?_
    refine xv_iload_n dX11_layOrder_15 rfl rfl ?_
    refine xv_ishr dX11_layOrder_16 ?_
    refine xv_iconst (v := 1) dX11_layOrder_17 rfl ?_
    refine xv_iand dX11_layOrder_18 ?_
    refine xv_nmI (xi_bit (by omega) (by omega)) ?_
    refine xv_iconst (v := 1) dX11_layOrder_19 rfl ?_
    refine xv_icmp_eq (tgt := 36) dX11_layOrder_20 rfl (fun c_20 => absurd c_20 (by rw [xt_v0 (show bu.testBit i = false by rw [← e]; exact hq.1)]; decide)) (fun c_20 => ?_)
    refine xv_aload_n dX11_layOrder_23 rfl rfl ?_
    refine xv_getr dX11_layOrder_24 fl_X11_39 (go_40 hG) rfl (gr_40_11 hG) ?_
    refine xv_iload_n dX11_layOrder_27 rfl rfl ?_
    refine xv_iaload dX11_layOrder_28 (go_61 hG) (xv_ixn (by omega) (by decide)) ?_
    refine xv_nmI (show (xfl I 62 (lo_w on np) j) 61 i = nI (on i) from (ho i (by omega)).1) ?_
    refine xv_iload_n dX11_layOrder_29 rfl rfl ?_
    refine xv_iconst (v := -1) dX11_layOrder_30 rfl ?_
    refine xv_ixor dX11_layOrder_31 ?_
    refine xv_iand dX11_layOrder_32 ?_
    refine xv_nmI (xi_andn _ _) ?_
    refine xv_if_eq (tgt := 42) dX11_layOrder_33 rfl (fun c_33 => ?_) (fun c_33 => absurd (by rw [show xdf (on i) bu = 0 by rw [← e]; exact hq.2]; rfl) c_33)
    subst e
    exact kk
  | succ n ih =>
    intro i hi
    refine xv_iload_n dX11_layOrder_14 rfl rfl ?_
    refine xv_iload_n dX11_layOrder_15 rfl rfl ?_
    refine xv_ishr dX11_layOrder_16 ?_
    refine xv_iconst (v := 1) dX11_layOrder_17 rfl ?_
    refine xv_iand dX11_layOrder_18 ?_
    refine xv_nmI (xi_bit (by omega) (by omega)) ?_
    refine xv_iconst (v := 1) dX11_layOrder_19 rfl ?_
    refine xv_icmp_eq (tgt := 36) dX11_layOrder_20 rfl (fun c_20 => ?_) (fun c_20 => ?_)
    · refine xv_iinc dX11_layOrder_36 rfl (xv_inc _) (Nat.le_of_ble_eq_true rfl) rfl ?_
      refine xv_goto (tgt := 14) dX11_layOrder_39 rfl ?_
      exact ih (i + 1) (by omega)
    · refine xv_aload_n dX11_layOrder_23 rfl rfl ?_
      refine xv_getr dX11_layOrder_24 fl_X11_39 (go_40 hG) rfl (gr_40_11 hG) ?_
      refine xv_iload_n dX11_layOrder_27 rfl rfl ?_
      refine xv_iaload dX11_layOrder_28 (go_61 hG) (xv_ixn (by omega) (by decide)) ?_
      refine xv_nmI (show (xfl I 62 (lo_w on np) j) 61 i = nI (on i) from (ho i (by omega)).1) ?_
      refine xv_iload_n dX11_layOrder_29 rfl rfl ?_
      refine xv_iconst (v := -1) dX11_layOrder_30 rfl ?_
      refine xv_ixor dX11_layOrder_31 ?_
      refine xv_iand dX11_layOrder_32 ?_
      refine xv_nmI (xi_andn _ _) ?_
      refine xv_if_eq (tgt := 42) dX11_layOrder_33 rfl (fun c_33 => absurd (show lo_r on bu i from ⟨xt_F1 c_20, (xi_0 (by have := xdf_le (on i) bu; have := (ho i (by omega)).2; omega)).mp c_33⟩) (hmin i (by omega))) (fun c_33 => ?_)
      refine xv_iinc dX11_layOrder_36 rfl (xv_inc _) (Nat.le_of_ble_eq_true rfl) rfl ?_
      refine xv_goto (tgt := 14) dX11_layOrder_39 rfl ?_
      exact ih (i + 1) (by omega)

theorem s11_lo_l {l : Launch} {D : va_G} {d : Nat} {G : xv_Gr} {I : xv_I} {J : xv_J} {Q : xv_Po} (hG : xg_ok G) {np : Nat} (hn : I 40 1 = nI np) (hnp : np ≤ 12) {on : Nat → Nat} (ho : ∀ p, p < 12 → I 61 p = nI (on p) ∧ on p < 2 ^ 12) (hex : ∀ i, i < np → ∃ p, p < np ∧ lo_r on (lo_b on np i) p) (hQ : Q none G (xfl I 62 (lo_w on np) np) J) : ∀ (n i : Nat), i + n = np → xv_Ev l D d mX11_layOrder none 4 [some (.ref 40), some (.int (nI (lo_b on np i))), some (.int (nI i)), none] [] G (xfl I 62 (lo_w on np) i) J 0 0 Q := by
  intro n
  induction n with
  | zero =>
    intro i hi
    refine xv_iload_n dX11_layOrder_4 rfl rfl ?_
    refine xv_aload_n dX11_layOrder_5 rfl rfl ?_
    refine xv_geti dX11_layOrder_6 fl_X11_135 (go_40 hG) rfl ?_
    refine xv_nmI (show (xfl I 62 (lo_w on np) i) 40 1 = nI np from hn) ?_
    refine xv_icmp_geN (tgt := 61) dX11_layOrder_9 rfl (by omega) (by omega) (fun c_9 => ?_) (fun c_9 => absurd c_9 (by omega))
    refine xv_vret dX11_layOrder_61 rfl (Nat.zero_le _) (Nat.zero_le _) ?_
    have e : np = i := by omega
    subst e
    exact hQ
  | succ n ih =>
    intro i hi
    refine xv_iload_n dX11_layOrder_4 rfl rfl ?_
    refine xv_aload_n dX11_layOrder_5 rfl rfl ?_
    refine xv_geti dX11_layOrder_6 fl_X11_135 (go_40 hG) rfl ?_
    refine xv_nmI (show (xfl I 62 (lo_w on np) i) 40 1 = nI np from hn) ?_
    refine xv_icmp_geN (tgt := 61) dX11_layOrder_9 rfl (by omega) (by omega) (fun c_9 => absurd c_9 (by omega)) (fun c_9 => ?_)
    refine xv_iconst (v := 0) dX11_layOrder_12 rfl ?_
    refine xv_istore_n dX11_layOrder_13 rfl (Nat.le_of_ble_eq_true rfl) rfl ?_
    obtain ⟨q0, hq0, hr0⟩ := hex i c_9
    have sp := xfst_sp (P := lo_r on (lo_b on np i)) np 0 ⟨q0, by omega, by omega, hr0⟩
    refine s11_lo_i hG ho hnp (q := lo_n on np (lo_b on np i)) (lo_b_lt hnp i) (lo_n_lt hnp) sp.1 (fun k hk => sp.2.2 k (by omega) hk) ?_ _ 0 (Nat.zero_add _)
    refine xv_aload_n dX11_layOrder_42 rfl rfl ?_
    refine xv_getr dX11_layOrder_43 fl_X11_42 (go_40 hG) rfl (gr_40_12 hG) ?_
    refine xv_iload_n dX11_layOrder_46 rfl rfl ?_
    refine xv_iload_n dX11_layOrder_47 rfl rfl ?_
    refine xv_iastore dX11_layOrder_48 (go_62 hG) (xv_ixn (by omega) (by decide)) ?_
    refine xv_iload_n dX11_layOrder_49 rfl rfl ?_
    refine xv_iconst (v := 1) dX11_layOrder_50 rfl ?_
    refine xv_iload_n dX11_layOrder_51 rfl rfl ?_
    refine xv_ishl dX11_layOrder_52 ?_
    refine xv_nmI (xi_one (by have := lo_n_lt (on := on) (bu := lo_b on np i) hnp; omega)) ?_
    refine xv_ior dX11_layOrder_53 ?_
    refine xv_nmI (xi_or _ _) ?_
    refine xv_istore_n dX11_layOrder_54 rfl (Nat.le_of_ble_eq_true rfl) rfl ?_
    refine xv_iinc dX11_layOrder_55 rfl (xv_inc _) (Nat.le_of_ble_eq_true rfl) rfl ?_
    refine xv_goto (tgt := 4) dX11_layOrder_58 rfl ?_
    refine xv_nmM (xfl_put rfl) ?_
    refine xv_fg [true, true, true, false] ?_
    exact ih (i + 1) (by omega)

theorem s11_layOrder {l : Launch} {D : va_G} {d : Nat} {G : xv_Gr} {I : xv_I} {J : xv_J} {Q : xv_Po} (hG : xg_ok G) {np : Nat} (hn : I 40 1 = nI np) (hnp : np ≤ 12) {on : Nat → Nat} (ho : ∀ p, p < 12 → I 61 p = nI (on p) ∧ on p < 2 ^ 12) (hex : ∀ i, i < np → ∃ p, p < np ∧ lo_r on (lo_b on np i) p) (hQ : Q none G (xfl I 62 (lo_w on np) np) J) : xv_Ev l D d mX11_layOrder none 0 [some (.ref 40), none, none, none] [] G I J 0 0 Q := by
  refine xv_iconst (v := 0) dX11_layOrder_0 rfl ?_
  refine xv_istore_n dX11_layOrder_1 rfl (Nat.le_of_ble_eq_true rfl) rfl ?_
  refine xv_iconst (v := 0) dX11_layOrder_2 rfl ?_
  refine xv_istore_n dX11_layOrder_3 rfl (Nat.le_of_ble_eq_true rfl) rfl ?_
  have h := s11_lo_l (d := d) (l := l) (D := D) hG hn hnp ho hex hQ np 0 (by omega)
  rw [xfl_0] at h
  exact h

theorem s11_order {l : Launch} {D : va_G} {d : Nat} {G : xv_Gr} {I : xv_I} {J : xv_J} {Q : xv_Po} (hG : xg_ok G) {np : Nat} (hn : I 40 1 = nI np) (hnp : np ≤ 12) {on : Nat → Nat} (ho : ∀ p, p < 12 → I 61 p = nI (on p) ∧ on p < 2 ^ 12) (hex : ∀ i, i < np → ∃ p, p < np ∧ lo_r on (lo_b on np i) p) {x : Int32} (h1 : ¬ (0 ≤ x ∧ x < nI np) → Q (some (.int (-900009))) G (xfl I 62 (lo_w on np) np) J) (h2 : ∀ j, j < np → x = nI j → Q (some (.int (lo_w on np j))) G (xfl I 62 (lo_w on np) np) J) : xv_Ev l D (d + 1) mX11_order none 0 [some (.ref 40), some (.int x)] [] G I J 0 0 Q := by
  have hnt : (nI np).toInt = (np : Int) := nI_toInt (by omega)
  refine xv_aload_n dX11_order_0 rfl rfl ?_
  refine xv_callV0 (As := []) dX11_order_1 cl_X11_173 rfl rfl rfl rfl (go_40 hG) rfl rfl (Nat.le_of_ble_eq_true rfl) (Nat.le_of_ble_eq_true rfl) (Nat.zero_le _) (Nat.zero_le _) ?_
  refine s11_layOrder hG hn hnp ho hex ?_
  refine xv_iload_n dX11_order_4 rfl rfl ?_
  refine xv_i2l dX11_order_5 ?_
  refine xv_lconst (v := 0) dX11_order_6 rfl ?_
  refine xv_aload_n dX11_order_7 rfl rfl ?_
  refine xv_geti dX11_order_8 fl_X11_135 (go_40 hG) rfl ?_
  refine xv_nmI (show (xfl I 62 (lo_w on np) np) 40 1 = nI np from hn) ?_
  refine xv_iconst (v := 1) dX11_order_11 rfl ?_
  refine xv_isub dX11_order_12 ?_
  refine xv_i2l dX11_order_13 ?_
  refine xv_callS0 (As := [_, _, _]) dX11_order_14 cl_X11_126 rfl rfl rfl rfl (Nat.le_of_ble_eq_true rfl) (Nat.le_of_ble_eq_true rfl) (Nat.zero_le _) (Nat.zero_le _) ?_
  have e : (decide ((0 : Int32) ≤ x ∧ x ≤ nI np - 1)) = decide (0 ≤ x ∧ x < nI np) := by
    apply decide_eq_decide.mpr
    have h1 : (nI np - 1).toInt = (np : Int) - 1 := pk_sub_toInt (b := 1) (by omega) (by omega)
    simp only [xn_le, xn_lt, h1, hnt]
    omega
  refine s11_in (a := 0) (b := nI np - 1) rfl rfl ?_
  rw [e]
  refine xv_if_eqD (tgt := 29) dX11_order_17 rfl (fun c_17 => ?_) (fun c_17 => ?_)
  · refine xv_ldc dX11_order_29 ld_X11_152 ?_
    refine xv_iret dX11_order_31 rfl (Nat.zero_le _) (Nat.zero_le _) ?_
    exact h1 c_17
  · have hr := c_17
    obtain ⟨j, hj, rfl⟩ : ∃ j : Nat, j < np ∧ x = nI j := xn_nat (n := np) (by have h := hr; simp only [xn_lt, xn_le, hnt, Int32.reduceToInt] at h; omega) (by have h := hr; simp only [xn_lt, xn_le, hnt, Int32.reduceToInt] at h; omega) (by omega)
    refine xv_aload_n dX11_order_20 rfl rfl ?_
    refine xv_getr dX11_order_21 fl_X11_42 (go_40 hG) rfl (gr_40_12 hG) ?_
    refine xv_iload_n dX11_order_24 rfl rfl ?_
    refine xv_iaload dX11_order_25 (go_62 hG) (xv_ixn (by omega) (by decide)) ?_
    refine xv_goto (tgt := 31) dX11_order_26 rfl ?_
    refine xv_iret dX11_order_31 rfl (Nat.zero_le _) (Nat.zero_le _) ?_
    have e2 : (xfl I 62 (lo_w on np) np) 62 j = lo_w on np j := by simp [xfl, hj]
    rw [e2]
    exact h2 j hj rfl
