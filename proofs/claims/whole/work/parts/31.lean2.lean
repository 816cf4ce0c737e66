/-! leaning: the order of building; counts of bits -/
/-- how many of the low k bits are set -/
def xpc (s : Nat) : Nat → Nat
  | 0 => 0
  | k + 1 => xpc s k + s / 2 ^ k % 2
theorem xpc_le (s : Nat) : ∀ k, xpc s k ≤ k
  | 0 => Nat.le_refl 0
  | k + 1 => by have := xpc_le s k; simp only [xpc]; omega
theorem xfst_map {P : Nat → Prop} : ∀ (n i : Nat), xfst P (fun p => nI p) 0 n i = nI (xfst P (fun p => p) 0 n i)
  | 0, _ => rfl
  | n + 1, i => by
    by_cases h : P i
    · rw [xfst_y h, xfst_y h]
    · rw [xfst_n h, xfst_n h, xfst_map n (i + 1)]
theorem xfst_lt {P : Nat → Prop} : ∀ (n i b : Nat), i + n ≤ b → 0 < b → xfst P (fun p => p) 0 n i < b
  | 0, _, _, _, hb => hb
  | n + 1, i, b, h, hb => by
    by_cases hp : P i
    · rw [xfst_y hp]; omega
    · rw [xfst_n hp]; exact xfst_lt n (i + 1) b (by omega) hb
def lo_r (on : Nat → Nat) (bu p : Nat) : Prop := bu.testBit p = false ∧ xdf (on p) bu = 0
noncomputable def lo_n (on : Nat → Nat) (np bu : Nat) : Nat := xfst (lo_r on bu) (fun p => p) 0 np 0
noncomputable def lo_b (on : Nat → Nat) (np : Nat) : Nat → Nat
  | 0 => 0
  | i + 1 => lo_b on np i ||| 2 ^ lo_n on np (lo_b on np i)
noncomputable def lo_w (on : Nat → Nat) (np i : Nat) : Int32 := nI (lo_n on np (lo_b on np i))
theorem lo_n_lt {on : Nat → Nat} {np bu : Nat} (h : np ≤ 12) : lo_n on np bu < 12 := xfst_lt np 0 12 (by omega) (by omega)
theorem lo_b_lt {on : Nat → Nat} {np : Nat} (h : np ≤ 12) : ∀ i, lo_b on np i < 2 ^ 12
  | 0 => by show 0 < 2 ^ 12; decide
  | i + 1 => xor_lt (lo_b_lt h i) (xpw (lo_n_lt h))
theorem s3_fr_l {l : Launch} {D : va_G} {d : Nat} {G : xv_Gr} {I : xv_I} {J : xv_J} {Q : xv_Po} (hG : xg_ok G) {on : Nat → Nat} (ho : ∀ p, p < 12 → I 120 p = nI (on p) ∧ on p < 2 ^ 12) {np bu : Nat} (hnp : np ≤ 12) (hbu : bu < 2 ^ 12) : ∀ (n i : Nat), i + n = np → Q (some (.int (xfst (lo_r on bu) (fun p => nI p) 0 n i))) G I J → xv_Ev l D d mX3_firstReady none 2 [some (.ref 2), some (.int (nI bu)), some (.int (nI np)), some (.int (nI i))] [] G I J 0 0 Q := by
  intro n
  induction n with
  | zero =>
    intro i hi hQ
    refine xv_iload_n dX3_firstReady_2 rfl rfl ?_
    refine xv_iload_n dX3_firstReady_3 rfl rfl ?_
    refine xv_icmp_geN (tgt := 36) dX3_firstReady_4 rfl (by omega) (by omega) (fun c_4 => ?_) (fun c_4 => absurd c_4 (by omega))
    refine xv_iconst (v := 0) dX3_firstReady_36 rfl ?_
    refine xv_iret dX3_firstReady_37 rfl (Nat.zero_le _) (Nat.zero_le _) ?_
    exact hQ
  | succ n ih =>
    intro i hi hQ
    refine xv_iload_n dX3_firstReady_2 rfl rfl ?_
    refine xv_iload_n dX3_firstReady_3 rfl rfl ?_
    refine xv_icmp_geN (tgt := 36) dX3_firstReady_4 rfl (by omega) (by omega) (fun c_4 => absurd c_4 (by omega)) (fun c_4 => ?_)
    refine xv_iload_n dX3_firstReady_7 rfl rfl ?_
    refine xv_iload_n dX3_firstReady_8 rfl rfl ?_
    refine xv_ishr dX3_firstReady_9 ?_
    refine xv_iconst (v := 1) dX3_firstReady_10 rfl ?_
    refine xv_iand dX3_firstReady_11 ?_
    refine xv_nmI (xi_bit (by omega) (by omega)) ?_
    refine xv_if_ne (tgt := 30) dX3_firstReady_12 rfl (fun c_12 => ?_) (fun c_12 => ?_)
    · refine xv_iinc dX3_firstReady_30 rfl (xv_inc _) (Nat.le_of_ble_eq_true rfl) rfl ?_
      refine xv_goto (tgt := 2) dX3_firstReady_33 rfl ?_
      rw [xfst_n (P := (lo_r on bu)) (fun h => c_12 (by rw [xt_v0 h.1]; rfl))] at hQ
      exact ih (i + 1) (by omega) hQ
    · refine xv_aload_n dX3_firstReady_15 rfl rfl ?_
      refine xv_getr dX3_firstReady_16 fl_X3_9 (go_2 hG) rfl (gr_2_0 hG) ?_
      refine xv_iload_n dX3_firstReady_19 rfl rfl ?_
      refine xv_iaload dX3_firstReady_20 (go_120 hG) (xv_ixn (by omega) (by decide)) ?_
      refine xv_nmI (ho i (by omega)).1 ?_
      refine xv_iload_n dX3_firstReady_21 rfl rfl ?_
      refine xv_iconst (v := -1) dX3_firstReady_22 rfl ?_
      refine xv_ixor dX3_firstReady_23 ?_
      refine xv_iand dX3_firstReady_24 ?_
      refine xv_nmI (xi_andn _ _) ?_
      refine xv_if_ne (tgt := 30) dX3_firstReady_25 rfl (fun c_25 => ?_) (fun c_25 => ?_)
      · refine xv_iinc dX3_firstReady_30 rfl (xv_inc _) (Nat.le_of_ble_eq_true rfl) rfl ?_
        refine xv_goto (tgt := 2) dX3_firstReady_33 rfl ?_
        rw [xfst_n (P := (lo_r on bu)) (fun h => c_25 (by rw [h.2]; rfl))] at hQ
        exact ih (i + 1) (by omega) hQ
      · refine xv_iload_n dX3_firstReady_28 rfl rfl ?_
        refine xv_iret dX3_firstReady_29 rfl (Nat.zero_le _) (Nat.zero_le _) ?_
        have h0 : xdf (on i) bu = 0 := (xi_0 (by have := xdf_le (on i) bu; have := (ho i (by omega)).2; omega)).mp c_25
        rw [xfst_y (P := (lo_r on bu)) ⟨xt_F c_12, h0⟩] at hQ
        exact hQ

theorem s3_firstReady {l : Launch} {D : va_G} {d : Nat} {G : xv_Gr} {I : xv_I} {J : xv_J} {Q : xv_Po} (hG : xg_ok G) {on : Nat → Nat} (ho : ∀ p, p < 12 → I 120 p = nI (on p) ∧ on p < 2 ^ 12) {np bu : Nat} (hnp : np ≤ 12) (hbu : bu < 2 ^ 12) (hQ : Q (some (.int (nI (lo_n on np bu)))) G I J) : xv_Ev l D d mX3_firstReady none 0 [some (.ref 2), some (.int (nI bu)), some (.int (nI np)), none] [] G I J 0 0 Q := by
  refine xv_iconst (v := 0) dX3_firstReady_0 rfl ?_
  refine xv_istore_n dX3_firstReady_1 rfl (Nat.le_of_ble_eq_true rfl) rfl ?_
  refine s3_fr_l hG ho hnp hbu np 0 (by omega) ?_
  rw [xfst_map]
  exact hQ

theorem s3_lu_l {l : Launch} {D : va_G} {d : Nat} {G : xv_Gr} {I : xv_I} {J : xv_J} {Q : xv_Po} (hG : xg_ok G) {on : Nat → Nat} (ho : ∀ p, p < 12 → I 120 p = nI (on p) ∧ on p < 2 ^ 12) {np : Nat} (hnp : np ≤ 12) (hQ : Q none G (xfl I 121 (lo_w on np) np) J) : ∀ (n i : Nat), i + n = np → xv_Ev l D (d + 1) mX3_lineUp none 4 [some (.ref 2), some (.int (nI np)), some (.int (nI (lo_b on np i))), some (.int (nI i)), none] [] G (xfl I 121 (lo_w on np) i) J 0 0 Q := by
  intro n
  induction n with
  | zero =>
    intro i hi
    refine xv_iload_n dX3_lineUp_4 rfl rfl ?_
    refine xv_iload_n dX3_lineUp_5 rfl rfl ?_
    refine xv_icmp_geN (tgt := 38) dX3_lineUp_6 rfl (by omega) (by omega) (fun c_6 => ?_) (fun c_6 => absurd c_6 (by omega))
    refine xv_vret dX3_lineUp_38 rfl (Nat.zero_le _) (Nat.zero_le _) ?_
    have e : np = i := by omega
    subst e
    exact hQ
  | succ n ih =>
    intro i hi
    refine xv_iload_n dX3_lineUp_4 rfl rfl ?_
    refine xv_iload_n dX3_lineUp_5 rfl rfl ?_
    refine xv_icmp_geN (tgt := 38) dX3_lineUp_6 rfl (by omega) (by omega) (fun c_6 => absurd c_6 (by omega)) (fun c_6 => ?_)
    refine xv_aload_n dX3_lineUp_9 rfl rfl ?_
    refine xv_iload_n dX3_lineUp_10 rfl rfl ?_
    refine xv_iload_n dX3_lineUp_11 rfl rfl ?_
    refine xv_callV0 (As := [_, _]) dX3_lineUp_12 cl_X3_22 rfl rfl rfl rfl (go_2 hG) rfl rfl (Nat.le_of_ble_eq_true rfl) (Nat.le_of_ble_eq_true rfl) (Nat.zero_le _) (Nat.zero_le _) ?_
    refine s3_firstReady hG (I := (xfl I 121 (lo_w on np) i)) (fun p hp => (show (xfl I 121 (lo_w on np) i) 120 p = nI (on p) ∧ on p < 2 ^ 12 from ho p hp)) hnp (lo_b_lt hnp i) ?_
    refine xv_istore dX3_lineUp_15 (Nat.le_of_ble_eq_true rfl) rfl ?_
    refine xv_aload_n dX3_lineUp_17 rfl rfl ?_
    refine xv_getr dX3_lineUp_18 fl_X3_15 (go_2 hG) rfl (gr_2_1 hG) ?_
    refine xv_iload_n dX3_lineUp_21 rfl rfl ?_
    refine xv_iload dX3_lineUp_22 rfl ?_
    refine xv_iastore dX3_lineUp_24 (go_121 hG) (xv_ixn (by omega) (by decide)) ?_
    refine xv_iload_n dX3_lineUp_25 rfl rfl ?_
    refine xv_iconst (v := 1) dX3_lineUp_26 rfl ?_
    refine xv_iload dX3_lineUp_27 rfl ?_
    refine xv_ishl dX3_lineUp_29 ?_
    refine xv_nmI (xi_one (by have := lo_n_lt (on := on) (bu := lo_b on np i) hnp; omega)) ?_
    refine xv_ior dX3_lineUp_30 ?_
    refine xv_nmI (xi_or _ _) ?_
    refine xv_istore_n dX3_lineUp_31 rfl (Nat.le_of_ble_eq_true rfl) rfl ?_
    refine xv_iinc dX3_lineUp_32 rfl (xv_inc _) (Nat.le_of_ble_eq_true rfl) rfl ?_
    refine xv_goto (tgt := 4) dX3_lineUp_35 rfl ?_
    refine xv_nmM (xfl_put rfl) ?_
    refine xv_fg [true, true, true, true, false] ?_
    exact ih (i + 1) (by omega)

theorem s3_lineUp {l : Launch} {D : va_G} {d : Nat} {G : xv_Gr} {I : xv_I} {J : xv_J} {Q : xv_Po} (hG : xg_ok G) {on : Nat → Nat} (ho : ∀ p, p < 12 → I 120 p = nI (on p) ∧ on p < 2 ^ 12) {np : Nat} (hnp : np ≤ 12) (hQ : Q none G (xfl I 121 (lo_w on np) np) J) : xv_Ev l D (d + 1) mX3_lineUp none 0 [some (.ref 2), some (.int (nI np)), none, none, none] [] G I J 0 0 Q := by
  refine xv_iconst (v := 0) dX3_lineUp_0 rfl ?_
  refine xv_istore_n dX3_lineUp_1 rfl (Nat.le_of_ble_eq_true rfl) rfl ?_
  refine xv_iconst (v := 0) dX3_lineUp_2 rfl ?_
  refine xv_istore_n dX3_lineUp_3 rfl (Nat.le_of_ble_eq_true rfl) rfl ?_
  have h := s3_lu_l (d := d) (l := l) (D := D) hG ho hnp hQ np 0 (by omega)
  rw [xfl_0] at h
  exact h

def bc_1 (x : Int32) : Int32 := x - ((x.toUInt32 >>> ((1 : Int32).toUInt32 &&& Int32.toUInt32 31)).toInt32 &&& 1431655765)
def bc_2 (x : Int32) : Int32 := (x &&& 858993459) + ((x.toUInt32 >>> ((2 : Int32).toUInt32 &&& Int32.toUInt32 31)).toInt32 &&& 858993459)
def bc_3 (x : Int32) : Int32 := (x + (x.toUInt32 >>> ((4 : Int32).toUInt32 &&& Int32.toUInt32 31)).toInt32) &&& 252645135
def bc_4 (x : Int32) : Int32 := x + (x.toUInt32 >>> ((8 : Int32).toUInt32 &&& Int32.toUInt32 31)).toInt32
def bc_5 (x : Int32) : Int32 := x + (x.toUInt32 >>> ((16 : Int32).toUInt32 &&& Int32.toUInt32 31)).toInt32
def bc_all (x : Int32) : Int32 := bc_5 (bc_4 (bc_3 (bc_2 (bc_1 x)))) &&& 63
theorem bc_o2 : ∀ a, a < 64 → ∀ b, b < 64 → bc_all (nI (64 * a + b)) = nI (xpc (64 * a + b) 16) := by decide +kernel
theorem bc_ok (n : Nat) (h : n < 4096) : bc_all (nI n) = nI (xpc n 16) := by
  have h1 := bc_o2 (n / 64) (by omega) (n % 64) (by omega)
  rw [Nat.div_add_mod] at h1
  exact h1
theorem sJ_bitCount {l : Launch} {D : va_G} {d : Nat} {G : xv_Gr} {I : xv_I} {J : xv_J} {Q : xv_Po} {n : Nat} (hn : n < 4096) (hQ : Q (some (.int (nI (xpc n 16)))) G I J) : xv_Ev l D d mJ6_bitCount_0f7a4 none 0 [some (.int (nI n))] [] G I J 0 0 Q := by
  refine xv_iload_n dJ6_bitCount_0f7a4_0 rfl rfl ?_
  refine xv_iload_n dJ6_bitCount_0f7a4_1 rfl rfl ?_
  refine xv_iconst (v := 1) dJ6_bitCount_0f7a4_2 rfl ?_
  refine xv_iushr dJ6_bitCount_0f7a4_3 ?_
  refine xv_ldcw dJ6_bitCount_0f7a4_4 ld_J6_265 ?_
  refine xv_iand dJ6_bitCount_0f7a4_7 ?_
  refine xv_isub dJ6_bitCount_0f7a4_8 ?_
  refine xv_istore_n dJ6_bitCount_0f7a4_9 rfl (Nat.le_of_ble_eq_true rfl) rfl ?_
  refine xv_iload_n dJ6_bitCount_0f7a4_10 rfl rfl ?_
  refine xv_ldcw dJ6_bitCount_0f7a4_11 ld_J6_266 ?_
  refine xv_iand dJ6_bitCount_0f7a4_14 ?_
  refine xv_iload_n dJ6_bitCount_0f7a4_15 rfl rfl ?_
  refine xv_iconst (v := 2) dJ6_bitCount_0f7a4_16 rfl ?_
  refine xv_iushr dJ6_bitCount_0f7a4_17 ?_
  refine xv_ldcw dJ6_bitCount_0f7a4_18 ld_J6_266 ?_
  refine xv_iand dJ6_bitCount_0f7a4_21 ?_
  refine xv_iadd dJ6_bitCount_0f7a4_22 ?_
  refine xv_istore_n dJ6_bitCount_0f7a4_23 rfl (Nat.le_of_ble_eq_true rfl) rfl ?_
  refine xv_iload_n dJ6_bitCount_0f7a4_24 rfl rfl ?_
  refine xv_iload_n dJ6_bitCount_0f7a4_25 rfl rfl ?_
  refine xv_iconst (v := 4) dJ6_bitCount_0f7a4_26 rfl ?_
  refine xv_iushr dJ6_bitCount_0f7a4_27 ?_
  refine xv_iadd dJ6_bitCount_0f7a4_28 ?_
  refine xv_ldcw dJ6_bitCount_0f7a4_29 ld_J6_267 ?_
  refine xv_iand dJ6_bitCount_0f7a4_32 ?_
  refine xv_istore_n dJ6_bitCount_0f7a4_33 rfl (Nat.le_of_ble_eq_true rfl) rfl ?_
  refine xv_iload_n dJ6_bitCount_0f7a4_34 rfl rfl ?_
  refine xv_iload_n dJ6_bitCount_0f7a4_35 rfl rfl ?_
  refine xv_bipush (v := 8) dJ6_bitCount_0f7a4_36 rfl ?_
  refine xv_iushr dJ6_bitCount_0f7a4_38 ?_
  refine xv_iadd dJ6_bitCount_0f7a4_39 ?_
  refine xv_istore_n dJ6_bitCount_0f7a4_40 rfl (Nat.le_of_ble_eq_true rfl) rfl ?_
  refine xv_iload_n dJ6_bitCount_0f7a4_41 rfl rfl ?_
  refine xv_iload_n dJ6_bitCount_0f7a4_42 rfl rfl ?_
  refine xv_bipush (v := 16) dJ6_bitCount_0f7a4_43 rfl ?_
  refine xv_iushr dJ6_bitCount_0f7a4_45 ?_
  refine xv_iadd dJ6_bitCount_0f7a4_46 ?_
  refine xv_istore_n dJ6_bitCount_0f7a4_47 rfl (Nat.le_of_ble_eq_true rfl) rfl ?_
  refine xv_iload_n dJ6_bitCount_0f7a4_48 rfl rfl ?_
  refine xv_bipush (v := 63) dJ6_bitCount_0f7a4_49 rfl ?_
  refine xv_iand dJ6_bitCount_0f7a4_51 ?_
  refine xv_iret dJ6_bitCount_0f7a4_52 rfl (Nat.zero_le _) (Nat.zero_le _) ?_
  rw [← bc_ok n hn] at hQ
  exact hQ

theorem s10_order {l : Launch} {D : va_G} {d : Nat} {G : xv_Gr} {I : xv_I} {J : xv_J} {Q : xv_Po} (hG : xg_ok G) {np : Nat} (hn : I 1 1 = nI np) (hnp : np ≤ 12) {on : Nat → Nat} (ho : ∀ p, p < 12 → I 120 p = nI (on p) ∧ on p < 2 ^ 12) {x : Int32} (h1 : ¬ (0 ≤ x ∧ x < nI np) → Q (some (.int (-900009))) G I J) (h2 : ∀ j, j < np → x = nI j → Q (some (.int (lo_w on np j))) G (xfl I 121 (lo_w on np) np) J) : xv_Ev l D (d + 2) mX10_order none 0 [some (.ref 0), some (.int x)] [] G I J 0 0 Q := by
  have hnt : (nI np).toInt = (np : Int) := nI_toInt (by omega)
  refine xv_aload_n dX10_order_0 rfl rfl ?_
  refine xv_getr dX10_order_1 fl_X10_10 (go_0 hG) rfl (gr_0_0 hG) ?_
  refine xv_iload_n dX10_order_4 rfl rfl ?_
  refine xv_callV0 (As := [_]) dX10_order_5 cl_X10_71 rfl rfl rfl rfl (go_1 hG) rfl rfl (Nat.le_of_ble_eq_true rfl) (Nat.le_of_ble_eq_true rfl) (Nat.zero_le _) (Nat.zero_le _) ?_
  refine s5_hasN hG hn ?_
  refine xv_if_neD (tgt := 14) dX10_order_8 rfl (fun c_8 => ?_) (fun c_8 => ?_)
  · refine xv_aload_n dX10_order_14 rfl rfl ?_
    refine xv_getr dX10_order_15 fl_X10_19 (go_0 hG) rfl (gr_0_1 hG) ?_
    refine xv_aload_n dX10_order_18 rfl rfl ?_
    refine xv_getr dX10_order_19 fl_X10_10 (go_0 hG) rfl (gr_0_0 hG) ?_
    refine xv_geti dX10_order_22 fl_X10_60 (go_1 hG) rfl ?_
    refine xv_nmI hn ?_
    refine xv_callV0 (As := [_]) dX10_order_25 cl_X10_132 rfl rfl rfl rfl (go_2 hG) rfl rfl (Nat.le_of_ble_eq_true rfl) (Nat.le_of_ble_eq_true rfl) (Nat.zero_le _) (Nat.zero_le _) ?_
    have hr := c_8
    obtain ⟨j, hj, rfl⟩ : ∃ j : Nat, j < np ∧ x = nI j := xn_nat (n := np) (by have h := hr; simp only [xn_lt, xn_le, hnt, Int32.reduceToInt] at h; omega) (by have h := hr; simp only [xn_lt, xn_le, hnt, Int32.reduceToInt] at h; omega) (by omega)
    refine s3_lineUp hG ho hnp ?_
    refine xv_aload_n dX10_order_28 rfl rfl ?_
    refine xv_getr dX10_order_29 fl_X10_19 (go_0 hG) rfl (gr_0_1 hG) ?_
    refine xv_getr dX10_order_32 fl_X10_136 (go_2 hG) rfl (gr_2_1 hG) ?_
    refine xv_iload_n dX10_order_35 rfl rfl ?_
    refine xv_iaload dX10_order_36 (go_121 hG) (xv_ixn (by omega) (by decide)) ?_
    refine xv_iret dX10_order_37 rfl (Nat.zero_le _) (Nat.zero_le _) ?_
    have h := h2 j hj rfl
    have e : xfl I 121 (lo_w on np) np 121 j = lo_w on np j := by simp [xfl, hj]
    rw [e]
    exact h
  · refine xv_ldc dX10_order_11 ld_X10_101 ?_
    refine xv_iret dX10_order_13 rfl (Nat.zero_le _) (Nat.zero_le _) ?_
    exact h1 c_8

theorem s10_below {l : Launch} {D : va_G} {d : Nat} {G : xv_Gr} {I : xv_I} {J : xv_J} {Q : xv_Po} (hG : xg_ok G) {np : Nat} (hn : I 1 1 = nI np) (hnp : np ≤ 12) {on : Nat → Nat} (ho : ∀ p, p < 12 → I 120 p = nI (on p) ∧ on p < 2 ^ 12) {x : Int32} (h1 : ¬ (0 ≤ x ∧ x < nI np) → Q (some (.int (-900001))) G I J) (h2 : ∀ j, j < np → x = nI j → Q (some (.int (nI (xpc (ls_it on 11 (on j)) 16)))) G I J) : xv_Ev l D (d + 2) mX10_below none 0 [some (.ref 0), some (.int x)] [] G I J 0 0 Q := by
  have hnt : (nI np).toInt = (np : Int) := nI_toInt (by omega)
  refine xv_aload_n dX10_below_0 rfl rfl ?_
  refine xv_getr dX10_below_1 fl_X10_10 (go_0 hG) rfl (gr_0_0 hG) ?_
  refine xv_iload_n dX10_below_4 rfl rfl ?_
  refine xv_callV0 (As := [_]) dX10_below_5 cl_X10_71 rfl rfl rfl rfl (go_1 hG) rfl rfl (Nat.le_of_ble_eq_true rfl) (Nat.le_of_ble_eq_true rfl) (Nat.zero_le _) (Nat.zero_le _) ?_
  refine s5_hasN hG hn ?_
  refine xv_if_eqD (tgt := 25) dX10_below_8 rfl (fun c_8 => ?_) (fun c_8 => ?_)
  · refine xv_ldc dX10_below_25 ld_X10_75 ?_
    refine xv_iret dX10_below_27 rfl (Nat.zero_le _) (Nat.zero_le _) ?_
    exact h1 c_8
  · refine xv_aload_n dX10_below_11 rfl rfl ?_
    refine xv_getr dX10_below_12 fl_X10_19 (go_0 hG) rfl (gr_0_1 hG) ?_
    refine xv_iload_n dX10_below_15 rfl rfl ?_
    refine xv_callV0 (As := [_]) dX10_below_16 cl_X10_139 rfl rfl rfl rfl (go_2 hG) rfl rfl (Nat.le_of_ble_eq_true rfl) (Nat.le_of_ble_eq_true rfl) (Nat.zero_le _) (Nat.zero_le _) ?_
    have hr := c_8
    obtain ⟨j, hj, rfl⟩ : ∃ j : Nat, j < np ∧ x = nI j := xn_nat (n := np) (by have h := hr; simp only [xn_lt, xn_le, hnt, Int32.reduceToInt] at h; omega) (by have h := hr; simp only [xn_lt, xn_le, hnt, Int32.reduceToInt] at h; omega) (by omega)
    refine s3_allBelow hG ho (xv_ixn (by omega) (by decide)) (by omega) ?_
    refine xv_callS0 (As := [_]) dX10_below_19 cl_X10_143 rfl rfl rfl rfl (Nat.le_of_ble_eq_true rfl) (Nat.le_of_ble_eq_true rfl) (Nat.zero_le _) (Nat.zero_le _) ?_
    refine sJ_bitCount (ls_it_lt (k := 12) (fun p hp => (ho p hp).2) 11 (on j) (ho j (by omega)).2) ?_
    refine xv_goto (tgt := 27) dX10_below_22 rfl ?_
    refine xv_iret dX10_below_27 rfl (Nat.zero_le _) (Nat.zero_le _) ?_
    exact h2 j hj rfl

theorem s10_lean {l : Launch} {D : va_G} {d : Nat} {G : xv_Gr} {I : xv_I} {J : xv_J} {Q : xv_Po} (hG : xg_ok G) {np : Nat} (hn : I 1 1 = nI np) (hnp : np ≤ 12) {on : Nat → Nat} (ho : ∀ p, p < 12 → I 120 p = nI (on p) ∧ on p < 2 ^ 12) {x y f : Int32} (h1 : ¬ ((0 ≤ x ∧ x < nI np) ∧ (0 ≤ y ∧ y < nI np)) → Q (some (.int (-900001))) G I J) (h2 : ∀ a, a < np → ∀ b, b < np → x = nI a → y = nI b → (¬ f = 0 ∧ (a = b ∨ (ls_it on 11 (on b)).testBit a = true)) → Q (some (.int (-900003))) G I J) (h3 : ∀ a, a < np → ∀ b, b < np → x = nI a → y = nI b → ¬ (¬ f = 0 ∧ (a = b ∨ (ls_it on 11 (on b)).testBit a = true)) → Q (some (.int (nI (on a / 2 ^ b % 2)))) G (xv_ui (xv_ui I 4 1 1) 120 a (nI (@ite Nat (f = 0) (Classical.propDecidable _) (xdf (on a) (2 ^ b)) (on a ||| 2 ^ b)))) J) : xv_Ev l D (d + 2) mX10_lean none 0 [some (.ref 0), some (.int x), some (.int y), some (.int f)] [] G I J 0 0 Q := by
  have hnt : (nI np).toInt = (np : Int) := nI_toInt (by omega)
  refine xv_aload_n dX10_lean_0 rfl rfl ?_
  refine xv_getr dX10_lean_1 fl_X10_10 (go_0 hG) rfl (gr_0_0 hG) ?_
  refine xv_iload_n dX10_lean_4 rfl rfl ?_
  refine xv_callV0 (As := [_]) dX10_lean_5 cl_X10_71 rfl rfl rfl rfl (go_1 hG) rfl rfl (Nat.le_of_ble_eq_true rfl) (Nat.le_of_ble_eq_true rfl) (Nat.zero_le _) (Nat.zero_le _) ?_
  refine s5_hasN hG hn ?_
  refine xv_if_eqD (tgt := 22) dX10_lean_8 rfl (fun c_8 => ?_) (fun c_8 => ?_)
  · refine xv_ldc dX10_lean_22 ld_X10_75 ?_
    refine xv_iret dX10_lean_24 rfl (Nat.zero_le _) (Nat.zero_le _) ?_
    exact h1 (fun h => c_8 h.1)
  · refine xv_aload_n dX10_lean_11 rfl rfl ?_
    refine xv_getr dX10_lean_12 fl_X10_10 (go_0 hG) rfl (gr_0_0 hG) ?_
    refine xv_iload_n dX10_lean_15 rfl rfl ?_
    refine xv_callV0 (As := [_]) dX10_lean_16 cl_X10_71 rfl rfl rfl rfl (go_1 hG) rfl rfl (Nat.le_of_ble_eq_true rfl) (Nat.le_of_ble_eq_true rfl) (Nat.zero_le _) (Nat.zero_le _) ?_
    refine s5_hasN hG hn ?_
    refine xv_if_neD (tgt := 25) dX10_lean_19 rfl (fun c_19 => ?_) (fun c_19 => ?_)
    · obtain ⟨a, ha, rfl⟩ : ∃ j : Nat, j < np ∧ x = nI j := xn_nat (n := np) (by have h := c_8; simp only [xn_lt, xn_le, hnt, Int32.reduceToInt] at h; omega) (by have h := c_8; simp only [xn_lt, xn_le, hnt, Int32.reduceToInt] at h; omega) (by omega)
      obtain ⟨b, hb, rfl⟩ : ∃ j : Nat, j < np ∧ y = nI j := xn_nat (n := np) (by have h := c_19; simp only [xn_lt, xn_le, hnt, Int32.reduceToInt] at h; omega) (by have h := c_19; simp only [xn_lt, xn_le, hnt, Int32.reduceToInt] at h; omega) (by omega)
      refine xv_iload_n dX10_lean_25 rfl rfl ?_
      refine xv_if_eq (tgt := 49) dX10_lean_26 rfl (fun c_26 => ?_) (fun c_26 => ?_)
      · refine xv_aload_n dX10_lean_49 rfl rfl ?_
        refine xv_getr dX10_lean_50 fl_X10_33 (go_0 hG) rfl (gr_0_3 hG) ?_
        refine xv_iconst (v := 1) dX10_lean_53 rfl ?_
        refine xv_puti dX10_lean_54 fl_X10_124 (go_4 hG) rfl rfl rfl ?_
        refine xv_aload_n dX10_lean_57 rfl rfl ?_
        refine xv_getr dX10_lean_58 fl_X10_19 (go_0 hG) rfl (gr_0_1 hG) ?_
        refine xv_iload_n dX10_lean_61 rfl rfl ?_
        refine xv_iload_n dX10_lean_62 rfl rfl ?_
        refine xv_iload_n dX10_lean_63 rfl rfl ?_
        refine xv_callV0 (As := [_, _, _]) dX10_lean_64 cl_X10_128 rfl rfl rfl rfl (go_2 hG) rfl rfl (Nat.le_of_ble_eq_true rfl) (Nat.le_of_ble_eq_true rfl) (Nat.zero_le _) (Nat.zero_le _) ?_
        refine s3_put hG (I := (xv_ui I 4 1 1)) ho (by omega) (by omega) ?_
        refine xv_if_eqP (tgt := 74) dX10_lean_67 rfl (fun c_67 => ?_) (fun c_67 => ?_)
        · refine xv_iconst (v := 0) dX10_lean_74 rfl ?_
          refine xv_iret dX10_lean_75 rfl (Nat.zero_le _) (Nat.zero_le _) ?_
          have h := h3 a ha b hb rfl rfl (fun h => h.1 c_26)
          rw [xt_v0 (Bool.eq_false_iff.mpr c_67)] at h
          exact h
        · refine xv_iconst (v := 1) dX10_lean_70 rfl ?_
          refine xv_goto (tgt := 75) dX10_lean_71 rfl ?_
          refine xv_iret dX10_lean_75 rfl (Nat.zero_le _) (Nat.zero_le _) ?_
          have h := h3 a ha b hb rfl rfl (fun h => h.1 c_26)
          rw [xt_v1 c_67] at h
          exact h
      · refine xv_iload_n dX10_lean_29 rfl rfl ?_
        refine xv_iload_n dX10_lean_30 rfl rfl ?_
        refine xv_icmp_eqN (tgt := 46) dX10_lean_31 rfl (by omega) (by omega) (fun c_31 => ?_) (fun c_31 => ?_)
        · refine xv_ldc dX10_lean_46 ld_X10_90 ?_
          refine xv_iret dX10_lean_48 rfl (Nat.zero_le _) (Nat.zero_le _) ?_
          exact h2 a ha b hb rfl rfl ⟨c_26, Or.inl c_31⟩
        · refine xv_aload_n dX10_lean_34 rfl rfl ?_
          refine xv_getr dX10_lean_35 fl_X10_19 (go_0 hG) rfl (gr_0_1 hG) ?_
          refine xv_iload_n dX10_lean_38 rfl rfl ?_
          refine xv_iload_n dX10_lean_39 rfl rfl ?_
          refine xv_callV0 (As := [_, _]) dX10_lean_40 cl_X10_121 rfl rfl rfl rfl (go_2 hG) rfl rfl (Nat.le_of_ble_eq_true rfl) (Nat.le_of_ble_eq_true rfl) (Nat.zero_le _) (Nat.zero_le _) ?_
          refine s3_rests hG ho (xv_ixn (by omega) (by decide)) (by omega) (by omega) ?_
          refine xv_if_eqP (tgt := 49) dX10_lean_43 rfl (fun c_43 => ?_) (fun c_43 => ?_)
          · refine xv_aload_n dX10_lean_49 rfl rfl ?_
            refine xv_getr dX10_lean_50 fl_X10_33 (go_0 hG) rfl (gr_0_3 hG) ?_
            refine xv_iconst (v := 1) dX10_lean_53 rfl ?_
            refine xv_puti dX10_lean_54 fl_X10_124 (go_4 hG) rfl rfl rfl ?_
            refine xv_aload_n dX10_lean_57 rfl rfl ?_
            refine xv_getr dX10_lean_58 fl_X10_19 (go_0 hG) rfl (gr_0_1 hG) ?_
            refine xv_iload_n dX10_lean_61 rfl rfl ?_
            refine xv_iload_n dX10_lean_62 rfl rfl ?_
            refine xv_iload_n dX10_lean_63 rfl rfl ?_
            refine xv_callV0 (As := [_, _, _]) dX10_lean_64 cl_X10_128 rfl rfl rfl rfl (go_2 hG) rfl rfl (Nat.le_of_ble_eq_true rfl) (Nat.le_of_ble_eq_true rfl) (Nat.zero_le _) (Nat.zero_le _) ?_
            refine s3_put hG (I := (xv_ui I 4 1 1)) ho (by omega) (by omega) ?_
            refine xv_if_eqP (tgt := 74) dX10_lean_67 rfl (fun c_67 => ?_) (fun c_67 => ?_)
            · refine xv_iconst (v := 0) dX10_lean_74 rfl ?_
              refine xv_iret dX10_lean_75 rfl (Nat.zero_le _) (Nat.zero_le _) ?_
              have h := h3 a ha b hb rfl rfl (fun h => h.2.elim (fun e => c_31 e) (fun e => c_43 e))
              rw [xt_v0 (Bool.eq_false_iff.mpr c_67)] at h
              exact h
            · refine xv_iconst (v := 1) dX10_lean_70 rfl ?_
              refine xv_goto (tgt := 75) dX10_lean_71 rfl ?_
              refine xv_iret dX10_lean_75 rfl (Nat.zero_le _) (Nat.zero_le _) ?_
              have h := h3 a ha b hb rfl rfl (fun h => h.2.elim (fun e => c_31 e) (fun e => c_43 e))
              rw [xt_v1 c_67] at h
              exact h
          · refine xv_ldc dX10_lean_46 ld_X10_90 ?_
            refine xv_iret dX10_lean_48 rfl (Nat.zero_le _) (Nat.zero_le _) ?_
            exact h2 a ha b hb rfl rfl ⟨c_26, Or.inr c_43⟩
    · refine xv_ldc dX10_lean_22 ld_X10_75 ?_
      refine xv_iret dX10_lean_24 rfl (Nat.zero_le _) (Nat.zero_le _) ?_
      exact h1 (fun h => c_19 h.2)
