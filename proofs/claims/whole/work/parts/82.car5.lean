/-! two cars (model) -/
theorem xi_n0 (S g m : Nat) : (nI S ^^^ (-1)) &&& (nI g ^^^ (-1)) &&& nI m = nI (xdf (xdf m g) S) := by
  rw [Int32.and_comm, Int32.and_comm (nI S ^^^ (-1)), ← Int32.and_assoc, xi_andn, xi_andn]
theorem xi_n1 (S g m : Nat) : nI S &&& (nI g ^^^ (-1)) &&& nI m = nI (xdf m g &&& S) := by
  rw [Int32.and_comm, Int32.and_comm (nI S), ← Int32.and_assoc, xi_andn, xi_and]
def ts_ (od : Nat → Nat) (S : Nat) : Nat → Nat
  | 0 => 0
  | i + 1 => ts_ od S i + tf_ (xdf (2 ^ od i - 1) (dn_f od i)) (tb_c S (od i)) S
theorem ts_le (od : Nat → Nat) (S : Nat) : ∀ i, ts_ od S i ≤ 16 * i
  | 0 => Nat.le_refl _
  | i + 1 => by
    have h := ts_le od S i
    have h2 : tf_ (xdf (2 ^ od i - 1) (dn_f od i)) (tb_c S (od i)) S ≤ 16 := xpc_le _ _
    rw [ts_]
    omega
def tfit (sz rm : Nat → Nat) (np S : Nat) : Prop := tb_l sz S 0 np ≤ rm 0 ∧ tb_l sz S 1 np ≤ rm 1
theorem s11_tb_a {l : Launch} {D : va_G} {d : Nat} {G : xv_Gr} {I : xv_I} {J : xv_J} {Q : xv_Po} (hG : xg_ok G) {np : Nat} (hn : I 40 1 = nI np) (hnp : np ≤ 12) {sz rm : Nat → Nat} (hsz : ∀ p, p < np → I 53 p = nI (sz p) ∧ sz p ≤ 1000000) (hrm : ∀ c, c < 2 → I 73 c = nI (rm c) ∧ rm c ≤ 3000) {od : Nat → Nat} (hod : ∀ i, i < np → I 62 i = nI (od i) ∧ od i < np) {S : Nat} (hS : S < 4096) (kk : xv_Ev l D (d + 1) mX11_turnedBy none 69 [some (.ref 40), some (.int (nI S)), some (.int (nI (tb_l sz S 0 np))), some (.int (nI (tb_l sz S 1 np))), some (.int (nI np)), none, none, none, none] [] G I J 0 0 Q) : ∀ (k i : Nat), i + k = np → xv_Ev l D (d + 1) mX11_turnedBy none 7 [some (.ref 40), some (.int (nI S)), some (.int (nI (tb_l sz S 0 i))), some (.int (nI (tb_l sz S 1 i))), some (.int (nI i)), none, none, none, none] [] G I J 0 0 Q := by
  intro k
  induction k with
  | zero =>
    intro i hi
    refine xv_iload dX11_turnedBy_7 rfl ?_
    refine xv_aload_n dX11_turnedBy_9 rfl rfl ?_
    refine xv_geti dX11_turnedBy_10 fl_X11_135 (go_40 hG) rfl ?_
    refine xv_nmI hn ?_
    refine xv_icmp_geN (tgt := 69) dX11_turnedBy_13 rfl (by omega) (by omega) (fun c_13 => ?_) (fun c_13 => absurd c_13 (by omega))
    have e : i = np := by omega
    subst e
    exact kk
  | succ k ih =>
    intro i hi
    refine xv_iload dX11_turnedBy_7 rfl ?_
    refine xv_aload_n dX11_turnedBy_9 rfl rfl ?_
    refine xv_geti dX11_turnedBy_10 fl_X11_135 (go_40 hG) rfl ?_
    refine xv_nmI hn ?_
    refine xv_icmp_geN (tgt := 69) dX11_turnedBy_13 rfl (by omega) (by omega) (fun c_13 => absurd c_13 (by omega)) (fun c_13 => ?_)
    refine xv_iload_n dX11_turnedBy_16 rfl rfl ?_
    refine xv_iload_n dX11_turnedBy_17 rfl rfl ?_
    refine xv_iload dX11_turnedBy_18 rfl ?_
    refine xv_ishr dX11_turnedBy_20 ?_
    refine xv_iconst (v := 1) dX11_turnedBy_21 rfl ?_
    refine xv_iand dX11_turnedBy_22 ?_
    have hm2 := Nat.mod_lt (S / 2 ^ i) (show 0 < 2 by decide)
    refine xv_nmI (xi_bit (by omega) (by omega)) ?_
    refine xv_if_ne (tgt := 36) dX11_turnedBy_23 rfl (fun c_23 => ?_) (fun c_23 => ?_)
    · refine xv_iconst (v := nI 0) dX11_turnedBy_36 rfl ?_
      refine xv_iadd dX11_turnedBy_37 ?_
      refine xv_nmI (nI_add _ _) ?_
      refine xv_istore_n dX11_turnedBy_38 rfl (Nat.le_of_ble_eq_true rfl) rfl ?_
      refine xv_iload_n dX11_turnedBy_39 rfl rfl ?_
      refine xv_iload_n dX11_turnedBy_40 rfl rfl ?_
      refine xv_iload dX11_turnedBy_41 rfl ?_
      refine xv_ishr dX11_turnedBy_43 ?_
      refine xv_iconst (v := 1) dX11_turnedBy_44 rfl ?_
      refine xv_iand dX11_turnedBy_45 ?_
      refine xv_nmI (xi_bit (by omega) (by omega)) ?_
      refine xv_iconst (v := nI 1) dX11_turnedBy_46 rfl ?_
      refine xv_icmp_neN (tgt := 60) dX11_turnedBy_47 rfl (by omega) (by omega) (fun c_47 => absurd c_47 (by have q : ¬ S / 2 ^ i % 2 = 0 := fun z => c_23 (by rw [z]; rfl); omega)) (fun c_47 => ?_)
      refine xv_aload_n dX11_turnedBy_50 rfl rfl ?_
      refine xv_getr dX11_turnedBy_51 fl_X11_17 (go_40 hG) rfl (gr_40_3 hG) ?_
      refine xv_iload dX11_turnedBy_54 rfl ?_
      refine xv_iaload dX11_turnedBy_56 (go_53 hG) (xv_ixn (by omega) (by decide)) ?_
      refine xv_nmI (hsz i (by omega)).1 ?_
      refine xv_goto (tgt := 61) dX11_turnedBy_57 rfl ?_
      refine xv_iadd dX11_turnedBy_61 ?_
      refine xv_nmI (nI_add _ _) ?_
      refine xv_istore_n dX11_turnedBy_62 rfl (Nat.le_of_ble_eq_true rfl) rfl ?_
      refine xv_iinc dX11_turnedBy_63 rfl (xv_inc _) (Nat.le_of_ble_eq_true rfl) rfl ?_
      refine xv_goto (tgt := 7) dX11_turnedBy_66 rfl ?_
      have hc : tb_c S i = 1 := by
        have q : ¬ S / 2 ^ i % 2 = 0 := fun z => c_23 (by rw [z]; rfl)
        show S / 2 ^ i % 2 = 1
        omega
      have h := ih (i + 1) (by omega)
      rw [tb_l, tb_l, hc, if_neg (by decide), if_pos rfl] at h
      exact h
    · refine xv_aload_n dX11_turnedBy_26 rfl rfl ?_
      refine xv_getr dX11_turnedBy_27 fl_X11_17 (go_40 hG) rfl (gr_40_3 hG) ?_
      refine xv_iload dX11_turnedBy_30 rfl ?_
      refine xv_iaload dX11_turnedBy_32 (go_53 hG) (xv_ixn (by omega) (by decide)) ?_
      refine xv_nmI (hsz i (by omega)).1 ?_
      refine xv_goto (tgt := 37) dX11_turnedBy_33 rfl ?_
      refine xv_iadd dX11_turnedBy_37 ?_
      refine xv_nmI (nI_add _ _) ?_
      refine xv_istore_n dX11_turnedBy_38 rfl (Nat.le_of_ble_eq_true rfl) rfl ?_
      refine xv_iload_n dX11_turnedBy_39 rfl rfl ?_
      refine xv_iload_n dX11_turnedBy_40 rfl rfl ?_
      refine xv_iload dX11_turnedBy_41 rfl ?_
      refine xv_ishr dX11_turnedBy_43 ?_
      refine xv_iconst (v := 1) dX11_turnedBy_44 rfl ?_
      refine xv_iand dX11_turnedBy_45 ?_
      refine xv_nmI (xi_bit (by omega) (by omega)) ?_
      refine xv_iconst (v := nI 1) dX11_turnedBy_46 rfl ?_
      refine xv_icmp_neN (tgt := 60) dX11_turnedBy_47 rfl (by omega) (by omega) (fun c_47 => ?_) (fun c_47 => absurd c_47 (by have q := (xi_0 (by omega)).mp c_23; omega))
      refine xv_iconst (v := nI 0) dX11_turnedBy_60 rfl ?_
      refine xv_iadd dX11_turnedBy_61 ?_
      refine xv_nmI (nI_add _ _) ?_
      refine xv_istore_n dX11_turnedBy_62 rfl (Nat.le_of_ble_eq_true rfl) rfl ?_
      refine xv_iinc dX11_turnedBy_63 rfl (xv_inc _) (Nat.le_of_ble_eq_true rfl) rfl ?_
      refine xv_goto (tgt := 7) dX11_turnedBy_66 rfl ?_
      have hc : tb_c S i = 0 := (xi_0 (show S / 2 ^ i % 2 < 2 ^ 32 by omega)).mp c_23
      have h := ih (i + 1) (by omega)
      rw [tb_l, tb_l, hc, if_pos rfl, if_neg (by decide)] at h
      exact h

theorem s11_tb_b {l : Launch} {D : va_G} {d : Nat} {G : xv_Gr} {I : xv_I} {J : xv_J} {Q : xv_Po} (hG : xg_ok G) {np : Nat} (hn : I 40 1 = nI np) (hnp : np ≤ 12) {sz rm : Nat → Nat} (hsz : ∀ p, p < np → I 53 p = nI (sz p) ∧ sz p ≤ 1000000) (hrm : ∀ c, c < 2 → I 73 c = nI (rm c) ∧ rm c ≤ 3000) {od : Nat → Nat} (hod : ∀ i, i < np → I 62 i = nI (od i) ∧ od i < np) {S : Nat} (hS : S < 4096) (hQ : Q (some (.int (nI (ts_ od S np)))) G I J) : ∀ (k i : Nat), i + k = np → xv_Ev l D (d + 1) mX11_turnedBy none 101 [some (.ref 40), some (.int (nI S)), none, none, some (.int (nI (ts_ od S i))), some (.int (nI (dn_f od i))), some (.int (nI i)), none, none] [] G I J 0 0 Q := by
  intro k
  induction k with
  | zero =>
    intro i hi
    refine xv_iload dX11_turnedBy_101 rfl ?_
    refine xv_aload_n dX11_turnedBy_103 rfl rfl ?_
    refine xv_geti dX11_turnedBy_104 fl_X11_135 (go_40 hG) rfl ?_
    refine xv_nmI hn ?_
    refine xv_icmp_geN (tgt := 175) dX11_turnedBy_107 rfl (by omega) (by omega) (fun c_107 => ?_) (fun c_107 => absurd c_107 (by omega))
    refine xv_iload dX11_turnedBy_175 rfl ?_
    refine xv_iret dX11_turnedBy_177 rfl (Nat.zero_le _) (Nat.zero_le _) ?_
    have e : i = np := by omega
    subst e
    exact hQ
  | succ k ih =>
    intro i hi
    refine xv_iload dX11_turnedBy_101 rfl ?_
    refine xv_aload_n dX11_turnedBy_103 rfl rfl ?_
    refine xv_geti dX11_turnedBy_104 fl_X11_135 (go_40 hG) rfl ?_
    refine xv_nmI hn ?_
    refine xv_icmp_geN (tgt := 175) dX11_turnedBy_107 rfl (by omega) (by omega) (fun c_107 => absurd c_107 (by omega)) (fun c_107 => ?_)
    refine xv_aload_n dX11_turnedBy_110 rfl rfl ?_
    refine xv_getr dX11_turnedBy_111 fl_X11_42 (go_40 hG) rfl (gr_40_12 hG) ?_
    refine xv_iload dX11_turnedBy_114 rfl ?_
    refine xv_iaload dX11_turnedBy_116 (go_62 hG) (xv_ixn (by omega) (by decide)) ?_
    have hO := hod i (by omega)
    have hm2 := Nat.mod_lt (S / 2 ^ od i) (show 0 < 2 by decide)
    have hx4 : xdf (2 ^ od i - 1) (dn_f od i) < 4096 := by
      have q1 := xdf_le (2 ^ od i - 1) (dn_f od i)
      have q2 : 2 ^ od i < 2 ^ 12 := Nat.pow_lt_pow_right (by decide) (by omega)
      omega
    refine xv_nmI hO.1 ?_
    refine xv_istore dX11_turnedBy_117 (Nat.le_of_ble_eq_true rfl) rfl ?_
    refine xv_iload_n dX11_turnedBy_119 rfl rfl ?_
    refine xv_iload dX11_turnedBy_120 rfl ?_
    refine xv_ishr dX11_turnedBy_122 ?_
    refine xv_iconst (v := 1) dX11_turnedBy_123 rfl ?_
    refine xv_iand dX11_turnedBy_124 ?_
    refine xv_nmI (xi_bit (by omega) (by omega)) ?_
    refine xv_iconst (v := nI 1) dX11_turnedBy_125 rfl ?_
    refine xv_icmp_neN (tgt := 133) dX11_turnedBy_126 rfl (by omega) (by omega) (fun c_126 => ?_) (fun c_126 => ?_)
    · refine xv_iload_n dX11_turnedBy_133 rfl rfl ?_
      refine xv_iconst (v := -1) dX11_turnedBy_134 rfl ?_
      refine xv_ixor dX11_turnedBy_135 ?_
      refine xv_istore dX11_turnedBy_136 (Nat.le_of_ble_eq_true rfl) rfl ?_
      refine xv_iload dX11_turnedBy_138 rfl ?_
      refine xv_iload dX11_turnedBy_140 rfl ?_
      refine xv_iload dX11_turnedBy_142 rfl ?_
      refine xv_iconst (v := -1) dX11_turnedBy_144 rfl ?_
      refine xv_ixor dX11_turnedBy_145 ?_
      refine xv_iand dX11_turnedBy_146 ?_
      refine xv_iconst (v := nI 1) dX11_turnedBy_147 rfl ?_
      refine xv_iload dX11_turnedBy_148 rfl ?_
      refine xv_ishl dX11_turnedBy_150 ?_
      refine xv_nmI (xi_one (by omega)) ?_
      refine xv_iconst (v := nI 1) dX11_turnedBy_151 rfl ?_
      refine xv_isub dX11_turnedBy_152 ?_
      refine xv_nmI (pk_sub Nat.one_le_two_pow) ?_
      refine xv_iand dX11_turnedBy_153 ?_
      refine xv_nmI (xi_n0 _ _ _) ?_
      refine xv_callS0 (As := [_]) dX11_turnedBy_154 cl_X11_176 rfl rfl rfl rfl (Nat.le_of_ble_eq_true rfl) (Nat.le_of_ble_eq_true rfl) (Nat.zero_le _) (Nat.zero_le _) ?_
      refine s11_ones (Nat.lt_of_le_of_lt (Nat.le_trans (xdf_le _ _) (by omega)) (show 4095 < 2 ^ 31 by decide)) ?_
      refine xv_iadd dX11_turnedBy_157 ?_
      refine xv_nmI (nI_add _ _) ?_
      refine xv_istore dX11_turnedBy_158 (Nat.le_of_ble_eq_true rfl) rfl ?_
      refine xv_iload dX11_turnedBy_160 rfl ?_
      refine xv_iconst (v := nI 1) dX11_turnedBy_162 rfl ?_
      refine xv_iload dX11_turnedBy_163 rfl ?_
      refine xv_ishl dX11_turnedBy_165 ?_
      refine xv_nmI (xi_one (by omega)) ?_
      refine xv_ior dX11_turnedBy_166 ?_
      refine xv_nmI (xi_or _ _) ?_
      refine xv_istore dX11_turnedBy_167 (Nat.le_of_ble_eq_true rfl) rfl ?_
      refine xv_iinc dX11_turnedBy_169 rfl (xv_inc _) (Nat.le_of_ble_eq_true rfl) rfl ?_
      refine xv_goto (tgt := 101) dX11_turnedBy_172 rfl ?_
      have hc : tb_c S (od i) = 0 := by
        show S / 2 ^ od i % 2 = 0
        omega
      have h := ih (i + 1) (by omega)
      rw [ts_, tf_, hc, if_pos rfl] at h
      refine xv_fg [true, true, false, false, true, true, true, false, false] ?_
      exact h
    · refine xv_iload_n dX11_turnedBy_129 rfl rfl ?_
      refine xv_goto (tgt := 136) dX11_turnedBy_130 rfl ?_
      refine xv_istore dX11_turnedBy_136 (Nat.le_of_ble_eq_true rfl) rfl ?_
      refine xv_iload dX11_turnedBy_138 rfl ?_
      refine xv_iload dX11_turnedBy_140 rfl ?_
      refine xv_iload dX11_turnedBy_142 rfl ?_
      refine xv_iconst (v := -1) dX11_turnedBy_144 rfl ?_
      refine xv_ixor dX11_turnedBy_145 ?_
      refine xv_iand dX11_turnedBy_146 ?_
      refine xv_iconst (v := nI 1) dX11_turnedBy_147 rfl ?_
      refine xv_iload dX11_turnedBy_148 rfl ?_
      refine xv_ishl dX11_turnedBy_150 ?_
      refine xv_nmI (xi_one (by omega)) ?_
      refine xv_iconst (v := nI 1) dX11_turnedBy_151 rfl ?_
      refine xv_isub dX11_turnedBy_152 ?_
      refine xv_nmI (pk_sub Nat.one_le_two_pow) ?_
      refine xv_iand dX11_turnedBy_153 ?_
      refine xv_nmI (xi_n1 _ _ _) ?_
      refine xv_callS0 (As := [_]) dX11_turnedBy_154 cl_X11_176 rfl rfl rfl rfl (Nat.le_of_ble_eq_true rfl) (Nat.le_of_ble_eq_true rfl) (Nat.zero_le _) (Nat.zero_le _) ?_
      refine s11_ones (Nat.lt_of_le_of_lt (Nat.le_trans Nat.and_le_left (by omega)) (show 4095 < 2 ^ 31 by decide)) ?_
      refine xv_iadd dX11_turnedBy_157 ?_
      refine xv_nmI (nI_add _ _) ?_
      refine xv_istore dX11_turnedBy_158 (Nat.le_of_ble_eq_true rfl) rfl ?_
      refine xv_iload dX11_turnedBy_160 rfl ?_
      refine xv_iconst (v := nI 1) dX11_turnedBy_162 rfl ?_
      refine xv_iload dX11_turnedBy_163 rfl ?_
      refine xv_ishl dX11_turnedBy_165 ?_
      refine xv_nmI (xi_one (by omega)) ?_
      refine xv_ior dX11_turnedBy_166 ?_
      refine xv_nmI (xi_or _ _) ?_
      refine xv_istore dX11_turnedBy_167 (Nat.le_of_ble_eq_true rfl) rfl ?_
      refine xv_iinc dX11_turnedBy_169 rfl (xv_inc _) (Nat.le_of_ble_eq_true rfl) rfl ?_
      refine xv_goto (tgt := 101) dX11_turnedBy_172 rfl ?_
      have hc : tb_c S (od i) = 1 := c_126
      have h := ih (i + 1) (by omega)
      rw [ts_, tf_, hc, if_neg (by decide)] at h
      refine xv_fg [true, true, false, false, true, true, true, false, false] ?_
      exact h

theorem s11_turnedBy {l : Launch} {D : va_G} {d : Nat} {G : xv_Gr} {I : xv_I} {J : xv_J} {Q : xv_Po} (hG : xg_ok G) {np : Nat} (hn : I 40 1 = nI np) (hnp : np ≤ 12) {sz rm : Nat → Nat} (hsz : ∀ p, p < np → I 53 p = nI (sz p) ∧ sz p ≤ 1000000) (hrm : ∀ c, c < 2 → I 73 c = nI (rm c) ∧ rm c ≤ 3000) {od : Nat → Nat} (hod : ∀ i, i < np → I 62 i = nI (od i) ∧ od i < np) {S : Nat} (hS : S < 4096) (h1 : ¬ (tfit sz rm np S) → Q (some (.int (-900009))) G I J) (h2 : (tfit sz rm np S) → Q (some (.int (nI (ts_ od S np)))) G I J) : xv_Ev l D (d + 1) mX11_turnedBy none 0 [some (.ref 40), some (.int (nI S)), none, none, none, none, none, none, none] [] G I J 0 0 Q := by
  refine xv_iconst (v := nI 0) dX11_turnedBy_0 rfl ?_
  refine xv_istore_n dX11_turnedBy_1 rfl (Nat.le_of_ble_eq_true rfl) rfl ?_
  refine xv_iconst (v := nI 0) dX11_turnedBy_2 rfl ?_
  refine xv_istore_n dX11_turnedBy_3 rfl (Nat.le_of_ble_eq_true rfl) rfl ?_
  refine xv_iconst (v := nI 0) dX11_turnedBy_4 rfl ?_
  refine xv_istore dX11_turnedBy_5 (Nat.le_of_ble_eq_true rfl) rfl ?_
  refine s11_tb_a hG hn hnp hsz hrm hod hS ?_ np 0 (by omega)
  have hb0 := tb_lb (S := S) (c := 0) (fun p hp => (hsz p hp).2) np (Nat.le_refl _)
  have hb1 := tb_lb (S := S) (c := 1) (fun p hp => (hsz p hp).2) np (Nat.le_refl _)
  have hr0 := hrm 0 (by decide)
  have hr1 := hrm 1 (by decide)
  refine xv_iload_n dX11_turnedBy_69 rfl rfl ?_
  refine xv_aload_n dX11_turnedBy_70 rfl rfl ?_
  refine xv_getr dX11_turnedBy_71 fl_X11_72 (go_40 hG) rfl (gr_40_23 hG) ?_
  refine xv_iconst (v := nI 0) dX11_turnedBy_74 rfl ?_
  refine xv_iaload dX11_turnedBy_75 (go_73 hG) (xv_ixn (by omega) (by decide)) ?_
  refine xv_nmI hr0.1 ?_
  refine xv_icmp_gtN (tgt := 89) dX11_turnedBy_76 rfl (by omega) (by omega) (fun c_76 => ?_) (fun c_76 => ?_)
  · refine xv_ldc dX11_turnedBy_89 ld_X11_152 ?_
    refine xv_iret dX11_turnedBy_91 rfl (Nat.zero_le _) (Nat.zero_le _) ?_
    exact h1 (fun h => absurd h.1 (by omega))
  · refine xv_iload_n dX11_turnedBy_79 rfl rfl ?_
    refine xv_aload_n dX11_turnedBy_80 rfl rfl ?_
    refine xv_getr dX11_turnedBy_81 fl_X11_72 (go_40 hG) rfl (gr_40_23 hG) ?_
    refine xv_iconst (v := nI 1) dX11_turnedBy_84 rfl ?_
    refine xv_iaload dX11_turnedBy_85 (go_73 hG) (xv_ixn (by omega) (by decide)) ?_
    refine xv_nmI hr1.1 ?_
    refine xv_icmp_leN (tgt := 92) dX11_turnedBy_86 rfl (by omega) (by omega) (fun c_86 => ?_) (fun c_86 => ?_)
    · refine xv_iconst (v := nI 0) dX11_turnedBy_92 rfl ?_
      refine xv_istore dX11_turnedBy_93 (Nat.le_of_ble_eq_true rfl) rfl ?_
      refine xv_iconst (v := nI 0) dX11_turnedBy_95 rfl ?_
      refine xv_istore dX11_turnedBy_96 (Nat.le_of_ble_eq_true rfl) rfl ?_
      refine xv_iconst (v := nI 0) dX11_turnedBy_98 rfl ?_
      refine xv_istore dX11_turnedBy_99 (Nat.le_of_ble_eq_true rfl) rfl ?_
      refine xv_fg [true, true, false, false, true, true, true, false, false] ?_
      exact s11_tb_b hG hn hnp hsz hrm hod hS (h2 ⟨by omega, by omega⟩) np 0 (by omega)
    · refine xv_ldc dX11_turnedBy_89 ld_X11_152 ?_
      refine xv_iret dX11_turnedBy_91 rfl (Nat.zero_le _) (Nat.zero_le _) ?_
      exact h1 (fun h => absurd h.2 (by omega))

def cb_C (sz rm od : Nat → Nat) (np k : Nat) (b : Option Nat) : Prop := tfit sz rm np k ∧ ∀ q, b = some q → ts_ od k np < ts_ od q np ∨ (ts_ od k np = ts_ od q np ∧ il_ k q)
def ls_v (od : Nat → Nat) (np : Nat) : Option Nat → Nat
  | none => 100000000
  | some q => ts_ od q np
theorem s11_bc_c {l : Launch} {D : va_G} {d : Nat} {G : xv_Gr} {I : xv_I} {J : xv_J} {Q : xv_Po} (hG : xg_ok G) {np : Nat} (hn : I 40 1 = nI np) (hnp : np ≤ 12) {sz rm : Nat → Nat} (hsz : ∀ p, p < np → I 53 p = nI (sz p) ∧ sz p ≤ 1000000) (hrm : ∀ c, c < 2 → I 73 c = nI (rm c) ∧ rm c ≤ 3000) {od : Nat → Nat} (hod : ∀ i, i < np → I 62 i = nI (od i) ∧ od i < np) (hQ : Q (some (.int (ob_ (-900009) (bst (cb_C sz rm od np) (2 ^ np))))) G I J) : ∀ (r k : Nat), k + r = 2 ^ np → xv_Ev l D (d + 2) mX11_bestCars none 12 [some (.ref 40), some (.int (ob_ (-900009) (bst (cb_C sz rm od np) k))), some (.int (nI (ls_v od np (bst (cb_C sz rm od np) k)))), some (.int (nI k)), none] [] G I J 0 0 Q := by
  intro r
  induction r with
  | zero =>
    intro k hk
    have h2 : 2 ^ np ≤ 2 ^ 12 := Nat.pow_le_pow_right (by decide) hnp
    have h24 : (2 : Nat) ^ 12 = 4096 := by decide
    refine xv_iload_n dX11_bestCars_12 rfl rfl ?_
    refine xv_iconst (v := nI 1) dX11_bestCars_13 rfl ?_
    refine xv_aload_n dX11_bestCars_14 rfl rfl ?_
    refine xv_geti dX11_bestCars_15 fl_X11_135 (go_40 hG) rfl ?_
    refine xv_nmI hn ?_
    refine xv_ishl dX11_bestCars_18 ?_
    refine xv_nmI (xi_one (by omega)) ?_
    refine xv_icmp_geN (tgt := 72) dX11_bestCars_19 rfl (by omega) (by omega) (fun c_19 => ?_) (fun c_19 => absurd c_19 (by omega))
    refine xv_iload_n dX11_bestCars_72 rfl rfl ?_
    refine xv_iret dX11_bestCars_73 rfl (Nat.zero_le _) (Nat.zero_le _) ?_
    have e : k = 2 ^ np := by omega
    subst e
    exact hQ
  | succ r ih =>
    intro k hk
    cases e : bst (cb_C sz rm od np) k with
    | none =>
      show xv_Ev l D (d + 2) mX11_bestCars none 12 [some (.ref 40), some (.int (-900009)), some (.int (nI 100000000)), some (.int (nI k)), none] [] G I J 0 0 Q
      have h2 : 2 ^ np ≤ 2 ^ 12 := Nat.pow_le_pow_right (by decide) hnp
      have h24 : (2 : Nat) ^ 12 = 4096 := by decide
      have hts := ts_le od k np
      refine xv_iload_n dX11_bestCars_12 rfl rfl ?_
      refine xv_iconst (v := nI 1) dX11_bestCars_13 rfl ?_
      refine xv_aload_n dX11_bestCars_14 rfl rfl ?_
      refine xv_geti dX11_bestCars_15 fl_X11_135 (go_40 hG) rfl ?_
      refine xv_nmI hn ?_
      refine xv_ishl dX11_bestCars_18 ?_
      refine xv_nmI (xi_one (by omega)) ?_
      refine xv_icmp_geN (tgt := 72) dX11_bestCars_19 rfl (by omega) (by omega) (fun c_19 => absurd c_19 (by omega)) (fun c_19 => ?_)
      refine xv_aload_n dX11_bestCars_22 rfl rfl ?_
      refine xv_iload_n dX11_bestCars_23 rfl rfl ?_
      refine xv_callV0 (As := [_]) dX11_bestCars_24 cl_X11_208 rfl rfl rfl rfl (go_40 hG) rfl rfl (Nat.le_of_ble_eq_true rfl) (Nat.le_of_ble_eq_true rfl) (Nat.zero_le _) (Nat.zero_le _) ?_
      refine s11_turnedBy (d := d) hG hn hnp hsz hrm hod (S := k) (by omega) (fun q => ?_) (fun q => ?_)
      · refine xv_istore dX11_bestCars_27 (Nat.le_of_ble_eq_true rfl) rfl ?_
        refine xv_iload dX11_bestCars_29 rfl ?_
        refine xv_ldc dX11_bestCars_31 ld_X11_152 ?_
        refine xv_icmp_eq (tgt := 66) dX11_bestCars_33 rfl (fun c_33 => ?_) (fun c_33 => absurd rfl c_33)
        refine xv_iinc dX11_bestCars_66 rfl (xv_inc _) (Nat.le_of_ble_eq_true rfl) rfl ?_
        refine xv_goto (tgt := 12) dX11_bestCars_69 rfl ?_
        have hc : ¬ (cb_C sz rm od np) k (bst (cb_C sz rm od np) k) := fun h => q h.1
        have h := ih (k + 1) (by omega)
        rw [bst_n hc, e] at h
        refine xv_fg [true, true, true, true, false] ?_
        exact h
      · refine xv_istore dX11_bestCars_27 (Nat.le_of_ble_eq_true rfl) rfl ?_
        refine xv_iload dX11_bestCars_29 rfl ?_
        refine xv_ldc dX11_bestCars_31 ld_X11_152 ?_
        refine xv_icmp_eq (tgt := 66) dX11_bestCars_33 rfl (fun c_33 => absurd c_33 (nI_nb (by omega))) (fun c_33 => ?_)
        refine xv_iload dX11_bestCars_36 rfl ?_
        refine xv_iload_n dX11_bestCars_38 rfl rfl ?_
        refine xv_icmp_ltN (tgt := 61) dX11_bestCars_39 rfl (by omega) (by omega) (fun c_39 => ?_) (fun c_39 => absurd c_39 (by omega))
        refine xv_iload_n dX11_bestCars_61 rfl rfl ?_
        refine xv_istore_n dX11_bestCars_62 rfl (Nat.le_of_ble_eq_true rfl) rfl ?_
        refine xv_iload dX11_bestCars_63 rfl ?_
        refine xv_istore_n dX11_bestCars_65 rfl (Nat.le_of_ble_eq_true rfl) rfl ?_
        refine xv_iinc dX11_bestCars_66 rfl (xv_inc _) (Nat.le_of_ble_eq_true rfl) rfl ?_
        refine xv_goto (tgt := 12) dX11_bestCars_69 rfl ?_
        have hc : (cb_C sz rm od np) k (bst (cb_C sz rm od np) k) := ⟨q, fun r hr => (by rw [e] at hr; cases hr)⟩
        have h := ih (k + 1) (by omega)
        rw [bst_y hc] at h
        refine xv_fg [true, true, true, true, false] ?_
        exact h
    | some b =>
      have hb := bst_lt e
      show xv_Ev l D (d + 2) mX11_bestCars none 12 [some (.ref 40), some (.int (nI b)), some (.int (nI (ts_ od b np))), some (.int (nI k)), none] [] G I J 0 0 Q
      have h2 : 2 ^ np ≤ 2 ^ 12 := Nat.pow_le_pow_right (by decide) hnp
      have h24 : (2 : Nat) ^ 12 = 4096 := by decide
      have hts := ts_le od k np
      have htb := ts_le od b np
      refine xv_iload_n dX11_bestCars_12 rfl rfl ?_
      refine xv_iconst (v := nI 1) dX11_bestCars_13 rfl ?_
      refine xv_aload_n dX11_bestCars_14 rfl rfl ?_
      refine xv_geti dX11_bestCars_15 fl_X11_135 (go_40 hG) rfl ?_
      refine xv_nmI hn ?_
      refine xv_ishl dX11_bestCars_18 ?_
      refine xv_nmI (xi_one (by omega)) ?_
      refine xv_icmp_geN (tgt := 72) dX11_bestCars_19 rfl (by omega) (by omega) (fun c_19 => absurd c_19 (by omega)) (fun c_19 => ?_)
      refine xv_aload_n dX11_bestCars_22 rfl rfl ?_
      refine xv_iload_n dX11_bestCars_23 rfl rfl ?_
      refine xv_callV0 (As := [_]) dX11_bestCars_24 cl_X11_208 rfl rfl rfl rfl (go_40 hG) rfl rfl (Nat.le_of_ble_eq_true rfl) (Nat.le_of_ble_eq_true rfl) (Nat.zero_le _) (Nat.zero_le _) ?_
      refine s11_turnedBy (d := d) hG hn hnp hsz hrm hod (S := k) (by omega) (fun q => ?_) (fun q => ?_)
      · refine xv_istore dX11_bestCars_27 (Nat.le_of_ble_eq_true rfl) rfl ?_
        refine xv_iload dX11_bestCars_29 rfl ?_
        refine xv_ldc dX11_bestCars_31 ld_X11_152 ?_
        refine xv_icmp_eq (tgt := 66) dX11_bestCars_33 rfl (fun c_33 => ?_) (fun c_33 => absurd rfl c_33)
        refine xv_iinc dX11_bestCars_66 rfl (xv_inc _) (Nat.le_of_ble_eq_true rfl) rfl ?_
        refine xv_goto (tgt := 12) dX11_bestCars_69 rfl ?_
        have hc : ¬ (cb_C sz rm od np) k (bst (cb_C sz rm od np) k) := fun h => q h.1
        have h := ih (k + 1) (by omega)
        rw [bst_n hc, e] at h
        refine xv_fg [true, true, true, true, false] ?_
        exact h
      · refine xv_istore dX11_bestCars_27 (Nat.le_of_ble_eq_true rfl) rfl ?_
        refine xv_iload dX11_bestCars_29 rfl ?_
        refine xv_ldc dX11_bestCars_31 ld_X11_152 ?_
        refine xv_icmp_eq (tgt := 66) dX11_bestCars_33 rfl (fun c_33 => absurd c_33 (nI_nb (by omega))) (fun c_33 => ?_)
        refine xv_iload dX11_bestCars_36 rfl ?_
        refine xv_iload_n dX11_bestCars_38 rfl rfl ?_
        refine xv_icmp_ltN (tgt := 61) dX11_bestCars_39 rfl (by omega) (by omega) (fun c_39 => ?_) (fun c_39 => ?_)
        · refine xv_iload_n dX11_bestCars_61 rfl rfl ?_
          refine xv_istore_n dX11_bestCars_62 rfl (Nat.le_of_ble_eq_true rfl) rfl ?_
          refine xv_iload dX11_bestCars_63 rfl ?_
          refine xv_istore_n dX11_bestCars_65 rfl (Nat.le_of_ble_eq_true rfl) rfl ?_
          refine xv_iinc dX11_bestCars_66 rfl (xv_inc _) (Nat.le_of_ble_eq_true rfl) rfl ?_
          refine xv_goto (tgt := 12) dX11_bestCars_69 rfl ?_
          have hc : (cb_C sz rm od np) k (bst (cb_C sz rm od np) k) := ⟨q, fun r hr => (by rw [e] at hr; cases hr; exact Or.inl c_39)⟩
          have h := ih (k + 1) (by omega)
          rw [bst_y hc] at h
          refine xv_fg [true, true, true, true, false] ?_
          exact h
        · refine xv_iload dX11_bestCars_42 rfl ?_
          refine xv_iload_n dX11_bestCars_44 rfl rfl ?_
          refine xv_icmp_neN (tgt := 66) dX11_bestCars_45 rfl (by omega) (by omega) (fun c_45 => ?_) (fun c_45 => ?_)
          · refine xv_iinc dX11_bestCars_66 rfl (xv_inc _) (Nat.le_of_ble_eq_true rfl) rfl ?_
            refine xv_goto (tgt := 12) dX11_bestCars_69 rfl ?_
            have hc : ¬ (cb_C sz rm od np) k (bst (cb_C sz rm od np) k) := fun h => (h.2 b e).elim (fun z => absurd z (by omega)) (fun z => c_45 z.1)
            have h := ih (k + 1) (by omega)
            rw [bst_n hc, e] at h
            refine xv_fg [true, true, true, true, false] ?_
            exact h
          · refine xv_iload_n dX11_bestCars_48 rfl rfl ?_
            refine xv_iload_n dX11_bestCars_49 rfl rfl ?_
            refine xv_icmp_eqN (tgt := 66) dX11_bestCars_50 rfl (by omega) (by omega) (fun c_50 => absurd c_50 (by omega)) (fun c_50 => ?_)
            refine xv_iload_n dX11_bestCars_53 rfl rfl ?_
            refine xv_iload_n dX11_bestCars_54 rfl rfl ?_
            refine xv_callS0 (As := [_, _]) dX11_bestCars_55 cl_X11_211 rfl rfl rfl rfl (Nat.le_of_ble_eq_true rfl) (Nat.le_of_ble_eq_true rfl) (Nat.zero_le _) (Nat.zero_le _) ?_
            refine s11_isLesser ?_
            refine xv_if_eqP (tgt := 66) dX11_bestCars_58 rfl (fun c_58 => ?_) (fun c_58 => ?_)
            · refine xv_iinc dX11_bestCars_66 rfl (xv_inc _) (Nat.le_of_ble_eq_true rfl) rfl ?_
              refine xv_goto (tgt := 12) dX11_bestCars_69 rfl ?_
              have hc : ¬ (cb_C sz rm od np) k (bst (cb_C sz rm od np) k) := fun h => (h.2 b e).elim (fun z => absurd z (by omega)) (fun z => c_58 z.2)
              have h := ih (k + 1) (by omega)
              rw [bst_n hc, e] at h
              refine xv_fg [true, true, true, true, false] ?_
              exact h
            · refine xv_iload_n dX11_bestCars_61 rfl rfl ?_
              refine xv_istore_n dX11_bestCars_62 rfl (Nat.le_of_ble_eq_true rfl) rfl ?_
              refine xv_iload dX11_bestCars_63 rfl ?_
              refine xv_istore_n dX11_bestCars_65 rfl (Nat.le_of_ble_eq_true rfl) rfl ?_
              refine xv_iinc dX11_bestCars_66 rfl (xv_inc _) (Nat.le_of_ble_eq_true rfl) rfl ?_
              refine xv_goto (tgt := 12) dX11_bestCars_69 rfl ?_
              have hc : (cb_C sz rm od np) k (bst (cb_C sz rm od np) k) := ⟨q, fun r hr => (by rw [e] at hr; cases hr; exact Or.inr ⟨c_45, c_58⟩)⟩
              have h := ih (k + 1) (by omega)
              rw [bst_y hc] at h
              refine xv_fg [true, true, true, true, false] ?_
              exact h

theorem s11_bestCars {l : Launch} {D : va_G} {d : Nat} {G : xv_Gr} {I : xv_I} {J : xv_J} {Q : xv_Po} (hG : xg_ok G) {np : Nat} (hn : I 40 1 = nI np) (hnp : np ≤ 12) {on : Nat → Nat} (ho : ∀ p, p < 12 → I 61 p = nI (on p) ∧ on p < 2 ^ 12) (hex : ∀ i, i < np → ∃ p, p < np ∧ lo_r on (lo_b on np i) p) {sz rm : Nat → Nat} (hsz : ∀ p, p < np → I 53 p = nI (sz p) ∧ sz p ≤ 1000000) (hrm : ∀ c, c < 2 → I 73 c = nI (rm c) ∧ rm c ≤ 3000) (hol : ∀ i, i < np → od_ on np i < np) (hQ : Q (some (.int (ob_ (-900009) (bst (cb_C sz rm (od_ on np) np) (2 ^ np))))) G (xfl I 62 (lo_w on np) np) J) : xv_Ev l D (d + 2) mX11_bestCars none 0 [some (.ref 40), none, none, none, none] [] G I J 0 0 Q := by
  refine xv_aload_n dX11_bestCars_0 rfl rfl ?_
  refine xv_callV0 (As := []) dX11_bestCars_1 cl_X11_173 rfl rfl rfl rfl (go_40 hG) rfl rfl (Nat.le_of_ble_eq_true rfl) (Nat.le_of_ble_eq_true rfl) (Nat.zero_le _) (Nat.zero_le _) ?_
  refine s11_layOrder hG hn hnp ho hex ?_
  refine xv_ldc dX11_bestCars_4 ld_X11_152 ?_
  refine xv_istore_n dX11_bestCars_6 rfl (Nat.le_of_ble_eq_true rfl) rfl ?_
  refine xv_ldc dX11_bestCars_7 ld_X11_189 ?_
  refine xv_nmI (show (100000000 : Int32) = nI 100000000 from rfl) ?_
  refine xv_istore_n dX11_bestCars_9 rfl (Nat.le_of_ble_eq_true rfl) rfl ?_
  refine xv_iconst (v := nI 0) dX11_bestCars_10 rfl ?_
  refine xv_istore_n dX11_bestCars_11 rfl (Nat.le_of_ble_eq_true rfl) rfl ?_
  exact s11_bc_c hG (I := (xfl I 62 (lo_w on np) np)) (show (xfl I 62 (lo_w on np) np) 40 1 = nI np from hn) hnp (sz := sz) (rm := rm) (fun p hp => by rw [xfl_ne (by decide)]; exact hsz p hp) (fun c hc => by rw [xfl_ne (by decide)]; exact hrm c hc) (od := od_ on np) (fun i hi => ⟨by simp only [xfl, hi, and_self, if_true]; rfl, hol i hi⟩) hQ (2 ^ np) 0 (by omega)

theorem bst_C {C : Nat → Option Nat → Prop} : ∀ {k j : Nat}, bst C k = some j → C j (bst C j)
  | 0, j, h => by cases h
  | k + 1, j, h => by
    by_cases q : C k (bst C k)
    · rw [bst_y q] at h; cases h; exact q
    · rw [bst_n q] at h
      exact bst_C h
theorem s11_packing {l : Launch} {D : va_G} {d : Nat} {G : xv_Gr} {I : xv_I} {J : xv_J} {Q : xv_Po} (hG : xg_ok G) {np : Nat} (hn : I 40 1 = nI np) (hnp : np ≤ 12) {on : Nat → Nat} (ho : ∀ p, p < 12 → I 61 p = nI (on p) ∧ on p < 2 ^ 12) (hex : ∀ i, i < np → ∃ p, p < np ∧ lo_r on (lo_b on np i) p) {sz rm : Nat → Nat} (hsz : ∀ p, p < np → I 53 p = nI (sz p) ∧ sz p ≤ 1000000) (hrm : ∀ c, c < 2 → I 73 c = nI (rm c) ∧ rm c ≤ 3000) (hol : ∀ i, i < np → od_ on np i < np) (h1 : (bst (cb_C sz rm (od_ on np) np) (2 ^ np)) = none → Q (some (.int (-900009))) G (xfl I 62 (lo_w on np) np) J) (h3 : ∀ b, (bst (cb_C sz rm (od_ on np) np) (2 ^ np)) = some b → Q (some (.int (nI (ts_ (od_ on np) b np)))) G (xfl I 62 (lo_w on np) np) J) : xv_Ev l D (d + 3) mX11_packing none 0 [some (.ref 40), none] [] G I J 0 0 Q := by
  have h2 : 2 ^ np ≤ 2 ^ 12 := Nat.pow_le_pow_right (by decide) hnp
  have h24 : (2 : Nat) ^ 12 = 4096 := by decide
  cases e : (bst (cb_C sz rm (od_ on np) np) (2 ^ np)) with
  | none =>
    refine xv_aload_n dX11_packing_0 rfl rfl ?_
    refine xv_callV0 (As := []) dX11_packing_1 cl_X11_214 rfl rfl rfl rfl (go_40 hG) rfl rfl (Nat.le_of_ble_eq_true rfl) (Nat.le_of_ble_eq_true rfl) (Nat.zero_le _) (Nat.zero_le _) ?_
    refine s11_bestCars (d := d) hG hn hnp ho hex hsz hrm hol ?_
    rw [e]
    show xv_Ev l D (d + 3) mX11_packing none 4 [some (.ref 40), none] [.int (-900009)] G (xfl I 62 (lo_w on np) np) J 0 0 Q
    refine xv_istore_n dX11_packing_4 rfl (Nat.le_of_ble_eq_true rfl) rfl ?_
    refine xv_iload_n dX11_packing_5 rfl rfl ?_
    refine xv_ldc dX11_packing_6 ld_X11_152 ?_
    refine xv_icmp_ne (tgt := 16) dX11_packing_8 rfl (fun c_8 => absurd rfl c_8) (fun c_8 => ?_)
    refine xv_ldc dX11_packing_11 ld_X11_152 ?_
    refine xv_goto (tgt := 21) dX11_packing_13 rfl ?_
    refine xv_iret dX11_packing_21 rfl (Nat.zero_le _) (Nat.zero_le _) ?_
    exact h1 e
  | some b =>
    have hb := bst_lt e
    refine xv_aload_n dX11_packing_0 rfl rfl ?_
    refine xv_callV0 (As := []) dX11_packing_1 cl_X11_214 rfl rfl rfl rfl (go_40 hG) rfl rfl (Nat.le_of_ble_eq_true rfl) (Nat.le_of_ble_eq_true rfl) (Nat.zero_le _) (Nat.zero_le _) ?_
    refine s11_bestCars (d := d) hG hn hnp ho hex hsz hrm hol ?_
    rw [e]
    show xv_Ev l D (d + 3) mX11_packing none 4 [some (.ref 40), none] [.int (nI b)] G (xfl I 62 (lo_w on np) np) J 0 0 Q
    refine xv_istore_n dX11_packing_4 rfl (Nat.le_of_ble_eq_true rfl) rfl ?_
    refine xv_iload_n dX11_packing_5 rfl rfl ?_
    refine xv_ldc dX11_packing_6 ld_X11_152 ?_
    refine xv_icmp_ne (tgt := 16) dX11_packing_8 rfl (fun c_8 => ?_) (fun c_8 => absurd c_8 (nI_nNONE (by omega)))
    refine xv_aload_n dX11_packing_16 rfl rfl ?_
    refine xv_iload_n dX11_packing_17 rfl rfl ?_
    refine xv_callV0 (As := [_]) dX11_packing_18 cl_X11_208 rfl rfl rfl rfl (go_40 hG) rfl rfl (Nat.le_of_ble_eq_true rfl) (Nat.le_of_ble_eq_true rfl) (Nat.zero_le _) (Nat.zero_le _) ?_
    refine s11_turnedBy (d := d + 1) hG (I := (xfl I 62 (lo_w on np) np)) (show (xfl I 62 (lo_w on np) np) 40 1 = nI np from hn) hnp (sz := sz) (rm := rm) (fun p hp => by rw [xfl_ne (by decide)]; exact hsz p hp) (fun c hc => by rw [xfl_ne (by decide)]; exact hrm c hc) (od := od_ on np) (fun i hi => ⟨by simp only [xfl, hi, and_self, if_true]; rfl, hol i hi⟩) (S := b) (by omega) (fun q => absurd (bst_C e).1 q) (fun q => ?_)
    · refine xv_iret dX11_packing_21 rfl (Nat.zero_le _) (Nat.zero_le _) ?_
      exact h3 b e

theorem s11_carOf {l : Launch} {D : va_G} {d : Nat} {G : xv_Gr} {I : xv_I} {J : xv_J} {Q : xv_Po} (hG : xg_ok G) {np : Nat} (hn : I 40 1 = nI np) (hnp : np ≤ 12) {on : Nat → Nat} (ho : ∀ p, p < 12 → I 61 p = nI (on p) ∧ on p < 2 ^ 12) (hex : ∀ i, i < np → ∃ p, p < np ∧ lo_r on (lo_b on np i) p) {sz rm : Nat → Nat} (hsz : ∀ p, p < np → I 53 p = nI (sz p) ∧ sz p ≤ 1000000) (hrm : ∀ c, c < 2 → I 73 c = nI (rm c) ∧ rm c ≤ 3000) (hol : ∀ i, i < np → od_ on np i < np) {x : Int32} (h1 : ¬ (0 ≤ x ∧ x < nI np) → Q (some (.int (-900001))) G I J) (h4 : (bst (cb_C sz rm (od_ on np) np) (2 ^ np)) = none → ∀ j, j < np → x = nI j → Q (some (.int (-900009))) G (xfl I 62 (lo_w on np) np) J) (h3 : ∀ b, (bst (cb_C sz rm (od_ on np) np) (2 ^ np)) = some b → ∀ j, j < np → x = nI j → Q (some (.int ((nI b >>> (nI j &&& 31)) &&& 1))) G (xfl I 62 (lo_w on np) np) J) : xv_Ev l D (d + 3) mX11_carOf none 0 [some (.ref 40), some (.int x), none] [] G I J 0 0 Q := by
  have hnt : (nI np).toInt = (np : Int) := nI_toInt (by omega)
  by_cases hx : (0 ≤ x ∧ x < nI np)
  rotate_left
  · refine xv_aload_n dX11_carOf_0 rfl rfl ?_
    refine xv_iload_n dX11_carOf_1 rfl rfl ?_
    refine xv_callV0 (As := [_]) dX11_carOf_2 cl_X11_139 rfl rfl rfl rfl (go_40 hG) rfl rfl (Nat.le_of_ble_eq_true rfl) (Nat.le_of_ble_eq_true rfl) (Nat.zero_le _) (Nat.zero_le _) ?_
    refine s11_isPiece hG hn hnp ?_
    refine xv_if_neD (tgt := 11) dX11_carOf_5 rfl (fun c_5 => absurd c_5 hx) (fun c_5 => ?_)
    refine xv_ldc dX11_carOf_8 ld_X11_143 ?_
    refine xv_iret dX11_carOf_10 rfl (Nat.zero_le _) (Nat.zero_le _) ?_
    exact h1 hx
  have h2 : 2 ^ np ≤ 2 ^ 12 := Nat.pow_le_pow_right (by decide) hnp
  have h24 : (2 : Nat) ^ 12 = 4096 := by decide
  cases e : (bst (cb_C sz rm (od_ on np) np) (2 ^ np)) with
  | none =>
    refine xv_aload_n dX11_carOf_0 rfl rfl ?_
    refine xv_iload_n dX11_carOf_1 rfl rfl ?_
    refine xv_callV0 (As := [_]) dX11_carOf_2 cl_X11_139 rfl rfl rfl rfl (go_40 hG) rfl rfl (Nat.le_of_ble_eq_true rfl) (Nat.le_of_ble_eq_true rfl) (Nat.zero_le _) (Nat.zero_le _) ?_
    refine s11_isPiece hG hn hnp ?_
    refine xv_if_neD (tgt := 11) dX11_carOf_5 rfl (fun c_5 => ?_) (fun c_5 => absurd hx c_5)
    have hr := c_5
    obtain ⟨j, hj, rfl⟩ : ∃ j : Nat, j < np ∧ x = nI j := xn_nat (n := np) (by have h := hr; simp only [xn_lt, xn_le, hnt, Int32.reduceToInt] at h; omega) (by have h := hr; simp only [xn_lt, xn_le, hnt, Int32.reduceToInt] at h; omega) (by omega)
    refine xv_aload_n dX11_carOf_11 rfl rfl ?_
    refine xv_callV0 (As := []) dX11_carOf_12 cl_X11_214 rfl rfl rfl rfl (go_40 hG) rfl rfl (Nat.le_of_ble_eq_true rfl) (Nat.le_of_ble_eq_true rfl) (Nat.zero_le _) (Nat.zero_le _) ?_
    refine s11_bestCars (d := d) hG hn hnp ho hex hsz hrm hol ?_
    rw [e]
    show xv_Ev l D (d + 3) mX11_carOf none 15 [some (.ref 40), some (.int (nI j)), none] [.int (-900009)] G (xfl I 62 (lo_w on np) np) J 0 0 Q
    refine xv_istore_n dX11_carOf_15 rfl (Nat.le_of_ble_eq_true rfl) rfl ?_
    refine xv_iload_n dX11_carOf_16 rfl rfl ?_
    refine xv_ldc dX11_carOf_17 ld_X11_152 ?_
    refine xv_icmp_ne (tgt := 27) dX11_carOf_19 rfl (fun c_19 => absurd rfl c_19) (fun c_19 => ?_)
    refine xv_ldc dX11_carOf_22 ld_X11_152 ?_
    refine xv_goto (tgt := 32) dX11_carOf_24 rfl ?_
    refine xv_iret dX11_carOf_32 rfl (Nat.zero_le _) (Nat.zero_le _) ?_
    exact h4 e j hj rfl
  | some b =>
    have hb := bst_lt e
    refine xv_aload_n dX11_carOf_0 rfl rfl ?_
    refine xv_iload_n dX11_carOf_1 rfl rfl ?_
    refine xv_callV0 (As := [_]) dX11_carOf_2 cl_X11_139 rfl rfl rfl rfl (go_40 hG) rfl rfl (Nat.le_of_ble_eq_true rfl) (Nat.le_of_ble_eq_true rfl) (Nat.zero_le _) (Nat.zero_le _) ?_
    refine s11_isPiece hG hn hnp ?_
    refine xv_if_neD (tgt := 11) dX11_carOf_5 rfl (fun c_5 => ?_) (fun c_5 => absurd hx c_5)
    have hr := c_5
    obtain ⟨j, hj, rfl⟩ : ∃ j : Nat, j < np ∧ x = nI j := xn_nat (n := np) (by have h := hr; simp only [xn_lt, xn_le, hnt, Int32.reduceToInt] at h; omega) (by have h := hr; simp only [xn_lt, xn_le, hnt, Int32.reduceToInt] at h; omega) (by omega)
    refine xv_aload_n dX11_carOf_11 rfl rfl ?_
    refine xv_callV0 (As := []) dX11_carOf_12 cl_X11_214 rfl rfl rfl rfl (go_40 hG) rfl rfl (Nat.le_of_ble_eq_true rfl) (Nat.le_of_ble_eq_true rfl) (Nat.zero_le _) (Nat.zero_le _) ?_
    refine s11_bestCars (d := d) hG hn hnp ho hex hsz hrm hol ?_
    rw [e]
    show xv_Ev l D (d + 3) mX11_carOf none 15 [some (.ref 40), some (.int (nI j)), none] [.int (nI b)] G (xfl I 62 (lo_w on np) np) J 0 0 Q
    refine xv_istore_n dX11_carOf_15 rfl (Nat.le_of_ble_eq_true rfl) rfl ?_
    refine xv_iload_n dX11_carOf_16 rfl rfl ?_
    refine xv_ldc dX11_carOf_17 ld_X11_152 ?_
    refine xv_icmp_ne (tgt := 27) dX11_carOf_19 rfl (fun c_19 => ?_) (fun c_19 => absurd c_19 (nI_nNONE (by omega)))
    refine xv_iload_n dX11_carOf_27 rfl rfl ?_
    refine xv_iload_n dX11_carOf_28 rfl rfl ?_
    refine xv_ishr dX11_carOf_29 ?_
    refine xv_iconst (v := 1) dX11_carOf_30 rfl ?_
    refine xv_iand dX11_carOf_31 ?_
    refine xv_iret dX11_carOf_32 rfl (Nat.zero_le _) (Nat.zero_le _) ?_
    exact h3 b e j hj rfl

theorem xi_rng {x : Int32} {n : Nat} (hn : n ≤ 2 ^ 12) (h1 : 1 ≤ n) : (0 ≤ x ∧ x ≤ nI (n - 1)) ↔ ∃ S, S < n ∧ x = nI S := by
  constructor
  · intro ⟨a, b⟩
    have q := nI_toInt (n := n - 1) (by omega)
    rw [xn_le] at a b
    rw [q] at b
    have z : (0 : Int32).toInt = 0 := by decide
    rw [z] at a
    obtain ⟨j, hj, e⟩ := xn_nat (x := x) (n := n) a (by omega) (by omega)
    exact ⟨j, hj, e⟩
  · rintro ⟨S, hS, rfl⟩
    exact ⟨nI_pos' (by omega), (nI_leI (by omega) (by omega)).mpr (by omega)⟩
theorem s11_turned {l : Launch} {D : va_G} {d : Nat} {G : xv_Gr} {I : xv_I} {J : xv_J} {Q : xv_Po} (hG : xg_ok G) {np : Nat} (hn : I 40 1 = nI np) (hnp : np ≤ 12) {on : Nat → Nat} (ho : ∀ p, p < 12 → I 61 p = nI (on p) ∧ on p < 2 ^ 12) (hex : ∀ i, i < np → ∃ p, p < np ∧ lo_r on (lo_b on np i) p) {sz rm : Nat → Nat} (hsz : ∀ p, p < np → I 53 p = nI (sz p) ∧ sz p ≤ 1000000) (hrm : ∀ c, c < 2 → I 73 c = nI (rm c) ∧ rm c ≤ 3000) (hol : ∀ i, i < np → od_ on np i < np) {x : Int32} (h1 : ¬ (∃ S, S < 2 ^ np ∧ x = nI S) → Q (some (.int (-900002))) G I J) (h2 : ∀ S, S < 2 ^ np → x = nI S → ¬ (tfit sz rm np S) → Q (some (.int (-900009))) G (xfl I 62 (lo_w on np) np) J) (h3 : ∀ S, S < 2 ^ np → x = nI S → (tfit sz rm np S) → Q (some (.int (nI (ts_ (od_ on np) S np)))) G (xfl I 62 (lo_w on np) np) J) : xv_Ev l D (d + 2) mX11_turned none 0 [some (.ref 40), some (.int x)] [] G I J 0 0 Q := by
  have h2p : 2 ^ np ≤ 2 ^ 12 := Nat.pow_le_pow_right (by decide) hnp
  have h24 : (2 : Nat) ^ 12 = 4096 := by decide
  have h1p : 1 ≤ 2 ^ np := Nat.one_le_two_pow
  refine xv_iload_n dX11_turned_0 rfl rfl ?_
  refine xv_i2l dX11_turned_1 ?_
  refine xv_lconst (v := 0) dX11_turned_2 rfl ?_
  refine xv_iconst (v := nI 1) dX11_turned_3 rfl ?_
  refine xv_aload_n dX11_turned_4 rfl rfl ?_
  refine xv_geti dX11_turned_5 fl_X11_135 (go_40 hG) rfl ?_
  refine xv_nmI hn ?_
  refine xv_ishl dX11_turned_8 ?_
  refine xv_nmI (xi_one (by omega)) ?_
  refine xv_iconst (v := nI 1) dX11_turned_9 rfl ?_
  refine xv_isub dX11_turned_10 ?_
  refine xv_nmI (pk_sub Nat.one_le_two_pow) ?_
  refine xv_i2l dX11_turned_11 ?_
  refine xv_callS0 (As := [_, _, _]) dX11_turned_12 cl_X11_126 rfl rfl rfl rfl (Nat.le_of_ble_eq_true rfl) (Nat.le_of_ble_eq_true rfl) (Nat.zero_le _) (Nat.zero_le _) ?_
  refine s11_in (a := 0) (b := nI (2 ^ np - 1)) rfl rfl ?_
  refine xv_if_neD (tgt := 21) dX11_turned_15 rfl (fun c_15 => ?_) (fun c_15 => ?_)
  · obtain ⟨S, hS, rfl⟩ := (xi_rng h2p h1p).mp c_15
    refine xv_aload_n dX11_turned_21 rfl rfl ?_
    refine xv_callV0 (As := []) dX11_turned_22 cl_X11_173 rfl rfl rfl rfl (go_40 hG) rfl rfl (Nat.le_of_ble_eq_true rfl) (Nat.le_of_ble_eq_true rfl) (Nat.zero_le _) (Nat.zero_le _) ?_
    refine s11_layOrder hG hn hnp ho hex ?_
    refine xv_aload_n dX11_turned_25 rfl rfl ?_
    refine xv_iload_n dX11_turned_26 rfl rfl ?_
    refine xv_callV0 (As := [_]) dX11_turned_27 cl_X11_208 rfl rfl rfl rfl (go_40 hG) rfl rfl (Nat.le_of_ble_eq_true rfl) (Nat.le_of_ble_eq_true rfl) (Nat.zero_le _) (Nat.zero_le _) ?_
    refine s11_turnedBy (d := d) hG (I := (xfl I 62 (lo_w on np) np)) (show (xfl I 62 (lo_w on np) np) 40 1 = nI np from hn) hnp (sz := sz) (rm := rm) (fun p hp => by rw [xfl_ne (by decide)]; exact hsz p hp) (fun c hc => by rw [xfl_ne (by decide)]; exact hrm c hc) (od := od_ on np) (fun i hi => ⟨by simp only [xfl, hi, and_self, if_true]; rfl, hol i hi⟩) (S := S) (by omega) (fun q => ?_) (fun q => ?_)
    · refine xv_iret dX11_turned_30 rfl (Nat.zero_le _) (Nat.zero_le _) ?_
      exact h2 S hS rfl q
    · refine xv_iret dX11_turned_30 rfl (Nat.zero_le _) (Nat.zero_le _) ?_
      exact h3 S hS rfl q
  · refine xv_ldc dX11_turned_18 ld_X11_130 ?_
    refine xv_iret dX11_turned_20 rfl (Nat.zero_le _) (Nat.zero_le _) ?_
    exact h1 (fun h => c_15 ((xi_rng h2p h1p).mpr h))
