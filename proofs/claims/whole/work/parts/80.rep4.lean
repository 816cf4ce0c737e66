/-! reports (model) -/
theorem s11_report {l : Launch} {D : va_G} {d : Nat} {G : xv_Gr} {I : xv_I} {J : xv_J} {Q : xv_Po} (hG : xg_ok G) {n : Nat} (hn : I 40 24 = nI n) (hn4 : n ≤ 40) {x1 x2 x3 x4 z : Int32} (hz : vp_nar .boolean z = z) (h1 : ¬ ((0 ≤ x1 ∧ x1 ≤ 3) ∧ (0 ≤ x2 ∧ x2 ≤ 3) ∧ (0 ≤ x3 ∧ x3 ≤ 3) ∧ (0 ≤ x4 ∧ x4 ≤ 3)) → Q (some (.int (-900002))) G I J) (h2 : ((0 ≤ x1 ∧ x1 ≤ 3) ∧ (0 ≤ x2 ∧ x2 ≤ 3) ∧ (0 ≤ x3 ∧ x3 ≤ 3) ∧ (0 ≤ x4 ∧ x4 ≤ 3)) → n = 40 → Q (some (.int (-900004))) G I J) (h3 : ∀ a b c e, a < 4 → b < 4 → c < 4 → e < 4 → x1 = nI a → x2 = nI b → x3 = nI c → x4 = nI e → n < 40 → Q (some (.int (nI n))) G (xv_ui (xv_ui (xv_ui I 75 n (nI (2 ^ a ||| 16 * 2 ^ b ||| 256 * 2 ^ c ||| 4096 * 2 ^ e))) 76 n z) 40 24 (nI (n + 1))) J) : xv_Ev l D (d + 1) mX11_report none 0 [some (.ref 40), some (.int x1), some (.int x2), some (.int x3), some (.int x4), some (.int z)] [] G I J 0 0 Q := by
  refine xv_iload_n dX11_report_0 rfl rfl ?_
  refine xv_i2l dX11_report_1 ?_
  refine xv_lconst (v := 0) dX11_report_2 rfl ?_
  refine xv_ldc2 dX11_report_3 ld_X11_179 ?_
  refine xv_callS0 (As := [_, _, _]) dX11_report_6 cl_X11_126 rfl rfl rfl rfl (Nat.le_of_ble_eq_true rfl) (Nat.le_of_ble_eq_true rfl) (Nat.zero_le _) (Nat.zero_le _) ?_
  refine s11_in (a := 0) (b := 3) rfl rfl ?_
  refine xv_if_eqD (tgt := 49) dX11_report_9 rfl (fun c_9 => ?_) (fun c_9 => ?_)
  · refine xv_ldc dX11_report_49 ld_X11_130 ?_
    refine xv_iret dX11_report_51 rfl (Nat.zero_le _) (Nat.zero_le _) ?_
    exact h1 (fun h => c_9 h.1)
  · refine xv_iload_n dX11_report_12 rfl rfl ?_
    refine xv_i2l dX11_report_13 ?_
    refine xv_lconst (v := 0) dX11_report_14 rfl ?_
    refine xv_ldc2 dX11_report_15 ld_X11_179 ?_
    refine xv_callS0 (As := [_, _, _]) dX11_report_18 cl_X11_126 rfl rfl rfl rfl (Nat.le_of_ble_eq_true rfl) (Nat.le_of_ble_eq_true rfl) (Nat.zero_le _) (Nat.zero_le _) ?_
    refine s11_in (a := 0) (b := 3) rfl rfl ?_
    refine xv_if_eqD (tgt := 49) dX11_report_21 rfl (fun c_21 => ?_) (fun c_21 => ?_)
    · refine xv_ldc dX11_report_49 ld_X11_130 ?_
      refine xv_iret dX11_report_51 rfl (Nat.zero_le _) (Nat.zero_le _) ?_
      exact h1 (fun h => c_21 h.2.1)
    · refine xv_iload_n dX11_report_24 rfl rfl ?_
      refine xv_i2l dX11_report_25 ?_
      refine xv_lconst (v := 0) dX11_report_26 rfl ?_
      refine xv_ldc2 dX11_report_27 ld_X11_179 ?_
      refine xv_callS0 (As := [_, _, _]) dX11_report_30 cl_X11_126 rfl rfl rfl rfl (Nat.le_of_ble_eq_true rfl) (Nat.le_of_ble_eq_true rfl) (Nat.zero_le _) (Nat.zero_le _) ?_
      refine s11_in (a := 0) (b := 3) rfl rfl ?_
      refine xv_if_eqD (tgt := 49) dX11_report_33 rfl (fun c_33 => ?_) (fun c_33 => ?_)
      · refine xv_ldc dX11_report_49 ld_X11_130 ?_
        refine xv_iret dX11_report_51 rfl (Nat.zero_le _) (Nat.zero_le _) ?_
        exact h1 (fun h => c_33 h.2.2.1)
      · refine xv_iload dX11_report_36 rfl ?_
        refine xv_i2l dX11_report_38 ?_
        refine xv_lconst (v := 0) dX11_report_39 rfl ?_
        refine xv_ldc2 dX11_report_40 ld_X11_179 ?_
        refine xv_callS0 (As := [_, _, _]) dX11_report_43 cl_X11_126 rfl rfl rfl rfl (Nat.le_of_ble_eq_true rfl) (Nat.le_of_ble_eq_true rfl) (Nat.zero_le _) (Nat.zero_le _) ?_
        refine s11_in (a := 0) (b := 3) rfl rfl ?_
        refine xv_if_neD (tgt := 52) dX11_report_46 rfl (fun c_46 => ?_) (fun c_46 => ?_)
        · have hV : ((0 ≤ x1 ∧ x1 ≤ 3) ∧ (0 ≤ x2 ∧ x2 ≤ 3) ∧ (0 ≤ x3 ∧ x3 ≤ 3) ∧ (0 ≤ x4 ∧ x4 ≤ 3)) := ⟨c_9, c_21, c_33, c_46⟩
          refine xv_aload_n dX11_report_52 rfl rfl ?_
          refine xv_geti dX11_report_53 fl_X11_218 (go_40 hG) rfl ?_
          refine xv_nmI hn ?_
          refine xv_bipush (v := nI 40) dX11_report_56 rfl ?_
          refine xv_icmp_neN (tgt := 64) dX11_report_58 rfl (by omega) (by omega) (fun c_58 => ?_) (fun c_58 => ?_)
          · obtain ⟨a, ha, rfl⟩ : ∃ j : Nat, j < 4 ∧ x1 = nI j := xn_nat (n := 4) (by have h := hV.1; simp only [xn_lt, xn_le, Int32.reduceToInt] at h; omega) (by have h := hV.1; simp only [xn_lt, xn_le, Int32.reduceToInt] at h; omega) (by omega)
            obtain ⟨b, hb, rfl⟩ : ∃ j : Nat, j < 4 ∧ x2 = nI j := xn_nat (n := 4) (by have h := hV.2.1; simp only [xn_lt, xn_le, Int32.reduceToInt] at h; omega) (by have h := hV.2.1; simp only [xn_lt, xn_le, Int32.reduceToInt] at h; omega) (by omega)
            obtain ⟨c, hc, rfl⟩ : ∃ j : Nat, j < 4 ∧ x3 = nI j := xn_nat (n := 4) (by have h := hV.2.2.1; simp only [xn_lt, xn_le, Int32.reduceToInt] at h; omega) (by have h := hV.2.2.1; simp only [xn_lt, xn_le, Int32.reduceToInt] at h; omega) (by omega)
            obtain ⟨e, he, rfl⟩ : ∃ j : Nat, j < 4 ∧ x4 = nI j := xn_nat (n := 4) (by have h := hV.2.2.2; simp only [xn_lt, xn_le, Int32.reduceToInt] at h; omega) (by have h := hV.2.2.2; simp only [xn_lt, xn_le, Int32.reduceToInt] at h; omega) (by omega)
            have hp4 : ∀ q, q < 4 → 2 ^ q ≤ 8 := by decide
            have p1 := hp4 a ha
            have p2 := hp4 b hb
            have p3 := hp4 c hc
            have p4 := hp4 e he
            refine xv_aload_n dX11_report_64 rfl rfl ?_
            refine xv_getr dX11_report_65 fl_X11_75 (go_40 hG) rfl (gr_40_25 hG) ?_
            refine xv_aload_n dX11_report_68 rfl rfl ?_
            refine xv_geti dX11_report_69 fl_X11_218 (go_40 hG) rfl ?_
            refine xv_nmI hn ?_
            refine xv_iconst (v := nI 1) dX11_report_72 rfl ?_
            refine xv_iload_n dX11_report_73 rfl rfl ?_
            refine xv_ishl dX11_report_74 ?_
            refine xv_nmI (xi_one (by omega)) ?_
            refine xv_bipush (v := nI 16) dX11_report_75 rfl ?_
            refine xv_iload_n dX11_report_77 rfl rfl ?_
            refine xv_ishl dX11_report_78 ?_
            refine xv_nmI (xi_shl 16 (by omega) (by omega)) ?_
            refine xv_ior dX11_report_79 ?_
            refine xv_nmI (xi_or _ _) ?_
            refine xv_sipush (v := nI 256) dX11_report_80 rfl ?_
            refine xv_iload_n dX11_report_83 rfl rfl ?_
            refine xv_ishl dX11_report_84 ?_
            refine xv_nmI (xi_shl 256 (by omega) (by omega)) ?_
            refine xv_ior dX11_report_85 ?_
            refine xv_nmI (xi_or _ _) ?_
            refine xv_sipush (v := nI 4096) dX11_report_86 rfl ?_
            refine xv_iload dX11_report_89 rfl ?_
            refine xv_ishl dX11_report_91 ?_
            refine xv_nmI (xi_shl 4096 (by omega) (by omega)) ?_
            refine xv_ior dX11_report_92 ?_
            refine xv_nmI (xi_or _ _) ?_
            refine xv_iastore dX11_report_93 (go_75 hG) (xv_ixn (by omega) (by decide)) ?_
            refine xv_aload_n dX11_report_94 rfl rfl ?_
            refine xv_getr dX11_report_95 fl_X11_78 (go_40 hG) rfl (gr_40_26 hG) ?_
            refine xv_aload_n dX11_report_98 rfl rfl ?_
            refine xv_geti dX11_report_99 fl_X11_218 (go_40 hG) rfl ?_
            refine xv_nmI hn ?_
            refine xv_iload dX11_report_102 rfl ?_
            refine xv_zastore dX11_report_104 (go_76 hG) (xv_ixn (by omega) (by decide)) hz ?_
            refine xv_aload_n dX11_report_105 rfl rfl ?_
            refine xv_dup dX11_report_106 rfl ?_
            refine xv_geti dX11_report_107 fl_X11_218 (go_40 hG) rfl ?_
            refine xv_nmI hn ?_
            refine xv_iconst (v := nI 1) dX11_report_110 rfl ?_
            refine xv_iadd dX11_report_111 ?_
            refine xv_nmI (nI_add _ _) ?_
            refine xv_puti dX11_report_112 fl_X11_218 (go_40 hG) rfl rfl rfl ?_
            refine xv_aload_n dX11_report_115 rfl rfl ?_
            refine xv_geti dX11_report_116 fl_X11_218 (go_40 hG) rfl ?_
            refine xv_nmI xv_ui_s ?_
            refine xv_iconst (v := nI 1) dX11_report_119 rfl ?_
            refine xv_isub dX11_report_120 ?_
            refine xv_nmI (pk_sub (by omega)) ?_
            refine xv_iret dX11_report_121 rfl (Nat.zero_le _) (Nat.zero_le _) ?_
            exact h3 a b c e ha hb hc he rfl rfl rfl rfl (by omega)
          · refine xv_ldc dX11_report_61 ld_X11_138 ?_
            refine xv_iret dX11_report_63 rfl (Nat.zero_le _) (Nat.zero_le _) ?_
            exact h2 hV (by omega)
        · refine xv_ldc dX11_report_49 ld_X11_130 ?_
          refine xv_iret dX11_report_51 rfl (Nat.zero_le _) (Nat.zero_le _) ?_
          exact h1 (fun h => c_46 h.2.2.2)

def ex_P (I : xv_I) (hs : Nat → Nat) (c : Nat) (f : Int32) (r : Nat) : Prop := (hs r).testBit c = true ∧ (¬ I 76 r = 0 ∨ f = 0)
theorem s11_eo_l {l : Launch} {D : va_G} {d : Nat} {G : xv_Gr} {I : xv_I} {J : xv_J} {Q : xv_Po} (hG : xg_ok G) {n : Nat} (hn : I 40 24 = nI n) (hn4 : n ≤ 40) {hs : Nat → Nat} (hhs : ∀ r, r < n → I 75 r = nI (hs r) ∧ hs r < 65536) {c : Nat} (hc : c < 16) {f : Int32} (hQ : Q (some (.int (nI (xcn (ex_P I hs c f) n)))) G I J) : ∀ (k i : Nat), i + k = n → xv_Ev l D d mX11_explainsOf none 5 [some (.ref 40), some (.int (nI c)), some (.int f), some (.int (nI (xcn (ex_P I hs c f) i))), some (.int (nI i))] [] G I J 0 0 Q := by
  intro k
  induction k with
  | zero =>
    intro i hi
    refine xv_iload dX11_explainsOf_5 rfl ?_
    refine xv_aload_n dX11_explainsOf_7 rfl rfl ?_
    refine xv_geti dX11_explainsOf_8 fl_X11_218 (go_40 hG) rfl ?_
    refine xv_nmI hn ?_
    refine xv_icmp_geN (tgt := 57) dX11_explainsOf_11 rfl (by omega) (by omega) (fun c_11 => ?_) (fun c_11 => absurd c_11 (by omega))
    refine xv_iload_n dX11_explainsOf_57 rfl rfl ?_
    refine xv_iret dX11_explainsOf_58 rfl (Nat.zero_le _) (Nat.zero_le _) ?_
    have e : i = n := by omega
    subst e
    exact hQ
  | succ k ih =>
    intro i hi
    refine xv_iload dX11_explainsOf_5 rfl ?_
    refine xv_aload_n dX11_explainsOf_7 rfl rfl ?_
    refine xv_geti dX11_explainsOf_8 fl_X11_218 (go_40 hG) rfl ?_
    refine xv_nmI hn ?_
    refine xv_icmp_geN (tgt := 57) dX11_explainsOf_11 rfl (by omega) (by omega) (fun c_11 => absurd c_11 (by omega)) (fun c_11 => ?_)
    refine xv_iload_n dX11_explainsOf_14 rfl rfl ?_
    refine xv_aload_n dX11_explainsOf_15 rfl rfl ?_
    refine xv_getr dX11_explainsOf_16 fl_X11_75 (go_40 hG) rfl (gr_40_25 hG) ?_
    refine xv_iload dX11_explainsOf_19 rfl ?_
    refine xv_iaload dX11_explainsOf_21 (go_75 hG) (xv_ixn (by omega) (by decide)) ?_
    have hH := hhs i (by omega)
    refine xv_nmI hH.1 ?_
    refine xv_iload_n dX11_explainsOf_22 rfl rfl ?_
    refine xv_ishr dX11_explainsOf_23 ?_
    refine xv_iconst (v := 1) dX11_explainsOf_24 rfl ?_
    refine xv_iand dX11_explainsOf_25 ?_
    refine xv_nmI (xi_bit (by omega) (by omega)) ?_
    refine xv_iconst (v := 1) dX11_explainsOf_26 rfl ?_
    refine xv_icmp_ne (tgt := 48) dX11_explainsOf_27 rfl (fun c_27 => ?_) (fun c_27 => ?_)
    · refine xv_iconst (v := nI 0) dX11_explainsOf_48 rfl ?_
      refine xv_iadd dX11_explainsOf_49 ?_
      refine xv_nmI (nI_add _ _) ?_
      refine xv_istore_n dX11_explainsOf_50 rfl (Nat.le_of_ble_eq_true rfl) rfl ?_
      refine xv_iinc dX11_explainsOf_51 rfl (xv_inc _) (Nat.le_of_ble_eq_true rfl) rfl ?_
      refine xv_goto (tgt := 5) dX11_explainsOf_54 rfl ?_
      have h := ih (i + 1) (by omega)
      rw [xcn_n (P := (ex_P I hs c f)) (fun h => c_27 (by rw [xt_v1 h.1]; rfl))] at h
      exact h
    · refine xv_aload_n dX11_explainsOf_30 rfl rfl ?_
      refine xv_getr dX11_explainsOf_31 fl_X11_78 (go_40 hG) rfl (gr_40_26 hG) ?_
      refine xv_iload dX11_explainsOf_34 rfl ?_
      refine xv_zaload dX11_explainsOf_36 (go_76 hG) (xv_ixn (by omega) (by decide)) ?_
      refine xv_if_ne (tgt := 44) dX11_explainsOf_37 rfl (fun c_37 => ?_) (fun c_37 => ?_)
      · refine xv_iconst (v := nI 1) dX11_explainsOf_44 rfl ?_
        refine xv_goto (tgt := 49) dX11_explainsOf_45 rfl ?_
        refine xv_iadd dX11_explainsOf_49 ?_
        refine xv_nmI (nI_add _ _) ?_
        refine xv_istore_n dX11_explainsOf_50 rfl (Nat.le_of_ble_eq_true rfl) rfl ?_
        refine xv_iinc dX11_explainsOf_51 rfl (xv_inc _) (Nat.le_of_ble_eq_true rfl) rfl ?_
        refine xv_goto (tgt := 5) dX11_explainsOf_54 rfl ?_
        have h := ih (i + 1) (by omega)
        rw [xcn_y (P := (ex_P I hs c f)) ⟨xt_T1 c_27, Or.inl c_37⟩] at h
        exact h
      · refine xv_iload_n dX11_explainsOf_40 rfl rfl ?_
        refine xv_if_ne (tgt := 48) dX11_explainsOf_41 rfl (fun c_41 => ?_) (fun c_41 => ?_)
        · refine xv_iconst (v := nI 0) dX11_explainsOf_48 rfl ?_
          refine xv_iadd dX11_explainsOf_49 ?_
          refine xv_nmI (nI_add _ _) ?_
          refine xv_istore_n dX11_explainsOf_50 rfl (Nat.le_of_ble_eq_true rfl) rfl ?_
          refine xv_iinc dX11_explainsOf_51 rfl (xv_inc _) (Nat.le_of_ble_eq_true rfl) rfl ?_
          refine xv_goto (tgt := 5) dX11_explainsOf_54 rfl ?_
          have h := ih (i + 1) (by omega)
          rw [xcn_n (P := (ex_P I hs c f)) (fun h => h.2.elim (fun z => z c_37) (fun z => c_41 z))] at h
          exact h
        · refine xv_iconst (v := nI 1) dX11_explainsOf_44 rfl ?_
          refine xv_goto (tgt := 49) dX11_explainsOf_45 rfl ?_
          refine xv_iadd dX11_explainsOf_49 ?_
          refine xv_nmI (nI_add _ _) ?_
          refine xv_istore_n dX11_explainsOf_50 rfl (Nat.le_of_ble_eq_true rfl) rfl ?_
          refine xv_iinc dX11_explainsOf_51 rfl (xv_inc _) (Nat.le_of_ble_eq_true rfl) rfl ?_
          refine xv_goto (tgt := 5) dX11_explainsOf_54 rfl ?_
          have h := ih (i + 1) (by omega)
          rw [xcn_y (P := (ex_P I hs c f)) ⟨xt_T1 c_27, Or.inr c_41⟩] at h
          exact h

theorem s11_explainsOf {l : Launch} {D : va_G} {d : Nat} {G : xv_Gr} {I : xv_I} {J : xv_J} {Q : xv_Po} (hG : xg_ok G) {n : Nat} (hn : I 40 24 = nI n) (hn4 : n ≤ 40) {hs : Nat → Nat} (hhs : ∀ r, r < n → I 75 r = nI (hs r) ∧ hs r < 65536) {c : Nat} (hc : c < 16) {f : Int32} (hQ : Q (some (.int (nI (xcn (ex_P I hs c f) n)))) G I J) : xv_Ev l D d mX11_explainsOf none 0 [some (.ref 40), some (.int (nI c)), some (.int f), none, none] [] G I J 0 0 Q := by
  refine xv_iconst (v := nI 0) dX11_explainsOf_0 rfl ?_
  refine xv_istore_n dX11_explainsOf_1 rfl (Nat.le_of_ble_eq_true rfl) rfl ?_
  refine xv_iconst (v := nI 0) dX11_explainsOf_2 rfl ?_
  refine xv_istore dX11_explainsOf_3 (Nat.le_of_ble_eq_true rfl) rfl ?_
  exact s11_eo_l hG hn hn4 hhs hc hQ n 0 (by omega)

theorem s11_explains {l : Launch} {D : va_G} {d : Nat} {G : xv_Gr} {I : xv_I} {J : xv_J} {Q : xv_Po} (hG : xg_ok G) {n : Nat} (hn : I 40 24 = nI n) (hn4 : n ≤ 40) {hs : Nat → Nat} (hhs : ∀ r, r < n → I 75 r = nI (hs r) ∧ hs r < 65536) {x f : Int32} (h1 : ¬ (0 ≤ x ∧ x ≤ 15) → Q (some (.int (-900002))) G I J) (h2 : ∀ c, c < 16 → x = nI c → Q (some (.int (nI (xcn (ex_P I hs c f) n)))) G I J) : xv_Ev l D (d + 1) mX11_explains none 0 [some (.ref 40), some (.int x), some (.int f)] [] G I J 0 0 Q := by
  refine xv_iload_n dX11_explains_0 rfl rfl ?_
  refine xv_i2l dX11_explains_1 ?_
  refine xv_lconst (v := 0) dX11_explains_2 rfl ?_
  refine xv_ldc2 dX11_explains_3 ld_X11_221 ?_
  refine xv_callS0 (As := [_, _, _]) dX11_explains_6 cl_X11_126 rfl rfl rfl rfl (Nat.le_of_ble_eq_true rfl) (Nat.le_of_ble_eq_true rfl) (Nat.zero_le _) (Nat.zero_le _) ?_
  refine s11_in (a := 0) (b := 15) rfl rfl ?_
  refine xv_if_eqD (tgt := 21) dX11_explains_9 rfl (fun c_9 => ?_) (fun c_9 => ?_)
  · refine xv_ldc dX11_explains_21 ld_X11_130 ?_
    refine xv_iret dX11_explains_23 rfl (Nat.zero_le _) (Nat.zero_le _) ?_
    exact h1 c_9
  · obtain ⟨c, hc, rfl⟩ : ∃ j : Nat, j < 16 ∧ x = nI j := xn_nat (n := 16) (by have h := c_9; simp only [xn_lt, xn_le, Int32.reduceToInt] at h; omega) (by have h := c_9; simp only [xn_lt, xn_le, Int32.reduceToInt] at h; omega) (by omega)
    refine xv_aload_n dX11_explains_12 rfl rfl ?_
    refine xv_iload_n dX11_explains_13 rfl rfl ?_
    refine xv_iload_n dX11_explains_14 rfl rfl ?_
    refine xv_callV0 (As := [_, _]) dX11_explains_15 cl_X11_223 rfl rfl rfl rfl (go_40 hG) rfl rfl (Nat.le_of_ble_eq_true rfl) (Nat.le_of_ble_eq_true rfl) (Nat.zero_le _) (Nat.zero_le _) ?_
    refine s11_explainsOf hG hn hn4 hhs hc ?_
    refine xv_goto (tgt := 23) dX11_explains_18 rfl ?_
    refine xv_iret dX11_explains_23 rfl (Nat.zero_le _) (Nat.zero_le _) ?_
    exact h2 c hc rfl

def lk_P (I : xv_I) (hs : Nat → Nat) (n su c : Nat) : Prop := 0 < xcn (ex_P I hs c 1) n ∧ su * xcn (ex_P I hs c 0) n ≤ 100 * xcn (ex_P I hs c 1) n
theorem s11_isLikely {l : Launch} {D : va_G} {d : Nat} {G : xv_Gr} {I : xv_I} {J : xv_J} {Q : xv_Po} (hG : xg_ok G) {n : Nat} (hn : I 40 24 = nI n) (hn4 : n ≤ 40) {hs : Nat → Nat} (hhs : ∀ r, r < n → I 75 r = nI (hs r) ∧ hs r < 65536) {su : Nat} (hsu : I 40 27 = nI su) (hsu2 : su ≤ 100) {c : Nat} (hc : c < 16) (hQ : Q (some (.int (xbp (lk_P I hs n su c)))) G I J) : xv_Ev l D (d + 1) mX11_isLikely none 0 [some (.ref 40), some (.int (nI c)), none] [] G I J 0 0 Q := by
  have b1 := xcn_le (ex_P I hs c 1) n
  have b0 := xcn_le (ex_P I hs c 0) n
  have bm : su * xcn (ex_P I hs c 0) n ≤ 100 * 40 := Nat.mul_le_mul hsu2 (by omega)
  refine xv_aload_n dX11_isLikely_0 rfl rfl ?_
  refine xv_iload_n dX11_isLikely_1 rfl rfl ?_
  refine xv_iconst (v := 1) dX11_isLikely_2 rfl ?_
  refine xv_callV0 (As := [_, _]) dX11_isLikely_3 cl_X11_223 rfl rfl rfl rfl (go_40 hG) rfl rfl (Nat.le_of_ble_eq_true rfl) (Nat.le_of_ble_eq_true rfl) (Nat.zero_le _) (Nat.zero_le _) ?_
  refine s11_explainsOf hG hn hn4 hhs hc (f := 1) ?_
  refine xv_istore_n dX11_isLikely_6 rfl (Nat.le_of_ble_eq_true rfl) rfl ?_
  refine xv_iload_n dX11_isLikely_7 rfl rfl ?_
  refine xv_if_le (tgt := 33) dX11_isLikely_8 rfl (fun c_8 => ?_) (fun c_8 => ?_)
  · refine xv_iconst (v := 0) dX11_isLikely_33 rfl ?_
    refine xv_zret dX11_isLikely_34 rfl rfl (Nat.zero_le _) (Nat.zero_le _) ?_
    exact xqp_F (Q := fun v => Q (some v) G I J) hQ (fun h => nI_nle h.1 (by omega) c_8)
  · refine xv_bipush (v := nI 100) dX11_isLikely_11 rfl ?_
    refine xv_iload_n dX11_isLikely_13 rfl rfl ?_
    refine xv_imul dX11_isLikely_14 ?_
    refine xv_nmI (pk_mul _ _) ?_
    refine xv_aload_n dX11_isLikely_15 rfl rfl ?_
    refine xv_geti dX11_isLikely_16 fl_X11_81 (go_40 hG) rfl ?_
    refine xv_nmI hsu ?_
    refine xv_aload_n dX11_isLikely_19 rfl rfl ?_
    refine xv_iload_n dX11_isLikely_20 rfl rfl ?_
    refine xv_iconst (v := 0) dX11_isLikely_21 rfl ?_
    refine xv_callV0 (As := [_, _]) dX11_isLikely_22 cl_X11_223 rfl rfl rfl rfl (go_40 hG) rfl rfl (Nat.le_of_ble_eq_true rfl) (Nat.le_of_ble_eq_true rfl) (Nat.zero_le _) (Nat.zero_le _) ?_
    refine s11_explainsOf hG hn hn4 hhs hc (f := 0) ?_
    refine xv_imul dX11_isLikely_25 ?_
    refine xv_nmI (pk_mul _ _) ?_
    refine xv_icmp_ltN (tgt := 33) dX11_isLikely_26 rfl (by omega) (by omega) (fun c_26 => ?_) (fun c_26 => ?_)
    · refine xv_iconst (v := 0) dX11_isLikely_33 rfl ?_
      refine xv_zret dX11_isLikely_34 rfl rfl (Nat.zero_le _) (Nat.zero_le _) ?_
      exact xqp_F (Q := fun v => Q (some v) G I J) hQ (fun h => absurd h.2 (by omega))
    · refine xv_iconst (v := 1) dX11_isLikely_29 rfl ?_
      refine xv_goto (tgt := 34) dX11_isLikely_30 rfl ?_
      refine xv_zret dX11_isLikely_34 rfl rfl (Nat.zero_le _) (Nat.zero_le _) ?_
      exact xqp_T (Q := fun v => Q (some v) G I J) hQ ⟨Nat.pos_of_ne_zero (fun z => c_8 (by rw [z]; decide)), c_26⟩

theorem s11_likely {l : Launch} {D : va_G} {d : Nat} {G : xv_Gr} {I : xv_I} {J : xv_J} {Q : xv_Po} (hG : xg_ok G) {n : Nat} (hn : I 40 24 = nI n) (hn4 : n ≤ 40) {hs : Nat → Nat} (hhs : ∀ r, r < n → I 75 r = nI (hs r) ∧ hs r < 65536) {su : Nat} (hsu : I 40 27 = nI su) (hsu2 : su ≤ 100) {x : Int32} (h1 : ¬ (0 ≤ x ∧ x ≤ 15) → Q (some (.int (-900002))) G I J) (h2 : ∀ c, c < 16 → x = nI c → Q (some (.int (xbp (lk_P I hs n su c)))) G I J) : xv_Ev l D (d + 2) mX11_likely none 0 [some (.ref 40), some (.int x)] [] G I J 0 0 Q := by
  refine xv_iload_n dX11_likely_0 rfl rfl ?_
  refine xv_i2l dX11_likely_1 ?_
  refine xv_lconst (v := 0) dX11_likely_2 rfl ?_
  refine xv_ldc2 dX11_likely_3 ld_X11_221 ?_
  refine xv_callS0 (As := [_, _, _]) dX11_likely_6 cl_X11_126 rfl rfl rfl rfl (Nat.le_of_ble_eq_true rfl) (Nat.le_of_ble_eq_true rfl) (Nat.zero_le _) (Nat.zero_le _) ?_
  refine s11_in (a := 0) (b := 15) rfl rfl ?_
  refine xv_if_neD (tgt := 17) dX11_likely_9 rfl (fun c_9 => ?_) (fun c_9 => ?_)
  · obtain ⟨c, hc, rfl⟩ : ∃ j : Nat, j < 16 ∧ x = nI j := xn_nat (n := 16) (by have h := c_9; simp only [xn_lt, xn_le, Int32.reduceToInt] at h; omega) (by have h := c_9; simp only [xn_lt, xn_le, Int32.reduceToInt] at h; omega) (by omega)
    refine xv_aload_n dX11_likely_17 rfl rfl ?_
    refine xv_iload_n dX11_likely_18 rfl rfl ?_
    refine xv_callV0 (As := [_]) dX11_likely_19 cl_X11_227 rfl rfl rfl rfl (go_40 hG) rfl rfl (Nat.le_of_ble_eq_true rfl) (Nat.le_of_ble_eq_true rfl) (Nat.zero_le _) (Nat.zero_le _) ?_
    refine s11_isLikely hG hn hn4 hhs hsu hsu2 hc ?_
    refine xv_if_eqP (tgt := 29) dX11_likely_22 rfl (fun c_22 => ?_) (fun c_22 => ?_)
    · refine xv_iconst (v := 0) dX11_likely_29 rfl ?_
      refine xv_iret dX11_likely_30 rfl (Nat.zero_le _) (Nat.zero_le _) ?_
      exact xqp_F (Q := fun v => Q (some v) G I J) (h2 c hc rfl) c_22
    · refine xv_iconst (v := 1) dX11_likely_25 rfl ?_
      refine xv_goto (tgt := 30) dX11_likely_26 rfl ?_
      refine xv_iret dX11_likely_30 rfl (Nat.zero_le _) (Nat.zero_le _) ?_
      exact xqp_T (Q := fun v => Q (some v) G I J) (h2 c hc rfl) c_22
  · refine xv_ldc dX11_likely_12 ld_X11_130 ?_
    refine xv_goto (tgt := 30) dX11_likely_14 rfl ?_
    refine xv_iret dX11_likely_30 rfl (Nat.zero_le _) (Nat.zero_le _) ?_
    exact h1 c_9

def ea_P (I : xv_I) (hs : Nat → Nat) (S i : Nat) : Prop := ∀ r, r < i → ¬ I 76 r = 0 → ¬ hs r &&& S = 0
theorem s11_ea_l {l : Launch} {D : va_G} {d : Nat} {G : xv_Gr} {I : xv_I} {J : xv_J} {Q : xv_Po} (hG : xg_ok G) {n : Nat} (hn : I 40 24 = nI n) (hn4 : n ≤ 40) {hs : Nat → Nat} (hhs : ∀ r, r < n → I 75 r = nI (hs r) ∧ hs r < 65536) {S : Nat} (hQ : Q (some (.int (xbp (ea_P I hs S n)))) G I J) : ∀ (k i : Nat), i + k = n → ea_P I hs S i → xv_Ev l D d mX11_explainsAll none 4 [some (.ref 40), some (.int (nI S)), some (.int 1), some (.int (nI i))] [] G I J 0 0 Q := by
  intro k
  induction k with
  | zero =>
    intro i hi he
    refine xv_iload_n dX11_explainsAll_4 rfl rfl ?_
    refine xv_aload_n dX11_explainsAll_5 rfl rfl ?_
    refine xv_geti dX11_explainsAll_6 fl_X11_218 (go_40 hG) rfl ?_
    refine xv_nmI hn ?_
    refine xv_icmp_geN (tgt := 48) dX11_explainsAll_9 rfl (by omega) (by omega) (fun c_9 => ?_) (fun c_9 => absurd c_9 (by omega))
    refine xv_iload_n dX11_explainsAll_48 rfl rfl ?_
    refine xv_zret dX11_explainsAll_49 rfl rfl (Nat.zero_le _) (Nat.zero_le _) ?_
    exact xqp_T (Q := fun v => Q (some v) G I J) hQ (fun r hr => he r (by omega))
  | succ k ih =>
    intro i hi he
    refine xv_iload_n dX11_explainsAll_4 rfl rfl ?_
    refine xv_aload_n dX11_explainsAll_5 rfl rfl ?_
    refine xv_geti dX11_explainsAll_6 fl_X11_218 (go_40 hG) rfl ?_
    refine xv_nmI hn ?_
    refine xv_icmp_geN (tgt := 48) dX11_explainsAll_9 rfl (by omega) (by omega) (fun c_9 => absurd c_9 (by omega)) (fun c_9 => ?_)
    refine xv_iload_n dX11_explainsAll_12 rfl rfl ?_
    refine xv_if_eq (tgt := 48) dX11_explainsAll_13 rfl (fun c_13 => absurd c_13 (by decide)) (fun c_13 => ?_)
    refine xv_aload_n dX11_explainsAll_16 rfl rfl ?_
    refine xv_getr dX11_explainsAll_17 fl_X11_78 (go_40 hG) rfl (gr_40_26 hG) ?_
    refine xv_iload_n dX11_explainsAll_20 rfl rfl ?_
    refine xv_zaload dX11_explainsAll_21 (go_76 hG) (xv_ixn (by omega) (by decide)) ?_
    refine xv_if_eq (tgt := 36) dX11_explainsAll_22 rfl (fun c_22 => ?_) (fun c_22 => ?_)
    · refine xv_iconst (v := 1) dX11_explainsAll_36 rfl ?_
      refine xv_goto (tgt := 41) dX11_explainsAll_37 rfl ?_
      refine xv_istore_n dX11_explainsAll_41 rfl (Nat.le_of_ble_eq_true rfl) rfl ?_
      refine xv_iinc dX11_explainsAll_42 rfl (xv_inc _) (Nat.le_of_ble_eq_true rfl) rfl ?_
      refine xv_goto (tgt := 4) dX11_explainsAll_45 rfl ?_
      refine ih (i + 1) (by omega) (fun r hr h6 => ?_)
      by_cases e : r = i
      · subst e
        exact absurd c_22 h6
      · exact he r (by omega) h6
    · refine xv_aload_n dX11_explainsAll_25 rfl rfl ?_
      refine xv_getr dX11_explainsAll_26 fl_X11_75 (go_40 hG) rfl (gr_40_25 hG) ?_
      refine xv_iload_n dX11_explainsAll_29 rfl rfl ?_
      refine xv_iaload dX11_explainsAll_30 (go_75 hG) (xv_ixn (by omega) (by decide)) ?_
      have hH := hhs i (by omega)
      refine xv_nmI hH.1 ?_
      refine xv_iload_n dX11_explainsAll_31 rfl rfl ?_
      refine xv_iand dX11_explainsAll_32 ?_
      refine xv_nmI (xi_and _ _) ?_
      refine xv_if_eq (tgt := 40) dX11_explainsAll_33 rfl (fun c_33 => ?_) (fun c_33 => ?_)
      · refine xv_iconst (v := 0) dX11_explainsAll_40 rfl ?_
        refine xv_istore_n dX11_explainsAll_41 rfl (Nat.le_of_ble_eq_true rfl) rfl ?_
        refine xv_iinc dX11_explainsAll_42 rfl (xv_inc _) (Nat.le_of_ble_eq_true rfl) rfl ?_
        refine xv_goto (tgt := 4) dX11_explainsAll_45 rfl ?_
        refine xv_iload_n dX11_explainsAll_4 rfl rfl ?_
        refine xv_aload_n dX11_explainsAll_5 rfl rfl ?_
        refine xv_geti dX11_explainsAll_6 fl_X11_218 (go_40 hG) rfl ?_
        refine xv_nmI hn ?_
        refine xv_icmp_geN (tgt := 48) dX11_explainsAll_9 rfl (by omega) (by omega) (fun c_9 => ?_) (fun c_9 => ?_)
        · refine xv_iload_n dX11_explainsAll_48 rfl rfl ?_
          refine xv_zret dX11_explainsAll_49 rfl rfl (Nat.zero_le _) (Nat.zero_le _) ?_
          exact xqp_F (Q := fun v => Q (some v) G I J) hQ (fun h => h i (by omega) c_22 ((xi_0 (by have := Nat.and_le_left (n := hs i) (m := S); omega)).mp c_33))
        · refine xv_iload_n dX11_explainsAll_12 rfl rfl ?_
          refine xv_if_eq (tgt := 48) dX11_explainsAll_13 rfl (fun c_13 => ?_) (fun c_13 => absurd (by decide) c_13)
          refine xv_iload_n dX11_explainsAll_48 rfl rfl ?_
          refine xv_zret dX11_explainsAll_49 rfl rfl (Nat.zero_le _) (Nat.zero_le _) ?_
          exact xqp_F (Q := fun v => Q (some v) G I J) hQ (fun h => h i (by omega) c_22 ((xi_0 (by have := Nat.and_le_left (n := hs i) (m := S); omega)).mp c_33))
      · refine xv_iconst (v := 1) dX11_explainsAll_36 rfl ?_
        refine xv_goto (tgt := 41) dX11_explainsAll_37 rfl ?_
        refine xv_istore_n dX11_explainsAll_41 rfl (Nat.le_of_ble_eq_true rfl) rfl ?_
        refine xv_iinc dX11_explainsAll_42 rfl (xv_inc _) (Nat.le_of_ble_eq_true rfl) rfl ?_
        refine xv_goto (tgt := 4) dX11_explainsAll_45 rfl ?_
        refine ih (i + 1) (by omega) (fun r hr h6 => ?_)
        by_cases e : r = i
        · subst e
          exact fun z => c_33 (by rw [z]; rfl)
        · exact he r (by omega) h6

theorem s11_explainsAll {l : Launch} {D : va_G} {d : Nat} {G : xv_Gr} {I : xv_I} {J : xv_J} {Q : xv_Po} (hG : xg_ok G) {n : Nat} (hn : I 40 24 = nI n) (hn4 : n ≤ 40) {hs : Nat → Nat} (hhs : ∀ r, r < n → I 75 r = nI (hs r) ∧ hs r < 65536) {S : Nat} (hQ : Q (some (.int (xbp (ea_P I hs S n)))) G I J) : xv_Ev l D d mX11_explainsAll none 0 [some (.ref 40), some (.int (nI S)), none, none] [] G I J 0 0 Q := by
  refine xv_iconst (v := 1) dX11_explainsAll_0 rfl ?_
  refine xv_istore_n dX11_explainsAll_1 rfl (Nat.le_of_ble_eq_true rfl) rfl ?_
  refine xv_iconst (v := nI 0) dX11_explainsAll_2 rfl ?_
  refine xv_istore_n dX11_explainsAll_3 rfl (Nat.le_of_ble_eq_true rfl) rfl ?_
  exact s11_ea_l hG hn hn4 hhs hQ n 0 (by omega) (fun r hr => absurd hr (by omega))

def il_ (a b : Nat) : Prop := nI a &&& (nI a ^^^ nI b) &&& -(nI a ^^^ nI b) = 0
theorem s11_isLesser {l : Launch} {D : va_G} {d : Nat} {G : xv_Gr} {I : xv_I} {J : xv_J} {Q : xv_Po} {a b : Nat} (hQ : Q (some (.int (xbp (il_ a b)))) G I J) : xv_Ev l D d mX11_isLesser none 0 [some (.int (nI a)), some (.int (nI b)), none] [] G I J 0 0 Q := by
  refine xv_iload_n dX11_isLesser_0 rfl rfl ?_
  refine xv_iload_n dX11_isLesser_1 rfl rfl ?_
  refine xv_ixor dX11_isLesser_2 ?_
  refine xv_istore_n dX11_isLesser_3 rfl (Nat.le_of_ble_eq_true rfl) rfl ?_
  refine xv_iload_n dX11_isLesser_4 rfl rfl ?_
  refine xv_iload_n dX11_isLesser_5 rfl rfl ?_
  refine xv_iand dX11_isLesser_6 ?_
  refine xv_iload_n dX11_isLesser_7 rfl rfl ?_
  refine xv_ineg dX11_isLesser_8 ?_
  refine xv_iand dX11_isLesser_9 ?_
  refine xv_if_ne (tgt := 17) dX11_isLesser_10 rfl (fun c_10 => ?_) (fun c_10 => ?_)
  · refine xv_iconst (v := 0) dX11_isLesser_17 rfl ?_
    refine xv_zret dX11_isLesser_18 rfl rfl (Nat.zero_le _) (Nat.zero_le _) ?_
    exact xqp_F (Q := fun v => Q (some v) G I J) hQ c_10
  · refine xv_iconst (v := 1) dX11_isLesser_13 rfl ?_
    refine xv_goto (tgt := 18) dX11_isLesser_14 rfl ?_
    refine xv_zret dX11_isLesser_18 rfl rfl (Nat.zero_le _) (Nat.zero_le _) ?_
    exact xqp_T (Q := fun v => Q (some v) G I J) hQ c_10
