/-! reports (class): report explains likely -/
def lp_s (x : Int64) (k : Int32) : Int64 := (x.toUInt64 >>> (k.toInt64.toUInt64 &&& Int64.toUInt64 63)).toInt64
def lp_1 (x : Int64) : Int64 := x - (lp_s x 1 &&& 6148914691236517205)
def lp_2 (x : Int64) : Int64 := (x &&& 3689348814741910323) + (lp_s x 2 &&& 3689348814741910323)
def lp_3 (x : Int64) : Int64 := (x + lp_s x 4) &&& 1085102592571150095
def lp_4 (x : Int64) (k : Int32) : Int64 := x + lp_s x k
/-- Long.bitCount as its code has it -/
def lp_c (x : Int64) : Int32 := (lp_4 (lp_4 (lp_4 (lp_3 (lp_2 (lp_1 x))) 8) 16) 32).toInt32 &&& 127
def rp_1 (J : xv_J) (B : Int64) (k : Nat) : xv_J := xv_uj J 166 k (J 166 k ||| B)
def rp_4 (J : xv_J) (B : Int64) (a b c e : Nat) : xv_J := rp_1 (rp_1 (rp_1 (rp_1 J B a) B (4 + b)) B (8 + c)) B (12 + e)
noncomputable def rp_J (J : xv_J) (B : Int64) (a b c e : Nat) (z : Int32) : xv_J := @ite xv_J (z = 0) (Classical.propDecidable _) (rp_4 J B a b c e) (xv_uj (rp_4 J B a b c e) 5 5 (rp_4 J B a b c e 5 5 ||| B))
theorem sJ_bitCountL {l : Launch} {D : va_G} {d : Nat} {G : xv_Gr} {I : xv_I} {J : xv_J} {Q : xv_Po} {x : Int64} (hQ : Q (some (.int (lp_c x))) G I J) : xv_Ev l D d mJ13_bitCount_95d88 none 0 [some (.long x), none] [] G I J 0 0 Q := by
  refine xv_lload_n dJ13_bitCount_95d88_0 rfl rfl ?_
  refine xv_lload_n dJ13_bitCount_95d88_1 rfl rfl ?_
  refine xv_iconst (v := 1) dJ13_bitCount_95d88_2 rfl ?_
  refine xv_lushr dJ13_bitCount_95d88_3 ?_
  refine xv_ldc2 dJ13_bitCount_95d88_4 ld_J13_314 ?_
  refine xv_land dJ13_bitCount_95d88_7 ?_
  refine xv_lsub dJ13_bitCount_95d88_8 ?_
  refine xv_lstore_n dJ13_bitCount_95d88_9 rfl (Nat.le_of_ble_eq_true rfl) rfl ?_
  refine xv_lload_n dJ13_bitCount_95d88_10 rfl rfl ?_
  refine xv_ldc2 dJ13_bitCount_95d88_11 ld_J13_316 ?_
  refine xv_land dJ13_bitCount_95d88_14 ?_
  refine xv_lload_n dJ13_bitCount_95d88_15 rfl rfl ?_
  refine xv_iconst (v := 2) dJ13_bitCount_95d88_16 rfl ?_
  refine xv_lushr dJ13_bitCount_95d88_17 ?_
  refine xv_ldc2 dJ13_bitCount_95d88_18 ld_J13_316 ?_
  refine xv_land dJ13_bitCount_95d88_21 ?_
  refine xv_ladd dJ13_bitCount_95d88_22 ?_
  refine xv_lstore_n dJ13_bitCount_95d88_23 rfl (Nat.le_of_ble_eq_true rfl) rfl ?_
  refine xv_lload_n dJ13_bitCount_95d88_24 rfl rfl ?_
  refine xv_lload_n dJ13_bitCount_95d88_25 rfl rfl ?_
  refine xv_iconst (v := 4) dJ13_bitCount_95d88_26 rfl ?_
  refine xv_lushr dJ13_bitCount_95d88_27 ?_
  refine xv_ladd dJ13_bitCount_95d88_28 ?_
  refine xv_ldc2 dJ13_bitCount_95d88_29 ld_J13_318 ?_
  refine xv_land dJ13_bitCount_95d88_32 ?_
  refine xv_lstore_n dJ13_bitCount_95d88_33 rfl (Nat.le_of_ble_eq_true rfl) rfl ?_
  refine xv_lload_n dJ13_bitCount_95d88_34 rfl rfl ?_
  refine xv_lload_n dJ13_bitCount_95d88_35 rfl rfl ?_
  refine xv_bipush (v := 8) dJ13_bitCount_95d88_36 rfl ?_
  refine xv_lushr dJ13_bitCount_95d88_38 ?_
  refine xv_ladd dJ13_bitCount_95d88_39 ?_
  refine xv_lstore_n dJ13_bitCount_95d88_40 rfl (Nat.le_of_ble_eq_true rfl) rfl ?_
  refine xv_lload_n dJ13_bitCount_95d88_41 rfl rfl ?_
  refine xv_lload_n dJ13_bitCount_95d88_42 rfl rfl ?_
  refine xv_bipush (v := 16) dJ13_bitCount_95d88_43 rfl ?_
  refine xv_lushr dJ13_bitCount_95d88_45 ?_
  refine xv_ladd dJ13_bitCount_95d88_46 ?_
  refine xv_lstore_n dJ13_bitCount_95d88_47 rfl (Nat.le_of_ble_eq_true rfl) rfl ?_
  refine xv_lload_n dJ13_bitCount_95d88_48 rfl rfl ?_
  refine xv_lload_n dJ13_bitCount_95d88_49 rfl rfl ?_
  refine xv_bipush (v := 32) dJ13_bitCount_95d88_50 rfl ?_
  refine xv_lushr dJ13_bitCount_95d88_52 ?_
  refine xv_ladd dJ13_bitCount_95d88_53 ?_
  refine xv_lstore_n dJ13_bitCount_95d88_54 rfl (Nat.le_of_ble_eq_true rfl) rfl ?_
  refine xv_lload_n dJ13_bitCount_95d88_55 rfl rfl ?_
  refine xv_l2i dJ13_bitCount_95d88_56 ?_
  refine xv_bipush (v := 127) dJ13_bitCount_95d88_57 rfl ?_
  refine xv_iand dJ13_bitCount_95d88_59 ?_
  refine xv_iret dJ13_bitCount_95d88_60 rfl (Nat.zero_le _) (Nat.zero_le _) ?_
  exact hQ

theorem s6_addReport {l : Launch} {D : va_G} {d : Nat} {G : xv_Gr} {I : xv_I} {J : xv_J} {Q : xv_Po} (hG : xg_ok G) {n : Nat} (hn : I 5 0 = nI n) (hn4 : n < 40) {a b c e : Nat} (ha : a < 4) (hb : b < 4) (hc : c < 4) (he : e < 4) {z : Int32} (hQ : Q (some (.int (nI n))) G (xv_ui (xv_ui I 5 0 (nI (n + 1))) 5 2 1) (rp_J J (lN (2 ^ n)) a b c e z)) : xv_Ev l D d mX6_addReport none 0 [some (.ref 5), some (.int (nI a)), some (.int (nI b)), some (.int (nI c)), some (.int (nI e)), some (.int z), none, none, none] [] G I J 0 0 Q := by
  refine xv_aload_n dX6_addReport_0 rfl rfl ?_
  refine xv_geti dX6_addReport_1 fl_X6_9 (go_5 hG) rfl ?_
  refine xv_nmI hn ?_
  refine xv_istore dX6_addReport_4 (Nat.le_of_ble_eq_true rfl) rfl ?_
  refine xv_lconst (v := 1) dX6_addReport_6 rfl ?_
  refine xv_iload dX6_addReport_7 rfl ?_
  refine xv_lshl dX6_addReport_9 ?_
  refine xv_nmJ (xl_one (by omega)) ?_
  refine xv_lstore dX6_addReport_10 (Nat.le_of_ble_eq_true rfl) rfl ?_
  refine xv_aload_n dX6_addReport_12 rfl rfl ?_
  refine xv_getr dX6_addReport_13 fl_X6_33 (go_5 hG) rfl (gr_5_6 hG) ?_
  refine xv_iload_n dX6_addReport_16 rfl rfl ?_
  refine xv_dup2 dX6_addReport_17 rfl rfl ?_
  refine xv_laload dX6_addReport_18 (go_166 hG) (xv_ixn (by omega) (by decide)) ?_
  refine xv_lload dX6_addReport_19 rfl ?_
  refine xv_lor dX6_addReport_21 ?_
  refine xv_lastore dX6_addReport_22 (go_166 hG) (xv_ixn (by omega) (by decide)) ?_
  refine xv_aload_n dX6_addReport_23 rfl rfl ?_
  refine xv_getr dX6_addReport_24 fl_X6_33 (go_5 hG) rfl (gr_5_6 hG) ?_
  refine xv_iconst (v := nI 4) dX6_addReport_27 rfl ?_
  refine xv_iload_n dX6_addReport_28 rfl rfl ?_
  refine xv_iadd dX6_addReport_29 ?_
  refine xv_nmI (nI_add _ _) ?_
  refine xv_dup2 dX6_addReport_30 rfl rfl ?_
  refine xv_laload dX6_addReport_31 (go_166 hG) (xv_ixn (by omega) (by decide)) ?_
  refine xv_lload dX6_addReport_32 rfl ?_
  refine xv_lor dX6_addReport_34 ?_
  refine xv_lastore dX6_addReport_35 (go_166 hG) (xv_ixn (by omega) (by decide)) ?_
  refine xv_aload_n dX6_addReport_36 rfl rfl ?_
  refine xv_getr dX6_addReport_37 fl_X6_33 (go_5 hG) rfl (gr_5_6 hG) ?_
  refine xv_bipush (v := nI 8) dX6_addReport_40 rfl ?_
  refine xv_iload_n dX6_addReport_42 rfl rfl ?_
  refine xv_iadd dX6_addReport_43 ?_
  refine xv_nmI (nI_add _ _) ?_
  refine xv_dup2 dX6_addReport_44 rfl rfl ?_
  refine xv_laload dX6_addReport_45 (go_166 hG) (xv_ixn (by omega) (by decide)) ?_
  refine xv_lload dX6_addReport_46 rfl ?_
  refine xv_lor dX6_addReport_48 ?_
  refine xv_lastore dX6_addReport_49 (go_166 hG) (xv_ixn (by omega) (by decide)) ?_
  refine xv_aload_n dX6_addReport_50 rfl rfl ?_
  refine xv_getr dX6_addReport_51 fl_X6_33 (go_5 hG) rfl (gr_5_6 hG) ?_
  refine xv_bipush (v := nI 12) dX6_addReport_54 rfl ?_
  refine xv_iload dX6_addReport_56 rfl ?_
  refine xv_iadd dX6_addReport_58 ?_
  refine xv_nmI (nI_add _ _) ?_
  refine xv_dup2 dX6_addReport_59 rfl rfl ?_
  refine xv_laload dX6_addReport_60 (go_166 hG) (xv_ixn (by omega) (by decide)) ?_
  refine xv_lload dX6_addReport_61 rfl ?_
  refine xv_lor dX6_addReport_63 ?_
  refine xv_lastore dX6_addReport_64 (go_166 hG) (xv_ixn (by omega) (by decide)) ?_
  refine xv_iload dX6_addReport_65 rfl ?_
  refine xv_if_eq (tgt := 81) dX6_addReport_67 rfl (fun c_67 => ?_) (fun c_67 => ?_)
  · refine xv_aload_n dX6_addReport_81 rfl rfl ?_
    refine xv_iload dX6_addReport_82 rfl ?_
    refine xv_iconst (v := nI 1) dX6_addReport_84 rfl ?_
    refine xv_iadd dX6_addReport_85 ?_
    refine xv_nmI (nI_add _ _) ?_
    refine xv_puti dX6_addReport_86 fl_X6_9 (go_5 hG) rfl rfl rfl ?_
    refine xv_aload_n dX6_addReport_89 rfl rfl ?_
    refine xv_iconst (v := 1) dX6_addReport_90 rfl ?_
    refine xv_puti dX6_addReport_91 fl_X6_18 (go_5 hG) rfl rfl rfl ?_
    refine xv_iload dX6_addReport_94 rfl ?_
    refine xv_iret dX6_addReport_96 rfl (Nat.zero_le _) (Nat.zero_le _) ?_
    rw [rp_J, if_pos c_67] at hQ
    exact hQ
  · refine xv_aload_n dX6_addReport_70 rfl rfl ?_
    refine xv_dup dX6_addReport_71 rfl ?_
    refine xv_getj dX6_addReport_72 fl_X6_29 (go_5 hG) rfl ?_
    refine xv_lload dX6_addReport_75 rfl ?_
    refine xv_lor dX6_addReport_77 ?_
    refine xv_putj dX6_addReport_78 fl_X6_29 (go_5 hG) rfl ?_
    refine xv_aload_n dX6_addReport_81 rfl rfl ?_
    refine xv_iload dX6_addReport_82 rfl ?_
    refine xv_iconst (v := nI 1) dX6_addReport_84 rfl ?_
    refine xv_iadd dX6_addReport_85 ?_
    refine xv_nmI (nI_add _ _) ?_
    refine xv_puti dX6_addReport_86 fl_X6_9 (go_5 hG) rfl rfl rfl ?_
    refine xv_aload_n dX6_addReport_89 rfl rfl ?_
    refine xv_iconst (v := 1) dX6_addReport_90 rfl ?_
    refine xv_puti dX6_addReport_91 fl_X6_18 (go_5 hG) rfl rfl rfl ?_
    refine xv_iload dX6_addReport_94 rfl ?_
    refine xv_iret dX6_addReport_96 rfl (Nat.zero_le _) (Nat.zero_le _) ?_
    rw [rp_J, if_neg c_67] at hQ
    exact hQ

theorem s10_report {l : Launch} {D : va_G} {d : Nat} {G : xv_Gr} {I : xv_I} {J : xv_J} {Q : xv_Po} (hG : xg_ok G) {n : Nat} (hn : I 5 0 = nI n) (hn4 : n ≤ 40) {x1 x2 x3 x4 z : Int32} (h1 : ¬ ((0 ≤ x1 ∧ x1 ≤ 3) ∧ (0 ≤ x2 ∧ x2 ≤ 3) ∧ (0 ≤ x3 ∧ x3 ≤ 3) ∧ (0 ≤ x4 ∧ x4 ≤ 3)) → Q (some (.int (-900002))) G I J) (h2 : ((0 ≤ x1 ∧ x1 ≤ 3) ∧ (0 ≤ x2 ∧ x2 ≤ 3) ∧ (0 ≤ x3 ∧ x3 ≤ 3) ∧ (0 ≤ x4 ∧ x4 ≤ 3)) → n = 40 → Q (some (.int (-900004))) G I J) (h3 : ∀ a b c e, a < 4 → b < 4 → c < 4 → e < 4 → x1 = nI a → x2 = nI b → x3 = nI c → x4 = nI e → n < 40 → Q (some (.int (nI n))) G (xv_ui (xv_ui I 5 0 (nI (n + 1))) 5 2 1) (rp_J J (lN (2 ^ n)) a b c e z)) : xv_Ev l D (d + 1) mX10_report none 0 [some (.ref 0), some (.int x1), some (.int x2), some (.int x3), some (.int x4), some (.int z)] [] G I J 0 0 Q := by
  refine xv_iload_n dX10_report_0 rfl rfl ?_
  refine xv_iconst (v := 0) dX10_report_1 rfl ?_
  refine xv_iconst (v := 3) dX10_report_2 rfl ?_
  refine xv_callS0 (As := [_, _, _]) dX10_report_3 cl_X10_51 rfl rfl rfl rfl (Nat.le_of_ble_eq_true rfl) (Nat.le_of_ble_eq_true rfl) (Nat.zero_le _) (Nat.zero_le _) ?_
  refine s10_isOutside ?_
  refine xv_if_neD (tgt := 37) dX10_report_6 rfl (fun c_6 => ?_) (fun c_6 => ?_)
  · refine xv_ldc dX10_report_37 ld_X10_55 ?_
    refine xv_iret dX10_report_39 rfl (Nat.zero_le _) (Nat.zero_le _) ?_
    exact h1 (by simp only [xn_lt, xn_le, Int32.reduceToInt] at *; omega)
  · refine xv_iload_n dX10_report_9 rfl rfl ?_
    refine xv_iconst (v := 0) dX10_report_10 rfl ?_
    refine xv_iconst (v := 3) dX10_report_11 rfl ?_
    refine xv_callS0 (As := [_, _, _]) dX10_report_12 cl_X10_51 rfl rfl rfl rfl (Nat.le_of_ble_eq_true rfl) (Nat.le_of_ble_eq_true rfl) (Nat.zero_le _) (Nat.zero_le _) ?_
    refine s10_isOutside ?_
    refine xv_if_neD (tgt := 37) dX10_report_15 rfl (fun c_15 => ?_) (fun c_15 => ?_)
    · refine xv_ldc dX10_report_37 ld_X10_55 ?_
      refine xv_iret dX10_report_39 rfl (Nat.zero_le _) (Nat.zero_le _) ?_
      exact h1 (by simp only [xn_lt, xn_le, Int32.reduceToInt] at *; omega)
    · refine xv_iload_n dX10_report_18 rfl rfl ?_
      refine xv_iconst (v := 0) dX10_report_19 rfl ?_
      refine xv_iconst (v := 3) dX10_report_20 rfl ?_
      refine xv_callS0 (As := [_, _, _]) dX10_report_21 cl_X10_51 rfl rfl rfl rfl (Nat.le_of_ble_eq_true rfl) (Nat.le_of_ble_eq_true rfl) (Nat.zero_le _) (Nat.zero_le _) ?_
      refine s10_isOutside ?_
      refine xv_if_neD (tgt := 37) dX10_report_24 rfl (fun c_24 => ?_) (fun c_24 => ?_)
      · refine xv_ldc dX10_report_37 ld_X10_55 ?_
        refine xv_iret dX10_report_39 rfl (Nat.zero_le _) (Nat.zero_le _) ?_
        exact h1 (by simp only [xn_lt, xn_le, Int32.reduceToInt] at *; omega)
      · refine xv_iload dX10_report_27 rfl ?_
        refine xv_iconst (v := 0) dX10_report_29 rfl ?_
        refine xv_iconst (v := 3) dX10_report_30 rfl ?_
        refine xv_callS0 (As := [_, _, _]) dX10_report_31 cl_X10_51 rfl rfl rfl rfl (Nat.le_of_ble_eq_true rfl) (Nat.le_of_ble_eq_true rfl) (Nat.zero_le _) (Nat.zero_le _) ?_
        refine s10_isOutside ?_
        refine xv_if_eqD (tgt := 40) dX10_report_34 rfl (fun c_34 => ?_) (fun c_34 => ?_)
        · have hV : ((0 ≤ x1 ∧ x1 ≤ 3) ∧ (0 ≤ x2 ∧ x2 ≤ 3) ∧ (0 ≤ x3 ∧ x3 ≤ 3) ∧ (0 ≤ x4 ∧ x4 ≤ 3)) := (by simp only [xn_lt, xn_le, Int32.reduceToInt] at *; omega)
          refine xv_aload_n dX10_report_40 rfl rfl ?_
          refine xv_getr dX10_report_41 fl_X10_40 (go_0 hG) rfl (gr_0_4 hG) ?_
          refine xv_geti dX10_report_44 fl_X10_194 (go_5 hG) rfl ?_
          refine xv_nmI hn ?_
          refine xv_bipush (v := nI 40) dX10_report_47 rfl ?_
          refine xv_icmp_ltN (tgt := 55) dX10_report_49 rfl (by omega) (by omega) (fun c_49 => ?_) (fun c_49 => ?_)
          · obtain ⟨a, ha, rfl⟩ : ∃ j : Nat, j < 4 ∧ x1 = nI j := xn_nat (n := 4) (by have h := hV.1; simp only [xn_lt, xn_le, Int32.reduceToInt] at h; omega) (by have h := hV.1; simp only [xn_lt, xn_le, Int32.reduceToInt] at h; omega) (by omega)
            obtain ⟨b, hb, rfl⟩ : ∃ j : Nat, j < 4 ∧ x2 = nI j := xn_nat (n := 4) (by have h := hV.2.1; simp only [xn_lt, xn_le, Int32.reduceToInt] at h; omega) (by have h := hV.2.1; simp only [xn_lt, xn_le, Int32.reduceToInt] at h; omega) (by omega)
            obtain ⟨c, hc, rfl⟩ : ∃ j : Nat, j < 4 ∧ x3 = nI j := xn_nat (n := 4) (by have h := hV.2.2.1; simp only [xn_lt, xn_le, Int32.reduceToInt] at h; omega) (by have h := hV.2.2.1; simp only [xn_lt, xn_le, Int32.reduceToInt] at h; omega) (by omega)
            obtain ⟨e, he, rfl⟩ : ∃ j : Nat, j < 4 ∧ x4 = nI j := xn_nat (n := 4) (by have h := hV.2.2.2; simp only [xn_lt, xn_le, Int32.reduceToInt] at h; omega) (by have h := hV.2.2.2; simp only [xn_lt, xn_le, Int32.reduceToInt] at h; omega) (by omega)
            refine xv_aload_n dX10_report_55 rfl rfl ?_
            refine xv_getr dX10_report_56 fl_X10_40 (go_0 hG) rfl (gr_0_4 hG) ?_
            refine xv_iload_n dX10_report_59 rfl rfl ?_
            refine xv_iload_n dX10_report_60 rfl rfl ?_
            refine xv_iload_n dX10_report_61 rfl rfl ?_
            refine xv_iload dX10_report_62 rfl ?_
            refine xv_iload dX10_report_64 rfl ?_
            refine xv_callV0 (As := [_, _, _, _, _]) dX10_report_66 cl_X10_197 rfl rfl rfl rfl (go_5 hG) rfl rfl (Nat.le_of_ble_eq_true rfl) (Nat.le_of_ble_eq_true rfl) (Nat.zero_le _) (Nat.zero_le _) ?_
            refine s6_addReport hG hn c_49 ha hb hc he ?_
            refine xv_iret dX10_report_69 rfl (Nat.zero_le _) (Nat.zero_le _) ?_
            exact h3 a b c e ha hb hc he rfl rfl rfl rfl c_49
          · refine xv_ldc dX10_report_52 ld_X10_63 ?_
            refine xv_iret dX10_report_54 rfl (Nat.zero_le _) (Nat.zero_le _) ?_
            exact h2 hV (by omega)
        · refine xv_ldc dX10_report_37 ld_X10_55 ?_
          refine xv_iret dX10_report_39 rfl (Nat.zero_le _) (Nat.zero_le _) ?_
          exact h1 (by simp only [xn_lt, xn_le, Int32.reduceToInt] at *; omega)

theorem s6_allWith {l : Launch} {D : va_G} {d : Nat} {G : xv_Gr} {I : xv_I} {J : xv_J} {Q : xv_Po} (hG : xg_ok G) {c : Nat} (hc : c < 16) (hQ : Q (some (.int (lp_c (J 166 c)))) G I J) : xv_Ev l D (d + 1) mX6_allWith none 0 [some (.ref 5), some (.int (nI c))] [] G I J 0 0 Q := by
  refine xv_aload_n dX6_allWith_0 rfl rfl ?_
  refine xv_getr dX6_allWith_1 fl_X6_33 (go_5 hG) rfl (gr_5_6 hG) ?_
  refine xv_iload_n dX6_allWith_4 rfl rfl ?_
  refine xv_laload dX6_allWith_5 (go_166 hG) (xv_ixn (by omega) (by decide)) ?_
  refine xv_callS0 (As := [_]) dX6_allWith_6 cl_X6_43 rfl rfl rfl rfl (Nat.le_of_ble_eq_true rfl) (Nat.le_of_ble_eq_true rfl) (Nat.zero_le _) (Nat.zero_le _) ?_
  refine sJ_bitCountL ?_
  refine xv_iret dX6_allWith_9 rfl (Nat.zero_le _) (Nat.zero_le _) ?_
  exact hQ

theorem s6_badWith {l : Launch} {D : va_G} {d : Nat} {G : xv_Gr} {I : xv_I} {J : xv_J} {Q : xv_Po} (hG : xg_ok G) {c : Nat} (hc : c < 16) (hQ : Q (some (.int (lp_c (J 166 c &&& J 5 5)))) G I J) : xv_Ev l D (d + 1) mX6_badWith none 0 [some (.ref 5), some (.int (nI c))] [] G I J 0 0 Q := by
  refine xv_aload_n dX6_badWith_0 rfl rfl ?_
  refine xv_getr dX6_badWith_1 fl_X6_33 (go_5 hG) rfl (gr_5_6 hG) ?_
  refine xv_iload_n dX6_badWith_4 rfl rfl ?_
  refine xv_laload dX6_badWith_5 (go_166 hG) (xv_ixn (by omega) (by decide)) ?_
  refine xv_aload_n dX6_badWith_6 rfl rfl ?_
  refine xv_getj dX6_badWith_7 fl_X6_29 (go_5 hG) rfl ?_
  refine xv_land dX6_badWith_10 ?_
  refine xv_callS0 (As := [_]) dX6_badWith_11 cl_X6_43 rfl rfl rfl rfl (Nat.le_of_ble_eq_true rfl) (Nat.le_of_ble_eq_true rfl) (Nat.zero_le _) (Nat.zero_le _) ?_
  refine sJ_bitCountL ?_
  refine xv_iret dX6_badWith_14 rfl (Nat.zero_le _) (Nat.zero_le _) ?_
  exact hQ

def su_P (I : xv_I) (J : xv_J) (c : Nat) : Prop := 0 < lp_c (J 166 c &&& J 5 5) ∧ I 5 1 * lp_c (J 166 c) ≤ lp_c (J 166 c &&& J 5 5) * 100
theorem s6_suspects {l : Launch} {D : va_G} {d : Nat} {G : xv_Gr} {I : xv_I} {J : xv_J} {Q : xv_Po} (hG : xg_ok G) {c : Nat} (hc : c < 16) (hQ : Q (some (.int (xbp (su_P I J c)))) G I J) : xv_Ev l D (d + 2) mX6_suspects none 0 [some (.ref 5), some (.int (nI c)), none] [] G I J 0 0 Q := by
  refine xv_aload_n dX6_suspects_0 rfl rfl ?_
  refine xv_iload_n dX6_suspects_1 rfl rfl ?_
  refine xv_callV0 (As := [_]) dX6_suspects_2 cl_X6_49 rfl rfl rfl rfl (go_5 hG) rfl rfl (Nat.le_of_ble_eq_true rfl) (Nat.le_of_ble_eq_true rfl) (Nat.zero_le _) (Nat.zero_le _) ?_
  refine s6_badWith hG hc ?_
  refine xv_istore_n dX6_suspects_5 rfl (Nat.le_of_ble_eq_true rfl) rfl ?_
  refine xv_iload_n dX6_suspects_6 rfl rfl ?_
  refine xv_if_le (tgt := 31) dX6_suspects_7 rfl (fun c_7 => ?_) (fun c_7 => ?_)
  · refine xv_iconst (v := 0) dX6_suspects_31 rfl ?_
    refine xv_zret dX6_suspects_32 rfl rfl (Nat.zero_le _) (Nat.zero_le _) ?_
    exact xqp_F (Q := fun v => Q (some v) G I J) hQ (fun h => absurd h.1 (by simp only [xn_lt, xn_le] at *; omega))
  · refine xv_iload_n dX6_suspects_10 rfl rfl ?_
    refine xv_bipush (v := 100) dX6_suspects_11 rfl ?_
    refine xv_imul dX6_suspects_13 ?_
    refine xv_aload_n dX6_suspects_14 rfl rfl ?_
    refine xv_geti dX6_suspects_15 fl_X6_15 (go_5 hG) rfl ?_
    refine xv_aload_n dX6_suspects_18 rfl rfl ?_
    refine xv_iload_n dX6_suspects_19 rfl rfl ?_
    refine xv_callV0 (As := [_]) dX6_suspects_20 cl_X6_53 rfl rfl rfl rfl (go_5 hG) rfl rfl (Nat.le_of_ble_eq_true rfl) (Nat.le_of_ble_eq_true rfl) (Nat.zero_le _) (Nat.zero_le _) ?_
    refine s6_allWith hG hc ?_
    refine xv_imul dX6_suspects_23 ?_
    refine xv_icmp_lt (tgt := 31) dX6_suspects_24 rfl (fun c_24 => ?_) (fun c_24 => ?_)
    · refine xv_iconst (v := 0) dX6_suspects_31 rfl ?_
      refine xv_zret dX6_suspects_32 rfl rfl (Nat.zero_le _) (Nat.zero_le _) ?_
      exact xqp_F (Q := fun v => Q (some v) G I J) hQ (fun h => absurd h.2 (by simp only [xn_lt, xn_le] at *; omega))
    · refine xv_iconst (v := 1) dX6_suspects_27 rfl ?_
      refine xv_goto (tgt := 32) dX6_suspects_28 rfl ?_
      refine xv_zret dX6_suspects_32 rfl rfl (Nat.zero_le _) (Nat.zero_le _) ?_
      exact xqp_T (Q := fun v => Q (some v) G I J) hQ ⟨by simp only [xn_lt, xn_le] at *; omega, by simp only [xn_lt, xn_le] at *; omega⟩

theorem s10_explains {l : Launch} {D : va_G} {d : Nat} {G : xv_Gr} {I : xv_I} {J : xv_J} {Q : xv_Po} (hG : xg_ok G) {x z : Int32} (h1 : ¬ (0 ≤ x ∧ x ≤ 15) → Q (some (.int (-900002))) G I J) (h2 : ∀ c, c < 16 → x = nI c → ¬ z = 0 → Q (some (.int (lp_c (J 166 c &&& J 5 5)))) G I J) (h3 : ∀ c, c < 16 → x = nI c → z = 0 → Q (some (.int (lp_c (J 166 c)))) G I J) : xv_Ev l D (d + 2) mX10_explains none 0 [some (.ref 0), some (.int x), some (.int z)] [] G I J 0 0 Q := by
  refine xv_iload_n dX10_explains_0 rfl rfl ?_
  refine xv_iconst (v := 0) dX10_explains_1 rfl ?_
  refine xv_bipush (v := 15) dX10_explains_2 rfl ?_
  refine xv_callS0 (As := [_, _, _]) dX10_explains_4 cl_X10_51 rfl rfl rfl rfl (Nat.le_of_ble_eq_true rfl) (Nat.le_of_ble_eq_true rfl) (Nat.zero_le _) (Nat.zero_le _) ?_
  refine s10_isOutside ?_
  refine xv_if_eqD (tgt := 13) dX10_explains_7 rfl (fun c_7 => ?_) (fun c_7 => ?_)
  · have hV : (0 ≤ x ∧ x ≤ 15) := (by simp only [xn_lt, xn_le, Int32.reduceToInt] at *; omega)
    obtain ⟨c, hc, rfl⟩ : ∃ j : Nat, j < 16 ∧ x = nI j := xn_nat (n := 16) (by have h := hV; simp only [xn_lt, xn_le, Int32.reduceToInt] at h; omega) (by have h := hV; simp only [xn_lt, xn_le, Int32.reduceToInt] at h; omega) (by omega)
    refine xv_iload_n dX10_explains_13 rfl rfl ?_
    refine xv_if_eq (tgt := 28) dX10_explains_14 rfl (fun c_14 => ?_) (fun c_14 => ?_)
    · refine xv_aload_n dX10_explains_28 rfl rfl ?_
      refine xv_getr dX10_explains_29 fl_X10_40 (go_0 hG) rfl (gr_0_4 hG) ?_
      refine xv_iload_n dX10_explains_32 rfl rfl ?_
      refine xv_callV0 (As := [_]) dX10_explains_33 cl_X10_208 rfl rfl rfl rfl (go_5 hG) rfl rfl (Nat.le_of_ble_eq_true rfl) (Nat.le_of_ble_eq_true rfl) (Nat.zero_le _) (Nat.zero_le _) ?_
      refine s6_allWith hG hc ?_
      refine xv_iret dX10_explains_36 rfl (Nat.zero_le _) (Nat.zero_le _) ?_
      exact h3 c hc rfl c_14
    · refine xv_aload_n dX10_explains_17 rfl rfl ?_
      refine xv_getr dX10_explains_18 fl_X10_40 (go_0 hG) rfl (gr_0_4 hG) ?_
      refine xv_iload_n dX10_explains_21 rfl rfl ?_
      refine xv_callV0 (As := [_]) dX10_explains_22 cl_X10_205 rfl rfl rfl rfl (go_5 hG) rfl rfl (Nat.le_of_ble_eq_true rfl) (Nat.le_of_ble_eq_true rfl) (Nat.zero_le _) (Nat.zero_le _) ?_
      refine s6_badWith hG hc ?_
      refine xv_goto (tgt := 36) dX10_explains_25 rfl ?_
      refine xv_iret dX10_explains_36 rfl (Nat.zero_le _) (Nat.zero_le _) ?_
      exact h2 c hc rfl c_14
  · refine xv_ldc dX10_explains_10 ld_X10_55 ?_
    refine xv_iret dX10_explains_12 rfl (Nat.zero_le _) (Nat.zero_le _) ?_
    exact h1 (by simp only [xn_lt, xn_le, Int32.reduceToInt] at *; omega)

theorem s10_likely {l : Launch} {D : va_G} {d : Nat} {G : xv_Gr} {I : xv_I} {J : xv_J} {Q : xv_Po} (hG : xg_ok G) {x : Int32} (h1 : ¬ (0 ≤ x ∧ x ≤ 15) → Q (some (.int (-900002))) G I J) (h2 : ∀ c, c < 16 → x = nI c → Q (some (.int (xbp (su_P I J c)))) G I J) : xv_Ev l D (d + 3) mX10_likely none 0 [some (.ref 0), some (.int x)] [] G I J 0 0 Q := by
  refine xv_iload_n dX10_likely_0 rfl rfl ?_
  refine xv_iconst (v := 0) dX10_likely_1 rfl ?_
  refine xv_bipush (v := 15) dX10_likely_2 rfl ?_
  refine xv_callS0 (As := [_, _, _]) dX10_likely_4 cl_X10_51 rfl rfl rfl rfl (Nat.le_of_ble_eq_true rfl) (Nat.le_of_ble_eq_true rfl) (Nat.zero_le _) (Nat.zero_le _) ?_
  refine s10_isOutside ?_
  refine xv_if_eqD (tgt := 13) dX10_likely_7 rfl (fun c_7 => ?_) (fun c_7 => ?_)
  · have hV : (0 ≤ x ∧ x ≤ 15) := (by simp only [xn_lt, xn_le, Int32.reduceToInt] at *; omega)
    obtain ⟨c, hc, rfl⟩ : ∃ j : Nat, j < 16 ∧ x = nI j := xn_nat (n := 16) (by have h := hV; simp only [xn_lt, xn_le, Int32.reduceToInt] at h; omega) (by have h := hV; simp only [xn_lt, xn_le, Int32.reduceToInt] at h; omega) (by omega)
    refine xv_aload_n dX10_likely_13 rfl rfl ?_
    refine xv_getr dX10_likely_14 fl_X10_40 (go_0 hG) rfl (gr_0_4 hG) ?_
    refine xv_iload_n dX10_likely_17 rfl rfl ?_
    refine xv_callV0 (As := [_]) dX10_likely_18 cl_X10_211 rfl rfl rfl rfl (go_5 hG) rfl rfl (Nat.le_of_ble_eq_true rfl) (Nat.le_of_ble_eq_true rfl) (Nat.zero_le _) (Nat.zero_le _) ?_
    refine s6_suspects hG hc ?_
    refine xv_if_eqP (tgt := 28) dX10_likely_21 rfl (fun c_21 => ?_) (fun c_21 => ?_)
    · refine xv_iconst (v := 0) dX10_likely_28 rfl ?_
      refine xv_iret dX10_likely_29 rfl (Nat.zero_le _) (Nat.zero_le _) ?_
      exact xqp_F (Q := fun v => Q (some v) G I J) (h2 c hc rfl) c_21
    · refine xv_iconst (v := 1) dX10_likely_24 rfl ?_
      refine xv_goto (tgt := 29) dX10_likely_25 rfl ?_
      refine xv_iret dX10_likely_29 rfl (Nat.zero_le _) (Nat.zero_le _) ?_
      exact xqp_T (Q := fun v => Q (some v) G I J) (h2 c hc rfl) c_21
  · refine xv_ldc dX10_likely_10 ld_X10_55 ?_
    refine xv_iret dX10_likely_12 rfl (Nat.zero_le _) (Nat.zero_le _) ?_
    exact h1 (by simp only [xn_lt, xn_le, Int32.reduceToInt] at *; omega)
