/-! loans of the model: pay, work, as, arrears, count -/
def pm_t (v : Int32) (o : Int64) : Int32 := if v.toInt64 < o then v else o.toInt32
def pm_z (d : Int64) (t : Int32) : Int64 := if d < t.toInt64 then 0 else d - t.toInt64
theorem s11_pay {l : Launch} {D : va_G} {d : Nat} {G : xv_Gr} {I : xv_I} {J : xv_J} {Q : xv_Po} (hG : xg_ok G) {nl : Nat} (hnl : I 40 29 = nI nl) (hl8 : nl ≤ 8) {mo : Nat} (hmo : I 40 28 = nI mo) (hm5 : mo ≤ 599) {x v : Int32} (h1 : ¬ (0 ≤ x ∧ x < nI nl) → Q (some (.int (-900001))) G I J) (h2 : ∀ i, i < nl → x = nI i → ¬ (1 ≤ v ∧ v ≤ 100000) → Q (some (.int (-900002))) G I J) (h3 : ∀ i, i < nl → x = nI i → (1 ≤ v ∧ v ≤ 100000) → ¬ I 86 (600 * i + mo) = 1 → Q (some (.int (-900003))) G I J) (h4 : ∀ i, i < nl → x = nI i → (1 ≤ v ∧ v ≤ 100000) → I 86 (600 * i + mo) = 1 → J 84 (600 * i + mo) - (pm_t v (J 84 (600 * i + mo))).toInt64 = 0 → Q (some (.int (pm_t v (J 84 (600 * i + mo))))) G (xv_ui I 86 (600 * i + mo) 2) (xv_uj (xv_uj J 84 (600 * i + mo) (J 84 (600 * i + mo) - (pm_t v (J 84 (600 * i + mo))).toInt64)) 85 (600 * i + mo) (pm_z (J 85 (600 * i + mo)) (pm_t v (J 84 (600 * i + mo)))))) (h5 : ∀ i, i < nl → x = nI i → (1 ≤ v ∧ v ≤ 100000) → I 86 (600 * i + mo) = 1 → ¬ J 84 (600 * i + mo) - (pm_t v (J 84 (600 * i + mo))).toInt64 = 0 → Q (some (.int (pm_t v (J 84 (600 * i + mo))))) G (xv_ui I 86 (600 * i + mo) 1) (xv_uj (xv_uj J 84 (600 * i + mo) (J 84 (600 * i + mo) - (pm_t v (J 84 (600 * i + mo))).toInt64)) 85 (600 * i + mo) (pm_z (J 85 (600 * i + mo)) (pm_t v (J 84 (600 * i + mo)))))) : xv_Ev l D (d + 2) mX11_pay none 0 [some (.ref 40), some (.int x), some (.int v), none, none] [] G I J 0 0 Q := by
  have hnt : (nI nl).toInt = (nl : Int) := nI_toInt (by omega)
  refine xv_aload_n dX11_pay_0 rfl rfl ?_
  refine xv_iload_n dX11_pay_1 rfl rfl ?_
  refine xv_callV0 (As := [_]) dX11_pay_2 cl_X11_267 rfl rfl rfl rfl (go_40 hG) rfl rfl (Nat.le_of_ble_eq_true rfl) (Nat.le_of_ble_eq_true rfl) (Nat.zero_le _) (Nat.zero_le _) ?_
  refine s11_isLoan hG hnl hl8 ?_
  refine xv_if_neD (tgt := 11) dX11_pay_5 rfl (fun c_5 => ?_) (fun c_5 => ?_)
  · refine xv_iload_n dX11_pay_11 rfl rfl ?_
    refine xv_i2l dX11_pay_12 ?_
    refine xv_lconst (v := 1) dX11_pay_13 rfl ?_
    refine xv_ldc2 dX11_pay_14 ld_X11_243 ?_
    refine xv_callS0 (As := [_, _, _]) dX11_pay_17 cl_X11_126 rfl rfl rfl rfl (Nat.le_of_ble_eq_true rfl) (Nat.le_of_ble_eq_true rfl) (Nat.zero_le _) (Nat.zero_le _) ?_
    refine s11_in (a := 1) (b := 100000) rfl rfl ?_
    refine xv_if_neD (tgt := 26) dX11_pay_20 rfl (fun c_20 => ?_) (fun c_20 => ?_)
    · obtain ⟨i, hi, rfl⟩ : ∃ j : Nat, j < nl ∧ x = nI j := xn_nat (n := nl) (by have h := c_5; simp only [xn_lt, xn_le, hnt, Int32.reduceToInt] at h; omega) (by have h := c_5; simp only [xn_lt, xn_le, hnt, Int32.reduceToInt] at h; omega) (by omega)
      refine xv_aload_n dX11_pay_26 rfl rfl ?_
      refine xv_iload_n dX11_pay_27 rfl rfl ?_
      refine xv_callV0 (As := [_]) dX11_pay_28 cl_X11_249 rfl rfl rfl rfl (go_40 hG) rfl rfl (Nat.le_of_ble_eq_true rfl) (Nat.le_of_ble_eq_true rfl) (Nat.zero_le _) (Nat.zero_le _) ?_
      refine s11_nowOf hG hmo (by omega) ?_
      refine xv_istore_n dX11_pay_31 rfl (Nat.le_of_ble_eq_true rfl) rfl ?_
      refine xv_aload_n dX11_pay_32 rfl rfl ?_
      refine xv_getr dX11_pay_33 fl_X11_103 (go_40 hG) rfl (gr_40_36 hG) ?_
      refine xv_iload_n dX11_pay_36 rfl rfl ?_
      refine xv_iaload dX11_pay_37 (go_86 hG) (xv_ixn (by omega) (by decide)) ?_
      refine xv_iconst (v := 1) dX11_pay_38 rfl ?_
      refine xv_icmp_eq (tgt := 45) dX11_pay_39 rfl (fun c_39 => ?_) (fun c_39 => ?_)
      · refine xv_iload_n dX11_pay_45 rfl rfl ?_
        refine xv_i2l dX11_pay_46 ?_
        refine xv_aload_n dX11_pay_47 rfl rfl ?_
        refine xv_getr dX11_pay_48 fl_X11_96 (go_40 hG) rfl (gr_40_34 hG) ?_
        refine xv_iload_n dX11_pay_51 rfl rfl ?_
        refine xv_laload dX11_pay_52 (go_84 hG) (xv_ixn (by omega) (by decide)) ?_
        refine xv_lcmp dX11_pay_53 ?_
        refine xv_if_ge (tgt := 61) dX11_pay_54 rfl (fun c_54 => ?_) (fun c_54 => ?_)
        · refine xv_aload_n dX11_pay_61 rfl rfl ?_
          refine xv_getr dX11_pay_62 fl_X11_96 (go_40 hG) rfl (gr_40_34 hG) ?_
          refine xv_iload_n dX11_pay_65 rfl rfl ?_
          refine xv_laload dX11_pay_66 (go_84 hG) (xv_ixn (by omega) (by decide)) ?_
          refine xv_l2i dX11_pay_67 ?_
          have et : (pm_t v (J 84 (600 * i + mo))) = (J 84 (600 * i + mo)).toInt32 := if_neg (fun h => absurd ((xn_cmp_lt _ _).mpr h) (by simp only [xn_lt, xn_le] at *; omega))
          refine xv_nmI et.symm ?_
          refine xv_istore dX11_pay_68 (Nat.le_of_ble_eq_true rfl) rfl ?_
          refine xv_aload_n dX11_pay_70 rfl rfl ?_
          refine xv_getr dX11_pay_71 fl_X11_96 (go_40 hG) rfl (gr_40_34 hG) ?_
          refine xv_iload_n dX11_pay_74 rfl rfl ?_
          refine xv_dup2 dX11_pay_75 rfl rfl ?_
          refine xv_laload dX11_pay_76 (go_84 hG) (xv_ixn (by omega) (by decide)) ?_
          refine xv_nmJ (y := J 84 (600 * i + mo)) rfl ?_
          refine xv_iload dX11_pay_77 rfl ?_
          refine xv_i2l dX11_pay_79 ?_
          refine xv_lsub dX11_pay_80 ?_
          refine xv_lastore dX11_pay_81 (go_84 hG) (xv_ixn (by omega) (by decide)) ?_
          refine xv_aload_n dX11_pay_82 rfl rfl ?_
          refine xv_getr dX11_pay_83 fl_X11_100 (go_40 hG) rfl (gr_40_35 hG) ?_
          refine xv_iload_n dX11_pay_86 rfl rfl ?_
          refine xv_aload_n dX11_pay_87 rfl rfl ?_
          refine xv_getr dX11_pay_88 fl_X11_100 (go_40 hG) rfl (gr_40_35 hG) ?_
          refine xv_iload_n dX11_pay_91 rfl rfl ?_
          refine xv_laload dX11_pay_92 (go_85 hG) (xv_ixn (by omega) (by decide)) ?_
          refine xv_nmJ (y := J 85 (600 * i + mo)) rfl ?_
          refine xv_iload dX11_pay_93 rfl ?_
          refine xv_i2l dX11_pay_95 ?_
          refine xv_lcmp dX11_pay_96 ?_
          refine xv_if_ge (tgt := 104) dX11_pay_97 rfl (fun c_97 => ?_) (fun c_97 => ?_)
          · refine xv_aload_n dX11_pay_104 rfl rfl ?_
            refine xv_getr dX11_pay_105 fl_X11_100 (go_40 hG) rfl (gr_40_35 hG) ?_
            refine xv_iload_n dX11_pay_108 rfl rfl ?_
            refine xv_laload dX11_pay_109 (go_85 hG) (xv_ixn (by omega) (by decide)) ?_
            refine xv_nmJ (y := J 85 (600 * i + mo)) rfl ?_
            refine xv_iload dX11_pay_110 rfl ?_
            refine xv_i2l dX11_pay_112 ?_
            refine xv_lsub dX11_pay_113 ?_
            have ed : pm_z (J 85 (600 * i + mo)) (pm_t v (J 84 (600 * i + mo))) = J 85 (600 * i + mo) - (pm_t v (J 84 (600 * i + mo))).toInt64 := if_neg (fun h => absurd ((xn_cmp_lt _ _).mpr h) (by simp only [xn_lt, xn_le] at *; omega))
            refine xv_nmJ ed.symm ?_
            refine xv_lastore dX11_pay_114 (go_85 hG) (xv_ixn (by omega) (by decide)) ?_
            refine xv_aload_n dX11_pay_115 rfl rfl ?_
            refine xv_getr dX11_pay_116 fl_X11_103 (go_40 hG) rfl (gr_40_36 hG) ?_
            refine xv_iload_n dX11_pay_119 rfl rfl ?_
            refine xv_aload_n dX11_pay_120 rfl rfl ?_
            refine xv_getr dX11_pay_121 fl_X11_96 (go_40 hG) rfl (gr_40_34 hG) ?_
            refine xv_iload_n dX11_pay_124 rfl rfl ?_
            refine xv_laload dX11_pay_125 (go_84 hG) (xv_ixn (by omega) (by decide)) ?_
            refine xv_nmJ (y := J 84 (600 * i + mo) - (pm_t v (J 84 (600 * i + mo))).toInt64) (by simp [xv_uj_ap]) ?_
            refine xv_lconst (v := 0) dX11_pay_126 rfl ?_
            refine xv_lcmp dX11_pay_127 ?_
            refine xv_if_ne (tgt := 135) dX11_pay_128 rfl (fun c_128 => ?_) (fun c_128 => ?_)
            · refine xv_iconst (v := 1) dX11_pay_135 rfl ?_
              refine xv_iastore dX11_pay_136 (go_86 hG) (xv_ixn (by omega) (by decide)) ?_
              refine xv_iload dX11_pay_137 rfl ?_
              refine xv_iret dX11_pay_139 rfl (Nat.zero_le _) (Nat.zero_le _) ?_
              exact h5 i hi rfl c_20 c_39 (fun h => c_128 ((xn_cmp_eq _ _).mpr h))
            · refine xv_iconst (v := 2) dX11_pay_131 rfl ?_
              refine xv_goto (tgt := 136) dX11_pay_132 rfl ?_
              refine xv_iastore dX11_pay_136 (go_86 hG) (xv_ixn (by omega) (by decide)) ?_
              refine xv_iload dX11_pay_137 rfl ?_
              refine xv_iret dX11_pay_139 rfl (Nat.zero_le _) (Nat.zero_le _) ?_
              exact h4 i hi rfl c_20 c_39 ((xn_cmp_eq _ _).mp c_128)
          · refine xv_lconst (v := 0) dX11_pay_100 rfl ?_
            refine xv_goto (tgt := 114) dX11_pay_101 rfl ?_
            have ed : pm_z (J 85 (600 * i + mo)) (pm_t v (J 84 (600 * i + mo))) = 0 := if_pos ((xn_cmp_lt _ _).mp (by simp only [xn_lt, xn_le] at *; omega))
            refine xv_nmJ ed.symm ?_
            refine xv_lastore dX11_pay_114 (go_85 hG) (xv_ixn (by omega) (by decide)) ?_
            refine xv_aload_n dX11_pay_115 rfl rfl ?_
            refine xv_getr dX11_pay_116 fl_X11_103 (go_40 hG) rfl (gr_40_36 hG) ?_
            refine xv_iload_n dX11_pay_119 rfl rfl ?_
            refine xv_aload_n dX11_pay_120 rfl rfl ?_
            refine xv_getr dX11_pay_121 fl_X11_96 (go_40 hG) rfl (gr_40_34 hG) ?_
            refine xv_iload_n dX11_pay_124 rfl rfl ?_
            refine xv_laload dX11_pay_125 (go_84 hG) (xv_ixn (by omega) (by decide)) ?_
            refine xv_nmJ (y := J 84 (600 * i + mo) - (pm_t v (J 84 (600 * i + mo))).toInt64) (by simp [xv_uj_ap]) ?_
            refine xv_lconst (v := 0) dX11_pay_126 rfl ?_
            refine xv_lcmp dX11_pay_127 ?_
            refine xv_if_ne (tgt := 135) dX11_pay_128 rfl (fun c_128 => ?_) (fun c_128 => ?_)
            · refine xv_iconst (v := 1) dX11_pay_135 rfl ?_
              refine xv_iastore dX11_pay_136 (go_86 hG) (xv_ixn (by omega) (by decide)) ?_
              refine xv_iload dX11_pay_137 rfl ?_
              refine xv_iret dX11_pay_139 rfl (Nat.zero_le _) (Nat.zero_le _) ?_
              exact h5 i hi rfl c_20 c_39 (fun h => c_128 ((xn_cmp_eq _ _).mpr h))
            · refine xv_iconst (v := 2) dX11_pay_131 rfl ?_
              refine xv_goto (tgt := 136) dX11_pay_132 rfl ?_
              refine xv_iastore dX11_pay_136 (go_86 hG) (xv_ixn (by omega) (by decide)) ?_
              refine xv_iload dX11_pay_137 rfl ?_
              refine xv_iret dX11_pay_139 rfl (Nat.zero_le _) (Nat.zero_le _) ?_
              exact h4 i hi rfl c_20 c_39 ((xn_cmp_eq _ _).mp c_128)
        · refine xv_iload_n dX11_pay_57 rfl rfl ?_
          refine xv_goto (tgt := 68) dX11_pay_58 rfl ?_
          have et : (pm_t v (J 84 (600 * i + mo))) = v := if_pos ((xn_cmp_lt _ _).mp (by simp only [xn_lt, xn_le] at *; omega))
          refine xv_nmI et.symm ?_
          refine xv_istore dX11_pay_68 (Nat.le_of_ble_eq_true rfl) rfl ?_
          refine xv_aload_n dX11_pay_70 rfl rfl ?_
          refine xv_getr dX11_pay_71 fl_X11_96 (go_40 hG) rfl (gr_40_34 hG) ?_
          refine xv_iload_n dX11_pay_74 rfl rfl ?_
          refine xv_dup2 dX11_pay_75 rfl rfl ?_
          refine xv_laload dX11_pay_76 (go_84 hG) (xv_ixn (by omega) (by decide)) ?_
          refine xv_nmJ (y := J 84 (600 * i + mo)) rfl ?_
          refine xv_iload dX11_pay_77 rfl ?_
          refine xv_i2l dX11_pay_79 ?_
          refine xv_lsub dX11_pay_80 ?_
          refine xv_lastore dX11_pay_81 (go_84 hG) (xv_ixn (by omega) (by decide)) ?_
          refine xv_aload_n dX11_pay_82 rfl rfl ?_
          refine xv_getr dX11_pay_83 fl_X11_100 (go_40 hG) rfl (gr_40_35 hG) ?_
          refine xv_iload_n dX11_pay_86 rfl rfl ?_
          refine xv_aload_n dX11_pay_87 rfl rfl ?_
          refine xv_getr dX11_pay_88 fl_X11_100 (go_40 hG) rfl (gr_40_35 hG) ?_
          refine xv_iload_n dX11_pay_91 rfl rfl ?_
          refine xv_laload dX11_pay_92 (go_85 hG) (xv_ixn (by omega) (by decide)) ?_
          refine xv_nmJ (y := J 85 (600 * i + mo)) rfl ?_
          refine xv_iload dX11_pay_93 rfl ?_
          refine xv_i2l dX11_pay_95 ?_
          refine xv_lcmp dX11_pay_96 ?_
          refine xv_if_ge (tgt := 104) dX11_pay_97 rfl (fun c_97 => ?_) (fun c_97 => ?_)
          · refine xv_aload_n dX11_pay_104 rfl rfl ?_
            refine xv_getr dX11_pay_105 fl_X11_100 (go_40 hG) rfl (gr_40_35 hG) ?_
            refine xv_iload_n dX11_pay_108 rfl rfl ?_
            refine xv_laload dX11_pay_109 (go_85 hG) (xv_ixn (by omega) (by decide)) ?_
            refine xv_nmJ (y := J 85 (600 * i + mo)) rfl ?_
            refine xv_iload dX11_pay_110 rfl ?_
            refine xv_i2l dX11_pay_112 ?_
            refine xv_lsub dX11_pay_113 ?_
            have ed : pm_z (J 85 (600 * i + mo)) (pm_t v (J 84 (600 * i + mo))) = J 85 (600 * i + mo) - (pm_t v (J 84 (600 * i + mo))).toInt64 := if_neg (fun h => absurd ((xn_cmp_lt _ _).mpr h) (by simp only [xn_lt, xn_le] at *; omega))
            refine xv_nmJ ed.symm ?_
            refine xv_lastore dX11_pay_114 (go_85 hG) (xv_ixn (by omega) (by decide)) ?_
            refine xv_aload_n dX11_pay_115 rfl rfl ?_
            refine xv_getr dX11_pay_116 fl_X11_103 (go_40 hG) rfl (gr_40_36 hG) ?_
            refine xv_iload_n dX11_pay_119 rfl rfl ?_
            refine xv_aload_n dX11_pay_120 rfl rfl ?_
            refine xv_getr dX11_pay_121 fl_X11_96 (go_40 hG) rfl (gr_40_34 hG) ?_
            refine xv_iload_n dX11_pay_124 rfl rfl ?_
            refine xv_laload dX11_pay_125 (go_84 hG) (xv_ixn (by omega) (by decide)) ?_
            refine xv_nmJ (y := J 84 (600 * i + mo) - (pm_t v (J 84 (600 * i + mo))).toInt64) (by simp [xv_uj_ap]) ?_
            refine xv_lconst (v := 0) dX11_pay_126 rfl ?_
            refine xv_lcmp dX11_pay_127 ?_
            refine xv_if_ne (tgt := 135) dX11_pay_128 rfl (fun c_128 => ?_) (fun c_128 => ?_)
            · refine xv_iconst (v := 1) dX11_pay_135 rfl ?_
              refine xv_iastore dX11_pay_136 (go_86 hG) (xv_ixn (by omega) (by decide)) ?_
              refine xv_iload dX11_pay_137 rfl ?_
              refine xv_iret dX11_pay_139 rfl (Nat.zero_le _) (Nat.zero_le _) ?_
              exact h5 i hi rfl c_20 c_39 (fun h => c_128 ((xn_cmp_eq _ _).mpr h))
            · refine xv_iconst (v := 2) dX11_pay_131 rfl ?_
              refine xv_goto (tgt := 136) dX11_pay_132 rfl ?_
              refine xv_iastore dX11_pay_136 (go_86 hG) (xv_ixn (by omega) (by decide)) ?_
              refine xv_iload dX11_pay_137 rfl ?_
              refine xv_iret dX11_pay_139 rfl (Nat.zero_le _) (Nat.zero_le _) ?_
              exact h4 i hi rfl c_20 c_39 ((xn_cmp_eq _ _).mp c_128)
          · refine xv_lconst (v := 0) dX11_pay_100 rfl ?_
            refine xv_goto (tgt := 114) dX11_pay_101 rfl ?_
            have ed : pm_z (J 85 (600 * i + mo)) (pm_t v (J 84 (600 * i + mo))) = 0 := if_pos ((xn_cmp_lt _ _).mp (by simp only [xn_lt, xn_le] at *; omega))
            refine xv_nmJ ed.symm ?_
            refine xv_lastore dX11_pay_114 (go_85 hG) (xv_ixn (by omega) (by decide)) ?_
            refine xv_aload_n dX11_pay_115 rfl rfl ?_
            refine xv_getr dX11_pay_116 fl_X11_103 (go_40 hG) rfl (gr_40_36 hG) ?_
            refine xv_iload_n dX11_pay_119 rfl rfl ?_
            refine xv_aload_n dX11_pay_120 rfl rfl ?_
            refine xv_getr dX11_pay_121 fl_X11_96 (go_40 hG) rfl (gr_40_34 hG) ?_
            refine xv_iload_n dX11_pay_124 rfl rfl ?_
            refine xv_laload dX11_pay_125 (go_84 hG) (xv_ixn (by omega) (by decide)) ?_
            refine xv_nmJ (y := J 84 (600 * i + mo) - (pm_t v (J 84 (600 * i + mo))).toInt64) (by simp [xv_uj_ap]) ?_
            refine xv_lconst (v := 0) dX11_pay_126 rfl ?_
            refine xv_lcmp dX11_pay_127 ?_
            refine xv_if_ne (tgt := 135) dX11_pay_128 rfl (fun c_128 => ?_) (fun c_128 => ?_)
            · refine xv_iconst (v := 1) dX11_pay_135 rfl ?_
              refine xv_iastore dX11_pay_136 (go_86 hG) (xv_ixn (by omega) (by decide)) ?_
              refine xv_iload dX11_pay_137 rfl ?_
              refine xv_iret dX11_pay_139 rfl (Nat.zero_le _) (Nat.zero_le _) ?_
              exact h5 i hi rfl c_20 c_39 (fun h => c_128 ((xn_cmp_eq _ _).mpr h))
            · refine xv_iconst (v := 2) dX11_pay_131 rfl ?_
              refine xv_goto (tgt := 136) dX11_pay_132 rfl ?_
              refine xv_iastore dX11_pay_136 (go_86 hG) (xv_ixn (by omega) (by decide)) ?_
              refine xv_iload dX11_pay_137 rfl ?_
              refine xv_iret dX11_pay_139 rfl (Nat.zero_le _) (Nat.zero_le _) ?_
              exact h4 i hi rfl c_20 c_39 ((xn_cmp_eq _ _).mp c_128)
      · refine xv_ldc dX11_pay_42 ld_X11_144 ?_
        refine xv_iret dX11_pay_44 rfl (Nat.zero_le _) (Nat.zero_le _) ?_
        exact h3 i hi rfl c_20 c_39
    · refine xv_ldc dX11_pay_23 ld_X11_130 ?_
      refine xv_iret dX11_pay_25 rfl (Nat.zero_le _) (Nat.zero_le _) ?_
      obtain ⟨i, hi, rfl⟩ : ∃ j : Nat, j < nl ∧ x = nI j := xn_nat (n := nl) (by have h := c_5; simp only [xn_lt, xn_le, hnt, Int32.reduceToInt] at h; omega) (by have h := c_5; simp only [xn_lt, xn_le, hnt, Int32.reduceToInt] at h; omega) (by omega)
      exact h2 i hi rfl c_20
  · refine xv_ldc dX11_pay_8 ld_X11_143 ?_
    refine xv_iret dX11_pay_10 rfl (Nat.zero_le _) (Nat.zero_le _) ?_
    exact h1 c_5

theorem s11_work {l : Launch} {D : va_G} {d : Nat} {G : xv_Gr} {I : xv_I} {J : xv_J} {Q : xv_Po} (hG : xg_ok G) {nl : Nat} (hnl : I 40 29 = nI nl) (hl8 : nl ≤ 8) {x f : Int32} (hf : vp_nar .boolean f = f) (h1 : ¬ (0 ≤ x ∧ x < nI nl) → Q (some (.int (-900001))) G I J) (h2 : ∀ i, i < nl → x = nI i → Q (some (.int (xbp (¬ I 83 i = 0)))) G (xv_ui I 83 i f) J) : xv_Ev l D (d + 2) mX11_work none 0 [some (.ref 40), some (.int x), some (.int f), none] [] G I J 0 0 Q := by
  have hnt : (nI nl).toInt = (nl : Int) := nI_toInt (by omega)
  refine xv_aload_n dX11_work_0 rfl rfl ?_
  refine xv_iload_n dX11_work_1 rfl rfl ?_
  refine xv_callV0 (As := [_]) dX11_work_2 cl_X11_267 rfl rfl rfl rfl (go_40 hG) rfl rfl (Nat.le_of_ble_eq_true rfl) (Nat.le_of_ble_eq_true rfl) (Nat.zero_le _) (Nat.zero_le _) ?_
  refine s11_isLoan hG hnl hl8 ?_
  refine xv_if_neD (tgt := 11) dX11_work_5 rfl (fun c_5 => ?_) (fun c_5 => ?_)
  · obtain ⟨i, hi, rfl⟩ : ∃ j : Nat, j < nl ∧ x = nI j := xn_nat (n := nl) (by have h := c_5; simp only [xn_lt, xn_le, hnt, Int32.reduceToInt] at h; omega) (by have h := c_5; simp only [xn_lt, xn_le, hnt, Int32.reduceToInt] at h; omega) (by omega)
    refine xv_aload_n dX11_work_11 rfl rfl ?_
    refine xv_getr dX11_work_12 fl_X11_93 (go_40 hG) rfl (gr_40_33 hG) ?_
    refine xv_iload_n dX11_work_15 rfl rfl ?_
    refine xv_zaload dX11_work_16 (go_83 hG) (xv_ixn (by omega) (by decide)) ?_
    refine xv_if_eq (tgt := 24) dX11_work_17 rfl (fun c_17 => ?_) (fun c_17 => ?_)
    · refine xv_iconst (v := 0) dX11_work_24 rfl ?_
      refine xv_istore_n dX11_work_25 rfl (Nat.le_of_ble_eq_true rfl) rfl ?_
      refine xv_aload_n dX11_work_26 rfl rfl ?_
      refine xv_getr dX11_work_27 fl_X11_93 (go_40 hG) rfl (gr_40_33 hG) ?_
      refine xv_iload_n dX11_work_30 rfl rfl ?_
      refine xv_iload_n dX11_work_31 rfl rfl ?_
      refine xv_zastore dX11_work_32 (go_83 hG) (xv_ixn (by omega) (by decide)) hf ?_
      refine xv_iload_n dX11_work_33 rfl rfl ?_
      refine xv_iret dX11_work_34 rfl (Nat.zero_le _) (Nat.zero_le _) ?_
      have h := h2 i hi rfl
      rw [xbp_F (fun q => q c_17)] at h
      exact h
    · refine xv_iconst (v := 1) dX11_work_20 rfl ?_
      refine xv_goto (tgt := 25) dX11_work_21 rfl ?_
      refine xv_istore_n dX11_work_25 rfl (Nat.le_of_ble_eq_true rfl) rfl ?_
      refine xv_aload_n dX11_work_26 rfl rfl ?_
      refine xv_getr dX11_work_27 fl_X11_93 (go_40 hG) rfl (gr_40_33 hG) ?_
      refine xv_iload_n dX11_work_30 rfl rfl ?_
      refine xv_iload_n dX11_work_31 rfl rfl ?_
      refine xv_zastore dX11_work_32 (go_83 hG) (xv_ixn (by omega) (by decide)) hf ?_
      refine xv_iload_n dX11_work_33 rfl rfl ?_
      refine xv_iret dX11_work_34 rfl (Nat.zero_le _) (Nat.zero_le _) ?_
      have h := h2 i hi rfl
      rw [xbp_T c_17] at h
      exact h
  · refine xv_ldc dX11_work_8 ld_X11_143 ?_
    refine xv_iret dX11_work_10 rfl (Nat.zero_le _) (Nat.zero_le _) ?_
    exact h1 c_5

theorem s11_arrears {l : Launch} {D : va_G} {d : Nat} {G : xv_Gr} {I : xv_I} {J : xv_J} {Q : xv_Po} (hG : xg_ok G) {nl : Nat} (hnl : I 40 29 = nI nl) (hl8 : nl ≤ 8) {mo : Nat} (hmo : I 40 28 = nI mo) (hm5 : mo ≤ 599) {x : Int32} (hp : ∀ i, i < nl → 0 < I 81 i) (h1 : ¬ (0 ≤ x ∧ x < nI nl) → Q (some (.int (-900001))) G I J) (h2 : ∀ i, i < nl → x = nI i → Q (some (.int (J 85 (600 * i + mo) / (I 81 i).toInt64).toInt32)) G I J) : xv_Ev l D (d + 2) mX11_arrears none 0 [some (.ref 40), some (.int x)] [] G I J 0 0 Q := by
  have hnt : (nI nl).toInt = (nl : Int) := nI_toInt (by omega)
  refine xv_aload_n dX11_arrears_0 rfl rfl ?_
  refine xv_iload_n dX11_arrears_1 rfl rfl ?_
  refine xv_callV0 (As := [_]) dX11_arrears_2 cl_X11_267 rfl rfl rfl rfl (go_40 hG) rfl rfl (Nat.le_of_ble_eq_true rfl) (Nat.le_of_ble_eq_true rfl) (Nat.zero_le _) (Nat.zero_le _) ?_
  refine s11_isLoan hG hnl hl8 ?_
  refine xv_if_eqD (tgt := 30) dX11_arrears_5 rfl (fun c_5 => ?_) (fun c_5 => ?_)
  · refine xv_ldc dX11_arrears_30 ld_X11_143 ?_
    refine xv_iret dX11_arrears_32 rfl (Nat.zero_le _) (Nat.zero_le _) ?_
    exact h1 c_5
  · obtain ⟨i, hi, rfl⟩ : ∃ j : Nat, j < nl ∧ x = nI j := xn_nat (n := nl) (by have h := c_5; simp only [xn_lt, xn_le, hnt, Int32.reduceToInt] at h; omega) (by have h := c_5; simp only [xn_lt, xn_le, hnt, Int32.reduceToInt] at h; omega) (by omega)
    refine xv_aload_n dX11_arrears_8 rfl rfl ?_
    refine xv_getr dX11_arrears_9 fl_X11_100 (go_40 hG) rfl (gr_40_35 hG) ?_
    refine xv_aload_n dX11_arrears_12 rfl rfl ?_
    refine xv_iload_n dX11_arrears_13 rfl rfl ?_
    refine xv_callV0 (As := [_]) dX11_arrears_14 cl_X11_249 rfl rfl rfl rfl (go_40 hG) rfl rfl (Nat.le_of_ble_eq_true rfl) (Nat.le_of_ble_eq_true rfl) (Nat.zero_le _) (Nat.zero_le _) ?_
    refine s11_nowOf hG hmo (by omega) ?_
    refine xv_laload dX11_arrears_17 (go_85 hG) (xv_ixn (by omega) (by decide)) ?_
    refine xv_aload_n dX11_arrears_18 rfl rfl ?_
    refine xv_getr dX11_arrears_19 fl_X11_87 (go_40 hG) rfl (gr_40_31 hG) ?_
    refine xv_iload_n dX11_arrears_22 rfl rfl ?_
    refine xv_iaload dX11_arrears_23 (go_81 hG) (xv_ixn (by omega) (by decide)) ?_
    refine xv_i2l dX11_arrears_24 ?_
    refine xv_ldiv dX11_arrears_25 (fun h => by have h1 := congrArg Int64.toInt h; rw [xn_wide] at h1; have h2 := hp i hi; simp only [xn_lt, Int32.reduceToInt, Int64.reduceToInt] at *; omega) ?_
    refine xv_l2i dX11_arrears_26 ?_
    refine xv_goto (tgt := 32) dX11_arrears_27 rfl ?_
    refine xv_iret dX11_arrears_32 rfl (Nat.zero_le _) (Nat.zero_le _) ?_
    exact h2 i hi rfl

theorem s11_as {l : Launch} {D : va_G} {d : Nat} {G : xv_Gr} {I : xv_I} {J : xv_J} {Q : xv_Po} (hG : xg_ok G) {nl : Nat} (hnl : I 40 29 = nI nl) (hl8 : nl ≤ 8) {mo : Nat} (hmo : I 40 28 = nI mo) (hm5 : mo ≤ 599) {x y w : Int32} (h1 : ¬ (0 ≤ x ∧ x < nI nl) → Q (some (.long (-900001))) G I J) (h2 : ∀ i, i < nl → x = nI i → ¬ ((0 ≤ y ∧ y ≤ nI mo) ∧ (0 ≤ w ∧ w ≤ 2)) → Q (some (.long (-900002))) G I J) (h3 : ∀ i, i < nl → x = nI i → ∀ j, j ≤ mo → y = nI j → w = 0 → Q (some (.long (J 84 (600 * i + j)))) G I J) (h4 : ∀ i, i < nl → x = nI i → ∀ j, j ≤ mo → y = nI j → w = 1 → Q (some (.long (J 85 (600 * i + j)))) G I J) (h5 : ∀ i, i < nl → x = nI i → ∀ j, j ≤ mo → y = nI j → w = 2 → Q (some (.long (I 86 (600 * i + j)).toInt64)) G I J) : xv_Ev l D (d + 2) mX11_as none 0 [some (.ref 40), some (.int x), some (.int y), some (.int w), none] [] G I J 0 0 Q := by
  have hnt : (nI nl).toInt = (nl : Int) := nI_toInt (by omega)
  have hmt : (nI mo).toInt = (mo : Int) := nI_toInt (by omega)
  refine xv_aload_n dX11_as_0 rfl rfl ?_
  refine xv_iload_n dX11_as_1 rfl rfl ?_
  refine xv_callV0 (As := [_]) dX11_as_2 cl_X11_267 rfl rfl rfl rfl (go_40 hG) rfl rfl (Nat.le_of_ble_eq_true rfl) (Nat.le_of_ble_eq_true rfl) (Nat.zero_le _) (Nat.zero_le _) ?_
  refine s11_isLoan hG hnl hl8 ?_
  refine xv_if_neD (tgt := 12) dX11_as_5 rfl (fun c_5 => ?_) (fun c_5 => ?_)
  · refine xv_iload_n dX11_as_12 rfl rfl ?_
    refine xv_i2l dX11_as_13 ?_
    refine xv_lconst (v := 0) dX11_as_14 rfl ?_
    refine xv_aload_n dX11_as_15 rfl rfl ?_
    refine xv_geti dX11_as_16 fl_X11_240 (go_40 hG) rfl ?_
    refine xv_nmI hmo ?_
    refine xv_i2l dX11_as_19 ?_
    refine xv_callS0 (As := [_, _, _]) dX11_as_20 cl_X11_126 rfl rfl rfl rfl (Nat.le_of_ble_eq_true rfl) (Nat.le_of_ble_eq_true rfl) (Nat.zero_le _) (Nat.zero_le _) ?_
    refine s11_in (a := 0) (b := nI mo) rfl rfl ?_
    refine xv_if_eqD (tgt := 38) dX11_as_23 rfl (fun c_23 => ?_) (fun c_23 => ?_)
    · refine xv_ldc2 dX11_as_38 ld_X11_274 ?_
      refine xv_lret dX11_as_41 rfl (Nat.zero_le _) (Nat.zero_le _) ?_
      obtain ⟨i, hi, rfl⟩ : ∃ j : Nat, j < nl ∧ x = nI j := xn_nat (n := nl) (by have h := c_5; simp only [xn_lt, xn_le, hnt, Int32.reduceToInt] at h; omega) (by have h := c_5; simp only [xn_lt, xn_le, hnt, Int32.reduceToInt] at h; omega) (by omega)
      exact h2 i hi rfl (fun h => c_23 h.1)
    · refine xv_iload_n dX11_as_26 rfl rfl ?_
      refine xv_i2l dX11_as_27 ?_
      refine xv_lconst (v := 0) dX11_as_28 rfl ?_
      refine xv_ldc2 dX11_as_29 ld_X11_272 ?_
      refine xv_callS0 (As := [_, _, _]) dX11_as_32 cl_X11_126 rfl rfl rfl rfl (Nat.le_of_ble_eq_true rfl) (Nat.le_of_ble_eq_true rfl) (Nat.zero_le _) (Nat.zero_le _) ?_
      refine s11_in (a := 0) (b := 2) rfl rfl ?_
      refine xv_if_neD (tgt := 42) dX11_as_35 rfl (fun c_35 => ?_) (fun c_35 => ?_)
      · obtain ⟨i, hi, rfl⟩ : ∃ j : Nat, j < nl ∧ x = nI j := xn_nat (n := nl) (by have h := c_5; simp only [xn_lt, xn_le, hnt, Int32.reduceToInt] at h; omega) (by have h := c_5; simp only [xn_lt, xn_le, hnt, Int32.reduceToInt] at h; omega) (by omega)
        obtain ⟨j, hj, rfl⟩ : ∃ j : Nat, j < mo + 1 ∧ y = nI j := xn_nat (n := mo + 1) (by have h := c_23; simp only [xn_lt, xn_le, hmt, Int32.reduceToInt] at h; omega) (by have h := c_23; simp only [xn_lt, xn_le, hmt, Int32.reduceToInt] at h; omega) (by omega)
        refine xv_sipush (v := nI 600) dX11_as_42 rfl ?_
        refine xv_iload_n dX11_as_45 rfl rfl ?_
        refine xv_imul dX11_as_46 ?_
        refine xv_nmI (pk_mul _ _) ?_
        refine xv_iload_n dX11_as_47 rfl rfl ?_
        refine xv_iadd dX11_as_48 ?_
        refine xv_nmI (nI_add _ _) ?_
        refine xv_istore dX11_as_49 (Nat.le_of_ble_eq_true rfl) rfl ?_
        refine xv_iload_n dX11_as_51 rfl rfl ?_
        refine xv_if_ne (tgt := 65) dX11_as_52 rfl (fun c_52 => ?_) (fun c_52 => ?_)
        · refine xv_iload_n dX11_as_65 rfl rfl ?_
          refine xv_iconst (v := 1) dX11_as_66 rfl ?_
          refine xv_icmp_ne (tgt := 80) dX11_as_67 rfl (fun c_67 => ?_) (fun c_67 => ?_)
          · refine xv_aload_n dX11_as_80 rfl rfl ?_
            refine xv_getr dX11_as_81 fl_X11_103 (go_40 hG) rfl (gr_40_36 hG) ?_
            refine xv_iload dX11_as_84 rfl ?_
            refine xv_iaload dX11_as_86 (go_86 hG) (xv_ixn (by omega) (by decide)) ?_
            refine xv_i2l dX11_as_87 ?_
            refine xv_lret dX11_as_88 rfl (Nat.zero_le _) (Nat.zero_le _) ?_
            exact h5 i hi rfl j (by omega) rfl (by have ha := c_35.1; have hb := c_35.2; simp only [xn_lt, xn_le, xn_eq, Int32.reduceToInt] at c_52 c_67 ha hb ⊢; omega)
          · refine xv_aload_n dX11_as_70 rfl rfl ?_
            refine xv_getr dX11_as_71 fl_X11_100 (go_40 hG) rfl (gr_40_35 hG) ?_
            refine xv_iload dX11_as_74 rfl ?_
            refine xv_laload dX11_as_76 (go_85 hG) (xv_ixn (by omega) (by decide)) ?_
            refine xv_goto (tgt := 88) dX11_as_77 rfl ?_
            refine xv_lret dX11_as_88 rfl (Nat.zero_le _) (Nat.zero_le _) ?_
            exact h4 i hi rfl j (by omega) rfl c_67
        · refine xv_aload_n dX11_as_55 rfl rfl ?_
          refine xv_getr dX11_as_56 fl_X11_96 (go_40 hG) rfl (gr_40_34 hG) ?_
          refine xv_iload dX11_as_59 rfl ?_
          refine xv_laload dX11_as_61 (go_84 hG) (xv_ixn (by omega) (by decide)) ?_
          refine xv_goto (tgt := 88) dX11_as_62 rfl ?_
          refine xv_lret dX11_as_88 rfl (Nat.zero_le _) (Nat.zero_le _) ?_
          exact h3 i hi rfl j (by omega) rfl c_52
      · refine xv_ldc2 dX11_as_38 ld_X11_274 ?_
        refine xv_lret dX11_as_41 rfl (Nat.zero_le _) (Nat.zero_le _) ?_
        obtain ⟨i, hi, rfl⟩ : ∃ j : Nat, j < nl ∧ x = nI j := xn_nat (n := nl) (by have h := c_5; simp only [xn_lt, xn_le, hnt, Int32.reduceToInt] at h; omega) (by have h := c_5; simp only [xn_lt, xn_le, hnt, Int32.reduceToInt] at h; omega) (by omega)
        exact h2 i hi rfl (fun h => c_35 h.2)
  · refine xv_ldc2 dX11_as_8 ld_X11_270 ?_
    refine xv_lret dX11_as_11 rfl (Nat.zero_le _) (Nat.zero_le _) ?_
    exact h1 c_5

theorem s11_cn_l {l : Launch} {D : va_G} {d : Nat} {G : xv_Gr} {I : xv_I} {J : xv_J} {Q : xv_Po} (hG : xg_ok G) {nl : Nat} (hnl : I 40 29 = nI nl) (hl8 : nl ≤ 8) {mo : Nat} (hmo : I 40 28 = nI mo) (hm5 : mo ≤ 599) {w : Int32} (h0 : w = 0 → Q (some (.int (I 40 1))) G I J) (h1 : w = 1 → Q (some (.int (I 40 6))) G I J) (h2 : w = 2 → Q (some (.int (I 40 24))) G I J) (h3 : w = 3 → Q (some (.int (I 40 29))) G I J) (h4 : w = 4 → Q (some (.int (nI (xcn (fun i => I 86 (600 * i + mo) = 1) nl)))) G I J) (h5 : w = 5 → Q (some (.int (I 40 39))) G I J) (h6 : w = 6 → Q (some (.int (I 40 28))) G I J) (h7 : w = 7 → Q (some (.int (I 40 0))) G I J) (h8 : ¬ (0 ≤ w ∧ w ≤ 7) → Q (some (.int (-900002))) G I J) : ∀ (n i : Nat), i + n = nl → xv_Ev l D (d + 1) mX11_count none 4 [some (.ref 40), some (.int w), some (.int (nI (xcn (fun i => I 86 (600 * i + mo) = 1) i))), some (.int (nI i))] [] G I J 0 0 Q := by
  intro n
  induction n with
  | zero =>
    intro i hi
    refine xv_iload_n dX11_count_4 rfl rfl ?_
    refine xv_aload_n dX11_count_5 rfl rfl ?_
    refine xv_geti dX11_count_6 fl_X11_237 (go_40 hG) rfl ?_
    refine xv_nmI hnl ?_
    refine xv_icmp_geN (tgt := 40) dX11_count_9 rfl (by omega) (by omega) (fun c_9 => ?_) (fun c_9 => absurd c_9 (by omega))
    have e : nl = i := by omega
    subst e
    refine xv_iload_n dX11_count_40 rfl rfl ?_
    rcases xn_sw7 w with rfl | rfl | rfl | rfl | rfl | rfl | rfl | rfl | hw
    · refine xv_tabIn (tgt := 88) dX11_count_41 (by decide) (by decide) rfl rfl ?_
      refine xv_aload_n dX11_count_88 rfl rfl ?_
      refine xv_geti dX11_count_89 fl_X11_135 (go_40 hG) rfl ?_
      refine xv_iret dX11_count_92 rfl (Nat.zero_le _) (Nat.zero_le _) ?_
      exact h0 rfl
    · refine xv_tabIn (tgt := 93) dX11_count_41 (by decide) (by decide) rfl rfl ?_
      refine xv_aload_n dX11_count_93 rfl rfl ?_
      refine xv_geti dX11_count_94 fl_X11_145 (go_40 hG) rfl ?_
      refine xv_iret dX11_count_97 rfl (Nat.zero_le _) (Nat.zero_le _) ?_
      exact h1 rfl
    · refine xv_tabIn (tgt := 98) dX11_count_41 (by decide) (by decide) rfl rfl ?_
      refine xv_aload_n dX11_count_98 rfl rfl ?_
      refine xv_geti dX11_count_99 fl_X11_218 (go_40 hG) rfl ?_
      refine xv_iret dX11_count_102 rfl (Nat.zero_le _) (Nat.zero_le _) ?_
      exact h2 rfl
    · refine xv_tabIn (tgt := 103) dX11_count_41 (by decide) (by decide) rfl rfl ?_
      refine xv_aload_n dX11_count_103 rfl rfl ?_
      refine xv_geti dX11_count_104 fl_X11_237 (go_40 hG) rfl ?_
      refine xv_iret dX11_count_107 rfl (Nat.zero_le _) (Nat.zero_le _) ?_
      exact h3 rfl
    · refine xv_tabIn (tgt := 108) dX11_count_41 (by decide) (by decide) rfl rfl ?_
      refine xv_iload_n dX11_count_108 rfl rfl ?_
      refine xv_iret dX11_count_109 rfl (Nat.zero_le _) (Nat.zero_le _) ?_
      exact h4 rfl
    · refine xv_tabIn (tgt := 110) dX11_count_41 (by decide) (by decide) rfl rfl ?_
      refine xv_aload_n dX11_count_110 rfl rfl ?_
      refine xv_geti dX11_count_111 fl_X11_276 (go_40 hG) rfl ?_
      refine xv_iret dX11_count_114 rfl (Nat.zero_le _) (Nat.zero_le _) ?_
      exact h5 rfl
    · refine xv_tabIn (tgt := 115) dX11_count_41 (by decide) (by decide) rfl rfl ?_
      refine xv_aload_n dX11_count_115 rfl rfl ?_
      refine xv_geti dX11_count_116 fl_X11_240 (go_40 hG) rfl ?_
      refine xv_iret dX11_count_119 rfl (Nat.zero_le _) (Nat.zero_le _) ?_
      exact h6 rfl
    · refine xv_tabIn (tgt := 120) dX11_count_41 (by decide) (by decide) rfl rfl ?_
      refine xv_aload_n dX11_count_120 rfl rfl ?_
      refine xv_geti dX11_count_121 fl_X11_7 (go_40 hG) rfl ?_
      refine xv_iret dX11_count_124 rfl (Nat.zero_le _) (Nat.zero_le _) ?_
      exact h7 rfl
    · refine xv_tabOut (tgt := 125) dX11_count_41 hw rfl ?_
      refine xv_ldc dX11_count_125 ld_X11_130 ?_
      refine xv_iret dX11_count_127 rfl (Nat.zero_le _) (Nat.zero_le _) ?_
      exact h8 (by simp only [xn_lt, xn_le, Int32.reduceToInt] at *; omega)
  | succ n ih =>
    intro i hi
    refine xv_iload_n dX11_count_4 rfl rfl ?_
    refine xv_aload_n dX11_count_5 rfl rfl ?_
    refine xv_geti dX11_count_6 fl_X11_237 (go_40 hG) rfl ?_
    refine xv_nmI hnl ?_
    refine xv_icmp_geN (tgt := 40) dX11_count_9 rfl (by omega) (by omega) (fun c_9 => absurd c_9 (by omega)) (fun c_9 => ?_)
    refine xv_iload_n dX11_count_12 rfl rfl ?_
    refine xv_aload_n dX11_count_13 rfl rfl ?_
    refine xv_getr dX11_count_14 fl_X11_103 (go_40 hG) rfl (gr_40_36 hG) ?_
    refine xv_aload_n dX11_count_17 rfl rfl ?_
    refine xv_iload_n dX11_count_18 rfl rfl ?_
    refine xv_callV0 (As := [_]) dX11_count_19 cl_X11_249 rfl rfl rfl rfl (go_40 hG) rfl rfl (Nat.le_of_ble_eq_true rfl) (Nat.le_of_ble_eq_true rfl) (Nat.zero_le _) (Nat.zero_le _) ?_
    refine s11_nowOf hG hmo (by omega) ?_
    refine xv_iaload dX11_count_22 (go_86 hG) (xv_ixn (by omega) (by decide)) ?_
    refine xv_iconst (v := 1) dX11_count_23 rfl ?_
    refine xv_icmp_ne (tgt := 31) dX11_count_24 rfl (fun c_24 => ?_) (fun c_24 => ?_)
    · refine xv_iconst (v := 0) dX11_count_31 rfl ?_
      refine xv_iadd dX11_count_32 ?_
      refine xv_istore_n dX11_count_33 rfl (Nat.le_of_ble_eq_true rfl) rfl ?_
      refine xv_iinc dX11_count_34 rfl (xv_inc _) (Nat.le_of_ble_eq_true rfl) rfl ?_
      refine xv_goto (tgt := 4) dX11_count_37 rfl ?_
      have ih2 := ih (i + 1) (by omega)
      rw [xcn_n (P := fun i => I 86 (600 * i + mo) = 1) (n := i) c_24] at ih2
      rw [← Int32.add_zero (nI (xcn (fun i => I 86 (600 * i + mo) = 1) i))] at ih2
      exact ih2
    · refine xv_iconst (v := 1) dX11_count_27 rfl ?_
      refine xv_goto (tgt := 32) dX11_count_28 rfl ?_
      refine xv_iadd dX11_count_32 ?_
      refine xv_istore_n dX11_count_33 rfl (Nat.le_of_ble_eq_true rfl) rfl ?_
      refine xv_iinc dX11_count_34 rfl (xv_inc _) (Nat.le_of_ble_eq_true rfl) rfl ?_
      refine xv_goto (tgt := 4) dX11_count_37 rfl ?_
      have ih2 := ih (i + 1) (by omega)
      rw [xcn_y (P := fun i => I 86 (600 * i + mo) = 1) (n := i) c_24] at ih2
      rw [← nI_1 (xcn (fun i => I 86 (600 * i + mo) = 1) i)] at ih2
      exact ih2

theorem s11_count {l : Launch} {D : va_G} {d : Nat} {G : xv_Gr} {I : xv_I} {J : xv_J} {Q : xv_Po} (hG : xg_ok G) {nl : Nat} (hnl : I 40 29 = nI nl) (hl8 : nl ≤ 8) {mo : Nat} (hmo : I 40 28 = nI mo) (hm5 : mo ≤ 599) {w : Int32} (h0 : w = 0 → Q (some (.int (I 40 1))) G I J) (h1 : w = 1 → Q (some (.int (I 40 6))) G I J) (h2 : w = 2 → Q (some (.int (I 40 24))) G I J) (h3 : w = 3 → Q (some (.int (I 40 29))) G I J) (h4 : w = 4 → Q (some (.int (nI (xcn (fun i => I 86 (600 * i + mo) = 1) nl)))) G I J) (h5 : w = 5 → Q (some (.int (I 40 39))) G I J) (h6 : w = 6 → Q (some (.int (I 40 28))) G I J) (h7 : w = 7 → Q (some (.int (I 40 0))) G I J) (h8 : ¬ (0 ≤ w ∧ w ≤ 7) → Q (some (.int (-900002))) G I J) : xv_Ev l D (d + 1) mX11_count none 0 [some (.ref 40), some (.int w), none, none] [] G I J 0 0 Q := by
  refine xv_iconst (v := 0) dX11_count_0 rfl ?_
  refine xv_istore_n dX11_count_1 rfl (Nat.le_of_ble_eq_true rfl) rfl ?_
  refine xv_iconst (v := 0) dX11_count_2 rfl ?_
  refine xv_istore_n dX11_count_3 rfl (Nat.le_of_ble_eq_true rfl) rfl ?_
  exact s11_cn_l hG hnl hl8 hmo hm5 h0 h1 h2 h3 h4 h5 h6 h7 h8 nl 0 (by omega)
