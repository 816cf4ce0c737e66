/-! terms (model): says, may, takeBack, soon -/
noncomputable def mv_ (ow du : Int64) (p mo bg w : Int32) (k : Nat) : Int64 := match k with
  | 0 => du / p.toInt64
  | 1 => du
  | 2 => ow
  | 3 => (mo - bg).toInt64
  | _ => if w = 0 then 0 else 1
/-- what the model's terms say of loan i in the month x -/
def sy_ (I : xv_I) (nt : Nat) (rf : Nat → Option Nat) (vf : (Nat → Int64) → Nat → Bool) (ow du : Int64) (i : Nat) (x : Int32) : Prop := ∃ t, fi_ (I 90) rf x nt = some t ∧ vf (mv_ ow du (I 81 i) x (I 82 i) (I 83 i)) t = true
theorem sy_fr {I I2 : xv_I} (h : rqf I I2) {nt : Nat} {rf : Nat → Option Nat} {vf : (Nat → Int64) → Nat → Bool} {ow du : Int64} {i : Nat} {x : Int32} : sy_ I2 nt rf vf ow du i x ↔ sy_ I nt rf vf ow du i x := by
  unfold sy_
  rw [h.1 90 (by decide) (by decide) (by decide), h.1 81 (by decide) (by decide) (by decide), h.1 82 (by decide) (by decide) (by decide), h.1 83 (by decide) (by decide) (by decide)]
def vx_ (vf : (Nat → Int64) → Nat → Bool) : Prop := ∀ v w t, (∀ k, k < 5 → v k = w k) → vf v t = vf w t
theorem s11_says {l : Launch} {D : va_G} {d : Nat} {G : xv_Gr} {I : xv_I} {J : xv_J} {Q : xv_Po} (hG : xg_ok G) {nt : Nat} (hnt : I 40 39 = nI nt) (ht4 : nt ≤ 4) {bf : Nat → Nat → Nat} {szf : Nat → Nat} (hsf : ∀ t, t < nt → I 91 t = nI (szf t) ∧ szf t ≤ 60) (hbf : ∀ t, t < nt → ∀ i, i < szf t → I 92 (60 * t + i) = nI (bf t i) ∧ bf t i < 256 ∧ bf t i ≠ 0) {rf : Nat → Option Nat} {vf : (Nat → Int64) → Nat → Bool} (hrd : rd_k nt bf szf rf vf) (hrz : ∀ t z, rf t = some z → z < 2 ^ 31) {i : Nat} (hi : i < 8) (hpt : 0 < I 81 i) {x : Int32} (hvx : vx_ vf) (hQ : ∀ I3 J3, rqf I I3 → (∀ b, b ≠ 98 → J3 b = J b) → Q (some (.int (xbp (sy_ I nt rf vf (J 40 37) (J 40 38) i x)))) G I3 J3) : xv_Ev l D (d + 4) mX11_says none 0 [some (.ref 40), some (.int (nI i)), some (.int x), none] [] G I J 0 0 Q := by
  cases e : fi_ (I 90) rf x nt with
  | none =>
    refine xv_aload_n dX11_says_0 rfl rfl ?_
    refine xv_iload_n dX11_says_1 rfl rfl ?_
    refine xv_callV0 (As := [_]) dX11_says_2 cl_X11_322 rfl rfl rfl rfl (go_40 hG) rfl rfl (Nat.le_of_ble_eq_true rfl) (Nat.le_of_ble_eq_true rfl) (Nat.zero_le _) (Nat.zero_le _) ?_
    refine s11_forceIn (d := d) hG hnt ht4 hsf hbf hrd hrz (x := x) (fun I2 hf => ?_)
    · have e81 : I2 81 i = I 81 i := congrFun (hf.1 81 (by decide) (by decide) (by decide)) i
      have e82 : I2 82 i = I 82 i := congrFun (hf.1 82 (by decide) (by decide) (by decide)) i
      have e83 : I2 83 i = I 83 i := congrFun (hf.1 83 (by decide) (by decide) (by decide)) i
      rw [e]
      show xv_Ev l D (d + 4) mX11_says none 5 [some (.ref 40), some (.int (nI i)), some (.int x), none] [.int (-900009)] G I2 J 0 0 Q
      refine xv_istore_n dX11_says_5 rfl (Nat.le_of_ble_eq_true rfl) rfl ?_
      refine xv_aload_n dX11_says_6 rfl rfl ?_
      refine xv_getr dX11_says_7 fl_X11_121 (go_40 hG) rfl (gr_40_48 hG) ?_
      refine xv_iconst (v := nI 0) dX11_says_10 rfl ?_
      refine xv_aload_n dX11_says_11 rfl rfl ?_
      refine xv_getj dX11_says_12 fl_X11_258 (go_40 hG) rfl ?_
      refine xv_aload_n dX11_says_15 rfl rfl ?_
      refine xv_getr dX11_says_16 fl_X11_87 (go_40 hG) rfl (gr_40_31 hG) ?_
      refine xv_iload_n dX11_says_19 rfl rfl ?_
      refine xv_iaload dX11_says_20 (go_81 hG) (xv_ixn (by omega) (by decide)) ?_
      refine xv_nmI e81 ?_
      refine xv_i2l dX11_says_21 ?_
      refine xv_ldiv dX11_says_22 (fun h => by have h1 := congrArg Int64.toInt h; rw [xn_wide] at h1; have h2 := hpt; simp only [xn_lt, Int32.reduceToInt, Int64.reduceToInt] at *; omega) ?_
      refine xv_lastore dX11_says_23 (go_98 hG) (xv_ixn (by omega) (by decide)) ?_
      refine xv_aload_n dX11_says_24 rfl rfl ?_
      refine xv_getr dX11_says_25 fl_X11_121 (go_40 hG) rfl (gr_40_48 hG) ?_
      refine xv_iconst (v := nI 1) dX11_says_28 rfl ?_
      refine xv_aload_n dX11_says_29 rfl rfl ?_
      refine xv_getj dX11_says_30 fl_X11_258 (go_40 hG) rfl ?_
      refine xv_nmJ (y := J 40 38) rfl ?_
      refine xv_lastore dX11_says_33 (go_98 hG) (xv_ixn (by omega) (by decide)) ?_
      refine xv_aload_n dX11_says_34 rfl rfl ?_
      refine xv_getr dX11_says_35 fl_X11_121 (go_40 hG) rfl (gr_40_48 hG) ?_
      refine xv_iconst (v := nI 2) dX11_says_38 rfl ?_
      refine xv_aload_n dX11_says_39 rfl rfl ?_
      refine xv_getj dX11_says_40 fl_X11_252 (go_40 hG) rfl ?_
      refine xv_nmJ (y := J 40 37) rfl ?_
      refine xv_lastore dX11_says_43 (go_98 hG) (xv_ixn (by omega) (by decide)) ?_
      refine xv_aload_n dX11_says_44 rfl rfl ?_
      refine xv_getr dX11_says_45 fl_X11_121 (go_40 hG) rfl (gr_40_48 hG) ?_
      refine xv_iconst (v := nI 3) dX11_says_48 rfl ?_
      refine xv_iload_n dX11_says_49 rfl rfl ?_
      refine xv_aload_n dX11_says_50 rfl rfl ?_
      refine xv_getr dX11_says_51 fl_X11_90 (go_40 hG) rfl (gr_40_32 hG) ?_
      refine xv_iload_n dX11_says_54 rfl rfl ?_
      refine xv_iaload dX11_says_55 (go_82 hG) (xv_ixn (by omega) (by decide)) ?_
      refine xv_nmI e82 ?_
      refine xv_isub dX11_says_56 ?_
      refine xv_i2l dX11_says_57 ?_
      refine xv_lastore dX11_says_58 (go_98 hG) (xv_ixn (by omega) (by decide)) ?_
      refine xv_aload_n dX11_says_59 rfl rfl ?_
      refine xv_getr dX11_says_60 fl_X11_121 (go_40 hG) rfl (gr_40_48 hG) ?_
      refine xv_iconst (v := nI 4) dX11_says_63 rfl ?_
      refine xv_aload_n dX11_says_64 rfl rfl ?_
      refine xv_getr dX11_says_65 fl_X11_93 (go_40 hG) rfl (gr_40_33 hG) ?_
      refine xv_iload_n dX11_says_68 rfl rfl ?_
      refine xv_zaload dX11_says_69 (go_83 hG) (xv_ixn (by omega) (by decide)) ?_
      refine xv_nmI e83 ?_
      refine xv_if_eq (tgt := 77) dX11_says_70 rfl (fun c_70 => ?_) (fun c_70 => ?_)
      · refine xv_lconst (v := 0) dX11_says_77 rfl ?_
        refine xv_lastore dX11_says_78 (go_98 hG) (xv_ixn (by omega) (by decide)) ?_
        refine xv_iload_n dX11_says_79 rfl rfl ?_
        refine xv_ldc dX11_says_80 ld_X11_152 ?_
        refine xv_icmp_eq (tgt := 108) dX11_says_82 rfl (fun c_82 => ?_) (fun c_82 => absurd rfl c_82)
        refine xv_iconst (v := 0) dX11_says_108 rfl ?_
        refine xv_zret dX11_says_109 rfl rfl (Nat.zero_le _) (Nat.zero_le _) ?_
        exact xqp_F (Q := fun v => Q (some v) G I2 _) (hQ I2 _ hf (fun b g => by rw [xv_uj_ne g, xv_uj_ne g, xv_uj_ne g, xv_uj_ne g, xv_uj_ne g])) (fun ⟨t, h1, h2⟩ => by rw [e] at h1; cases h1)
      · refine xv_lconst (v := 1) dX11_says_73 rfl ?_
        refine xv_goto (tgt := 78) dX11_says_74 rfl ?_
        refine xv_lastore dX11_says_78 (go_98 hG) (xv_ixn (by omega) (by decide)) ?_
        refine xv_iload_n dX11_says_79 rfl rfl ?_
        refine xv_ldc dX11_says_80 ld_X11_152 ?_
        refine xv_icmp_eq (tgt := 108) dX11_says_82 rfl (fun c_82 => ?_) (fun c_82 => absurd rfl c_82)
        refine xv_iconst (v := 0) dX11_says_108 rfl ?_
        refine xv_zret dX11_says_109 rfl rfl (Nat.zero_le _) (Nat.zero_le _) ?_
        exact xqp_F (Q := fun v => Q (some v) G I2 _) (hQ I2 _ hf (fun b g => by rw [xv_uj_ne g, xv_uj_ne g, xv_uj_ne g, xv_uj_ne g, xv_uj_ne g])) (fun ⟨t, h1, h2⟩ => by rw [e] at h1; cases h1)
  | some q =>
    have hq := (fi_lt e).1
    have hq2 := (fi_lt e).2
    refine xv_aload_n dX11_says_0 rfl rfl ?_
    refine xv_iload_n dX11_says_1 rfl rfl ?_
    refine xv_callV0 (As := [_]) dX11_says_2 cl_X11_322 rfl rfl rfl rfl (go_40 hG) rfl rfl (Nat.le_of_ble_eq_true rfl) (Nat.le_of_ble_eq_true rfl) (Nat.zero_le _) (Nat.zero_le _) ?_
    refine s11_forceIn (d := d) hG hnt ht4 hsf hbf hrd hrz (x := x) (fun I2 hf => ?_)
    · have e81 : I2 81 i = I 81 i := congrFun (hf.1 81 (by decide) (by decide) (by decide)) i
      have e82 : I2 82 i = I 82 i := congrFun (hf.1 82 (by decide) (by decide) (by decide)) i
      have e83 : I2 83 i = I 83 i := congrFun (hf.1 83 (by decide) (by decide) (by decide)) i
      rw [e]
      show xv_Ev l D (d + 4) mX11_says none 5 [some (.ref 40), some (.int (nI i)), some (.int x), none] [.int (nI q)] G I2 J 0 0 Q
      refine xv_istore_n dX11_says_5 rfl (Nat.le_of_ble_eq_true rfl) rfl ?_
      refine xv_aload_n dX11_says_6 rfl rfl ?_
      refine xv_getr dX11_says_7 fl_X11_121 (go_40 hG) rfl (gr_40_48 hG) ?_
      refine xv_iconst (v := nI 0) dX11_says_10 rfl ?_
      refine xv_aload_n dX11_says_11 rfl rfl ?_
      refine xv_getj dX11_says_12 fl_X11_258 (go_40 hG) rfl ?_
      refine xv_aload_n dX11_says_15 rfl rfl ?_
      refine xv_getr dX11_says_16 fl_X11_87 (go_40 hG) rfl (gr_40_31 hG) ?_
      refine xv_iload_n dX11_says_19 rfl rfl ?_
      refine xv_iaload dX11_says_20 (go_81 hG) (xv_ixn (by omega) (by decide)) ?_
      refine xv_nmI e81 ?_
      refine xv_i2l dX11_says_21 ?_
      refine xv_ldiv dX11_says_22 (fun h => by have h1 := congrArg Int64.toInt h; rw [xn_wide] at h1; have h2 := hpt; simp only [xn_lt, Int32.reduceToInt, Int64.reduceToInt] at *; omega) ?_
      refine xv_lastore dX11_says_23 (go_98 hG) (xv_ixn (by omega) (by decide)) ?_
      refine xv_aload_n dX11_says_24 rfl rfl ?_
      refine xv_getr dX11_says_25 fl_X11_121 (go_40 hG) rfl (gr_40_48 hG) ?_
      refine xv_iconst (v := nI 1) dX11_says_28 rfl ?_
      refine xv_aload_n dX11_says_29 rfl rfl ?_
      refine xv_getj dX11_says_30 fl_X11_258 (go_40 hG) rfl ?_
      refine xv_nmJ (y := J 40 38) rfl ?_
      refine xv_lastore dX11_says_33 (go_98 hG) (xv_ixn (by omega) (by decide)) ?_
      refine xv_aload_n dX11_says_34 rfl rfl ?_
      refine xv_getr dX11_says_35 fl_X11_121 (go_40 hG) rfl (gr_40_48 hG) ?_
      refine xv_iconst (v := nI 2) dX11_says_38 rfl ?_
      refine xv_aload_n dX11_says_39 rfl rfl ?_
      refine xv_getj dX11_says_40 fl_X11_252 (go_40 hG) rfl ?_
      refine xv_nmJ (y := J 40 37) rfl ?_
      refine xv_lastore dX11_says_43 (go_98 hG) (xv_ixn (by omega) (by decide)) ?_
      refine xv_aload_n dX11_says_44 rfl rfl ?_
      refine xv_getr dX11_says_45 fl_X11_121 (go_40 hG) rfl (gr_40_48 hG) ?_
      refine xv_iconst (v := nI 3) dX11_says_48 rfl ?_
      refine xv_iload_n dX11_says_49 rfl rfl ?_
      refine xv_aload_n dX11_says_50 rfl rfl ?_
      refine xv_getr dX11_says_51 fl_X11_90 (go_40 hG) rfl (gr_40_32 hG) ?_
      refine xv_iload_n dX11_says_54 rfl rfl ?_
      refine xv_iaload dX11_says_55 (go_82 hG) (xv_ixn (by omega) (by decide)) ?_
      refine xv_nmI e82 ?_
      refine xv_isub dX11_says_56 ?_
      refine xv_i2l dX11_says_57 ?_
      refine xv_lastore dX11_says_58 (go_98 hG) (xv_ixn (by omega) (by decide)) ?_
      refine xv_aload_n dX11_says_59 rfl rfl ?_
      refine xv_getr dX11_says_60 fl_X11_121 (go_40 hG) rfl (gr_40_48 hG) ?_
      refine xv_iconst (v := nI 4) dX11_says_63 rfl ?_
      refine xv_aload_n dX11_says_64 rfl rfl ?_
      refine xv_getr dX11_says_65 fl_X11_93 (go_40 hG) rfl (gr_40_33 hG) ?_
      refine xv_iload_n dX11_says_68 rfl rfl ?_
      refine xv_zaload dX11_says_69 (go_83 hG) (xv_ixn (by omega) (by decide)) ?_
      refine xv_nmI e83 ?_
      refine xv_if_eq (tgt := 77) dX11_says_70 rfl (fun c_70 => ?_) (fun c_70 => ?_)
      · refine xv_lconst (v := 0) dX11_says_77 rfl ?_
        refine xv_lastore dX11_says_78 (go_98 hG) (xv_ixn (by omega) (by decide)) ?_
        refine xv_iload_n dX11_says_79 rfl rfl ?_
        refine xv_ldc dX11_says_80 ld_X11_152 ?_
        refine xv_icmp_eq (tgt := 108) dX11_says_82 rfl (fun c_82 => absurd c_82 (nI_nNONE (by omega))) (fun c_82 => ?_)
        refine xv_aload_n dX11_says_85 rfl rfl ?_
        refine xv_iload_n dX11_says_86 rfl rfl ?_
        refine xv_callV0 (As := [_]) dX11_says_87 cl_X11_319 rfl rfl rfl rfl (go_40 hG) rfl rfl (Nat.le_of_ble_eq_true rfl) (Nat.le_of_ble_eq_true rfl) (Nat.zero_le _) (Nat.zero_le _) ?_
        refine s11_readT (d := d + 1) hG (I := I2) ((hf.2 39 (by decide) (by decide) (by decide)).trans hnt) ht4 (fun t k => by rw [hf.1 91 (by decide) (by decide) (by decide)]; exact hsf t k) (fun t k i hi => by rw [hf.1 92 (by decide) (by decide) (by decide)]; exact hbf t k i hi) hrd (t := q) (by omega) (fun I3 hf3 hv3 => ?_)
        · rw [hq2]
          show xv_Ev l D (d + 4) mX11_says none 90 [some (.ref 40), some (.int (nI i)), some (.int x), some (.int (nI q))] [.int (-900009)] G I3 _ 0 0 Q
          refine xv_ldc dX11_says_90 ld_X11_152 ?_
          refine xv_icmp_ne (tgt := 108) dX11_says_92 rfl (fun c_92 => absurd rfl c_92) (fun c_92 => ?_)
          refine xv_aload_n dX11_says_95 rfl rfl ?_
          refine xv_getr dX11_says_96 fl_X11_118 (go_40 hG) rfl (gr_40_47 hG) ?_
          refine xv_iconst (v := nI 0) dX11_says_99 rfl ?_
          refine xv_zaload dX11_says_100 (go_97 hG) (xv_ixn (by omega) (by decide)) ?_
          refine xv_if_eq (tgt := 108) dX11_says_101 rfl (fun c_101 => ?_) (fun c_101 => ?_)
          · refine xv_iconst (v := 0) dX11_says_108 rfl ?_
            refine xv_zret dX11_says_109 rfl rfl (Nat.zero_le _) (Nat.zero_le _) ?_
            have hve : vf (fun v => (xv_uj (xv_uj (xv_uj (xv_uj (xv_uj J 98 0 (J 40 38 / (I 81 i).toInt64)) 98 1 (J 40 38)) 98 2 (J 40 37)) 98 3 (x - I 82 i).toInt64) 98 4 (0)) 98 v) q = vf (mv_ (J 40 37) (J 40 38) (I 81 i) x (I 82 i) (I 83 i)) q := hvx _ _ q (fun k hk => by
              rcases (show k = 0 ∨ k = 1 ∨ k = 2 ∨ k = 3 ∨ k = 4 by omega) with rfl | rfl | rfl | rfl | rfl
              · rfl
              · rfl
              · rfl
              · rfl
              · exact (if_pos c_70).symm)
            have hv := hv3 hq2
            rw [hve] at hv
            exact xqp_F (Q := fun v => Q (some v) G I3 _) (hQ I3 _ (rqf_tr hf hf3) (fun b g => by rw [xv_uj_ne g, xv_uj_ne g, xv_uj_ne g, xv_uj_ne g, xv_uj_ne g])) (fun ⟨t, h1, h2⟩ => by rw [e] at h1; cases h1; rw [h2] at hv; exact absurd (hv.symm.trans c_101) (by decide))
          · refine xv_iconst (v := 1) dX11_says_104 rfl ?_
            refine xv_goto (tgt := 109) dX11_says_105 rfl ?_
            refine xv_zret dX11_says_109 rfl rfl (Nat.zero_le _) (Nat.zero_le _) ?_
            have hve : vf (fun v => (xv_uj (xv_uj (xv_uj (xv_uj (xv_uj J 98 0 (J 40 38 / (I 81 i).toInt64)) 98 1 (J 40 38)) 98 2 (J 40 37)) 98 3 (x - I 82 i).toInt64) 98 4 (0)) 98 v) q = vf (mv_ (J 40 37) (J 40 38) (I 81 i) x (I 82 i) (I 83 i)) q := hvx _ _ q (fun k hk => by
              rcases (show k = 0 ∨ k = 1 ∨ k = 2 ∨ k = 3 ∨ k = 4 by omega) with rfl | rfl | rfl | rfl | rfl
              · rfl
              · rfl
              · rfl
              · rfl
              · exact (if_pos c_70).symm)
            have hv := hv3 hq2
            rw [hve] at hv
            exact xqp_T (Q := fun v => Q (some v) G I3 _) (hQ I3 _ (rqf_tr hf hf3) (fun b g => by rw [xv_uj_ne g, xv_uj_ne g, xv_uj_ne g, xv_uj_ne g, xv_uj_ne g])) ⟨q, e, by
              cases hb : vf (mv_ (J 40 37) (J 40 38) (I 81 i) x (I 82 i) (I 83 i)) q with
              | true => rfl
              | false => rw [hb] at hv; exact absurd hv c_101⟩
      · refine xv_lconst (v := 1) dX11_says_73 rfl ?_
        refine xv_goto (tgt := 78) dX11_says_74 rfl ?_
        refine xv_lastore dX11_says_78 (go_98 hG) (xv_ixn (by omega) (by decide)) ?_
        refine xv_iload_n dX11_says_79 rfl rfl ?_
        refine xv_ldc dX11_says_80 ld_X11_152 ?_
        refine xv_icmp_eq (tgt := 108) dX11_says_82 rfl (fun c_82 => absurd c_82 (nI_nNONE (by omega))) (fun c_82 => ?_)
        refine xv_aload_n dX11_says_85 rfl rfl ?_
        refine xv_iload_n dX11_says_86 rfl rfl ?_
        refine xv_callV0 (As := [_]) dX11_says_87 cl_X11_319 rfl rfl rfl rfl (go_40 hG) rfl rfl (Nat.le_of_ble_eq_true rfl) (Nat.le_of_ble_eq_true rfl) (Nat.zero_le _) (Nat.zero_le _) ?_
        refine s11_readT (d := d + 1) hG (I := I2) ((hf.2 39 (by decide) (by decide) (by decide)).trans hnt) ht4 (fun t k => by rw [hf.1 91 (by decide) (by decide) (by decide)]; exact hsf t k) (fun t k i hi => by rw [hf.1 92 (by decide) (by decide) (by decide)]; exact hbf t k i hi) hrd (t := q) (by omega) (fun I3 hf3 hv3 => ?_)
        · rw [hq2]
          show xv_Ev l D (d + 4) mX11_says none 90 [some (.ref 40), some (.int (nI i)), some (.int x), some (.int (nI q))] [.int (-900009)] G I3 _ 0 0 Q
          refine xv_ldc dX11_says_90 ld_X11_152 ?_
          refine xv_icmp_ne (tgt := 108) dX11_says_92 rfl (fun c_92 => absurd rfl c_92) (fun c_92 => ?_)
          refine xv_aload_n dX11_says_95 rfl rfl ?_
          refine xv_getr dX11_says_96 fl_X11_118 (go_40 hG) rfl (gr_40_47 hG) ?_
          refine xv_iconst (v := nI 0) dX11_says_99 rfl ?_
          refine xv_zaload dX11_says_100 (go_97 hG) (xv_ixn (by omega) (by decide)) ?_
          refine xv_if_eq (tgt := 108) dX11_says_101 rfl (fun c_101 => ?_) (fun c_101 => ?_)
          · refine xv_iconst (v := 0) dX11_says_108 rfl ?_
            refine xv_zret dX11_says_109 rfl rfl (Nat.zero_le _) (Nat.zero_le _) ?_
            have hve : vf (fun v => (xv_uj (xv_uj (xv_uj (xv_uj (xv_uj J 98 0 (J 40 38 / (I 81 i).toInt64)) 98 1 (J 40 38)) 98 2 (J 40 37)) 98 3 (x - I 82 i).toInt64) 98 4 (1)) 98 v) q = vf (mv_ (J 40 37) (J 40 38) (I 81 i) x (I 82 i) (I 83 i)) q := hvx _ _ q (fun k hk => by
              rcases (show k = 0 ∨ k = 1 ∨ k = 2 ∨ k = 3 ∨ k = 4 by omega) with rfl | rfl | rfl | rfl | rfl
              · rfl
              · rfl
              · rfl
              · rfl
              · exact (if_neg c_70).symm)
            have hv := hv3 hq2
            rw [hve] at hv
            exact xqp_F (Q := fun v => Q (some v) G I3 _) (hQ I3 _ (rqf_tr hf hf3) (fun b g => by rw [xv_uj_ne g, xv_uj_ne g, xv_uj_ne g, xv_uj_ne g, xv_uj_ne g])) (fun ⟨t, h1, h2⟩ => by rw [e] at h1; cases h1; rw [h2] at hv; exact absurd (hv.symm.trans c_101) (by decide))
          · refine xv_iconst (v := 1) dX11_says_104 rfl ?_
            refine xv_goto (tgt := 109) dX11_says_105 rfl ?_
            refine xv_zret dX11_says_109 rfl rfl (Nat.zero_le _) (Nat.zero_le _) ?_
            have hve : vf (fun v => (xv_uj (xv_uj (xv_uj (xv_uj (xv_uj J 98 0 (J 40 38 / (I 81 i).toInt64)) 98 1 (J 40 38)) 98 2 (J 40 37)) 98 3 (x - I 82 i).toInt64) 98 4 (1)) 98 v) q = vf (mv_ (J 40 37) (J 40 38) (I 81 i) x (I 82 i) (I 83 i)) q := hvx _ _ q (fun k hk => by
              rcases (show k = 0 ∨ k = 1 ∨ k = 2 ∨ k = 3 ∨ k = 4 by omega) with rfl | rfl | rfl | rfl | rfl
              · rfl
              · rfl
              · rfl
              · rfl
              · exact (if_neg c_70).symm)
            have hv := hv3 hq2
            rw [hve] at hv
            exact xqp_T (Q := fun v => Q (some v) G I3 _) (hQ I3 _ (rqf_tr hf hf3) (fun b g => by rw [xv_uj_ne g, xv_uj_ne g, xv_uj_ne g, xv_uj_ne g, xv_uj_ne g])) ⟨q, e, by
              cases hb : vf (mv_ (J 40 37) (J 40 38) (I 81 i) x (I 82 i) (I 83 i)) q with
              | true => rfl
              | false => rw [hb] at hv; exact absurd hv c_101⟩

theorem s11_mayTake {l : Launch} {D : va_G} {d : Nat} {G : xv_Gr} {I : xv_I} {J : xv_J} {Q : xv_Po} (hG : xg_ok G) {nt : Nat} (hnt : I 40 39 = nI nt) (ht4 : nt ≤ 4) {bf : Nat → Nat → Nat} {szf : Nat → Nat} (hsf : ∀ t, t < nt → I 91 t = nI (szf t) ∧ szf t ≤ 60) (hbf : ∀ t, t < nt → ∀ i, i < szf t → I 92 (60 * t + i) = nI (bf t i) ∧ bf t i < 256 ∧ bf t i ≠ 0) {rf : Nat → Option Nat} {vf : (Nat → Int64) → Nat → Bool} (hrd : rd_k nt bf szf rf vf) (hrz : ∀ t z, rf t = some z → z < 2 ^ 31) (hvx : vx_ vf) {nl : Nat} (hnl : I 40 29 = nI nl) (hl8 : nl ≤ 8) {mo : Nat} (hmo : I 40 28 = nI mo) (hm5 : mo ≤ 599) (hpt : ∀ i, i < nl → 0 < I 81 i) {i : Nat} (hi : i < nl) (hQ : ∀ I3 J3, rqf I I3 → (∀ b, b ≠ 98 → b ≠ 40 → J3 b = J b) → Q (some (.int (xbp (I 86 (600 * i + mo) = 1 ∧ sy_ I nt rf vf (J 84 (600 * i + mo)) (J 85 (600 * i + mo)) i (nI mo))))) G I3 J3) : xv_Ev l D (d + 5) mX11_mayTake none 0 [some (.ref 40), some (.int (nI i))] [] G I J 0 0 Q := by
  refine xv_aload_n dX11_mayTake_0 rfl rfl ?_
  refine xv_aload_n dX11_mayTake_1 rfl rfl ?_
  refine xv_getr dX11_mayTake_2 fl_X11_96 (go_40 hG) rfl (gr_40_34 hG) ?_
  refine xv_aload_n dX11_mayTake_5 rfl rfl ?_
  refine xv_iload_n dX11_mayTake_6 rfl rfl ?_
  refine xv_callV0 (As := [_]) dX11_mayTake_7 cl_X11_249 rfl rfl rfl rfl (go_40 hG) rfl rfl (Nat.le_of_ble_eq_true rfl) (Nat.le_of_ble_eq_true rfl) (Nat.zero_le _) (Nat.zero_le _) ?_
  refine s11_nowOf hG hmo (by omega) ?_
  refine xv_laload dX11_mayTake_10 (go_84 hG) (xv_ixn (by omega) (by decide)) ?_
  refine xv_putj dX11_mayTake_11 fl_X11_252 (go_40 hG) rfl ?_
  refine xv_aload_n dX11_mayTake_14 rfl rfl ?_
  refine xv_aload_n dX11_mayTake_15 rfl rfl ?_
  refine xv_getr dX11_mayTake_16 fl_X11_100 (go_40 hG) rfl (gr_40_35 hG) ?_
  refine xv_aload_n dX11_mayTake_19 rfl rfl ?_
  refine xv_iload_n dX11_mayTake_20 rfl rfl ?_
  refine xv_callV0 (As := [_]) dX11_mayTake_21 cl_X11_249 rfl rfl rfl rfl (go_40 hG) rfl rfl (Nat.le_of_ble_eq_true rfl) (Nat.le_of_ble_eq_true rfl) (Nat.zero_le _) (Nat.zero_le _) ?_
  refine s11_nowOf hG hmo (by omega) ?_
  refine xv_laload dX11_mayTake_24 (go_85 hG) (xv_ixn (by omega) (by decide)) ?_
  refine xv_nmJ (y := J 85 (600 * i + mo)) rfl ?_
  refine xv_putj dX11_mayTake_25 fl_X11_258 (go_40 hG) rfl ?_
  refine xv_aload_n dX11_mayTake_28 rfl rfl ?_
  refine xv_getr dX11_mayTake_29 fl_X11_103 (go_40 hG) rfl (gr_40_36 hG) ?_
  refine xv_aload_n dX11_mayTake_32 rfl rfl ?_
  refine xv_iload_n dX11_mayTake_33 rfl rfl ?_
  refine xv_callV0 (As := [_]) dX11_mayTake_34 cl_X11_249 rfl rfl rfl rfl (go_40 hG) rfl rfl (Nat.le_of_ble_eq_true rfl) (Nat.le_of_ble_eq_true rfl) (Nat.zero_le _) (Nat.zero_le _) ?_
  refine s11_nowOf hG hmo (by omega) ?_
  refine xv_iaload dX11_mayTake_37 (go_86 hG) (xv_ixn (by omega) (by decide)) ?_
  refine xv_iconst (v := 1) dX11_mayTake_38 rfl ?_
  refine xv_icmp_ne (tgt := 58) dX11_mayTake_39 rfl (fun c_39 => ?_) (fun c_39 => ?_)
  · refine xv_iconst (v := 0) dX11_mayTake_58 rfl ?_
    refine xv_zret dX11_mayTake_59 rfl rfl (Nat.zero_le _) (Nat.zero_le _) ?_
    exact xqp_F (Q := fun v => Q (some v) G I _) (hQ I _ (rqf_re I) (fun b h1 h2 => by rw [xv_uj_ne h2, xv_uj_ne h2])) (fun h => c_39 h.1)
  · refine xv_aload_n dX11_mayTake_42 rfl rfl ?_
    refine xv_iload_n dX11_mayTake_43 rfl rfl ?_
    refine xv_aload_n dX11_mayTake_44 rfl rfl ?_
    refine xv_geti dX11_mayTake_45 fl_X11_240 (go_40 hG) rfl ?_
    refine xv_nmI hmo ?_
    refine xv_callV0 (As := [_, _]) dX11_mayTake_48 cl_X11_325 rfl rfl rfl rfl (go_40 hG) rfl rfl (Nat.le_of_ble_eq_true rfl) (Nat.le_of_ble_eq_true rfl) (Nat.zero_le _) (Nat.zero_le _) ?_
    refine s11_says (d := d) hG (J := (xv_uj (xv_uj J 40 37 (J 84 (600 * i + mo))) 40 38 (J 85 (600 * i + mo)))) hnt ht4 hsf hbf hrd hrz (i := i) (by omega) (hpt i hi) (x := nI mo) hvx (fun I3 J3 hf hj => ?_)
    · have e1 : (xv_uj (xv_uj J 40 37 (J 84 (600 * i + mo))) 40 38 (J 85 (600 * i + mo))) 40 37 = J 84 (600 * i + mo) := (xv_uj_o (by decide)).trans xv_uj_s
      have e2 : (xv_uj (xv_uj J 40 37 (J 84 (600 * i + mo))) 40 38 (J 85 (600 * i + mo))) 40 38 = J 85 (600 * i + mo) := xv_uj_s
      rw [e1, e2]
      refine xv_if_eqP (tgt := 58) dX11_mayTake_51 rfl (fun c_51 => ?_) (fun c_51 => ?_)
      · refine xv_iconst (v := 0) dX11_mayTake_58 rfl ?_
        refine xv_zret dX11_mayTake_59 rfl rfl (Nat.zero_le _) (Nat.zero_le _) ?_
        exact xqp_F (Q := fun v => Q (some v) G I3 _) (hQ I3 _ hf (fun b h1 h2 => by rw [hj b h1, xv_uj_ne h2, xv_uj_ne h2])) (fun h => c_51 h.2)
      · refine xv_iconst (v := 1) dX11_mayTake_54 rfl ?_
        refine xv_goto (tgt := 59) dX11_mayTake_55 rfl ?_
        refine xv_zret dX11_mayTake_59 rfl rfl (Nat.zero_le _) (Nat.zero_le _) ?_
        exact xqp_T (Q := fun v => Q (some v) G I3 _) (hQ I3 _ hf (fun b h1 h2 => by rw [hj b h1, xv_uj_ne h2, xv_uj_ne h2])) ⟨c_39, c_51⟩

theorem s11_may {l : Launch} {D : va_G} {d : Nat} {G : xv_Gr} {I : xv_I} {J : xv_J} {Q : xv_Po} (hG : xg_ok G) {nt : Nat} (hnt : I 40 39 = nI nt) (ht4 : nt ≤ 4) {bf : Nat → Nat → Nat} {szf : Nat → Nat} (hsf : ∀ t, t < nt → I 91 t = nI (szf t) ∧ szf t ≤ 60) (hbf : ∀ t, t < nt → ∀ i, i < szf t → I 92 (60 * t + i) = nI (bf t i) ∧ bf t i < 256 ∧ bf t i ≠ 0) {rf : Nat → Option Nat} {vf : (Nat → Int64) → Nat → Bool} (hrd : rd_k nt bf szf rf vf) (hrz : ∀ t z, rf t = some z → z < 2 ^ 31) (hvx : vx_ vf) {nl : Nat} (hnl : I 40 29 = nI nl) (hl8 : nl ≤ 8) {mo : Nat} (hmo : I 40 28 = nI mo) (hm5 : mo ≤ 599) (hpt : ∀ i, i < nl → 0 < I 81 i) {x : Int32} (h1 : ¬ (0 ≤ x ∧ x < nI nl) → Q (some (.int (-900001))) G I J) (h2 : ∀ i, i < nl → x = nI i → ∀ I3 J3, rqf I I3 → (∀ b, b ≠ 98 → b ≠ 40 → J3 b = J b) → Q (some (.int (xbp (I 86 (600 * i + mo) = 1 ∧ sy_ I nt rf vf (J 84 (600 * i + mo)) (J 85 (600 * i + mo)) i (nI mo))))) G I3 J3) : xv_Ev l D (d + 6) mX11_may none 0 [some (.ref 40), some (.int x)] [] G I J 0 0 Q := by
  have hnl0 : (nI nl).toInt = (nl : Int) := nI_toInt (by omega)
  refine xv_aload_n dX11_may_0 rfl rfl ?_
  refine xv_iload_n dX11_may_1 rfl rfl ?_
  refine xv_callV0 (As := [_]) dX11_may_2 cl_X11_267 rfl rfl rfl rfl (go_40 hG) rfl rfl (Nat.le_of_ble_eq_true rfl) (Nat.le_of_ble_eq_true rfl) (Nat.zero_le _) (Nat.zero_le _) ?_
  refine s11_isLoan (d := d + 4) hG hnl hl8 ?_
  refine xv_if_neD (tgt := 13) dX11_may_5 rfl (fun c_5 => ?_) (fun c_5 => ?_)
  · obtain ⟨i, hi, rfl⟩ : ∃ j : Nat, j < nl ∧ x = nI j := xn_nat (n := nl) (by have h := c_5; simp only [xn_lt, xn_le, hnl0, Int32.reduceToInt] at h; omega) (by have h := c_5; simp only [xn_lt, xn_le, hnl0, Int32.reduceToInt] at h; omega) (by omega)
    refine xv_aload_n dX11_may_13 rfl rfl ?_
    refine xv_iload_n dX11_may_14 rfl rfl ?_
    refine xv_callV0 (As := [_]) dX11_may_15 cl_X11_328 rfl rfl rfl rfl (go_40 hG) rfl rfl (Nat.le_of_ble_eq_true rfl) (Nat.le_of_ble_eq_true rfl) (Nat.zero_le _) (Nat.zero_le _) ?_
    refine s11_mayTake (d := d) hG hnt ht4 hsf hbf hrd hrz hvx hnl hl8 hmo hm5 hpt hi (fun I3 J3 hf hj => ?_)
    · refine xv_if_eqP (tgt := 25) dX11_may_18 rfl (fun c_18 => ?_) (fun c_18 => ?_)
      · refine xv_iconst (v := 0) dX11_may_25 rfl ?_
        refine xv_iret dX11_may_26 rfl (Nat.zero_le _) (Nat.zero_le _) ?_
        exact xqp_F (Q := fun v => Q (some v) G I3 J3) (h2 i hi rfl I3 J3 hf hj) c_18
      · refine xv_iconst (v := 1) dX11_may_21 rfl ?_
        refine xv_goto (tgt := 26) dX11_may_22 rfl ?_
        refine xv_iret dX11_may_26 rfl (Nat.zero_le _) (Nat.zero_le _) ?_
        exact xqp_T (Q := fun v => Q (some v) G I3 J3) (h2 i hi rfl I3 J3 hf hj) c_18
  · refine xv_ldc dX11_may_8 ld_X11_143 ?_
    refine xv_goto (tgt := 26) dX11_may_10 rfl ?_
    refine xv_iret dX11_may_26 rfl (Nat.zero_le _) (Nat.zero_le _) ?_
    exact h1 c_5

theorem s11_takeBack {l : Launch} {D : va_G} {d : Nat} {G : xv_Gr} {I : xv_I} {J : xv_J} {Q : xv_Po} (hG : xg_ok G) {nt : Nat} (hnt : I 40 39 = nI nt) (ht4 : nt ≤ 4) {bf : Nat → Nat → Nat} {szf : Nat → Nat} (hsf : ∀ t, t < nt → I 91 t = nI (szf t) ∧ szf t ≤ 60) (hbf : ∀ t, t < nt → ∀ i, i < szf t → I 92 (60 * t + i) = nI (bf t i) ∧ bf t i < 256 ∧ bf t i ≠ 0) {rf : Nat → Option Nat} {vf : (Nat → Int64) → Nat → Bool} (hrd : rd_k nt bf szf rf vf) (hrz : ∀ t z, rf t = some z → z < 2 ^ 31) (hvx : vx_ vf) {nl : Nat} (hnl : I 40 29 = nI nl) (hl8 : nl ≤ 8) {mo : Nat} (hmo : I 40 28 = nI mo) (hm5 : mo ≤ 599) (hpt : ∀ i, i < nl → 0 < I 81 i) {x : Int32} (h1 : ¬ (0 ≤ x ∧ x < nI nl) → Q (some (.long (-900001))) G I J) (h2 : ∀ i, i < nl → x = nI i → ¬ (I 86 (600 * i + mo) = 1 ∧ sy_ I nt rf vf (J 84 (600 * i + mo)) (J 85 (600 * i + mo)) i (nI mo)) → ∀ I3 J3, rqf I I3 → (∀ b, b ≠ 98 → b ≠ 40 → J3 b = J b) → Q (some (.long (-900003))) G I3 J3) (h3 : ∀ i, i < nl → x = nI i → (I 86 (600 * i + mo) = 1 ∧ sy_ I nt rf vf (J 84 (600 * i + mo)) (J 85 (600 * i + mo)) i (nI mo)) → ∀ I3 J3, rqf I I3 → (∀ b, b ≠ 98 → b ≠ 40 → J3 b = J b) → Q (some (.long (J 84 (600 * i + mo)))) G (xv_ui I3 86 (600 * i + mo) 3) J3) : xv_Ev l D (d + 6) mX11_takeBack none 0 [some (.ref 40), some (.int x)] [] G I J 0 0 Q := by
  have hnl0 : (nI nl).toInt = (nl : Int) := nI_toInt (by omega)
  refine xv_aload_n dX11_takeBack_0 rfl rfl ?_
  refine xv_iload_n dX11_takeBack_1 rfl rfl ?_
  refine xv_callV0 (As := [_]) dX11_takeBack_2 cl_X11_267 rfl rfl rfl rfl (go_40 hG) rfl rfl (Nat.le_of_ble_eq_true rfl) (Nat.le_of_ble_eq_true rfl) (Nat.zero_le _) (Nat.zero_le _) ?_
  refine s11_isLoan (d := d + 4) hG hnl hl8 ?_
  refine xv_if_neD (tgt := 12) dX11_takeBack_5 rfl (fun c_5 => ?_) (fun c_5 => ?_)
  · obtain ⟨i, hi, rfl⟩ : ∃ j : Nat, j < nl ∧ x = nI j := xn_nat (n := nl) (by have h := c_5; simp only [xn_lt, xn_le, hnl0, Int32.reduceToInt] at h; omega) (by have h := c_5; simp only [xn_lt, xn_le, hnl0, Int32.reduceToInt] at h; omega) (by omega)
    refine xv_aload_n dX11_takeBack_12 rfl rfl ?_
    refine xv_iload_n dX11_takeBack_13 rfl rfl ?_
    refine xv_callV0 (As := [_]) dX11_takeBack_14 cl_X11_328 rfl rfl rfl rfl (go_40 hG) rfl rfl (Nat.le_of_ble_eq_true rfl) (Nat.le_of_ble_eq_true rfl) (Nat.zero_le _) (Nat.zero_le _) ?_
    refine s11_mayTake (d := d) hG hnt ht4 hsf hbf hrd hrz hvx hnl hl8 hmo hm5 hpt hi (fun I3 J3 hf hj => ?_)
    · refine xv_if_neP (tgt := 24) dX11_takeBack_17 rfl (fun c_17 => ?_) (fun c_17 => ?_)
      · refine xv_aload_n dX11_takeBack_24 rfl rfl ?_
        refine xv_getr dX11_takeBack_25 fl_X11_103 (go_40 hG) rfl (gr_40_36 hG) ?_
        refine xv_aload_n dX11_takeBack_28 rfl rfl ?_
        refine xv_iload_n dX11_takeBack_29 rfl rfl ?_
        refine xv_callV0 (As := [_]) dX11_takeBack_30 cl_X11_249 rfl rfl rfl rfl (go_40 hG) rfl rfl (Nat.le_of_ble_eq_true rfl) (Nat.le_of_ble_eq_true rfl) (Nat.zero_le _) (Nat.zero_le _) ?_
        refine s11_nowOf hG (I := I3) (mo := mo) ((hf.2 28 (by decide) (by decide) (by decide)).trans hmo) (by omega) ?_
        refine xv_iconst (v := 3) dX11_takeBack_33 rfl ?_
        refine xv_iastore dX11_takeBack_34 (go_86 hG) (xv_ixn (by omega) (by decide)) ?_
        refine xv_aload_n dX11_takeBack_35 rfl rfl ?_
        refine xv_getr dX11_takeBack_36 fl_X11_96 (go_40 hG) rfl (gr_40_34 hG) ?_
        refine xv_aload_n dX11_takeBack_39 rfl rfl ?_
        refine xv_iload_n dX11_takeBack_40 rfl rfl ?_
        refine xv_callV0 (As := [_]) dX11_takeBack_41 cl_X11_249 rfl rfl rfl rfl (go_40 hG) rfl rfl (Nat.le_of_ble_eq_true rfl) (Nat.le_of_ble_eq_true rfl) (Nat.zero_le _) (Nat.zero_le _) ?_
        refine s11_nowOf hG (I := xv_ui I3 86 (600 * i + mo) 3) (mo := mo) (show xv_ui I3 86 (600 * i + mo) 3 40 28 = nI mo from (congrFun (xv_ui_ne (by decide)) 28).trans ((hf.2 28 (by decide) (by decide) (by decide)).trans hmo)) (by omega) ?_
        refine xv_laload dX11_takeBack_44 (go_84 hG) (xv_ixn (by omega) (by decide)) ?_
        refine xv_nmJ (congrFun (hj 84 (by decide) (by decide)) _) ?_
        refine xv_lret dX11_takeBack_45 rfl (Nat.zero_le _) (Nat.zero_le _) ?_
        exact h3 i hi rfl c_17 I3 J3 hf hj
      · refine xv_ldc2 dX11_takeBack_20 ld_X11_331 ?_
        refine xv_lret dX11_takeBack_23 rfl (Nat.zero_le _) (Nat.zero_le _) ?_
        exact h2 i hi rfl c_17 I3 J3 hf hj
  · refine xv_ldc2 dX11_takeBack_8 ld_X11_270 ?_
    refine xv_lret dX11_takeBack_11 rfl (Nat.zero_le _) (Nat.zero_le _) ?_
    exact h1 c_5

def gm_D (ow du : Int64) (r p : Int32) : Nat → Int64
  | 0 => du
  | k + 1 => gm_d (gm_D ow du r p k) (go_o ow r (k + 1)) p
theorem s11_sn_l {l : Launch} {D : va_G} {d : Nat} {G : xv_Gr} {I : xv_I} {J : xv_J} {Q : xv_Po} (hG : xg_ok G) {nt : Nat} (hnt : I 40 39 = nI nt) (ht4 : nt ≤ 4) {bf : Nat → Nat → Nat} {szf : Nat → Nat} (hsf : ∀ t, t < nt → I 91 t = nI (szf t) ∧ szf t ≤ 60) (hbf : ∀ t, t < nt → ∀ i, i < szf t → I 92 (60 * t + i) = nI (bf t i) ∧ bf t i < 256 ∧ bf t i ≠ 0) {rf : Nat → Option Nat} {vf : (Nat → Int64) → Nat → Bool} (hrd : rd_k nt bf szf rf vf) (hrz : ∀ t z, rf t = some z → z < 2 ^ 31) (hvx : vx_ vf) {nl : Nat} (hnl : I 40 29 = nI nl) (hl8 : nl ≤ 8) {mo : Nat} (hmo : I 40 28 = nI mo) (hm5 : mo ≤ 599) (hpt : ∀ i, i < nl → 0 < I 81 i) {i : Nat} (hi : i < nl) : ∀ (n k : Nat) (I2 : xv_I) (J2 : xv_J), k + n = ((if 599 - mo < 120 then 599 - mo else 120) + 1) → rqf I I2 → (∀ b, b ≠ 98 → b ≠ 40 → J2 b = J b) → J2 40 37 = (go_o (J 84 (600 * i + mo)) (I 80 i) k) → J2 40 38 = (gm_D (J 84 (600 * i + mo)) (J 85 (600 * i + mo)) (I 80 i) (I 81 i) k) → (∀ I3 J3, rqf I I3 → (∀ b, b ≠ 98 → b ≠ 40 → J3 b = J b) → Q (some (.int (xfst (fun k => sy_ I nt rf vf (go_o (J 84 (600 * i + mo)) (I 80 i) k) (gm_D (J 84 (600 * i + mo)) (J 85 (600 * i + mo)) (I 80 i) (I 81 i) k) i (nI (mo + k))) (fun k => nI k) (-900009) n k))) G I3 J3) → xv_Ev l D (d + 5) mX11_soon none 58 [some (.ref 40), some (.int (nI i)), some (.int (nI k))] [] G I2 J2 0 0 Q := by
  intro n
  induction n with
  | zero =>
    intro k I2 J2 hk hf hj ho hd hQ
    have hc2 : (if 599 - mo < 120 then 599 - mo else 120) ≤ 120 := by split <;> omega
    refine xv_iload_n dX11_soon_58 rfl rfl ?_
    refine xv_bipush (v := nI 120) dX11_soon_59 rfl ?_
    refine xv_icmp_gtN (tgt := 103) dX11_soon_61 rfl (by omega) (by omega) (fun c_61 => ?_) (fun c_61 => ?_)
    · refine xv_ldc dX11_soon_103 ld_X11_152 ?_
      refine xv_iret dX11_soon_105 rfl (Nat.zero_le _) (Nat.zero_le _) ?_
      rw [xfst_0] at hQ
      exact hQ I2 J2 hf hj
    · refine xv_aload_n dX11_soon_64 rfl rfl ?_
      refine xv_geti dX11_soon_65 fl_X11_240 (go_40 hG) rfl ?_
      refine xv_nmI ((hf.2 28 (by decide) (by decide) (by decide)).trans hmo) ?_
      refine xv_iload_n dX11_soon_68 rfl rfl ?_
      refine xv_iadd dX11_soon_69 ?_
      refine xv_nmI (nI_add _ _) ?_
      refine xv_sipush (v := nI 599) dX11_soon_70 rfl ?_
      refine xv_icmp_gtN (tgt := 103) dX11_soon_73 rfl (by omega) (by omega) (fun c_73 => ?_) (fun c_73 => absurd c_73 (by split at hk <;> omega))
      refine xv_ldc dX11_soon_103 ld_X11_152 ?_
      refine xv_iret dX11_soon_105 rfl (Nat.zero_le _) (Nat.zero_le _) ?_
      rw [xfst_0] at hQ
      exact hQ I2 J2 hf hj
  | succ n ih =>
    intro k I2 J2 hk hf hj ho hd hQ
    have hc2 : (if 599 - mo < 120 then 599 - mo else 120) ≤ 120 := by split <;> omega
    refine xv_iload_n dX11_soon_58 rfl rfl ?_
    refine xv_bipush (v := nI 120) dX11_soon_59 rfl ?_
    refine xv_icmp_gtN (tgt := 103) dX11_soon_61 rfl (by omega) (by omega) (fun c_61 => absurd c_61 (by split at hk <;> omega)) (fun c_61 => ?_)
    refine xv_aload_n dX11_soon_64 rfl rfl ?_
    refine xv_geti dX11_soon_65 fl_X11_240 (go_40 hG) rfl ?_
    refine xv_nmI ((hf.2 28 (by decide) (by decide) (by decide)).trans hmo) ?_
    refine xv_iload_n dX11_soon_68 rfl rfl ?_
    refine xv_iadd dX11_soon_69 ?_
    refine xv_nmI (nI_add _ _) ?_
    refine xv_sipush (v := nI 599) dX11_soon_70 rfl ?_
    refine xv_icmp_gtN (tgt := 103) dX11_soon_73 rfl (by omega) (by omega) (fun c_73 => absurd c_73 (by split at hk <;> omega)) (fun c_73 => ?_)
    refine xv_aload_n dX11_soon_76 rfl rfl ?_
    refine xv_iload_n dX11_soon_77 rfl rfl ?_
    refine xv_aload_n dX11_soon_78 rfl rfl ?_
    refine xv_geti dX11_soon_79 fl_X11_240 (go_40 hG) rfl ?_
    refine xv_nmI ((hf.2 28 (by decide) (by decide) (by decide)).trans hmo) ?_
    refine xv_iload_n dX11_soon_82 rfl rfl ?_
    refine xv_iadd dX11_soon_83 ?_
    refine xv_nmI (nI_add _ _) ?_
    refine xv_callV0 (As := [_, _]) dX11_soon_84 cl_X11_325 rfl rfl rfl rfl (go_40 hG) rfl rfl (Nat.le_of_ble_eq_true rfl) (Nat.le_of_ble_eq_true rfl) (Nat.zero_le _) (Nat.zero_le _) ?_
    refine s11_says (d := d) hG (I := I2) (J := J2) ((hf.2 39 (by decide) (by decide) (by decide)).trans hnt) ht4 (fun t k => by rw [hf.1 91 (by decide) (by decide) (by decide)]; exact hsf t k) (fun t k i hi => by rw [hf.1 92 (by decide) (by decide) (by decide)]; exact hbf t k i hi) hrd hrz (i := i) (by omega) (by rw [hf.1 81 (by decide) (by decide) (by decide)]; exact hpt i hi) (x := nI (mo + k)) hvx (fun I3 J3 hf3 hj3 => ?_)
    · rw [ho, hd, xbp_iff (sy_fr hf)]
      refine xv_if_eqP (tgt := 92) dX11_soon_87 rfl (fun c_87 => ?_) (fun c_87 => ?_)
      · refine xv_aload_n dX11_soon_92 rfl rfl ?_
        refine xv_iload_n dX11_soon_93 rfl rfl ?_
        refine xv_callV0 (As := [_]) dX11_soon_94 cl_X11_263 rfl rfl rfl rfl (go_40 hG) rfl rfl (Nat.le_of_ble_eq_true rfl) (Nat.le_of_ble_eq_true rfl) (Nat.zero_le _) (Nat.zero_le _) ?_
        refine s11_goMonth hG (by omega) ?_
        refine xv_iinc dX11_soon_97 rfl (xv_inc _) (Nat.le_of_ble_eq_true rfl) rfl ?_
        refine xv_goto (tgt := 58) dX11_soon_100 rfl ?_
        rw [xfst_n (P := (fun k => sy_ I nt rf vf (go_o (J 84 (600 * i + mo)) (I 80 i) k) (gm_D (J 84 (600 * i + mo)) (J 85 (600 * i + mo)) (I 80 i) (I 81 i) k) i (nI (mo + k)))) c_87] at hQ
        have e80 : I3 80 i = I 80 i := congrFun ((hf3.1 80 (by decide) (by decide) (by decide)).trans (hf.1 80 (by decide) (by decide) (by decide))) i
        have e81 : I3 81 i = I 81 i := congrFun ((hf3.1 81 (by decide) (by decide) (by decide)).trans (hf.1 81 (by decide) (by decide) (by decide))) i
        have f37 : J3 40 37 = (go_o (J 84 (600 * i + mo)) (I 80 i) k) := (congrFun (hj3 40 (by decide)) 37).trans ho
        have f38 : J3 40 38 = (gm_D (J 84 (600 * i + mo)) (J 85 (600 * i + mo)) (I 80 i) (I 81 i) k) := (congrFun (hj3 40 (by decide)) 38).trans hd
        refine ih (k + 1) I3 _ (by omega) (rqf_tr hf hf3) (fun b h1 h2 => ?_) ?_ ?_ hQ
        · rw [xv_uj_ne h2, xv_uj_ne h2, hj3 b h1]; exact hj b h1 h2
        · rw [xv_uj_o (by decide), xv_uj_s, f37, e80]; rfl
        · rw [xv_uj_s, f37, f38, e80, e81]; rfl
      · refine xv_iload_n dX11_soon_90 rfl rfl ?_
        refine xv_iret dX11_soon_91 rfl (Nat.zero_le _) (Nat.zero_le _) ?_
        rw [xfst_y (P := (fun k => sy_ I nt rf vf (go_o (J 84 (600 * i + mo)) (I 80 i) k) (gm_D (J 84 (600 * i + mo)) (J 85 (600 * i + mo)) (I 80 i) (I 81 i) k) i (nI (mo + k)))) c_87] at hQ
        exact hQ I3 J3 (rqf_tr hf hf3) (fun b h1 h2 => (hj3 b h1).trans (hj b h1 h2))

theorem s11_soon {l : Launch} {D : va_G} {d : Nat} {G : xv_Gr} {I : xv_I} {J : xv_J} {Q : xv_Po} (hG : xg_ok G) {nt : Nat} (hnt : I 40 39 = nI nt) (ht4 : nt ≤ 4) {bf : Nat → Nat → Nat} {szf : Nat → Nat} (hsf : ∀ t, t < nt → I 91 t = nI (szf t) ∧ szf t ≤ 60) (hbf : ∀ t, t < nt → ∀ i, i < szf t → I 92 (60 * t + i) = nI (bf t i) ∧ bf t i < 256 ∧ bf t i ≠ 0) {rf : Nat → Option Nat} {vf : (Nat → Int64) → Nat → Bool} (hrd : rd_k nt bf szf rf vf) (hrz : ∀ t z, rf t = some z → z < 2 ^ 31) (hvx : vx_ vf) {nl : Nat} (hnl : I 40 29 = nI nl) (hl8 : nl ≤ 8) {mo : Nat} (hmo : I 40 28 = nI mo) (hm5 : mo ≤ 599) (hpt : ∀ i, i < nl → 0 < I 81 i) {x : Int32} (h1 : ¬ (0 ≤ x ∧ x < nI nl) → Q (some (.int (-900001))) G I J) (h2 : ∀ i, i < nl → x = nI i → ¬ I 86 (600 * i + mo) = 1 → Q (some (.int (-900003))) G I J) (h3 : ∀ i, i < nl → x = nI i → I 86 (600 * i + mo) = 1 → ∀ I3 J3, rqf I I3 → (∀ b, b ≠ 98 → b ≠ 40 → J3 b = J b) → Q (some (.int (xfst (fun k => sy_ I nt rf vf (go_o (J 84 (600 * i + mo)) (I 80 i) k) (gm_D (J 84 (600 * i + mo)) (J 85 (600 * i + mo)) (I 80 i) (I 81 i) k) i (nI (mo + k))) (fun k => nI k) (-900009) ((if 599 - mo < 120 then 599 - mo else 120) + 1) 0))) G I3 J3) : xv_Ev l D (d + 5) mX11_soon none 0 [some (.ref 40), some (.int x), none] [] G I J 0 0 Q := by
  have hnl0 : (nI nl).toInt = (nl : Int) := nI_toInt (by omega)
  refine xv_aload_n dX11_soon_0 rfl rfl ?_
  refine xv_iload_n dX11_soon_1 rfl rfl ?_
  refine xv_callV0 (As := [_]) dX11_soon_2 cl_X11_267 rfl rfl rfl rfl (go_40 hG) rfl rfl (Nat.le_of_ble_eq_true rfl) (Nat.le_of_ble_eq_true rfl) (Nat.zero_le _) (Nat.zero_le _) ?_
  refine s11_isLoan (d := d + 3) hG hnl hl8 ?_
  refine xv_if_neD (tgt := 11) dX11_soon_5 rfl (fun c_5 => ?_) (fun c_5 => ?_)
  · obtain ⟨i, hi, rfl⟩ : ∃ j : Nat, j < nl ∧ x = nI j := xn_nat (n := nl) (by have h := c_5; simp only [xn_lt, xn_le, hnl0, Int32.reduceToInt] at h; omega) (by have h := c_5; simp only [xn_lt, xn_le, hnl0, Int32.reduceToInt] at h; omega) (by omega)
    refine xv_aload_n dX11_soon_11 rfl rfl ?_
    refine xv_getr dX11_soon_12 fl_X11_103 (go_40 hG) rfl (gr_40_36 hG) ?_
    refine xv_aload_n dX11_soon_15 rfl rfl ?_
    refine xv_iload_n dX11_soon_16 rfl rfl ?_
    refine xv_callV0 (As := [_]) dX11_soon_17 cl_X11_249 rfl rfl rfl rfl (go_40 hG) rfl rfl (Nat.le_of_ble_eq_true rfl) (Nat.le_of_ble_eq_true rfl) (Nat.zero_le _) (Nat.zero_le _) ?_
    refine s11_nowOf hG hmo (by omega) ?_
    refine xv_iaload dX11_soon_20 (go_86 hG) (xv_ixn (by omega) (by decide)) ?_
    refine xv_iconst (v := 1) dX11_soon_21 rfl ?_
    refine xv_icmp_eq (tgt := 28) dX11_soon_22 rfl (fun c_22 => ?_) (fun c_22 => ?_)
    · refine xv_aload_n dX11_soon_28 rfl rfl ?_
      refine xv_aload_n dX11_soon_29 rfl rfl ?_
      refine xv_getr dX11_soon_30 fl_X11_96 (go_40 hG) rfl (gr_40_34 hG) ?_
      refine xv_aload_n dX11_soon_33 rfl rfl ?_
      refine xv_iload_n dX11_soon_34 rfl rfl ?_
      refine xv_callV0 (As := [_]) dX11_soon_35 cl_X11_249 rfl rfl rfl rfl (go_40 hG) rfl rfl (Nat.le_of_ble_eq_true rfl) (Nat.le_of_ble_eq_true rfl) (Nat.zero_le _) (Nat.zero_le _) ?_
      refine s11_nowOf hG hmo (by omega) ?_
      refine xv_laload dX11_soon_38 (go_84 hG) (xv_ixn (by omega) (by decide)) ?_
      refine xv_putj dX11_soon_39 fl_X11_252 (go_40 hG) rfl ?_
      refine xv_aload_n dX11_soon_42 rfl rfl ?_
      refine xv_aload_n dX11_soon_43 rfl rfl ?_
      refine xv_getr dX11_soon_44 fl_X11_100 (go_40 hG) rfl (gr_40_35 hG) ?_
      refine xv_aload_n dX11_soon_47 rfl rfl ?_
      refine xv_iload_n dX11_soon_48 rfl rfl ?_
      refine xv_callV0 (As := [_]) dX11_soon_49 cl_X11_249 rfl rfl rfl rfl (go_40 hG) rfl rfl (Nat.le_of_ble_eq_true rfl) (Nat.le_of_ble_eq_true rfl) (Nat.zero_le _) (Nat.zero_le _) ?_
      refine s11_nowOf hG hmo (by omega) ?_
      refine xv_laload dX11_soon_52 (go_85 hG) (xv_ixn (by omega) (by decide)) ?_
      refine xv_nmJ (y := J 85 (600 * i + mo)) rfl ?_
      refine xv_putj dX11_soon_53 fl_X11_258 (go_40 hG) rfl ?_
      refine xv_iconst (v := nI 0) dX11_soon_56 rfl ?_
      refine xv_istore_n dX11_soon_57 rfl (Nat.le_of_ble_eq_true rfl) rfl ?_
      exact s11_sn_l (d := d) hG hnt ht4 hsf hbf hrd hrz hvx hnl hl8 hmo hm5 hpt hi ((if 599 - mo < 120 then 599 - mo else 120) + 1) 0 I _ (by omega) (rqf_re I) (fun b h1 h2 => by rw [xv_uj_ne h2, xv_uj_ne h2]) ((xv_uj_o (by decide)).trans xv_uj_s) xv_uj_s (h3 i hi rfl c_22)
    · refine xv_ldc dX11_soon_25 ld_X11_144 ?_
      refine xv_iret dX11_soon_27 rfl (Nat.zero_le _) (Nat.zero_le _) ?_
      exact h2 i hi rfl c_22
  · refine xv_ldc dX11_soon_8 ld_X11_143 ?_
    refine xv_iret dX11_soon_10 rfl (Nat.zero_le _) (Nat.zero_le _) ?_
    exact h1 c_5
