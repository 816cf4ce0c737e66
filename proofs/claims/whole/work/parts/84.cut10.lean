/-! boards (model): completion -/
theorem Mn_un {P : Nat → Prop} {v w : Nat} (h : Mn P v) (g : Mn P w) : v = w := by
  have key : ∀ {v w : Nat}, Mn P v → Mn P w → v ≤ w := fun {v w} h g => by
    rcases g.1 with q | q
    · rw [q]; exact h.2.1
    · exact h.2.2 w q
  exact Nat.le_antisymm (key h g) (key g h)
noncomputable def mnv (P : Nat → Prop) : Nat := @dite _ (∃ v, Mn P v) (Classical.propDecidable _) (fun h => Classical.choose h) (fun _ => 0)
theorem mnv_eq {P : Nat → Prop} {v : Nat} (h : Mn P v) : mnv P = v := by
  have e : ∃ v, Mn P v := ⟨v, h⟩
  rw [mnv, dif_pos e]
  exact Mn_un (Classical.choose_spec e) h
noncomputable def cp (f mn gr : Nat → Nat) : Nat → Nat → Nat
  | 0, T => mn T
  | g + 1, T => mnv (Vm (fun x => f (gr g ||| x) + cp f mn gr g (xdf T x)) T)
def cp_w (I I2 : xv_I) (dst : Nat) (val : Nat → Int32) (r m : Nat) : Prop := (∀ b, b ≠ dst → I2 b = I b) ∧ ∀ T, sb_ T r → m < T → I2 dst T = val T
def cp_W (I I2 : xv_I) (dst : Nat) (val : Nat → Int32) (r : Nat) : Prop := (∀ b, b ≠ dst → I2 b = I b) ∧ ∀ T, sb_ T r → I2 dst T = val T
theorem cw_0 (I : xv_I) (dst : Nat) (val : Nat → Int32) (r : Nat) : cp_w I I dst val r r := ⟨fun _ _ => rfl, fun T h1 h2 => absurd (sb_le h1) (by omega)⟩
theorem cw_s {I I2 : xv_I} {dst : Nat} {val : Nat → Int32} {r m : Nat} {v : Int32} (h : cp_w I I2 dst val r m) (hm : sb_ m r) (h0 : 0 < m) (hv : v = val m) : cp_w I (xv_ui I2 dst m v) dst val r ((m - 1) &&& r) := by
  refine ⟨fun b g => ?_, fun T g1 g2 => ?_⟩
  · rw [xv_ui_ne g]; exact h.1 b g
  · by_cases e : T = m
    · subst e; rw [xv_ui_s]; exact hv
    · rw [xv_ui_o e]
      refine h.2 T g1 ?_
      rcases Nat.lt_or_ge m T with z | z
      · exact z
      · have := sm_next m r T hm h0 g1 (by omega)
        omega
theorem cw_e {I I2 : xv_I} {dst : Nat} {val : Nat → Int32} {r : Nat} {v : Int32} (h : cp_w I I2 dst val r 0) (hv : v = val 0) : cp_W I (xv_ui I2 dst 0 v) dst val r := by
  refine ⟨fun b g => ?_, fun T g1 => ?_⟩
  · rw [xv_ui_ne g]; exact h.1 b g
  · by_cases e : T = 0
    · subst e; rw [xv_ui_s]; exact hv
    · rw [xv_ui_o e]; exact h.2 T g1 (by omega)
theorem s11_cp_a {l : Launch} {D : va_G} {d : Nat} {G : xv_Gr} {I : xv_I} {J : xv_J} {Q : xv_Po} (hG : xg_ok G) {r : Nat} (hr : r < 4096) (kk : ∀ I2, cp_W I I2 68 (I 67) r → xv_Ev l D d mX11_completion none 35 [some (.ref 40), some (.int (nI r)), none, none, none, none, none] [] G I2 J 0 0 Q) : ∀ (m : Nat) (I2 : xv_I), sb_ m r → cp_w I I2 68 (I 67) r m → xv_Ev l D d mX11_completion none 2 [some (.ref 40), some (.int (nI r)), some (.int (nI m)), none, none, none, none] [] G I2 J 0 0 Q := by
  intro m
  induction m using Nat.strongRecOn with
  | ind m ih =>
    intro I2 hx hi
    have hm4 := sb_le hx
    rcases Nat.eq_zero_or_pos m with h0 | h0
    · subst h0
      refine xv_iload_n dX11_completion_2 rfl rfl ?_
      refine xv_if_lt (tgt := 35) dX11_completion_3 rfl (fun c_3 => absurd c_3 (nI_pos (by omega))) (fun c_3 => ?_)
      refine xv_aload_n dX11_completion_6 rfl rfl ?_
      refine xv_getr dX11_completion_7 fl_X11_60 (go_40 hG) rfl (gr_40_18 hG) ?_
      refine xv_iload_n dX11_completion_10 rfl rfl ?_
      refine xv_aload_n dX11_completion_11 rfl rfl ?_
      refine xv_getr dX11_completion_12 fl_X11_57 (go_40 hG) rfl (gr_40_17 hG) ?_
      refine xv_iload_n dX11_completion_15 rfl rfl ?_
      refine xv_iaload dX11_completion_16 (go_67 hG) (xv_ixn (by omega) (by decide)) ?_
      refine xv_iastore dX11_completion_17 (go_68 hG) (xv_ixn (by omega) (by decide)) ?_
      refine xv_iload_n dX11_completion_18 rfl rfl ?_
      refine xv_if_ne (tgt := 26) dX11_completion_19 rfl (fun c_19 => absurd rfl c_19) (fun c_19 => ?_)
      refine xv_iconst (v := -1) dX11_completion_22 rfl ?_
      refine xv_goto (tgt := 31) dX11_completion_23 rfl ?_
      refine xv_istore_n dX11_completion_31 rfl (Nat.le_of_ble_eq_true rfl) rfl ?_
      refine xv_goto (tgt := 2) dX11_completion_32 rfl ?_
      refine xv_iload_n dX11_completion_2 rfl rfl ?_
      refine xv_if_lt (tgt := 35) dX11_completion_3 rfl (fun c_3 => ?_) (fun c_3 => absurd (by decide) c_3)
      refine xv_fg [true, true, false, false, false, false, false] ?_
      exact kk _ (cw_e hi (congrFun (hi.1 67 (by decide)) _))
    · have hsm : ((m - 1) &&& r) < m := by have : (m - 1) &&& r ≤ m - 1 := Nat.and_le_left; omega
      refine xv_iload_n dX11_completion_2 rfl rfl ?_
      refine xv_if_lt (tgt := 35) dX11_completion_3 rfl (fun c_3 => absurd c_3 (nI_pos (by omega))) (fun c_3 => ?_)
      refine xv_aload_n dX11_completion_6 rfl rfl ?_
      refine xv_getr dX11_completion_7 fl_X11_60 (go_40 hG) rfl (gr_40_18 hG) ?_
      refine xv_iload_n dX11_completion_10 rfl rfl ?_
      refine xv_aload_n dX11_completion_11 rfl rfl ?_
      refine xv_getr dX11_completion_12 fl_X11_57 (go_40 hG) rfl (gr_40_17 hG) ?_
      refine xv_iload_n dX11_completion_15 rfl rfl ?_
      refine xv_iaload dX11_completion_16 (go_67 hG) (xv_ixn (by omega) (by decide)) ?_
      refine xv_iastore dX11_completion_17 (go_68 hG) (xv_ixn (by omega) (by decide)) ?_
      refine xv_iload_n dX11_completion_18 rfl rfl ?_
      refine xv_if_ne (tgt := 26) dX11_completion_19 rfl (fun c_19 => ?_) (fun c_19 => absurd c_19 (nI_ne0 h0 (by omega)))
      refine xv_iload_n dX11_completion_26 rfl rfl ?_
      refine xv_iconst (v := nI 1) dX11_completion_27 rfl ?_
      refine xv_isub dX11_completion_28 ?_
      refine xv_nmI (pk_sub (by omega)) ?_
      refine xv_iload_n dX11_completion_29 rfl rfl ?_
      refine xv_iand dX11_completion_30 ?_
      refine xv_nmI (xi_and _ _) ?_
      refine xv_istore_n dX11_completion_31 rfl (Nat.le_of_ble_eq_true rfl) rfl ?_
      refine xv_goto (tgt := 2) dX11_completion_32 rfl ?_
      exact ih ((m - 1) &&& r) hsm _ sb_and (cw_s hi hx h0 (congrFun (hi.1 67 (by decide)) _))

theorem s11_cp_c {l : Launch} {D : va_G} {d : Nat} {G : xv_Gr} {I : xv_I} {J : xv_J} {Q : xv_Po} (hG : xg_ok G) {r : Nat} (hr : r < 4096) {g : Int32} (kk : ∀ I2, cp_W I I2 68 (I 69) r → xv_Ev l D d mX11_completion none 187 [some (.ref 40), some (.int (nI r)), some (.int g), none, none, none, none] [] G I2 J 0 0 Q) : ∀ (m : Nat) (I2 : xv_I), sb_ m r → cp_w I I2 68 (I 69) r m → xv_Ev l D d mX11_completion none 154 [some (.ref 40), some (.int (nI r)), some (.int g), some (.int (nI m)), none, none, none] [] G I2 J 0 0 Q := by
  intro m
  induction m using Nat.strongRecOn with
  | ind m ih =>
    intro I2 hx hi
    have hm4 := sb_le hx
    rcases Nat.eq_zero_or_pos m with h0 | h0
    · subst h0
      refine xv_iload_n dX11_completion_154 rfl rfl ?_
      refine xv_if_lt (tgt := 187) dX11_completion_155 rfl (fun c_155 => absurd c_155 (nI_pos (by omega))) (fun c_155 => ?_)
      refine xv_aload_n dX11_completion_158 rfl rfl ?_
      refine xv_getr dX11_completion_159 fl_X11_60 (go_40 hG) rfl (gr_40_18 hG) ?_
      refine xv_iload_n dX11_completion_162 rfl rfl ?_
      refine xv_aload_n dX11_completion_163 rfl rfl ?_
      refine xv_getr dX11_completion_164 fl_X11_63 (go_40 hG) rfl (gr_40_19 hG) ?_
      refine xv_iload_n dX11_completion_167 rfl rfl ?_
      refine xv_iaload dX11_completion_168 (go_69 hG) (xv_ixn (by omega) (by decide)) ?_
      refine xv_iastore dX11_completion_169 (go_68 hG) (xv_ixn (by omega) (by decide)) ?_
      refine xv_iload_n dX11_completion_170 rfl rfl ?_
      refine xv_if_ne (tgt := 178) dX11_completion_171 rfl (fun c_171 => absurd rfl c_171) (fun c_171 => ?_)
      refine xv_iconst (v := -1) dX11_completion_174 rfl ?_
      refine xv_goto (tgt := 183) dX11_completion_175 rfl ?_
      refine xv_istore_n dX11_completion_183 rfl (Nat.le_of_ble_eq_true rfl) rfl ?_
      refine xv_goto (tgt := 154) dX11_completion_184 rfl ?_
      refine xv_iload_n dX11_completion_154 rfl rfl ?_
      refine xv_if_lt (tgt := 187) dX11_completion_155 rfl (fun c_155 => ?_) (fun c_155 => absurd (by decide) c_155)
      refine xv_fg [true, true, true, false, false, false, false] ?_
      exact kk _ (cw_e hi (congrFun (hi.1 69 (by decide)) _))
    · have hsm : ((m - 1) &&& r) < m := by have : (m - 1) &&& r ≤ m - 1 := Nat.and_le_left; omega
      refine xv_iload_n dX11_completion_154 rfl rfl ?_
      refine xv_if_lt (tgt := 187) dX11_completion_155 rfl (fun c_155 => absurd c_155 (nI_pos (by omega))) (fun c_155 => ?_)
      refine xv_aload_n dX11_completion_158 rfl rfl ?_
      refine xv_getr dX11_completion_159 fl_X11_60 (go_40 hG) rfl (gr_40_18 hG) ?_
      refine xv_iload_n dX11_completion_162 rfl rfl ?_
      refine xv_aload_n dX11_completion_163 rfl rfl ?_
      refine xv_getr dX11_completion_164 fl_X11_63 (go_40 hG) rfl (gr_40_19 hG) ?_
      refine xv_iload_n dX11_completion_167 rfl rfl ?_
      refine xv_iaload dX11_completion_168 (go_69 hG) (xv_ixn (by omega) (by decide)) ?_
      refine xv_iastore dX11_completion_169 (go_68 hG) (xv_ixn (by omega) (by decide)) ?_
      refine xv_iload_n dX11_completion_170 rfl rfl ?_
      refine xv_if_ne (tgt := 178) dX11_completion_171 rfl (fun c_171 => ?_) (fun c_171 => absurd c_171 (nI_ne0 h0 (by omega)))
      refine xv_iload_n dX11_completion_178 rfl rfl ?_
      refine xv_iconst (v := nI 1) dX11_completion_179 rfl ?_
      refine xv_isub dX11_completion_180 ?_
      refine xv_nmI (pk_sub (by omega)) ?_
      refine xv_iload_n dX11_completion_181 rfl rfl ?_
      refine xv_iand dX11_completion_182 ?_
      refine xv_nmI (xi_and _ _) ?_
      refine xv_istore_n dX11_completion_183 rfl (Nat.le_of_ble_eq_true rfl) rfl ?_
      refine xv_goto (tgt := 154) dX11_completion_184 rfl ?_
      exact ih ((m - 1) &&& r) hsm _ sb_and (cw_s hi hx h0 (congrFun (hi.1 69 (by decide)) _))

theorem s11_cp_i {l : Launch} {D : va_G} {d : Nat} {G : xv_Gr} {I : xv_I} {J : xv_J} {Q : xv_Po} (hG : xg_ok G) {f : Nat → Nat} {w : Nat → Nat} {r g G2 T : Nat} (hr : r < 4096) (hT : T < 4096) (hg : g < 12) (hgr : I 70 g = nI G2) (hG4 : ∀ x, sb_ x T → G2 ||| x < 4096 ∧ I 66 (G2 ||| x) = nI (f (G2 ||| x)) ∧ f (G2 ||| x) ≤ 100000000) (hw : ∀ x, sb_ x T → I 68 x = nI (w x) ∧ w x ≤ 100000000) (kk : ∀ b, Mn (Vm (fun x => f (G2 ||| x) + w (xdf T x)) T) b → xv_Ev l D d mX11_completion none 127 [some (.ref 40), some (.int (nI r)), some (.int (nI g)), some (.int (nI T)), some (.int (nI b)), none, none] [] G I J 0 0 Q) : ∀ (m b : Nat), sb_ m T → Mi (fun x => f (G2 ||| x) + w (xdf T x)) T m b → xv_Ev l D d mX11_completion none 58 [some (.ref 40), some (.int (nI r)), some (.int (nI g)), some (.int (nI T)), some (.int (nI b)), some (.int (nI m)), none] [] G I J 0 0 Q := by
  intro m
  induction m using Nat.strongRecOn with
  | ind m ih =>
    intro b hx hi
    have hm4 := sb_le hx
    have hF := hG4 m hx
    have hx5 := sb_le (xdf_sb T m)
    have hW := hw _ (xdf_sb T m)
    have hb8 := hi.2.1
    generalize hV : (fun x => f (G2 ||| x) + w (xdf T x)) m = vm
    have hv2 : vm = f (G2 ||| m) + w (xdf T m) := hV.symm
    have hv3 : vm ≤ 200000000 := by omega
    rcases Nat.eq_zero_or_pos m with h0 | h0
    · subst h0
      refine xv_iload dX11_completion_58 rfl ?_
      refine xv_if_lt (tgt := 127) dX11_completion_60 rfl (fun c_60 => absurd c_60 (nI_pos (by omega))) (fun c_60 => ?_)
      refine xv_aload_n dX11_completion_63 rfl rfl ?_
      refine xv_getr dX11_completion_64 fl_X11_54 (go_40 hG) rfl (gr_40_16 hG) ?_
      refine xv_aload_n dX11_completion_67 rfl rfl ?_
      refine xv_getr dX11_completion_68 fl_X11_66 (go_40 hG) rfl (gr_40_20 hG) ?_
      refine xv_iload_n dX11_completion_71 rfl rfl ?_
      refine xv_iaload dX11_completion_72 (go_70 hG) (xv_ixn (by omega) (by decide)) ?_
      refine xv_nmI hgr ?_
      refine xv_iload dX11_completion_73 rfl ?_
      refine xv_ior dX11_completion_75 ?_
      refine xv_nmI (xi_or _ _) ?_
      refine xv_iaload dX11_completion_76 (go_66 hG) (xv_ixn (by omega) (by decide)) ?_
      refine xv_nmI hF.2.1 ?_
      refine xv_aload_n dX11_completion_77 rfl rfl ?_
      refine xv_getr dX11_completion_78 fl_X11_60 (go_40 hG) rfl (gr_40_18 hG) ?_
      refine xv_iload_n dX11_completion_81 rfl rfl ?_
      refine xv_iload dX11_completion_82 rfl ?_
      refine xv_iconst (v := -1) dX11_completion_84 rfl ?_
      refine xv_ixor dX11_completion_85 ?_
      refine xv_iand dX11_completion_86 ?_
      refine xv_nmI (xi_andn _ _) ?_
      refine xv_iaload dX11_completion_87 (go_68 hG) (xv_ixn (by omega) (by decide)) ?_
      refine xv_nmI hW.1 ?_
      refine xv_iadd dX11_completion_88 ?_
      refine xv_nmI (nI_add _ _) ?_
      refine xv_nmI (congrArg nI hv2.symm) ?_
      refine xv_istore dX11_completion_89 (Nat.le_of_ble_eq_true rfl) rfl ?_
      refine xv_iload dX11_completion_91 rfl ?_
      refine xv_iload dX11_completion_93 rfl ?_
      refine xv_icmp_geN (tgt := 103) dX11_completion_95 rfl (by omega) (by omega) (fun c_95 => ?_) (fun c_95 => ?_)
      · refine xv_iload dX11_completion_103 rfl ?_
        refine xv_istore dX11_completion_105 (Nat.le_of_ble_eq_true rfl) rfl ?_
        refine xv_iload dX11_completion_107 rfl ?_
        refine xv_if_ne (tgt := 116) dX11_completion_109 rfl (fun c_109 => absurd rfl c_109) (fun c_109 => ?_)
        refine xv_iconst (v := -1) dX11_completion_112 rfl ?_
        refine xv_goto (tgt := 122) dX11_completion_113 rfl ?_
        refine xv_istore dX11_completion_122 (Nat.le_of_ble_eq_true rfl) rfl ?_
        refine xv_goto (tgt := 58) dX11_completion_124 rfl ?_
        refine xv_iload dX11_completion_58 rfl ?_
        refine xv_if_lt (tgt := 127) dX11_completion_60 rfl (fun c_60 => ?_) (fun c_60 => absurd (by decide) c_60)
        have eb : mi_ ((fun x => f (G2 ||| x) + w (xdf T x)) 0) b = b := by rw [hV]; exact if_neg (by omega)
        have h := kk _ (Mi_e hi)
        rw [eb] at h
        refine xv_fg [true, true, true, true, true, false, false] ?_
        exact h
      · refine xv_iload dX11_completion_98 rfl ?_
        refine xv_goto (tgt := 105) dX11_completion_100 rfl ?_
        refine xv_istore dX11_completion_105 (Nat.le_of_ble_eq_true rfl) rfl ?_
        refine xv_iload dX11_completion_107 rfl ?_
        refine xv_if_ne (tgt := 116) dX11_completion_109 rfl (fun c_109 => absurd rfl c_109) (fun c_109 => ?_)
        refine xv_iconst (v := -1) dX11_completion_112 rfl ?_
        refine xv_goto (tgt := 122) dX11_completion_113 rfl ?_
        refine xv_istore dX11_completion_122 (Nat.le_of_ble_eq_true rfl) rfl ?_
        refine xv_goto (tgt := 58) dX11_completion_124 rfl ?_
        refine xv_iload dX11_completion_58 rfl ?_
        refine xv_if_lt (tgt := 127) dX11_completion_60 rfl (fun c_60 => ?_) (fun c_60 => absurd (by decide) c_60)
        have eb : mi_ ((fun x => f (G2 ||| x) + w (xdf T x)) 0) b = vm := by rw [hV]; exact if_pos (by omega)
        have h := kk _ (Mi_e hi)
        rw [eb] at h
        refine xv_fg [true, true, true, true, true, false, false] ?_
        exact h
    · have hsm : ((m - 1) &&& T) < m := by have : (m - 1) &&& T ≤ m - 1 := Nat.and_le_left; omega
      refine xv_iload dX11_completion_58 rfl ?_
      refine xv_if_lt (tgt := 127) dX11_completion_60 rfl (fun c_60 => absurd c_60 (nI_pos (by omega))) (fun c_60 => ?_)
      refine xv_aload_n dX11_completion_63 rfl rfl ?_
      refine xv_getr dX11_completion_64 fl_X11_54 (go_40 hG) rfl (gr_40_16 hG) ?_
      refine xv_aload_n dX11_completion_67 rfl rfl ?_
      refine xv_getr dX11_completion_68 fl_X11_66 (go_40 hG) rfl (gr_40_20 hG) ?_
      refine xv_iload_n dX11_completion_71 rfl rfl ?_
      refine xv_iaload dX11_completion_72 (go_70 hG) (xv_ixn (by omega) (by decide)) ?_
      refine xv_nmI hgr ?_
      refine xv_iload dX11_completion_73 rfl ?_
      refine xv_ior dX11_completion_75 ?_
      refine xv_nmI (xi_or _ _) ?_
      refine xv_iaload dX11_completion_76 (go_66 hG) (xv_ixn (by omega) (by decide)) ?_
      refine xv_nmI hF.2.1 ?_
      refine xv_aload_n dX11_completion_77 rfl rfl ?_
      refine xv_getr dX11_completion_78 fl_X11_60 (go_40 hG) rfl (gr_40_18 hG) ?_
      refine xv_iload_n dX11_completion_81 rfl rfl ?_
      refine xv_iload dX11_completion_82 rfl ?_
      refine xv_iconst (v := -1) dX11_completion_84 rfl ?_
      refine xv_ixor dX11_completion_85 ?_
      refine xv_iand dX11_completion_86 ?_
      refine xv_nmI (xi_andn _ _) ?_
      refine xv_iaload dX11_completion_87 (go_68 hG) (xv_ixn (by omega) (by decide)) ?_
      refine xv_nmI hW.1 ?_
      refine xv_iadd dX11_completion_88 ?_
      refine xv_nmI (nI_add _ _) ?_
      refine xv_nmI (congrArg nI hv2.symm) ?_
      refine xv_istore dX11_completion_89 (Nat.le_of_ble_eq_true rfl) rfl ?_
      refine xv_iload dX11_completion_91 rfl ?_
      refine xv_iload dX11_completion_93 rfl ?_
      refine xv_icmp_geN (tgt := 103) dX11_completion_95 rfl (by omega) (by omega) (fun c_95 => ?_) (fun c_95 => ?_)
      · refine xv_iload dX11_completion_103 rfl ?_
        refine xv_istore dX11_completion_105 (Nat.le_of_ble_eq_true rfl) rfl ?_
        refine xv_iload dX11_completion_107 rfl ?_
        refine xv_if_ne (tgt := 116) dX11_completion_109 rfl (fun c_109 => ?_) (fun c_109 => absurd c_109 (nI_ne0 h0 (by omega)))
        refine xv_iload dX11_completion_116 rfl ?_
        refine xv_iconst (v := nI 1) dX11_completion_118 rfl ?_
        refine xv_isub dX11_completion_119 ?_
        refine xv_nmI (pk_sub (by omega)) ?_
        refine xv_iload_n dX11_completion_120 rfl rfl ?_
        refine xv_iand dX11_completion_121 ?_
        refine xv_nmI (xi_and _ _) ?_
        refine xv_istore dX11_completion_122 (Nat.le_of_ble_eq_true rfl) rfl ?_
        refine xv_goto (tgt := 58) dX11_completion_124 rfl ?_
        have eb : mi_ ((fun x => f (G2 ||| x) + w (xdf T x)) m) b = b := by rw [hV]; exact if_neg (by omega)
        have h := ih ((m - 1) &&& T) hsm (mi_ ((fun x => f (G2 ||| x) + w (xdf T x)) m) b) sb_and (Mi_s hi hx h0)
        rw [eb] at h
        refine xv_fg [true, true, true, true, true, true, false] ?_
        exact h
      · refine xv_iload dX11_completion_98 rfl ?_
        refine xv_goto (tgt := 105) dX11_completion_100 rfl ?_
        refine xv_istore dX11_completion_105 (Nat.le_of_ble_eq_true rfl) rfl ?_
        refine xv_iload dX11_completion_107 rfl ?_
        refine xv_if_ne (tgt := 116) dX11_completion_109 rfl (fun c_109 => ?_) (fun c_109 => absurd c_109 (nI_ne0 h0 (by omega)))
        refine xv_iload dX11_completion_116 rfl ?_
        refine xv_iconst (v := nI 1) dX11_completion_118 rfl ?_
        refine xv_isub dX11_completion_119 ?_
        refine xv_nmI (pk_sub (by omega)) ?_
        refine xv_iload_n dX11_completion_120 rfl rfl ?_
        refine xv_iand dX11_completion_121 ?_
        refine xv_nmI (xi_and _ _) ?_
        refine xv_istore dX11_completion_122 (Nat.le_of_ble_eq_true rfl) rfl ?_
        refine xv_goto (tgt := 58) dX11_completion_124 rfl ?_
        have eb : mi_ ((fun x => f (G2 ||| x) + w (xdf T x)) m) b = vm := by rw [hV]; exact if_pos (by omega)
        have h := ih ((m - 1) &&& T) hsm (mi_ ((fun x => f (G2 ||| x) + w (xdf T x)) m) b) sb_and (Mi_s hi hx h0)
        rw [eb] at h
        refine xv_fg [true, true, true, true, true, true, false] ?_
        exact h

theorem s11_cp_b {l : Launch} {D : va_G} {d : Nat} {G : xv_Gr} {I : xv_I} {J : xv_J} {Q : xv_Po} (hG : xg_ok G) {f mn gr : Nat → Nat} {np r g : Nat} (hnp : np ≤ 12) (hr : r < 2 ^ np) (hg : g < 12) (hgr : I 70 g = nI (gr g)) (hg2 : gr g < 2 ^ np) (hf : ∀ T, T < 2 ^ np → I 66 T = nI (f T) ∧ f T ≤ 100000000) (hw : ∀ T, sb_ T r → I 68 T = nI (cp f mn gr g T) ∧ cp f mn gr g T ≤ 100000000) (kk : ∀ I2, cp_W I I2 69 (fun T => nI (cp f mn gr (g + 1) T)) r → xv_Ev l D d mX11_completion none 152 [some (.ref 40), some (.int (nI r)), some (.int (nI g)), none, none, none, none] [] G I2 J 0 0 Q) : ∀ (m : Nat) (I2 : xv_I), sb_ m r → cp_w I I2 69 (fun T => nI (cp f mn gr (g + 1) T)) r m → xv_Ev l D d mX11_completion none 47 [some (.ref 40), some (.int (nI r)), some (.int (nI g)), some (.int (nI m)), none, none, none] [] G I2 J 0 0 Q := by
  have h2p : 2 ^ np ≤ 2 ^ 12 := Nat.pow_le_pow_right (by decide) hnp
  have h24 : (2 : Nat) ^ 12 = 4096 := by decide
  intro m
  induction m using Nat.strongRecOn with
  | ind m ih =>
    intro I2 hx hi
    have hm4 := sb_le hx
    rcases Nat.eq_zero_or_pos m with h0 | h0
    · subst h0
      refine xv_iload_n dX11_completion_47 rfl rfl ?_
      refine xv_if_lt (tgt := 152) dX11_completion_48 rfl (fun c_48 => absurd c_48 (nI_pos (by omega))) (fun c_48 => ?_)
      refine xv_ldc dX11_completion_51 ld_X11_189 ?_
      refine xv_nmI (show (100000000 : Int32) = nI 100000000 from rfl) ?_
      refine xv_istore dX11_completion_53 (Nat.le_of_ble_eq_true rfl) rfl ?_
      refine xv_iload_n dX11_completion_55 rfl rfl ?_
      refine xv_istore dX11_completion_56 (Nat.le_of_ble_eq_true rfl) rfl ?_
      refine s11_cp_i hG (I := I2) (f := f) (w := cp f mn gr g) (r := r) (g := g) (G2 := gr g) (T := 0) (by omega) (by omega) hg (by rw [hi.1 70 (by decide)]; exact hgr) (fun x k => ?_) (fun x k => ⟨by rw [hi.1 68 (by decide)]; exact (hw x (sb_tr k hx)).1, (hw x (sb_tr k hx)).2⟩) (fun b hb => ?_) 0 100000000 (fun _ h => h) (Mi_0 _ _)
      · have q : gr g ||| x < 2 ^ np := xor_lt hg2 (by have := sb_le k; omega)
        exact ⟨by omega, by rw [hi.1 66 (by decide)]; exact (hf _ q).1, (hf _ q).2⟩
      refine xv_aload_n dX11_completion_127 rfl rfl ?_
      refine xv_getr dX11_completion_128 fl_X11_63 (go_40 hG) rfl (gr_40_19 hG) ?_
      refine xv_iload_n dX11_completion_131 rfl rfl ?_
      refine xv_iload dX11_completion_132 rfl ?_
      refine xv_iastore dX11_completion_134 (go_69 hG) (xv_ixn (by omega) (by decide)) ?_
      refine xv_iload_n dX11_completion_135 rfl rfl ?_
      refine xv_if_ne (tgt := 143) dX11_completion_136 rfl (fun c_136 => absurd rfl c_136) (fun c_136 => ?_)
      refine xv_iconst (v := -1) dX11_completion_139 rfl ?_
      refine xv_goto (tgt := 148) dX11_completion_140 rfl ?_
      refine xv_istore_n dX11_completion_148 rfl (Nat.le_of_ble_eq_true rfl) rfl ?_
      refine xv_goto (tgt := 47) dX11_completion_149 rfl ?_
      refine xv_iload_n dX11_completion_47 rfl rfl ?_
      refine xv_if_lt (tgt := 152) dX11_completion_48 rfl (fun c_48 => ?_) (fun c_48 => absurd (by decide) c_48)
      refine xv_fg [true, true, true, false, false, false, false] ?_
      exact kk _ (cw_e hi (congrArg nI (mnv_eq hb).symm))
    · have hsm : ((m - 1) &&& r) < m := by have : (m - 1) &&& r ≤ m - 1 := Nat.and_le_left; omega
      refine xv_iload_n dX11_completion_47 rfl rfl ?_
      refine xv_if_lt (tgt := 152) dX11_completion_48 rfl (fun c_48 => absurd c_48 (nI_pos (by omega))) (fun c_48 => ?_)
      refine xv_ldc dX11_completion_51 ld_X11_189 ?_
      refine xv_nmI (show (100000000 : Int32) = nI 100000000 from rfl) ?_
      refine xv_istore dX11_completion_53 (Nat.le_of_ble_eq_true rfl) rfl ?_
      refine xv_iload_n dX11_completion_55 rfl rfl ?_
      refine xv_istore dX11_completion_56 (Nat.le_of_ble_eq_true rfl) rfl ?_
      refine s11_cp_i hG (I := I2) (f := f) (w := cp f mn gr g) (r := r) (g := g) (G2 := gr g) (T := m) (by omega) (by omega) hg (by rw [hi.1 70 (by decide)]; exact hgr) (fun x k => ?_) (fun x k => ⟨by rw [hi.1 68 (by decide)]; exact (hw x (sb_tr k hx)).1, (hw x (sb_tr k hx)).2⟩) (fun b hb => ?_) m 100000000 (fun _ h => h) (Mi_0 _ _)
      · have q : gr g ||| x < 2 ^ np := xor_lt hg2 (by have := sb_le k; omega)
        exact ⟨by omega, by rw [hi.1 66 (by decide)]; exact (hf _ q).1, (hf _ q).2⟩
      refine xv_aload_n dX11_completion_127 rfl rfl ?_
      refine xv_getr dX11_completion_128 fl_X11_63 (go_40 hG) rfl (gr_40_19 hG) ?_
      refine xv_iload_n dX11_completion_131 rfl rfl ?_
      refine xv_iload dX11_completion_132 rfl ?_
      refine xv_iastore dX11_completion_134 (go_69 hG) (xv_ixn (by omega) (by decide)) ?_
      refine xv_iload_n dX11_completion_135 rfl rfl ?_
      refine xv_if_ne (tgt := 143) dX11_completion_136 rfl (fun c_136 => ?_) (fun c_136 => absurd c_136 (nI_ne0 h0 (by omega)))
      refine xv_iload_n dX11_completion_143 rfl rfl ?_
      refine xv_iconst (v := nI 1) dX11_completion_144 rfl ?_
      refine xv_isub dX11_completion_145 ?_
      refine xv_nmI (pk_sub (by omega)) ?_
      refine xv_iload_n dX11_completion_146 rfl rfl ?_
      refine xv_iand dX11_completion_147 ?_
      refine xv_nmI (xi_and _ _) ?_
      refine xv_istore_n dX11_completion_148 rfl (Nat.le_of_ble_eq_true rfl) rfl ?_
      refine xv_goto (tgt := 47) dX11_completion_149 rfl ?_
      refine xv_fg [true, true, true, true, false, false, false] ?_
      exact ih ((m - 1) &&& r) hsm _ sb_and (cw_s hi hx h0 (congrArg nI (mnv_eq hb).symm))

def cg_ (I I2 : xv_I) (f mn gr : Nat → Nat) (r g : Nat) : Prop := (∀ b, b ≠ 68 → b ≠ 69 → I2 b = I b) ∧ ∀ T, sb_ T r → I2 68 T = nI (cp f mn gr g T)
theorem cp_b {f mn gr : Nat → Nat} {r : Nat} (hm : ∀ T, sb_ T r → mn T ≤ 100000000) : ∀ g T, sb_ T r → cp f mn gr g T ≤ 100000000
  | 0, T, h => hm T h
  | g + 1, T, h => by
    rw [cp, mnv]
    split
    · rename_i e
      exact (Classical.choose_spec e).2.1
    · exact Nat.zero_le _
theorem s11_cp_l {l : Launch} {D : va_G} {d : Nat} {G : xv_Gr} {I : xv_I} {J : xv_J} {Q : xv_Po} (hG : xg_ok G) {f mn gr : Nat → Nat} {np r k : Nat} (hnp : np ≤ 12) (hr : r < 2 ^ np) (hk : I 40 21 = nI k) (hk2 : k ≤ 12) (hgr : ∀ g, g < k → I 70 g = nI (gr g) ∧ gr g < 2 ^ np) (hf : ∀ T, T < 2 ^ np → I 66 T = nI (f T) ∧ f T ≤ 100000000) (hmn : ∀ T, T < 2 ^ np → I 67 T = nI (mn T) ∧ mn T ≤ 100000000) (hQ : ∀ I2, (∀ b, b ≠ 68 → b ≠ 69 → I2 b = I b) → Q (some (.int (nI (cp f mn gr k r)))) G I2 J) : ∀ (n g : Nat) (I2 : xv_I), g + n = k → cg_ I I2 f mn gr r g → xv_Ev l D d mX11_completion none 37 [some (.ref 40), some (.int (nI r)), some (.int (nI g)), none, none, none, none] [] G I2 J 0 0 Q := by
  intro n
  induction n with
  | zero =>
    intro g I2 hg hi
    have h2p : 2 ^ np ≤ 2 ^ 12 := Nat.pow_le_pow_right (by decide) hnp
    have h24 : (2 : Nat) ^ 12 = 4096 := by decide
    refine xv_iload_n dX11_completion_37 rfl rfl ?_
    refine xv_aload_n dX11_completion_38 rfl rfl ?_
    refine xv_geti dX11_completion_39 fl_X11_190 (go_40 hG) rfl ?_
    refine xv_nmI ((congrFun (hi.1 40 (by decide) (by decide)) 21).trans hk) ?_
    refine xv_icmp_geN (tgt := 193) dX11_completion_42 rfl (by omega) (by omega) (fun c_42 => ?_) (fun c_42 => absurd c_42 (by omega))
    refine xv_aload_n dX11_completion_193 rfl rfl ?_
    refine xv_getr dX11_completion_194 fl_X11_60 (go_40 hG) rfl (gr_40_18 hG) ?_
    refine xv_iload_n dX11_completion_197 rfl rfl ?_
    refine xv_iaload dX11_completion_198 (go_68 hG) (xv_ixn (by omega) (by decide)) ?_
    refine xv_iret dX11_completion_199 rfl (Nat.zero_le _) (Nat.zero_le _) ?_
    have e : g = k := by omega
    subst e
    rw [hi.2 r (fun _ h => h)]
    exact hQ I2 hi.1
  | succ n ih =>
    intro g I2 hg hi
    have h2p : 2 ^ np ≤ 2 ^ 12 := Nat.pow_le_pow_right (by decide) hnp
    have h24 : (2 : Nat) ^ 12 = 4096 := by decide
    refine xv_iload_n dX11_completion_37 rfl rfl ?_
    refine xv_aload_n dX11_completion_38 rfl rfl ?_
    refine xv_geti dX11_completion_39 fl_X11_190 (go_40 hG) rfl ?_
    refine xv_nmI ((congrFun (hi.1 40 (by decide) (by decide)) 21).trans hk) ?_
    refine xv_icmp_geN (tgt := 193) dX11_completion_42 rfl (by omega) (by omega) (fun c_42 => absurd c_42 (by omega)) (fun c_42 => ?_)
    refine xv_iload_n dX11_completion_45 rfl rfl ?_
    refine xv_istore_n dX11_completion_46 rfl (Nat.le_of_ble_eq_true rfl) rfl ?_
    have hb := cp_b (f := f) (gr := gr) (r := r) (fun T q => (hmn T (by have := sb_le q; omega)).2) g
    refine s11_cp_b hG (I := I2) (f := f) (mn := mn) (gr := gr) (np := np) (r := r) (g := g) hnp hr (by omega) (by rw [hi.1 70 (by decide) (by decide)]; exact (hgr g (by omega)).1) (hgr g (by omega)).2 (fun T q => by rw [hi.1 66 (by decide) (by decide)]; exact hf T q) (fun T q => ⟨hi.2 T q, hb T q⟩) (fun I3 hi3 => ?_) r I2 (fun _ h => h) (cw_0 _ _ _ _)
    refine xv_iload_n dX11_completion_152 rfl rfl ?_
    refine xv_istore_n dX11_completion_153 rfl (Nat.le_of_ble_eq_true rfl) rfl ?_
    refine s11_cp_c hG (I := I3) (r := r) (by omega) (g := nI g) (fun I4 hi4 => ?_) r I3 (fun _ h => h) (cw_0 _ _ _ _)
    refine xv_iinc dX11_completion_187 rfl (xv_inc _) (Nat.le_of_ble_eq_true rfl) rfl ?_
    refine xv_goto (tgt := 37) dX11_completion_190 rfl ?_
    refine ih (g + 1) I4 (by omega) ⟨fun b q1 q2 => ?_, fun T q => ?_⟩
    · rw [hi4.1 b q1, hi3.1 b q2]; exact hi.1 b q1 q2
    · rw [hi4.2 T q]; exact hi3.2 T q

theorem s11_completion {l : Launch} {D : va_G} {d : Nat} {G : xv_Gr} {I : xv_I} {J : xv_J} {Q : xv_Po} (hG : xg_ok G) {f mn gr : Nat → Nat} {np r k : Nat} (hnp : np ≤ 12) (hr : r < 2 ^ np) (hk : I 40 21 = nI k) (hk2 : k ≤ 12) (hgr : ∀ g, g < k → I 70 g = nI (gr g) ∧ gr g < 2 ^ np) (hf : ∀ T, T < 2 ^ np → I 66 T = nI (f T) ∧ f T ≤ 100000000) (hmn : ∀ T, T < 2 ^ np → I 67 T = nI (mn T) ∧ mn T ≤ 100000000) (hQ : ∀ I2, (∀ b, b ≠ 68 → b ≠ 69 → I2 b = I b) → Q (some (.int (nI (cp f mn gr k r)))) G I2 J) : xv_Ev l D d mX11_completion none 0 [some (.ref 40), some (.int (nI r)), none, none, none, none, none] [] G I J 0 0 Q := by
  have h2p : 2 ^ np ≤ 2 ^ 12 := Nat.pow_le_pow_right (by decide) hnp
  have h24 : (2 : Nat) ^ 12 = 4096 := by decide
  refine xv_iload_n dX11_completion_0 rfl rfl ?_
  refine xv_istore_n dX11_completion_1 rfl (Nat.le_of_ble_eq_true rfl) rfl ?_
  refine s11_cp_a hG (r := r) (by omega) (fun I2 hi => ?_) r I (fun _ h => h) (cw_0 _ _ _ _)
  refine xv_iconst (v := nI 0) dX11_completion_35 rfl ?_
  refine xv_istore_n dX11_completion_36 rfl (Nat.le_of_ble_eq_true rfl) rfl ?_
  exact s11_cp_l hG hnp hr hk hk2 hgr hf hmn hQ k 0 I2 (by omega) ⟨fun b q1 q2 => hi.1 b q1, fun T q => (hi.2 T q).trans (hmn T (by have := sb_le q; omega)).1⟩
