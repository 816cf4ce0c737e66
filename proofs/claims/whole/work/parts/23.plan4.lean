/-! plans: the model s loops -/
def pm_hld (I : xv_I) (k : Nat) : Prop := pl_end (I 52) (I 53) (I 57 k).toNatClampNeg (I 58 k) = pl_end (I 52) (I 53) (I 59 k).toNatClampNeg (I 60 k)
def pm_brk (I : xv_I) (n b : Int32) (k : Nat) : Prop := pm_hld I k ∧ ¬ pl_thn (I 52) (I 53) (I 57 k).toNatClampNeg (I 58 k) n b = pl_thn (I 52) (I 53) (I 59 k).toNatClampNeg (I 60 k) n b
def pm_fxa (I : xv_I) (n : Int32) (p : Nat) : Prop := ¬ I 55 p = 0 ∧ I 52 p < n ∧ n < I 52 p + I 53 p
def pm_fit (I : xv_I) (n b : Int32) (p : Nat) : Prop := pl_thn (I 52) (I 53) p 0 n b ≤ 400 ∧ pl_thn (I 52) (I 53) p 1 n b - pl_thn (I 52) (I 53) p 0 n b ≤ 200
def pm_may (I : xv_I) (i : Nat) (n b : Int32) : Prop := (I 40 0 < n ∨ I 40 0 + b ≤ 400) ∧ ∀ p, p < i → pm_fit I n b p
noncomputable def pm_w3 (I : xv_I) (np : Nat) (n b : Int32) : Int32 := @ite Int32 (pm_may I np n b) (Classical.propDecidable _) 0 300
noncomputable def pm_w2 (I : xv_I) (np nm : Nat) (n b : Int32) : Int32 := xfst (pm_brk I n b) (fun k => 200 + nI k) (pm_w3 I np n b) nm 0
noncomputable def pm_w1 (I : xv_I) (np nm : Nat) (n b : Int32) : Int32 := xfst (pm_fxa I n) (fun k => 100 + nI k) (pm_w2 I np nm n b) np 0
theorem s11_apart_l {l : Launch} {D : va_G} {d : Nat} {G : xv_Gr} {I : xv_I} {J : xv_J} {Q : xv_Po} (hG : xg_ok G) {nm : Nat} (hm : I 40 6 = nI nm) (hnm : nm ≤ 20) (hv : ∀ k, k < nm → vp_in (I 57 k) 12 ∧ vp_in (I 59 k) 12) : ∀ (n i : Nat), i + n = nm → Q (some (.int (xfst (fun k => ¬ pm_hld I k) (fun k => nI k) (-900009) n i))) G I J → xv_Ev l D (d + 1) mX11_apart none 2 [some (.ref 40), some (.int (nI i))] [] G I J 0 0 Q := by
  intro n
  induction n with
  | zero =>
    intro i hi hQ
    refine xv_iload_n dX11_apart_2 rfl rfl ?_
    refine xv_aload_n dX11_apart_3 rfl rfl ?_
    refine xv_geti dX11_apart_4 fl_X11_145 (go_40 hG) rfl ?_
    refine xv_nmI hm ?_
    refine xv_icmp_geN (tgt := 53) dX11_apart_7 rfl (by omega) (by omega) (fun c_7 => ?_) (fun c_7 => absurd c_7 (by omega))
    refine xv_ldc dX11_apart_53 ld_X11_152 ?_
    refine xv_iret dX11_apart_55 rfl (Nat.zero_le _) (Nat.zero_le _) ?_
    exact hQ
  | succ n ih =>
    intro i hi hQ
    refine xv_iload_n dX11_apart_2 rfl rfl ?_
    refine xv_aload_n dX11_apart_3 rfl rfl ?_
    refine xv_geti dX11_apart_4 fl_X11_145 (go_40 hG) rfl ?_
    refine xv_nmI hm ?_
    refine xv_icmp_geN (tgt := 53) dX11_apart_7 rfl (by omega) (by omega) (fun c_7 => absurd c_7 (by omega)) (fun c_7 => ?_)
    refine xv_aload_n dX11_apart_10 rfl rfl ?_
    refine xv_aload_n dX11_apart_11 rfl rfl ?_
    refine xv_getr dX11_apart_12 fl_X11_27 (go_40 hG) rfl (gr_40_7 hG) ?_
    refine xv_iload_n dX11_apart_15 rfl rfl ?_
    refine xv_iaload dX11_apart_16 (go_57 hG) (xv_ixn (by omega) (by decide)) ?_
    refine xv_aload_n dX11_apart_17 rfl rfl ?_
    refine xv_getr dX11_apart_18 fl_X11_30 (go_40 hG) rfl (gr_40_8 hG) ?_
    refine xv_iload_n dX11_apart_21 rfl rfl ?_
    refine xv_iaload dX11_apart_22 (go_58 hG) (xv_ixn (by omega) (by decide)) ?_
    refine xv_callV0 (As := [_, _]) dX11_apart_23 cl_X11_148 rfl rfl rfl rfl (go_40 hG) rfl rfl (Nat.le_of_ble_eq_true rfl) (Nat.le_of_ble_eq_true rfl) (Nat.zero_le _) (Nat.zero_le _) ?_
    refine s11_endOf hG (xv_ixv (hv i (by omega)).1) ?_
    refine xv_aload_n dX11_apart_26 rfl rfl ?_
    refine xv_aload_n dX11_apart_27 rfl rfl ?_
    refine xv_getr dX11_apart_28 fl_X11_33 (go_40 hG) rfl (gr_40_9 hG) ?_
    refine xv_iload_n dX11_apart_31 rfl rfl ?_
    refine xv_iaload dX11_apart_32 (go_59 hG) (xv_ixn (by omega) (by decide)) ?_
    refine xv_aload_n dX11_apart_33 rfl rfl ?_
    refine xv_getr dX11_apart_34 fl_X11_36 (go_40 hG) rfl (gr_40_10 hG) ?_
    refine xv_iload_n dX11_apart_37 rfl rfl ?_
    refine xv_iaload dX11_apart_38 (go_60 hG) (xv_ixn (by omega) (by decide)) ?_
    refine xv_callV0 (As := [_, _]) dX11_apart_39 cl_X11_148 rfl rfl rfl rfl (go_40 hG) rfl rfl (Nat.le_of_ble_eq_true rfl) (Nat.le_of_ble_eq_true rfl) (Nat.zero_le _) (Nat.zero_le _) ?_
    refine s11_endOf hG (xv_ixv (hv i (by omega)).2) ?_
    refine xv_icmp_eq (tgt := 47) dX11_apart_42 rfl (fun c_42 => ?_) (fun c_42 => ?_)
    · refine xv_iinc dX11_apart_47 rfl (xv_inc _) (Nat.le_of_ble_eq_true rfl) rfl ?_
      refine xv_goto (tgt := 2) dX11_apart_50 rfl ?_
      rw [xfst_n (P := fun k => ¬ pm_hld I k) (fun h => h c_42)] at hQ
      exact ih (i + 1) (by omega) hQ
    · refine xv_iload_n dX11_apart_45 rfl rfl ?_
      refine xv_iret dX11_apart_46 rfl (Nat.zero_le _) (Nat.zero_le _) ?_
      rw [xfst_y (P := fun k => ¬ pm_hld I k) c_42] at hQ
      exact hQ

theorem s11_apart {l : Launch} {D : va_G} {d : Nat} {G : xv_Gr} {I : xv_I} {J : xv_J} {Q : xv_Po} (hG : xg_ok G) {nm : Nat} (hm : I 40 6 = nI nm) (hnm : nm ≤ 20) (hv : ∀ k, k < nm → vp_in (I 57 k) 12 ∧ vp_in (I 59 k) 12) (hQ : Q (some (.int (xfst (fun k => ¬ pm_hld I k) (fun k => nI k) (-900009) nm 0))) G I J) : xv_Ev l D (d + 1) mX11_apart none 0 [some (.ref 40), none] [] G I J 0 0 Q := by
  refine xv_iconst (v := 0) dX11_apart_0 rfl ?_
  refine xv_istore_n dX11_apart_1 rfl (Nat.le_of_ble_eq_true rfl) rfl ?_
  exact s11_apart_l hG hm hnm hv nm 0 (by omega) hQ

theorem s11_why_3 {l : Launch} {D : va_G} {d : Nat} {G : xv_Gr} {I : xv_I} {J : xv_J} {Q : xv_Po} (hG : xg_ok G) {np : Nat} (hn : I 40 1 = nI np) (hnp : np ≤ 12) {nn b : Int32} (hQ : Q (some (.int (pm_w3 I np nn b))) G I J) : ∀ (n i : Nat), i + n = np → xv_Ev l D (d + 3) mX11_whyNot none 176 [some (.ref 40), some (.int nn), some (.int b), some (.int (xbp (pm_may I i nn b))), some (.int (nI i)), none] [] G I J 0 0 Q := by
  intro n
  induction n with
  | zero =>
    intro i hi
    refine xv_iload dX11_whyNot_176 rfl ?_
    refine xv_aload_n dX11_whyNot_178 rfl rfl ?_
    refine xv_geti dX11_whyNot_179 fl_X11_135 (go_40 hG) rfl ?_
    refine xv_nmI hn ?_
    refine xv_icmp_geN (tgt := 238) dX11_whyNot_182 rfl (by omega) (by omega) (fun c_182 => ?_) (fun c_182 => absurd c_182 (by omega))
    have e : np = i := by omega
    subst e
    refine xv_iload_n dX11_whyNot_238 rfl rfl ?_
    refine xv_if_eqP (tgt := 246) dX11_whyNot_239 rfl (fun c_239 => ?_) (fun c_239 => ?_)
    · refine xv_sipush (v := 300) dX11_whyNot_246 rfl ?_
      refine xv_iret dX11_whyNot_249 rfl (Nat.zero_le _) (Nat.zero_le _) ?_
      rw [pm_w3, if_neg c_239] at hQ
      exact hQ
    · refine xv_iconst (v := 0) dX11_whyNot_242 rfl ?_
      refine xv_goto (tgt := 249) dX11_whyNot_243 rfl ?_
      refine xv_iret dX11_whyNot_249 rfl (Nat.zero_le _) (Nat.zero_le _) ?_
      rw [pm_w3, if_pos c_239] at hQ
      exact hQ
  | succ n ih =>
    intro i hi
    refine xv_iload dX11_whyNot_176 rfl ?_
    refine xv_aload_n dX11_whyNot_178 rfl rfl ?_
    refine xv_geti dX11_whyNot_179 fl_X11_135 (go_40 hG) rfl ?_
    refine xv_nmI hn ?_
    refine xv_icmp_geN (tgt := 238) dX11_whyNot_182 rfl (by omega) (by omega) (fun c_182 => absurd c_182 (by omega)) (fun c_182 => ?_)
    refine xv_aload_n dX11_whyNot_185 rfl rfl ?_
    refine xv_iload dX11_whyNot_186 rfl ?_
    refine xv_iconst (v := 0) dX11_whyNot_188 rfl ?_
    refine xv_iload_n dX11_whyNot_189 rfl rfl ?_
    refine xv_iload_n dX11_whyNot_190 rfl rfl ?_
    refine xv_callV0 (As := [_, _, _, _]) dX11_whyNot_191 cl_X11_157 rfl rfl rfl rfl (go_40 hG) rfl rfl (Nat.le_of_ble_eq_true rfl) (Nat.le_of_ble_eq_true rfl) (Nat.zero_le _) (Nat.zero_le _) ?_
    refine s11_then hG (xv_ixn (by omega) (by decide)) ?_
    refine xv_istore dX11_whyNot_194 (Nat.le_of_ble_eq_true rfl) rfl ?_
    refine xv_iload_n dX11_whyNot_196 rfl rfl ?_
    refine xv_if_eqP (tgt := 230) dX11_whyNot_197 rfl (fun c_197 => ?_) (fun c_197 => ?_)
    · refine xv_iconst (v := 0) dX11_whyNot_230 rfl ?_
      refine xv_istore_n dX11_whyNot_231 rfl (Nat.le_of_ble_eq_true rfl) rfl ?_
      refine xv_iinc dX11_whyNot_232 rfl (xv_inc _) (Nat.le_of_ble_eq_true rfl) rfl ?_
      refine xv_goto (tgt := 176) dX11_whyNot_235 rfl ?_
      have hm2 : ¬ pm_may I (i + 1) nn b := fun h => c_197 ⟨h.1, fun p hp => h.2 p (by omega)⟩
      have ih2 := ih (i + 1) (by omega)
      rw [xbp_F hm2] at ih2
      exact xv_fg [true, true, true, true, true, false] ih2
    · refine xv_iload dX11_whyNot_200 rfl ?_
      refine xv_sipush (v := 400) dX11_whyNot_202 rfl ?_
      refine xv_icmp_gt (tgt := 230) dX11_whyNot_205 rfl (fun c_205 => ?_) (fun c_205 => ?_)
      · refine xv_iconst (v := 0) dX11_whyNot_230 rfl ?_
        refine xv_istore_n dX11_whyNot_231 rfl (Nat.le_of_ble_eq_true rfl) rfl ?_
        refine xv_iinc dX11_whyNot_232 rfl (xv_inc _) (Nat.le_of_ble_eq_true rfl) rfl ?_
        refine xv_goto (tgt := 176) dX11_whyNot_235 rfl ?_
        have hm2 : ¬ pm_may I (i + 1) nn b := fun h => absurd (h.2 i (by omega)).1 (by simp only [xn_lt, xn_le] at *; omega)
        have ih2 := ih (i + 1) (by omega)
        rw [xbp_F hm2] at ih2
        exact xv_fg [true, true, true, true, true, false] ih2
      · refine xv_aload_n dX11_whyNot_208 rfl rfl ?_
        refine xv_iload dX11_whyNot_209 rfl ?_
        refine xv_iconst (v := 1) dX11_whyNot_211 rfl ?_
        refine xv_iload_n dX11_whyNot_212 rfl rfl ?_
        refine xv_iload_n dX11_whyNot_213 rfl rfl ?_
        refine xv_callV0 (As := [_, _, _, _]) dX11_whyNot_214 cl_X11_157 rfl rfl rfl rfl (go_40 hG) rfl rfl (Nat.le_of_ble_eq_true rfl) (Nat.le_of_ble_eq_true rfl) (Nat.zero_le _) (Nat.zero_le _) ?_
        refine s11_then hG (xv_ixn (by omega) (by decide)) ?_
        refine xv_iload dX11_whyNot_217 rfl ?_
        refine xv_isub dX11_whyNot_219 ?_
        refine xv_sipush (v := 200) dX11_whyNot_220 rfl ?_
        refine xv_icmp_gt (tgt := 230) dX11_whyNot_223 rfl (fun c_223 => ?_) (fun c_223 => ?_)
        · refine xv_iconst (v := 0) dX11_whyNot_230 rfl ?_
          refine xv_istore_n dX11_whyNot_231 rfl (Nat.le_of_ble_eq_true rfl) rfl ?_
          refine xv_iinc dX11_whyNot_232 rfl (xv_inc _) (Nat.le_of_ble_eq_true rfl) rfl ?_
          refine xv_goto (tgt := 176) dX11_whyNot_235 rfl ?_
          have hm2 : ¬ pm_may I (i + 1) nn b := fun h => absurd (h.2 i (by omega)).2 (by simp only [xn_lt, xn_le] at *; omega)
          have ih2 := ih (i + 1) (by omega)
          rw [xbp_F hm2] at ih2
          exact xv_fg [true, true, true, true, true, false] ih2
        · refine xv_iconst (v := 1) dX11_whyNot_226 rfl ?_
          refine xv_goto (tgt := 231) dX11_whyNot_227 rfl ?_
          refine xv_istore_n dX11_whyNot_231 rfl (Nat.le_of_ble_eq_true rfl) rfl ?_
          refine xv_iinc dX11_whyNot_232 rfl (xv_inc _) (Nat.le_of_ble_eq_true rfl) rfl ?_
          refine xv_goto (tgt := 176) dX11_whyNot_235 rfl ?_
          have hm2 : pm_may I (i + 1) nn b := by
            refine ⟨c_197.1, fun p hp => ?_⟩
            rcases Nat.lt_or_ge p i with q | q
            · exact c_197.2 p q
            · have e : p = i := by omega
              subst e
              exact ⟨by simp only [xn_lt, xn_le] at *; omega, by simp only [xn_lt, xn_le] at *; omega⟩
          have ih2 := ih (i + 1) (by omega)
          rw [xbp_T hm2] at ih2
          exact xv_fg [true, true, true, true, true, false] ih2

theorem s11_why_2 {l : Launch} {D : va_G} {d : Nat} {G : xv_Gr} {I : xv_I} {J : xv_J} {Q : xv_Po} (hG : xg_ok G) {np : Nat} (hn : I 40 1 = nI np) (hnp : np ≤ 12) {nm : Nat} (hm : I 40 6 = nI nm) (hnm : nm ≤ 20) (hv : ∀ k, k < nm → vp_in (I 57 k) 12 ∧ vp_in (I 59 k) 12) {nn b : Int32} : ∀ (n i : Nat), i + n = nm → Q (some (.int (xfst (pm_brk I nn b) (fun k => 200 + nI k) (pm_w3 I np nn b) n i))) G I J → xv_Ev l D (d + 3) mX11_whyNot none 41 [some (.ref 40), some (.int nn), some (.int b), some (.int (nI i)), none, none] [] G I J 0 0 Q := by
  intro n
  induction n with
  | zero =>
    intro i hi hQ
    refine xv_iload_n dX11_whyNot_41 rfl rfl ?_
    refine xv_aload_n dX11_whyNot_42 rfl rfl ?_
    refine xv_geti dX11_whyNot_43 fl_X11_145 (go_40 hG) rfl ?_
    refine xv_nmI hm ?_
    refine xv_icmp_geN (tgt := 147) dX11_whyNot_46 rfl (by omega) (by omega) (fun c_46 => ?_) (fun c_46 => absurd c_46 (by omega))
    rw [xfst_0] at hQ
    refine xv_iload_n dX11_whyNot_147 rfl rfl ?_
    refine xv_aload_n dX11_whyNot_148 rfl rfl ?_
    refine xv_geti dX11_whyNot_149 fl_X11_7 (go_40 hG) rfl ?_
    refine xv_icmp_gt (tgt := 167) dX11_whyNot_152 rfl (fun c_152 => ?_) (fun c_152 => ?_)
    · refine xv_iconst (v := 1) dX11_whyNot_167 rfl ?_
      refine xv_goto (tgt := 172) dX11_whyNot_168 rfl ?_
      refine xv_istore_n dX11_whyNot_172 rfl (Nat.le_of_ble_eq_true rfl) rfl ?_
      refine xv_iconst (v := 0) dX11_whyNot_173 rfl ?_
      refine xv_istore dX11_whyNot_174 (Nat.le_of_ble_eq_true rfl) rfl ?_
      have hm2 : pm_may I 0 nn b := ⟨by simp only [xn_lt, xn_le] at *; omega, fun p hp => absurd hp (by omega)⟩
      have h3 := s11_why_3 (d := d) (l := l) (D := D) hG hn hnp hQ np 0 (by omega)
      rw [xbp_T hm2] at h3
      exact h3
    · refine xv_aload_n dX11_whyNot_155 rfl rfl ?_
      refine xv_geti dX11_whyNot_156 fl_X11_7 (go_40 hG) rfl ?_
      refine xv_iload_n dX11_whyNot_159 rfl rfl ?_
      refine xv_iadd dX11_whyNot_160 ?_
      refine xv_sipush (v := 400) dX11_whyNot_161 rfl ?_
      refine xv_icmp_gt (tgt := 171) dX11_whyNot_164 rfl (fun c_164 => ?_) (fun c_164 => ?_)
      · refine xv_iconst (v := 0) dX11_whyNot_171 rfl ?_
        refine xv_istore_n dX11_whyNot_172 rfl (Nat.le_of_ble_eq_true rfl) rfl ?_
        refine xv_iconst (v := 0) dX11_whyNot_173 rfl ?_
        refine xv_istore dX11_whyNot_174 (Nat.le_of_ble_eq_true rfl) rfl ?_
        have hm2 : ¬ pm_may I 0 nn b := fun h => absurd h.1 (by simp only [xn_lt, xn_le] at *; omega)
        have h3 := s11_why_3 (d := d) (l := l) (D := D) hG hn hnp hQ np 0 (by omega)
        rw [xbp_F hm2] at h3
        exact h3
      · refine xv_iconst (v := 1) dX11_whyNot_167 rfl ?_
        refine xv_goto (tgt := 172) dX11_whyNot_168 rfl ?_
        refine xv_istore_n dX11_whyNot_172 rfl (Nat.le_of_ble_eq_true rfl) rfl ?_
        refine xv_iconst (v := 0) dX11_whyNot_173 rfl ?_
        refine xv_istore dX11_whyNot_174 (Nat.le_of_ble_eq_true rfl) rfl ?_
        have hm2 : pm_may I 0 nn b := ⟨by simp only [xn_lt, xn_le] at *; omega, fun p hp => absurd hp (by omega)⟩
        have h3 := s11_why_3 (d := d) (l := l) (D := D) hG hn hnp hQ np 0 (by omega)
        rw [xbp_T hm2] at h3
        exact h3
  | succ n ih =>
    intro i hi hQ
    refine xv_iload_n dX11_whyNot_41 rfl rfl ?_
    refine xv_aload_n dX11_whyNot_42 rfl rfl ?_
    refine xv_geti dX11_whyNot_43 fl_X11_145 (go_40 hG) rfl ?_
    refine xv_nmI hm ?_
    refine xv_icmp_geN (tgt := 147) dX11_whyNot_46 rfl (by omega) (by omega) (fun c_46 => absurd c_46 (by omega)) (fun c_46 => ?_)
    refine xv_aload_n dX11_whyNot_49 rfl rfl ?_
    refine xv_aload_n dX11_whyNot_50 rfl rfl ?_
    refine xv_getr dX11_whyNot_51 fl_X11_27 (go_40 hG) rfl (gr_40_7 hG) ?_
    refine xv_iload_n dX11_whyNot_54 rfl rfl ?_
    refine xv_iaload dX11_whyNot_55 (go_57 hG) (xv_ixn (by omega) (by decide)) ?_
    refine xv_aload_n dX11_whyNot_56 rfl rfl ?_
    refine xv_getr dX11_whyNot_57 fl_X11_30 (go_40 hG) rfl (gr_40_8 hG) ?_
    refine xv_iload_n dX11_whyNot_60 rfl rfl ?_
    refine xv_iaload dX11_whyNot_61 (go_58 hG) (xv_ixn (by omega) (by decide)) ?_
    refine xv_callV0 (As := [_, _]) dX11_whyNot_62 cl_X11_148 rfl rfl rfl rfl (go_40 hG) rfl rfl (Nat.le_of_ble_eq_true rfl) (Nat.le_of_ble_eq_true rfl) (Nat.zero_le _) (Nat.zero_le _) ?_
    refine s11_endOf hG (xv_ixv (hv i (by omega)).1) ?_
    refine xv_aload_n dX11_whyNot_65 rfl rfl ?_
    refine xv_aload_n dX11_whyNot_66 rfl rfl ?_
    refine xv_getr dX11_whyNot_67 fl_X11_33 (go_40 hG) rfl (gr_40_9 hG) ?_
    refine xv_iload_n dX11_whyNot_70 rfl rfl ?_
    refine xv_iaload dX11_whyNot_71 (go_59 hG) (xv_ixn (by omega) (by decide)) ?_
    refine xv_aload_n dX11_whyNot_72 rfl rfl ?_
    refine xv_getr dX11_whyNot_73 fl_X11_36 (go_40 hG) rfl (gr_40_10 hG) ?_
    refine xv_iload_n dX11_whyNot_76 rfl rfl ?_
    refine xv_iaload dX11_whyNot_77 (go_60 hG) (xv_ixn (by omega) (by decide)) ?_
    refine xv_callV0 (As := [_, _]) dX11_whyNot_78 cl_X11_148 rfl rfl rfl rfl (go_40 hG) rfl rfl (Nat.le_of_ble_eq_true rfl) (Nat.le_of_ble_eq_true rfl) (Nat.zero_le _) (Nat.zero_le _) ?_
    refine s11_endOf hG (xv_ixv (hv i (by omega)).2) ?_
    refine xv_icmp_ne (tgt := 88) dX11_whyNot_81 rfl (fun c_81 => ?_) (fun c_81 => ?_)
    · refine xv_iconst (v := 0) dX11_whyNot_88 rfl ?_
      refine xv_istore dX11_whyNot_89 (Nat.le_of_ble_eq_true rfl) rfl ?_
      refine xv_iload dX11_whyNot_91 rfl ?_
      refine xv_if_eq (tgt := 141) dX11_whyNot_93 rfl (fun c_93 => ?_) (fun c_93 => absurd (by decide) c_93)
      refine xv_iinc dX11_whyNot_141 rfl (xv_inc _) (Nat.le_of_ble_eq_true rfl) rfl ?_
      refine xv_goto (tgt := 41) dX11_whyNot_144 rfl ?_
      rw [xfst_n (P := pm_brk I nn b) (fun h => c_81 h.1)] at hQ
      exact xv_fg [true, true, true, true, false, false] (ih (i + 1) (by omega) hQ)
    · refine xv_iconst (v := 1) dX11_whyNot_84 rfl ?_
      refine xv_goto (tgt := 89) dX11_whyNot_85 rfl ?_
      refine xv_istore dX11_whyNot_89 (Nat.le_of_ble_eq_true rfl) rfl ?_
      refine xv_iload dX11_whyNot_91 rfl ?_
      refine xv_if_eq (tgt := 141) dX11_whyNot_93 rfl (fun c_93 => absurd c_93 (by decide)) (fun c_93 => ?_)
      refine xv_aload_n dX11_whyNot_96 rfl rfl ?_
      refine xv_aload_n dX11_whyNot_97 rfl rfl ?_
      refine xv_getr dX11_whyNot_98 fl_X11_27 (go_40 hG) rfl (gr_40_7 hG) ?_
      refine xv_iload_n dX11_whyNot_101 rfl rfl ?_
      refine xv_iaload dX11_whyNot_102 (go_57 hG) (xv_ixn (by omega) (by decide)) ?_
      refine xv_aload_n dX11_whyNot_103 rfl rfl ?_
      refine xv_getr dX11_whyNot_104 fl_X11_30 (go_40 hG) rfl (gr_40_8 hG) ?_
      refine xv_iload_n dX11_whyNot_107 rfl rfl ?_
      refine xv_iaload dX11_whyNot_108 (go_58 hG) (xv_ixn (by omega) (by decide)) ?_
      refine xv_iload_n dX11_whyNot_109 rfl rfl ?_
      refine xv_iload_n dX11_whyNot_110 rfl rfl ?_
      refine xv_callV0 (As := [_, _, _, _]) dX11_whyNot_111 cl_X11_157 rfl rfl rfl rfl (go_40 hG) rfl rfl (Nat.le_of_ble_eq_true rfl) (Nat.le_of_ble_eq_true rfl) (Nat.zero_le _) (Nat.zero_le _) ?_
      refine s11_then hG (xv_ixv (hv i (by omega)).1) ?_
      refine xv_aload_n dX11_whyNot_114 rfl rfl ?_
      refine xv_aload_n dX11_whyNot_115 rfl rfl ?_
      refine xv_getr dX11_whyNot_116 fl_X11_33 (go_40 hG) rfl (gr_40_9 hG) ?_
      refine xv_iload_n dX11_whyNot_119 rfl rfl ?_
      refine xv_iaload dX11_whyNot_120 (go_59 hG) (xv_ixn (by omega) (by decide)) ?_
      refine xv_aload_n dX11_whyNot_121 rfl rfl ?_
      refine xv_getr dX11_whyNot_122 fl_X11_36 (go_40 hG) rfl (gr_40_10 hG) ?_
      refine xv_iload_n dX11_whyNot_125 rfl rfl ?_
      refine xv_iaload dX11_whyNot_126 (go_60 hG) (xv_ixn (by omega) (by decide)) ?_
      refine xv_iload_n dX11_whyNot_127 rfl rfl ?_
      refine xv_iload_n dX11_whyNot_128 rfl rfl ?_
      refine xv_callV0 (As := [_, _, _, _]) dX11_whyNot_129 cl_X11_157 rfl rfl rfl rfl (go_40 hG) rfl rfl (Nat.le_of_ble_eq_true rfl) (Nat.le_of_ble_eq_true rfl) (Nat.zero_le _) (Nat.zero_le _) ?_
      refine s11_then hG (xv_ixv (hv i (by omega)).2) ?_
      refine xv_icmp_eq (tgt := 141) dX11_whyNot_132 rfl (fun c_132 => ?_) (fun c_132 => ?_)
      · refine xv_iinc dX11_whyNot_141 rfl (xv_inc _) (Nat.le_of_ble_eq_true rfl) rfl ?_
        refine xv_goto (tgt := 41) dX11_whyNot_144 rfl ?_
        rw [xfst_n (P := pm_brk I nn b) (fun h => h.2 c_132)] at hQ
        exact xv_fg [true, true, true, true, false, false] (ih (i + 1) (by omega) hQ)
      · refine xv_sipush (v := 200) dX11_whyNot_135 rfl ?_
        refine xv_iload_n dX11_whyNot_138 rfl rfl ?_
        refine xv_iadd dX11_whyNot_139 ?_
        refine xv_iret dX11_whyNot_140 rfl (Nat.zero_le _) (Nat.zero_le _) ?_
        rw [xfst_y (P := pm_brk I nn b) ⟨c_81, c_132⟩] at hQ
        exact hQ

theorem s11_why_1 {l : Launch} {D : va_G} {d : Nat} {G : xv_Gr} {I : xv_I} {J : xv_J} {Q : xv_Po} (hG : xg_ok G) {np : Nat} (hn : I 40 1 = nI np) (hnp : np ≤ 12) {nm : Nat} (hm : I 40 6 = nI nm) (hnm : nm ≤ 20) (hv : ∀ k, k < nm → vp_in (I 57 k) 12 ∧ vp_in (I 59 k) 12) {nn b : Int32} : ∀ (n i : Nat), i + n = np → Q (some (.int (xfst (pm_fxa I nn) (fun k => 100 + nI k) (pm_w2 I np nm nn b) n i))) G I J → xv_Ev l D (d + 3) mX11_whyNot none 2 [some (.ref 40), some (.int nn), some (.int b), some (.int (nI i)), none, none] [] G I J 0 0 Q := by
  intro n
  induction n with
  | zero =>
    intro i hi hQ
    refine xv_iload_n dX11_whyNot_2 rfl rfl ?_
    refine xv_aload_n dX11_whyNot_3 rfl rfl ?_
    refine xv_geti dX11_whyNot_4 fl_X11_135 (go_40 hG) rfl ?_
    refine xv_nmI hn ?_
    refine xv_icmp_geN (tgt := 39) dX11_whyNot_7 rfl (by omega) (by omega) (fun c_7 => ?_) (fun c_7 => absurd c_7 (by omega))
    refine xv_iconst (v := 0) dX11_whyNot_39 rfl ?_
    refine xv_istore_n dX11_whyNot_40 rfl (Nat.le_of_ble_eq_true rfl) rfl ?_
    exact s11_why_2 hG hn hnp hm hnm hv nm 0 (by omega) hQ
  | succ n ih =>
    intro i hi hQ
    refine xv_iload_n dX11_whyNot_2 rfl rfl ?_
    refine xv_aload_n dX11_whyNot_3 rfl rfl ?_
    refine xv_geti dX11_whyNot_4 fl_X11_135 (go_40 hG) rfl ?_
    refine xv_nmI hn ?_
    refine xv_icmp_geN (tgt := 39) dX11_whyNot_7 rfl (by omega) (by omega) (fun c_7 => absurd c_7 (by omega)) (fun c_7 => ?_)
    refine xv_aload_n dX11_whyNot_10 rfl rfl ?_
    refine xv_iload_n dX11_whyNot_11 rfl rfl ?_
    refine xv_iload_n dX11_whyNot_12 rfl rfl ?_
    refine xv_callV0 (As := [_, _]) dX11_whyNot_13 cl_X11_153 rfl rfl rfl rfl (go_40 hG) rfl rfl (Nat.le_of_ble_eq_true rfl) (Nat.le_of_ble_eq_true rfl) (Nat.zero_le _) (Nat.zero_le _) ?_
    refine s11_isAcross hG (xv_ixn (by omega) (by decide)) ?_
    refine xv_if_eqD (tgt := 33) dX11_whyNot_16 rfl (fun c_16 => ?_) (fun c_16 => ?_)
    · refine xv_iinc dX11_whyNot_33 rfl (xv_inc _) (Nat.le_of_ble_eq_true rfl) rfl ?_
      refine xv_goto (tgt := 2) dX11_whyNot_36 rfl ?_
      rw [xfst_n (P := pm_fxa I nn) (fun h => c_16 h.2)] at hQ
      exact ih (i + 1) (by omega) hQ
    · refine xv_aload_n dX11_whyNot_19 rfl rfl ?_
      refine xv_getr dX11_whyNot_20 fl_X11_23 (go_40 hG) rfl (gr_40_5 hG) ?_
      refine xv_iload_n dX11_whyNot_23 rfl rfl ?_
      refine xv_zaload dX11_whyNot_24 (go_55 hG) (xv_ixn (by omega) (by decide)) ?_
      refine xv_if_eq (tgt := 33) dX11_whyNot_25 rfl (fun c_25 => ?_) (fun c_25 => ?_)
      · refine xv_iinc dX11_whyNot_33 rfl (xv_inc _) (Nat.le_of_ble_eq_true rfl) rfl ?_
        refine xv_goto (tgt := 2) dX11_whyNot_36 rfl ?_
        rw [xfst_n (P := pm_fxa I nn) (fun h => h.1 c_25)] at hQ
        exact ih (i + 1) (by omega) hQ
      · refine xv_bipush (v := 100) dX11_whyNot_28 rfl ?_
        refine xv_iload_n dX11_whyNot_30 rfl rfl ?_
        refine xv_iadd dX11_whyNot_31 ?_
        refine xv_iret dX11_whyNot_32 rfl (Nat.zero_le _) (Nat.zero_le _) ?_
        rw [xfst_y (P := pm_fxa I nn) ⟨c_25, c_16⟩] at hQ
        exact hQ

theorem s11_whyNot {l : Launch} {D : va_G} {d : Nat} {G : xv_Gr} {I : xv_I} {J : xv_J} {Q : xv_Po} (hG : xg_ok G) {np : Nat} (hn : I 40 1 = nI np) (hnp : np ≤ 12) {nm : Nat} (hm : I 40 6 = nI nm) (hnm : nm ≤ 20) (hv : ∀ k, k < nm → vp_in (I 57 k) 12 ∧ vp_in (I 59 k) 12) {nn b : Int32} (hQ : Q (some (.int (pm_w1 I np nm nn b))) G I J) : xv_Ev l D (d + 3) mX11_whyNot none 0 [some (.ref 40), some (.int nn), some (.int b), none, none, none] [] G I J 0 0 Q := by
  refine xv_iconst (v := 0) dX11_whyNot_0 rfl ?_
  refine xv_istore_n dX11_whyNot_1 rfl (Nat.le_of_ble_eq_true rfl) rfl ?_
  exact s11_why_1 hG hn hnp hm hnm hv np 0 (by omega) hQ

theorem s11_mayStretch {l : Launch} {D : va_G} {d : Nat} {G : xv_Gr} {I : xv_I} {J : xv_J} {Q : xv_Po} {v b : Int32} (hQ : Q (some (.int (xbp ((0 ≤ v ∧ v ≤ 400) ∧ (1 ≤ b ∧ b ≤ 100))))) G I J) : xv_Ev l D (d + 1) mX11_mayStretch none 0 [some (.int v), some (.int b)] [] G I J 0 0 Q := by
  refine xv_iload_n dX11_mayStretch_0 rfl rfl ?_
  refine xv_i2l dX11_mayStretch_1 ?_
  refine xv_lconst (v := 0) dX11_mayStretch_2 rfl ?_
  refine xv_ldc2 dX11_mayStretch_3 ld_X11_124 ?_
  refine xv_callS0 (As := [_, _, _]) dX11_mayStretch_6 cl_X11_126 rfl rfl rfl rfl (Nat.le_of_ble_eq_true rfl) (Nat.le_of_ble_eq_true rfl) (Nat.zero_le _) (Nat.zero_le _) ?_
  refine s11_in (a := 0) (b := 400) rfl rfl ?_
  refine xv_if_eqD (tgt := 28) dX11_mayStretch_9 rfl (fun c_9 => ?_) (fun c_9 => ?_)
  · refine xv_iconst (v := 0) dX11_mayStretch_28 rfl ?_
    refine xv_zret dX11_mayStretch_29 rfl rfl (Nat.zero_le _) (Nat.zero_le _) ?_
    exact xqp_F (Q := fun v => Q (some v) G I J) hQ (fun h => c_9 h.1)
  · refine xv_iload_n dX11_mayStretch_12 rfl rfl ?_
    refine xv_i2l dX11_mayStretch_13 ?_
    refine xv_lconst (v := 1) dX11_mayStretch_14 rfl ?_
    refine xv_ldc2 dX11_mayStretch_15 ld_X11_161 ?_
    refine xv_callS0 (As := [_, _, _]) dX11_mayStretch_18 cl_X11_126 rfl rfl rfl rfl (Nat.le_of_ble_eq_true rfl) (Nat.le_of_ble_eq_true rfl) (Nat.zero_le _) (Nat.zero_le _) ?_
    refine s11_in (a := 1) (b := 100) rfl rfl ?_
    refine xv_if_eqD (tgt := 28) dX11_mayStretch_21 rfl (fun c_21 => ?_) (fun c_21 => ?_)
    · refine xv_iconst (v := 0) dX11_mayStretch_28 rfl ?_
      refine xv_zret dX11_mayStretch_29 rfl rfl (Nat.zero_le _) (Nat.zero_le _) ?_
      exact xqp_F (Q := fun v => Q (some v) G I J) hQ (fun h => c_21 h.2)
    · refine xv_iconst (v := 1) dX11_mayStretch_24 rfl ?_
      refine xv_goto (tgt := 29) dX11_mayStretch_25 rfl ?_
      refine xv_zret dX11_mayStretch_29 rfl rfl (Nat.zero_le _) (Nat.zero_le _) ?_
      exact xqp_T (Q := fun v => Q (some v) G I J) hQ ⟨c_9, c_21⟩

def pm_trn (I : xv_I) (p : Nat) : Int32 := I 40 0 - (I 52 p + I 53 p)
theorem s11_mir_m {l : Launch} {D : va_G} {d : Nat} {G : xv_Gr} {I : xv_I} {J : xv_J} {Q : xv_Po} (hG : xg_ok G) {np : Nat} (hn : I 40 1 = nI np) (hnp : np ≤ 12) {nm : Nat} (hm : I 40 6 = nI nm) (hnm : nm ≤ 20) (hQ : Q (some (.int (nI (xcn (fun p => ¬ pm_trn I p = I 52 p) np)))) G (xfl (xfl (xfl I 52 (pm_trn I) np) 58 (fun k => 1 - I 58 k) nm) 60 (fun k => 1 - I 60 k) nm) J) : ∀ (n i : Nat), i + n = nm → xv_Ev l D d mX11_mirror none 89 [some (.ref 40), some (.int (nI (xcn (fun p => ¬ pm_trn I p = I 52 p) np))), some (.int (nI i)), none] [] G (xfl (xfl (xfl I 52 (pm_trn I) np) 58 (fun k => 1 - I 58 k) i) 60 (fun k => 1 - I 60 k) i) J 0 0 Q := by
  intro n
  induction n with
  | zero =>
    intro i hi
    refine xv_iload_n dX11_mirror_89 rfl rfl ?_
    refine xv_aload_n dX11_mirror_90 rfl rfl ?_
    refine xv_geti dX11_mirror_91 fl_X11_145 (go_40 hG) rfl ?_
    refine xv_nmI (show (xfl (xfl (xfl I 52 (pm_trn I) np) 58 (fun k => 1 - I 58 k) i) 60 (fun k => 1 - I 60 k) i) 40 6 = nI nm from hm) ?_
    refine xv_icmp_geN (tgt := 131) dX11_mirror_94 rfl (by omega) (by omega) (fun c_94 => ?_) (fun c_94 => absurd c_94 (by omega))
    refine xv_iload_n dX11_mirror_131 rfl rfl ?_
    refine xv_iret dX11_mirror_132 rfl (Nat.zero_le _) (Nat.zero_le _) ?_
    have e : nm = i := by omega
    subst e
    exact hQ
  | succ n ih =>
    intro i hi
    refine xv_iload_n dX11_mirror_89 rfl rfl ?_
    refine xv_aload_n dX11_mirror_90 rfl rfl ?_
    refine xv_geti dX11_mirror_91 fl_X11_145 (go_40 hG) rfl ?_
    refine xv_nmI (show (xfl (xfl (xfl I 52 (pm_trn I) np) 58 (fun k => 1 - I 58 k) i) 60 (fun k => 1 - I 60 k) i) 40 6 = nI nm from hm) ?_
    refine xv_icmp_geN (tgt := 131) dX11_mirror_94 rfl (by omega) (by omega) (fun c_94 => absurd c_94 (by omega)) (fun c_94 => ?_)
    refine xv_aload_n dX11_mirror_97 rfl rfl ?_
    refine xv_getr dX11_mirror_98 fl_X11_30 (go_40 hG) rfl (gr_40_8 hG) ?_
    refine xv_iload_n dX11_mirror_101 rfl rfl ?_
    refine xv_iconst (v := 1) dX11_mirror_102 rfl ?_
    refine xv_aload_n dX11_mirror_103 rfl rfl ?_
    refine xv_getr dX11_mirror_104 fl_X11_30 (go_40 hG) rfl (gr_40_8 hG) ?_
    refine xv_iload_n dX11_mirror_107 rfl rfl ?_
    refine xv_iaload dX11_mirror_108 (go_58 hG) (xv_ixn (by omega) (by decide)) ?_
    refine xv_isub dX11_mirror_109 ?_
    refine xv_iastore dX11_mirror_110 (go_58 hG) (xv_ixn (by omega) (by decide)) ?_
    refine xv_aload_n dX11_mirror_111 rfl rfl ?_
    refine xv_getr dX11_mirror_112 fl_X11_36 (go_40 hG) rfl (gr_40_10 hG) ?_
    refine xv_iload_n dX11_mirror_115 rfl rfl ?_
    refine xv_iconst (v := 1) dX11_mirror_116 rfl ?_
    refine xv_aload_n dX11_mirror_117 rfl rfl ?_
    refine xv_getr dX11_mirror_118 fl_X11_36 (go_40 hG) rfl (gr_40_10 hG) ?_
    refine xv_iload_n dX11_mirror_121 rfl rfl ?_
    refine xv_iaload dX11_mirror_122 (go_60 hG) (xv_ixn (by omega) (by decide)) ?_
    refine xv_isub dX11_mirror_123 ?_
    refine xv_iastore dX11_mirror_124 (go_60 hG) (xv_ixn (by omega) (by decide)) ?_
    refine xv_iinc dX11_mirror_125 rfl (xv_inc _) (Nat.le_of_ble_eq_true rfl) rfl ?_
    refine xv_goto (tgt := 89) dX11_mirror_128 rfl ?_
    refine xv_nmM (I2 := (xfl (xfl (xfl I 52 (pm_trn I) np) 58 (fun k => 1 - I 58 k) (i + 1)) 60 (fun k => 1 - I 60 k) (i + 1))) ?_ ?_
    · funext a k
      simp only [xv_ui_ap, xfl]
      grind
    · exact ih (i + 1) (by omega)

theorem s11_mir_l {l : Launch} {D : va_G} {d : Nat} {G : xv_Gr} {I : xv_I} {J : xv_J} {Q : xv_Po} (hG : xg_ok G) {np : Nat} (hn : I 40 1 = nI np) (hnp : np ≤ 12) {nm : Nat} (hm : I 40 6 = nI nm) (hnm : nm ≤ 20) (hQ : Q (some (.int (nI (xcn (fun p => ¬ pm_trn I p = I 52 p) np)))) G (xfl (xfl (xfl I 52 (pm_trn I) np) 58 (fun k => 1 - I 58 k) nm) 60 (fun k => 1 - I 60 k) nm) J) : ∀ (n i : Nat), i + n = np → xv_Ev l D (d + 1) mX11_mirror none 36 [some (.ref 40), some (.int (nI (xcn (fun p => ¬ pm_trn I p = I 52 p) i))), some (.int (nI i)), none] [] G (xfl I 52 (pm_trn I) i) J 0 0 Q := by
  intro n
  induction n with
  | zero =>
    intro i hi
    refine xv_iload_n dX11_mirror_36 rfl rfl ?_
    refine xv_aload_n dX11_mirror_37 rfl rfl ?_
    refine xv_geti dX11_mirror_38 fl_X11_135 (go_40 hG) rfl ?_
    refine xv_nmI (show (xfl I 52 (pm_trn I) i) 40 1 = nI np from hn) ?_
    refine xv_icmp_geN (tgt := 87) dX11_mirror_41 rfl (by omega) (by omega) (fun c_41 => ?_) (fun c_41 => absurd c_41 (by omega))
    refine xv_iconst (v := 0) dX11_mirror_87 rfl ?_
    refine xv_istore_n dX11_mirror_88 rfl (Nat.le_of_ble_eq_true rfl) rfl ?_
    have e : np = i := by omega
    subst e
    refine xv_nmM (I2 := (xfl (xfl (xfl I 52 (pm_trn I) np) 58 (fun k => 1 - I 58 k) 0) 60 (fun k => 1 - I 60 k) 0)) ?_ ?_
    · rw [xfl_0, xfl_0]
    · exact s11_mir_m hG hn hnp hm hnm hQ nm 0 (by omega)
  | succ n ih =>
    intro i hi
    refine xv_iload_n dX11_mirror_36 rfl rfl ?_
    refine xv_aload_n dX11_mirror_37 rfl rfl ?_
    refine xv_geti dX11_mirror_38 fl_X11_135 (go_40 hG) rfl ?_
    refine xv_nmI (show (xfl I 52 (pm_trn I) i) 40 1 = nI np from hn) ?_
    refine xv_icmp_geN (tgt := 87) dX11_mirror_41 rfl (by omega) (by omega) (fun c_41 => absurd c_41 (by omega)) (fun c_41 => ?_)
    refine xv_aload_n dX11_mirror_44 rfl rfl ?_
    refine xv_geti dX11_mirror_45 fl_X11_7 (go_40 hG) rfl ?_
    refine xv_aload_n dX11_mirror_48 rfl rfl ?_
    refine xv_iload_n dX11_mirror_49 rfl rfl ?_
    refine xv_iconst (v := 1) dX11_mirror_50 rfl ?_
    refine xv_callV0 (As := [_, _]) dX11_mirror_51 cl_X11_148 rfl rfl rfl rfl (go_40 hG) rfl rfl (Nat.le_of_ble_eq_true rfl) (Nat.le_of_ble_eq_true rfl) (Nat.zero_le _) (Nat.zero_le _) ?_
    refine s11_endOf hG (xv_ixn (by omega) (by decide)) ?_
    refine xv_isub dX11_mirror_54 ?_
    refine xv_istore_n dX11_mirror_55 rfl (Nat.le_of_ble_eq_true rfl) rfl ?_
    refine xv_iload_n dX11_mirror_56 rfl rfl ?_
    refine xv_iload_n dX11_mirror_57 rfl rfl ?_
    refine xv_aload_n dX11_mirror_58 rfl rfl ?_
    refine xv_getr dX11_mirror_59 fl_X11_13 (go_40 hG) rfl (gr_40_2 hG) ?_
    refine xv_iload_n dX11_mirror_62 rfl rfl ?_
    refine xv_iaload dX11_mirror_63 (go_52 hG) (xv_ixn (by omega) (by decide)) ?_
    refine xv_icmp_eq (tgt := 71) dX11_mirror_64 rfl (fun c_64 => ?_) (fun c_64 => ?_)
    · refine xv_iconst (v := 0) dX11_mirror_71 rfl ?_
      refine xv_iadd dX11_mirror_72 ?_
      refine xv_istore_n dX11_mirror_73 rfl (Nat.le_of_ble_eq_true rfl) rfl ?_
      refine xv_aload_n dX11_mirror_74 rfl rfl ?_
      refine xv_getr dX11_mirror_75 fl_X11_13 (go_40 hG) rfl (gr_40_2 hG) ?_
      refine xv_iload_n dX11_mirror_78 rfl rfl ?_
      refine xv_iload_n dX11_mirror_79 rfl rfl ?_
      refine xv_iastore dX11_mirror_80 (go_52 hG) (xv_ixn (by omega) (by decide)) ?_
      refine xv_iinc dX11_mirror_81 rfl (xv_inc _) (Nat.le_of_ble_eq_true rfl) rfl ?_
      refine xv_goto (tgt := 36) dX11_mirror_84 rfl ?_
      have e : (xfl I 52 (pm_trn I) i) 40 0 - pl_end ((xfl I 52 (pm_trn I) i) 52) ((xfl I 52 (pm_trn I) i) 53) i 1 = pm_trn I i := by
        rw [pl_end1]
        show I 40 0 - ((xfl I 52 (pm_trn I) i) 52 i + I 53 i) = _
        rw [xfl_ge (Nat.le_refl i)]
        rfl
      have hc := c_64
      rw [e, xfl_ge (Nat.le_refl i)] at hc
      refine xv_nmM (I2 := (xfl I 52 (pm_trn I) (i + 1))) (xfl_put e) ?_
      have ih2 := ih (i + 1) (by omega)
      rw [xcn_n (P := fun p => ¬ pm_trn I p = I 52 p) (n := i) (by simpa using hc)] at ih2
      refine xv_fg [true, true, true, false] ?_
      rw [← Int32.add_zero (nI (xcn (fun p => ¬ pm_trn I p = I 52 p) i))] at ih2
      exact ih2
    · refine xv_iconst (v := 1) dX11_mirror_67 rfl ?_
      refine xv_goto (tgt := 72) dX11_mirror_68 rfl ?_
      refine xv_iadd dX11_mirror_72 ?_
      refine xv_istore_n dX11_mirror_73 rfl (Nat.le_of_ble_eq_true rfl) rfl ?_
      refine xv_aload_n dX11_mirror_74 rfl rfl ?_
      refine xv_getr dX11_mirror_75 fl_X11_13 (go_40 hG) rfl (gr_40_2 hG) ?_
      refine xv_iload_n dX11_mirror_78 rfl rfl ?_
      refine xv_iload_n dX11_mirror_79 rfl rfl ?_
      refine xv_iastore dX11_mirror_80 (go_52 hG) (xv_ixn (by omega) (by decide)) ?_
      refine xv_iinc dX11_mirror_81 rfl (xv_inc _) (Nat.le_of_ble_eq_true rfl) rfl ?_
      refine xv_goto (tgt := 36) dX11_mirror_84 rfl ?_
      have e : (xfl I 52 (pm_trn I) i) 40 0 - pl_end ((xfl I 52 (pm_trn I) i) 52) ((xfl I 52 (pm_trn I) i) 53) i 1 = pm_trn I i := by
        rw [pl_end1]
        show I 40 0 - ((xfl I 52 (pm_trn I) i) 52 i + I 53 i) = _
        rw [xfl_ge (Nat.le_refl i)]
        rfl
      have hc := c_64
      rw [e, xfl_ge (Nat.le_refl i)] at hc
      refine xv_nmM (I2 := (xfl I 52 (pm_trn I) (i + 1))) (xfl_put e) ?_
      have ih2 := ih (i + 1) (by omega)
      rw [xcn_y (P := fun p => ¬ pm_trn I p = I 52 p) (n := i) (by simpa using hc)] at ih2
      refine xv_fg [true, true, true, false] ?_
      rw [← nI_1 (xcn (fun p => ¬ pm_trn I p = I 52 p) i)] at ih2
      exact ih2

theorem s11_mir_0 {l : Launch} {D : va_G} {d : Nat} {G : xv_Gr} {I : xv_I} {J : xv_J} {Q : xv_Po} (hG : xg_ok G) {np : Nat} (hn : I 40 1 = nI np) (hnp : np ≤ 12) {nm : Nat} (hm : I 40 6 = nI nm) (hnm : nm ≤ 20) (h1 : (∀ p, p < np → I 52 p + I 53 p ≤ I 40 0) → Q (some (.int (nI (xcn (fun p => ¬ pm_trn I p = I 52 p) np)))) G (xfl (xfl (xfl I 52 (pm_trn I) np) 58 (fun k => 1 - I 58 k) nm) 60 (fun k => 1 - I 60 k) nm) J) (h2 : ¬ (∀ p, p < np → I 52 p + I 53 p ≤ I 40 0) → Q (some (.int (-900003))) G I J) : ∀ (n i : Nat), i + n = np → (∀ p, p < i → I 52 p + I 53 p ≤ I 40 0) → xv_Ev l D (d + 1) mX11_mirror none 2 [some (.ref 40), some (.int (nI i)), none, none] [] G I J 0 0 Q := by
  intro n
  induction n with
  | zero =>
    intro i hi hA
    refine xv_iload_n dX11_mirror_2 rfl rfl ?_
    refine xv_aload_n dX11_mirror_3 rfl rfl ?_
    refine xv_geti dX11_mirror_4 fl_X11_135 (go_40 hG) rfl ?_
    refine xv_nmI hn ?_
    refine xv_icmp_geN (tgt := 32) dX11_mirror_7 rfl (by omega) (by omega) (fun c_7 => ?_) (fun c_7 => absurd c_7 (by omega))
    refine xv_iconst (v := 0) dX11_mirror_32 rfl ?_
    refine xv_istore_n dX11_mirror_33 rfl (Nat.le_of_ble_eq_true rfl) rfl ?_
    refine xv_iconst (v := 0) dX11_mirror_34 rfl ?_
    refine xv_istore_n dX11_mirror_35 rfl (Nat.le_of_ble_eq_true rfl) rfl ?_
    have hQ := h1 (fun p hp => hA p (by omega))
    have h := s11_mir_l (d := d) (l := l) (D := D) hG hn hnp hm hnm hQ np 0 (by omega)
    rw [xfl_0] at h
    exact h
  | succ n ih =>
    intro i hi hA
    refine xv_iload_n dX11_mirror_2 rfl rfl ?_
    refine xv_aload_n dX11_mirror_3 rfl rfl ?_
    refine xv_geti dX11_mirror_4 fl_X11_135 (go_40 hG) rfl ?_
    refine xv_nmI hn ?_
    refine xv_icmp_geN (tgt := 32) dX11_mirror_7 rfl (by omega) (by omega) (fun c_7 => absurd c_7 (by omega)) (fun c_7 => ?_)
    refine xv_aload_n dX11_mirror_10 rfl rfl ?_
    refine xv_iload_n dX11_mirror_11 rfl rfl ?_
    refine xv_iconst (v := 1) dX11_mirror_12 rfl ?_
    refine xv_callV0 (As := [_, _]) dX11_mirror_13 cl_X11_148 rfl rfl rfl rfl (go_40 hG) rfl rfl (Nat.le_of_ble_eq_true rfl) (Nat.le_of_ble_eq_true rfl) (Nat.zero_le _) (Nat.zero_le _) ?_
    refine s11_endOf hG (xv_ixn (by omega) (by decide)) ?_
    refine xv_nmI (pl_end1 _ _ _) ?_
    refine xv_aload_n dX11_mirror_16 rfl rfl ?_
    refine xv_geti dX11_mirror_17 fl_X11_7 (go_40 hG) rfl ?_
    refine xv_icmp_le (tgt := 26) dX11_mirror_20 rfl (fun c_20 => ?_) (fun c_20 => ?_)
    · refine xv_iinc dX11_mirror_26 rfl (xv_inc _) (Nat.le_of_ble_eq_true rfl) rfl ?_
      refine xv_goto (tgt := 2) dX11_mirror_29 rfl ?_
      exact ih (i + 1) (by omega) (fun p hp => by
        rcases Nat.lt_or_ge p i with q | q
        · exact hA p q
        · have e : p = i := by omega
          subst e
          simp only [xn_lt, xn_le] at *
          omega)
    · refine xv_ldc dX11_mirror_23 ld_X11_144 ?_
      refine xv_iret dX11_mirror_25 rfl (Nat.zero_le _) (Nat.zero_le _) ?_
      exact h2 (fun h => absurd (h i (by omega)) (by simp only [xn_lt, xn_le] at *; omega))

theorem s11_mirror {l : Launch} {D : va_G} {d : Nat} {G : xv_Gr} {I : xv_I} {J : xv_J} {Q : xv_Po} (hG : xg_ok G) {np : Nat} (hn : I 40 1 = nI np) (hnp : np ≤ 12) {nm : Nat} (hm : I 40 6 = nI nm) (hnm : nm ≤ 20) (h1 : (∀ p, p < np → I 52 p + I 53 p ≤ I 40 0) → Q (some (.int (nI (xcn (fun p => ¬ pm_trn I p = I 52 p) np)))) G (xfl (xfl (xfl I 52 (pm_trn I) np) 58 (fun k => 1 - I 58 k) nm) 60 (fun k => 1 - I 60 k) nm) J) (h2 : ¬ (∀ p, p < np → I 52 p + I 53 p ≤ I 40 0) → Q (some (.int (-900003))) G I J) : xv_Ev l D (d + 1) mX11_mirror none 0 [some (.ref 40), none, none, none] [] G I J 0 0 Q := by
  refine xv_iconst (v := 0) dX11_mirror_0 rfl ?_
  refine xv_istore_n dX11_mirror_1 rfl (Nat.le_of_ble_eq_true rfl) rfl ?_
  exact s11_mir_0 hG hn hnp hm hnm h1 h2 np 0 (by omega) (fun p hp => absurd hp (by omega))
