/-! boards (model): layCut -/
def gu_ (gr : Nat → Nat) (g p k : Nat) : Nat → Nat := fun i => if i = g then (if g < k then gr g else 0) ||| 2 ^ p else gr i
def gk_ (k g : Nat) : Nat := if g = k then k + 1 else k
def rst (np p : Nat) : Nat := xdf (2 ^ np - 1) (2 * 2 ^ p - 1)
def bo_u (bo : Nat → Nat) (p g : Nat) : Nat → Nat := fun q => if q = p then g else bo q
def lt_f (I I2 : xv_I) (k : Nat) (gr bo : Nat → Nat) (p : Nat) : Prop := (∀ b, b ≠ 68 → b ≠ 69 → b ≠ 70 → b ≠ 72 → b ≠ 40 → I2 b = I b) ∧ (∀ j, j ≠ 21 → I2 40 j = I 40 j) ∧ I2 40 21 = nI k ∧ (∀ i, i < k → I2 70 i = nI (gr i)) ∧ ∀ q, q < p → I2 72 q = nI (bo q)
/-- one choice of the greedy: the first board that still comes to the best -/
def ch_ (f mn : Nat → Nat) (np best p k : Nat) (gr : Nat → Nat) (g : Nat) : Prop := g ≤ k ∧ (∀ j, j < g → ¬ cp f mn (gu_ gr j p k) (gk_ k j) (rst np p) = best) ∧ cp f mn (gu_ gr g p k) (gk_ k g) (rst np p) = best
theorem s11_lt_l {l : Launch} {D : va_G} {d : Nat} {G : xv_Gr} {I : xv_I} {J : xv_J} {Q : xv_Po} (hG : xg_ok G) {f mn gr bo : Nat → Nat} {np p k best : Nat} (hnp : np ≤ 12) (hp : p < np) (hk : k ≤ p) (hgr : ∀ g, g < k → gr g < 2 ^ np) (hf : ∀ T, T < 2 ^ np → I 66 T = nI (f T) ∧ f T ≤ 100000000) (hmn : ∀ T, T < 2 ^ np → I 67 T = nI (mn T) ∧ mn T ≤ 100000000) (hbest : best < 100000000) {gs : Nat} (hc : ch_ f mn np best p k gr gs) (kk : ∀ I2, lt_f I I2 (gk_ k gs) (gu_ gr gs p k) (bo_u bo p gs) (p + 1) → xv_Ev l D (d + 1) mX11_layCut none 181 [some (.ref 40), some (.int (nI (2 ^ np - 1))), some (.int (nI best)), some (.int (nI p)), some (.int (nI (rst np p))), none, none, none, none] [] G I2 J 0 0 Q) : ∀ (n g : Nat) (I2 : xv_I), g + n = gs → lt_f I I2 k gr bo p → xv_Ev l D (d + 1) mX11_layCut none 58 [some (.ref 40), some (.int (nI (2 ^ np - 1))), some (.int (nI best)), some (.int (nI p)), some (.int (nI (rst np p))), some (.int (nI g)), some (.int 0), none, none] [] G I2 J 0 0 Q := by
  intro n
  induction n with
  | zero =>
    intro g I2 hg hs
    have e : g = gs := by omega
    subst e
    have hcv := hc.2.2
    have hgle := hc.1
    rcases Nat.lt_or_ge g k with hgk0 | hgk1
    · have h2p : 2 ^ np ≤ 2 ^ 12 := Nat.pow_le_pow_right (by decide) hnp
      have h24 : (2 : Nat) ^ 12 = 4096 := by decide
      have hpw : 2 ^ p < 2 ^ np := Nat.pow_lt_pow_right (by decide) hp
      have hrs : rst np p < 2 ^ np := by
        have q := xdf_le (2 ^ np - 1) (2 * 2 ^ p - 1)
        have q2 : 1 ≤ 2 ^ np := Nat.one_le_two_pow
        show xdf (2 ^ np - 1) (2 * 2 ^ p - 1) < 2 ^ np
        omega
      have hgk : (gk_ k g) = k := if_neg (by omega)
      have hgs : (gu_ gr g p k) g = gr g ||| 2 ^ p := by
        show (if g = g then _ else _) = _
        rw [if_pos rfl, if_pos hgk0]
      have hgo : ∀ i, i ≠ g → (gu_ gr g p k) i = gr i := fun i h => if_neg h
      have hcb := cp_b (f := f) (gr := (gu_ gr g p k)) (r := rst np p) (fun T q => (hmn T (by have := sb_le q; omega)).2) (gk_ k g) (rst np p) (fun _ h => h)
      refine xv_iload dX11_layCut_58 rfl ?_
      refine xv_if_ne (tgt := 181) dX11_layCut_60 rfl (fun c_60 => absurd c_60 (by decide)) (fun c_60 => ?_)
      refine xv_aload_n dX11_layCut_63 rfl rfl ?_
      refine xv_geti dX11_layCut_64 fl_X11_190 (go_40 hG) rfl ?_
      refine xv_nmI hs.2.2.1 ?_
      refine xv_istore dX11_layCut_67 (Nat.le_of_ble_eq_true rfl) rfl ?_
      refine xv_iload dX11_layCut_69 rfl ?_
      refine xv_aload_n dX11_layCut_71 rfl rfl ?_
      refine xv_geti dX11_layCut_72 fl_X11_190 (go_40 hG) rfl ?_
      refine xv_nmI hs.2.2.1 ?_
      refine xv_icmp_geN (tgt := 88) dX11_layCut_75 rfl (by omega) (by omega) (fun c_75 => absurd c_75 (by omega)) (fun c_75 => ?_)
      refine xv_aload_n dX11_layCut_78 rfl rfl ?_
      refine xv_getr dX11_layCut_79 fl_X11_66 (go_40 hG) rfl (gr_40_20 hG) ?_
      refine xv_iload dX11_layCut_82 rfl ?_
      refine xv_iaload dX11_layCut_84 (go_70 hG) (xv_ixn (by omega) (by decide)) ?_
      refine xv_nmI (hs.2.2.2.1 g hgk0) ?_
      refine xv_goto (tgt := 89) dX11_layCut_85 rfl ?_
      refine xv_istore dX11_layCut_89 (Nat.le_of_ble_eq_true rfl) rfl ?_
      refine xv_aload_n dX11_layCut_91 rfl rfl ?_
      refine xv_getr dX11_layCut_92 fl_X11_66 (go_40 hG) rfl (gr_40_20 hG) ?_
      refine xv_iload dX11_layCut_95 rfl ?_
      refine xv_iload dX11_layCut_97 rfl ?_
      refine xv_iconst (v := nI 1) dX11_layCut_99 rfl ?_
      refine xv_iload_n dX11_layCut_100 rfl rfl ?_
      refine xv_ishl dX11_layCut_101 ?_
      refine xv_nmI (xi_one (by omega)) ?_
      refine xv_ior dX11_layCut_102 ?_
      refine xv_nmI (xi_or _ _) ?_
      refine xv_iastore dX11_layCut_103 (go_70 hG) (xv_ixn (by omega) (by decide)) ?_
      refine xv_aload_n dX11_layCut_104 rfl rfl ?_
      refine xv_iload dX11_layCut_105 rfl ?_
      refine xv_aload_n dX11_layCut_107 rfl rfl ?_
      refine xv_geti dX11_layCut_108 fl_X11_190 (go_40 hG) rfl ?_
      refine xv_nmI ((congrFun (xv_ui_ne (by decide)) 21).trans hs.2.2.1) ?_
      refine xv_icmp_neN (tgt := 123) dX11_layCut_111 rfl (by omega) (by omega) (fun c_111 => ?_) (fun c_111 => absurd c_111 (by omega))
      refine xv_aload_n dX11_layCut_123 rfl rfl ?_
      refine xv_geti dX11_layCut_124 fl_X11_190 (go_40 hG) rfl ?_
      refine xv_nmI ((congrFun (xv_ui_ne (by decide)) 21).trans hs.2.2.1) ?_
      refine xv_puti dX11_layCut_127 fl_X11_190 (go_40 hG) rfl rfl rfl ?_
      refine xv_aload_n dX11_layCut_130 rfl rfl ?_
      refine xv_iload dX11_layCut_131 rfl ?_
      refine xv_callV0 (As := [_]) dX11_layCut_133 cl_X11_196 rfl rfl rfl rfl (go_40 hG) rfl rfl (Nat.le_of_ble_eq_true rfl) (Nat.le_of_ble_eq_true rfl) (Nat.zero_le _) (Nat.zero_le _) ?_
      refine s11_completion (d := d) hG (I := (xv_ui (xv_ui I2 70 g (nI (gr g ||| 2 ^ p))) 40 21 (nI k))) (f := f) (mn := mn) (gr := (gu_ gr g p k)) (np := np) (r := rst np p) (k := (gk_ k g)) hnp hrs (by rw [hgk]; exact xv_ui_s) (by rw [hgk]; omega) (fun i hi => ?_) (fun T q => by rw [xv_ui_ne (by decide), xv_ui_ne (by decide), hs.1 66 (by decide) (by decide) (by decide) (by decide) (by decide)]; exact hf T q) (fun T q => by rw [xv_ui_ne (by decide), xv_ui_ne (by decide), hs.1 67 (by decide) (by decide) (by decide) (by decide) (by decide)]; exact hmn T q) (fun I4 h4 => ?_)
      · rw [xv_ui_ne (by decide)]
        rw [hgk] at hi
        by_cases e : i = g
        · subst e; rw [xv_ui_s, hgs]; exact ⟨rfl, xor_lt (hgr _ hgk0) hpw⟩
        · rw [xv_ui_o e, hgo i e]; exact ⟨hs.2.2.2.1 i (by omega), hgr i (by omega)⟩
      · refine xv_iload_n dX11_layCut_136 rfl rfl ?_
        refine xv_icmp_neN (tgt := 144) dX11_layCut_137 rfl (by omega) (by omega) (fun c_137 => absurd hcv c_137) (fun c_137 => ?_)
        refine xv_iconst (v := 1) dX11_layCut_140 rfl ?_
        refine xv_goto (tgt := 145) dX11_layCut_141 rfl ?_
        refine xv_istore dX11_layCut_145 (Nat.le_of_ble_eq_true rfl) rfl ?_
        refine xv_aload_n dX11_layCut_147 rfl rfl ?_
        refine xv_getr dX11_layCut_148 fl_X11_69 (go_40 hG) rfl (gr_40_22 hG) ?_
        refine xv_iload_n dX11_layCut_151 rfl rfl ?_
        refine xv_iload dX11_layCut_152 rfl ?_
        refine xv_iastore dX11_layCut_154 (go_72 hG) (xv_ixn (by omega) (by decide)) ?_
        refine xv_iload dX11_layCut_155 rfl ?_
        refine xv_if_ne (tgt := 178) dX11_layCut_157 rfl (fun c_157 => ?_) (fun c_157 => absurd c_157 (by decide))
        refine xv_goto (tgt := 58) dX11_layCut_178 rfl ?_
        refine xv_iload dX11_layCut_58 rfl ?_
        refine xv_if_ne (tgt := 181) dX11_layCut_60 rfl (fun c_60 => ?_) (fun c_60 => absurd c_60 (by decide))
        refine xv_fg [true, true, true, true, true, false, false, false, false] ?_
        refine kk _ ⟨fun b q1 q2 q3 q4 q5 => ?_, fun j q => ?_, ?_, fun i q => ?_, fun q hq => ?_⟩
        · rw [xv_ui_ne q4, h4 b q1 q2, xv_ui_ne q5, xv_ui_ne q3]; exact hs.1 b q1 q2 q3 q4 q5
        · rw [xv_ui_ne (by decide), h4 40 (by decide) (by decide), xv_ui_o q, xv_ui_ne (by decide)]; exact hs.2.1 j q
        · rw [xv_ui_ne (by decide), h4 40 (by decide) (by decide), xv_ui_s, hgk]
        · rw [hgk] at q
          rw [xv_ui_ne (by decide), h4 70 (by decide) (by decide), xv_ui_ne (by decide)]
          by_cases e : i = g
          · subst e; rw [xv_ui_s, hgs]
          · rw [xv_ui_o e, hgo i e]; exact hs.2.2.2.1 i (by omega)
        · by_cases e : q = p
          · subst e; rw [xv_ui_s]; exact congrArg nI (if_pos rfl).symm
          · rw [xv_ui_o e, h4 72 (by decide) (by decide), xv_ui_ne (by decide), xv_ui_ne (by decide)]; exact (hs.2.2.2.2 q (by omega)).trans (congrArg nI (if_neg e).symm)
    · have hgk0 : g = k := by omega
      have h2p : 2 ^ np ≤ 2 ^ 12 := Nat.pow_le_pow_right (by decide) hnp
      have h24 : (2 : Nat) ^ 12 = 4096 := by decide
      have hpw : 2 ^ p < 2 ^ np := Nat.pow_lt_pow_right (by decide) hp
      have hrs : rst np p < 2 ^ np := by
        have q := xdf_le (2 ^ np - 1) (2 * 2 ^ p - 1)
        have q2 : 1 ≤ 2 ^ np := Nat.one_le_two_pow
        show xdf (2 ^ np - 1) (2 * 2 ^ p - 1) < 2 ^ np
        omega
      have hgk : (gk_ k g) = k + 1 := if_pos hgk0
      have hgs : (gu_ gr g p k) g = 0 ||| 2 ^ p := by
        show (if g = g then _ else _) = _
        rw [if_pos rfl, if_neg (by omega)]
      have hgo : ∀ i, i ≠ g → (gu_ gr g p k) i = gr i := fun i h => if_neg h
      have hcb := cp_b (f := f) (gr := (gu_ gr g p k)) (r := rst np p) (fun T q => (hmn T (by have := sb_le q; omega)).2) (gk_ k g) (rst np p) (fun _ h => h)
      refine xv_iload dX11_layCut_58 rfl ?_
      refine xv_if_ne (tgt := 181) dX11_layCut_60 rfl (fun c_60 => absurd c_60 (by decide)) (fun c_60 => ?_)
      refine xv_aload_n dX11_layCut_63 rfl rfl ?_
      refine xv_geti dX11_layCut_64 fl_X11_190 (go_40 hG) rfl ?_
      refine xv_nmI hs.2.2.1 ?_
      refine xv_istore dX11_layCut_67 (Nat.le_of_ble_eq_true rfl) rfl ?_
      refine xv_iload dX11_layCut_69 rfl ?_
      refine xv_aload_n dX11_layCut_71 rfl rfl ?_
      refine xv_geti dX11_layCut_72 fl_X11_190 (go_40 hG) rfl ?_
      refine xv_nmI hs.2.2.1 ?_
      refine xv_icmp_geN (tgt := 88) dX11_layCut_75 rfl (by omega) (by omega) (fun c_75 => ?_) (fun c_75 => absurd c_75 (by omega))
      refine xv_iconst (v := nI 0) dX11_layCut_88 rfl ?_
      refine xv_istore dX11_layCut_89 (Nat.le_of_ble_eq_true rfl) rfl ?_
      refine xv_aload_n dX11_layCut_91 rfl rfl ?_
      refine xv_getr dX11_layCut_92 fl_X11_66 (go_40 hG) rfl (gr_40_20 hG) ?_
      refine xv_iload dX11_layCut_95 rfl ?_
      refine xv_iload dX11_layCut_97 rfl ?_
      refine xv_iconst (v := nI 1) dX11_layCut_99 rfl ?_
      refine xv_iload_n dX11_layCut_100 rfl rfl ?_
      refine xv_ishl dX11_layCut_101 ?_
      refine xv_nmI (xi_one (by omega)) ?_
      refine xv_ior dX11_layCut_102 ?_
      refine xv_nmI (xi_or _ _) ?_
      refine xv_iastore dX11_layCut_103 (go_70 hG) (xv_ixn (by omega) (by decide)) ?_
      refine xv_aload_n dX11_layCut_104 rfl rfl ?_
      refine xv_iload dX11_layCut_105 rfl ?_
      refine xv_aload_n dX11_layCut_107 rfl rfl ?_
      refine xv_geti dX11_layCut_108 fl_X11_190 (go_40 hG) rfl ?_
      refine xv_nmI ((congrFun (xv_ui_ne (by decide)) 21).trans hs.2.2.1) ?_
      refine xv_icmp_neN (tgt := 123) dX11_layCut_111 rfl (by omega) (by omega) (fun c_111 => absurd c_111 (by omega)) (fun c_111 => ?_)
      refine xv_aload_n dX11_layCut_114 rfl rfl ?_
      refine xv_geti dX11_layCut_115 fl_X11_190 (go_40 hG) rfl ?_
      refine xv_nmI ((congrFun (xv_ui_ne (by decide)) 21).trans hs.2.2.1) ?_
      refine xv_iconst (v := nI 1) dX11_layCut_118 rfl ?_
      refine xv_iadd dX11_layCut_119 ?_
      refine xv_nmI (nI_add _ _) ?_
      refine xv_goto (tgt := 127) dX11_layCut_120 rfl ?_
      refine xv_puti dX11_layCut_127 fl_X11_190 (go_40 hG) rfl rfl rfl ?_
      refine xv_aload_n dX11_layCut_130 rfl rfl ?_
      refine xv_iload dX11_layCut_131 rfl ?_
      refine xv_callV0 (As := [_]) dX11_layCut_133 cl_X11_196 rfl rfl rfl rfl (go_40 hG) rfl rfl (Nat.le_of_ble_eq_true rfl) (Nat.le_of_ble_eq_true rfl) (Nat.zero_le _) (Nat.zero_le _) ?_
      refine s11_completion (d := d) hG (I := (xv_ui (xv_ui I2 70 g (nI (0 ||| 2 ^ p))) 40 21 (nI (k + 1)))) (f := f) (mn := mn) (gr := (gu_ gr g p k)) (np := np) (r := rst np p) (k := (gk_ k g)) hnp hrs (by rw [hgk]; exact xv_ui_s) (by rw [hgk]; omega) (fun i hi => ?_) (fun T q => by rw [xv_ui_ne (by decide), xv_ui_ne (by decide), hs.1 66 (by decide) (by decide) (by decide) (by decide) (by decide)]; exact hf T q) (fun T q => by rw [xv_ui_ne (by decide), xv_ui_ne (by decide), hs.1 67 (by decide) (by decide) (by decide) (by decide) (by decide)]; exact hmn T q) (fun I4 h4 => ?_)
      · rw [xv_ui_ne (by decide)]
        rw [hgk] at hi
        by_cases e : i = g
        · subst e; rw [xv_ui_s, hgs]; exact ⟨rfl, xor_lt Nat.one_le_two_pow hpw⟩
        · rw [xv_ui_o e, hgo i e]; exact ⟨hs.2.2.2.1 i (by omega), hgr i (by omega)⟩
      · refine xv_iload_n dX11_layCut_136 rfl rfl ?_
        refine xv_icmp_neN (tgt := 144) dX11_layCut_137 rfl (by omega) (by omega) (fun c_137 => absurd hcv c_137) (fun c_137 => ?_)
        refine xv_iconst (v := 1) dX11_layCut_140 rfl ?_
        refine xv_goto (tgt := 145) dX11_layCut_141 rfl ?_
        refine xv_istore dX11_layCut_145 (Nat.le_of_ble_eq_true rfl) rfl ?_
        refine xv_aload_n dX11_layCut_147 rfl rfl ?_
        refine xv_getr dX11_layCut_148 fl_X11_69 (go_40 hG) rfl (gr_40_22 hG) ?_
        refine xv_iload_n dX11_layCut_151 rfl rfl ?_
        refine xv_iload dX11_layCut_152 rfl ?_
        refine xv_iastore dX11_layCut_154 (go_72 hG) (xv_ixn (by omega) (by decide)) ?_
        refine xv_iload dX11_layCut_155 rfl ?_
        refine xv_if_ne (tgt := 178) dX11_layCut_157 rfl (fun c_157 => ?_) (fun c_157 => absurd c_157 (by decide))
        refine xv_goto (tgt := 58) dX11_layCut_178 rfl ?_
        refine xv_iload dX11_layCut_58 rfl ?_
        refine xv_if_ne (tgt := 181) dX11_layCut_60 rfl (fun c_60 => ?_) (fun c_60 => absurd c_60 (by decide))
        refine xv_fg [true, true, true, true, true, false, false, false, false] ?_
        refine kk _ ⟨fun b q1 q2 q3 q4 q5 => ?_, fun j q => ?_, ?_, fun i q => ?_, fun q hq => ?_⟩
        · rw [xv_ui_ne q4, h4 b q1 q2, xv_ui_ne q5, xv_ui_ne q3]; exact hs.1 b q1 q2 q3 q4 q5
        · rw [xv_ui_ne (by decide), h4 40 (by decide) (by decide), xv_ui_o q, xv_ui_ne (by decide)]; exact hs.2.1 j q
        · rw [xv_ui_ne (by decide), h4 40 (by decide) (by decide), xv_ui_s, hgk]
        · rw [hgk] at q
          rw [xv_ui_ne (by decide), h4 70 (by decide) (by decide), xv_ui_ne (by decide)]
          by_cases e : i = g
          · subst e; rw [xv_ui_s, hgs]
          · rw [xv_ui_o e, hgo i e]; exact hs.2.2.2.1 i (by omega)
        · by_cases e : q = p
          · subst e; rw [xv_ui_s]; exact congrArg nI (if_pos rfl).symm
          · rw [xv_ui_o e, h4 72 (by decide) (by decide), xv_ui_ne (by decide), xv_ui_ne (by decide)]; exact (hs.2.2.2.2 q (by omega)).trans (congrArg nI (if_neg e).symm)
  | succ n ih =>
    intro g I2 hg hs
    have hcv := hc.2.1 g (by omega)
    have hgle := hc.1
    have hgk0 : g < k := by omega
    have h2p : 2 ^ np ≤ 2 ^ 12 := Nat.pow_le_pow_right (by decide) hnp
    have h24 : (2 : Nat) ^ 12 = 4096 := by decide
    have hpw : 2 ^ p < 2 ^ np := Nat.pow_lt_pow_right (by decide) hp
    have hrs : rst np p < 2 ^ np := by
      have q := xdf_le (2 ^ np - 1) (2 * 2 ^ p - 1)
      have q2 : 1 ≤ 2 ^ np := Nat.one_le_two_pow
      show xdf (2 ^ np - 1) (2 * 2 ^ p - 1) < 2 ^ np
      omega
    have hgk : (gk_ k g) = k := if_neg (by omega)
    have hgs : (gu_ gr g p k) g = gr g ||| 2 ^ p := by
      show (if g = g then _ else _) = _
      rw [if_pos rfl, if_pos hgk0]
    have hgo : ∀ i, i ≠ g → (gu_ gr g p k) i = gr i := fun i h => if_neg h
    have hcb := cp_b (f := f) (gr := (gu_ gr g p k)) (r := rst np p) (fun T q => (hmn T (by have := sb_le q; omega)).2) (gk_ k g) (rst np p) (fun _ h => h)
    refine xv_iload dX11_layCut_58 rfl ?_
    refine xv_if_ne (tgt := 181) dX11_layCut_60 rfl (fun c_60 => absurd c_60 (by decide)) (fun c_60 => ?_)
    refine xv_aload_n dX11_layCut_63 rfl rfl ?_
    refine xv_geti dX11_layCut_64 fl_X11_190 (go_40 hG) rfl ?_
    refine xv_nmI hs.2.2.1 ?_
    refine xv_istore dX11_layCut_67 (Nat.le_of_ble_eq_true rfl) rfl ?_
    refine xv_iload dX11_layCut_69 rfl ?_
    refine xv_aload_n dX11_layCut_71 rfl rfl ?_
    refine xv_geti dX11_layCut_72 fl_X11_190 (go_40 hG) rfl ?_
    refine xv_nmI hs.2.2.1 ?_
    refine xv_icmp_geN (tgt := 88) dX11_layCut_75 rfl (by omega) (by omega) (fun c_75 => absurd c_75 (by omega)) (fun c_75 => ?_)
    refine xv_aload_n dX11_layCut_78 rfl rfl ?_
    refine xv_getr dX11_layCut_79 fl_X11_66 (go_40 hG) rfl (gr_40_20 hG) ?_
    refine xv_iload dX11_layCut_82 rfl ?_
    refine xv_iaload dX11_layCut_84 (go_70 hG) (xv_ixn (by omega) (by decide)) ?_
    refine xv_nmI (hs.2.2.2.1 g hgk0) ?_
    refine xv_goto (tgt := 89) dX11_layCut_85 rfl ?_
    refine xv_istore dX11_layCut_89 (Nat.le_of_ble_eq_true rfl) rfl ?_
    refine xv_aload_n dX11_layCut_91 rfl rfl ?_
    refine xv_getr dX11_layCut_92 fl_X11_66 (go_40 hG) rfl (gr_40_20 hG) ?_
    refine xv_iload dX11_layCut_95 rfl ?_
    refine xv_iload dX11_layCut_97 rfl ?_
    refine xv_iconst (v := nI 1) dX11_layCut_99 rfl ?_
    refine xv_iload_n dX11_layCut_100 rfl rfl ?_
    refine xv_ishl dX11_layCut_101 ?_
    refine xv_nmI (xi_one (by omega)) ?_
    refine xv_ior dX11_layCut_102 ?_
    refine xv_nmI (xi_or _ _) ?_
    refine xv_iastore dX11_layCut_103 (go_70 hG) (xv_ixn (by omega) (by decide)) ?_
    refine xv_aload_n dX11_layCut_104 rfl rfl ?_
    refine xv_iload dX11_layCut_105 rfl ?_
    refine xv_aload_n dX11_layCut_107 rfl rfl ?_
    refine xv_geti dX11_layCut_108 fl_X11_190 (go_40 hG) rfl ?_
    refine xv_nmI ((congrFun (xv_ui_ne (by decide)) 21).trans hs.2.2.1) ?_
    refine xv_icmp_neN (tgt := 123) dX11_layCut_111 rfl (by omega) (by omega) (fun c_111 => ?_) (fun c_111 => absurd c_111 (by omega))
    refine xv_aload_n dX11_layCut_123 rfl rfl ?_
    refine xv_geti dX11_layCut_124 fl_X11_190 (go_40 hG) rfl ?_
    refine xv_nmI ((congrFun (xv_ui_ne (by decide)) 21).trans hs.2.2.1) ?_
    refine xv_puti dX11_layCut_127 fl_X11_190 (go_40 hG) rfl rfl rfl ?_
    refine xv_aload_n dX11_layCut_130 rfl rfl ?_
    refine xv_iload dX11_layCut_131 rfl ?_
    refine xv_callV0 (As := [_]) dX11_layCut_133 cl_X11_196 rfl rfl rfl rfl (go_40 hG) rfl rfl (Nat.le_of_ble_eq_true rfl) (Nat.le_of_ble_eq_true rfl) (Nat.zero_le _) (Nat.zero_le _) ?_
    refine s11_completion (d := d) hG (I := (xv_ui (xv_ui I2 70 g (nI (gr g ||| 2 ^ p))) 40 21 (nI k))) (f := f) (mn := mn) (gr := (gu_ gr g p k)) (np := np) (r := rst np p) (k := (gk_ k g)) hnp hrs (by rw [hgk]; exact xv_ui_s) (by rw [hgk]; omega) (fun i hi => ?_) (fun T q => by rw [xv_ui_ne (by decide), xv_ui_ne (by decide), hs.1 66 (by decide) (by decide) (by decide) (by decide) (by decide)]; exact hf T q) (fun T q => by rw [xv_ui_ne (by decide), xv_ui_ne (by decide), hs.1 67 (by decide) (by decide) (by decide) (by decide) (by decide)]; exact hmn T q) (fun I4 h4 => ?_)
    · rw [xv_ui_ne (by decide)]
      rw [hgk] at hi
      by_cases e : i = g
      · subst e; rw [xv_ui_s, hgs]; exact ⟨rfl, xor_lt (hgr _ hgk0) hpw⟩
      · rw [xv_ui_o e, hgo i e]; exact ⟨hs.2.2.2.1 i (by omega), hgr i (by omega)⟩
    · refine xv_iload_n dX11_layCut_136 rfl rfl ?_
      refine xv_icmp_neN (tgt := 144) dX11_layCut_137 rfl (by omega) (by omega) (fun c_137 => ?_) (fun c_137 => absurd c_137 hcv)
      refine xv_iconst (v := 0) dX11_layCut_144 rfl ?_
      refine xv_istore dX11_layCut_145 (Nat.le_of_ble_eq_true rfl) rfl ?_
      refine xv_aload_n dX11_layCut_147 rfl rfl ?_
      refine xv_getr dX11_layCut_148 fl_X11_69 (go_40 hG) rfl (gr_40_22 hG) ?_
      refine xv_iload_n dX11_layCut_151 rfl rfl ?_
      refine xv_iload dX11_layCut_152 rfl ?_
      refine xv_iastore dX11_layCut_154 (go_72 hG) (xv_ixn (by omega) (by decide)) ?_
      refine xv_iload dX11_layCut_155 rfl ?_
      refine xv_if_ne (tgt := 178) dX11_layCut_157 rfl (fun c_157 => absurd c_157 (by decide)) (fun c_157 => ?_)
      refine xv_aload_n dX11_layCut_160 rfl rfl ?_
      refine xv_getr dX11_layCut_161 fl_X11_66 (go_40 hG) rfl (gr_40_20 hG) ?_
      refine xv_iload dX11_layCut_164 rfl ?_
      refine xv_iload dX11_layCut_166 rfl ?_
      refine xv_iastore dX11_layCut_168 (go_70 hG) (xv_ixn (by omega) (by decide)) ?_
      refine xv_aload_n dX11_layCut_169 rfl rfl ?_
      refine xv_iload dX11_layCut_170 rfl ?_
      refine xv_puti dX11_layCut_172 fl_X11_190 (go_40 hG) rfl rfl rfl ?_
      refine xv_iinc dX11_layCut_175 rfl (xv_inc _) (Nat.le_of_ble_eq_true rfl) rfl ?_
      refine xv_goto (tgt := 58) dX11_layCut_178 rfl ?_
      refine xv_fg [true, true, true, true, true, true, true, false, false] ?_
      refine ih (g + 1) _ (by omega) ⟨fun b q1 q2 q3 q4 q5 => ?_, fun j q => ?_, ?_, fun i q => ?_, fun q hq => ?_⟩
      · rw [xv_ui_ne q5, xv_ui_ne q3, xv_ui_ne q4, h4 b q1 q2, xv_ui_ne q5, xv_ui_ne q3]; exact hs.1 b q1 q2 q3 q4 q5
      · rw [xv_ui_o q, xv_ui_ne (by decide), xv_ui_ne (by decide), h4 40 (by decide) (by decide), xv_ui_o q, xv_ui_ne (by decide)]; exact hs.2.1 j q
      · rw [xv_ui_s]
      · rw [xv_ui_ne (by decide)]
        by_cases e : i = g
        · subst e; rw [xv_ui_s]
        · rw [xv_ui_o e, xv_ui_ne (by decide), h4 70 (by decide) (by decide), xv_ui_ne (by decide), xv_ui_o e]; exact hs.2.2.2.1 i q
      · rw [xv_ui_ne (by decide), xv_ui_ne (by decide), xv_ui_o (by omega), h4 72 (by decide) (by decide), xv_ui_ne (by decide), xv_ui_ne (by decide)]; exact hs.2.2.2.2 q hq

theorem s11_lt_p {l : Launch} {D : va_G} {d : Nat} {G : xv_Gr} {I : xv_I} {J : xv_J} {Q : xv_Po} (hG : xg_ok G) {f mn : Nat → Nat} {np best : Nat} (hn : I 40 1 = nI np) (hnp : np ≤ 12) (hf : ∀ T, T < 2 ^ np → I 66 T = nI (f T) ∧ f T ≤ 100000000) (hmn : ∀ T, T < 2 ^ np → I 67 T = nI (mn T) ∧ mn T ≤ 100000000) (hbest : best < 100000000) (IV : Nat → Nat → (Nat → Nat) → (Nat → Nat) → Prop) (hIb : ∀ p k gr bo, IV p k gr bo → k ≤ p ∧ ∀ g, g < k → gr g < 2 ^ np) (hIs : ∀ p k gr bo, p < np → IV p k gr bo → ∃ g, ch_ f mn np best p k gr g ∧ IV (p + 1) (gk_ k g) (gu_ gr g p k) (bo_u bo p g)) (hQ : ∀ I2 k gr bo, lt_f I I2 k gr bo np → IV np k gr bo → Q (some (.int 1)) G I2 J) : ∀ (n p k : Nat) (gr bo : Nat → Nat) (I2 : xv_I), p + n = np → lt_f I I2 k gr bo p → IV p k gr bo → xv_Ev l D (d + 1) mX11_layCut none 27 [some (.ref 40), some (.int (nI (2 ^ np - 1))), some (.int (nI best)), some (.int (nI p)), none, none, none, none, none] [] G I2 J 0 0 Q := by
  intro n
  induction n with
  | zero =>
    intro p k gr bo I2 hp hs hIV
    refine xv_iload_n dX11_layCut_27 rfl rfl ?_
    refine xv_aload_n dX11_layCut_28 rfl rfl ?_
    refine xv_geti dX11_layCut_29 fl_X11_135 (go_40 hG) rfl ?_
    refine xv_nmI ((hs.2.1 1 (by decide)).trans hn) ?_
    refine xv_icmp_geN (tgt := 187) dX11_layCut_32 rfl (by omega) (by omega) (fun c_32 => ?_) (fun c_32 => absurd c_32 (by omega))
    refine xv_iload_n dX11_layCut_187 rfl rfl ?_
    refine xv_ldc dX11_layCut_188 ld_X11_189 ?_
    refine xv_nmI (show (100000000 : Int32) = nI 100000000 from rfl) ?_
    refine xv_icmp_geN (tgt := 197) dX11_layCut_190 rfl (by omega) (by omega) (fun c_190 => absurd c_190 (by omega)) (fun c_190 => ?_)
    refine xv_iconst (v := 1) dX11_layCut_193 rfl ?_
    refine xv_goto (tgt := 198) dX11_layCut_194 rfl ?_
    refine xv_zret dX11_layCut_198 rfl rfl (Nat.zero_le _) (Nat.zero_le _) ?_
    have e : p = np := by omega
    subst e
    exact hQ I2 k gr bo hs hIV
  | succ n ih =>
    intro p k gr bo I2 hp hs hIV
    have h2p : 2 ^ np ≤ 2 ^ 12 := Nat.pow_le_pow_right (by decide) hnp
    have h24 : (2 : Nat) ^ 12 = 4096 := by decide
    have hpw : 2 ^ p < 2 ^ np := Nat.pow_lt_pow_right (by decide) (by omega)
    have hp1 : 1 ≤ 2 ^ p := Nat.one_le_two_pow
    refine xv_iload_n dX11_layCut_27 rfl rfl ?_
    refine xv_aload_n dX11_layCut_28 rfl rfl ?_
    refine xv_geti dX11_layCut_29 fl_X11_135 (go_40 hG) rfl ?_
    refine xv_nmI ((hs.2.1 1 (by decide)).trans hn) ?_
    refine xv_icmp_geN (tgt := 187) dX11_layCut_32 rfl (by omega) (by omega) (fun c_32 => absurd c_32 (by omega)) (fun c_32 => ?_)
    refine xv_iload_n dX11_layCut_35 rfl rfl ?_
    refine xv_ldc dX11_layCut_36 ld_X11_189 ?_
    refine xv_nmI (show (100000000 : Int32) = nI 100000000 from rfl) ?_
    refine xv_icmp_geN (tgt := 187) dX11_layCut_38 rfl (by omega) (by omega) (fun c_38 => absurd c_38 (by omega)) (fun c_38 => ?_)
    refine xv_iload_n dX11_layCut_41 rfl rfl ?_
    refine xv_iconst (v := nI 2) dX11_layCut_42 rfl ?_
    refine xv_iload_n dX11_layCut_43 rfl rfl ?_
    refine xv_ishl dX11_layCut_44 ?_
    refine xv_nmI (xi_shl 2 (by omega) (by omega)) ?_
    refine xv_iconst (v := nI 1) dX11_layCut_45 rfl ?_
    refine xv_isub dX11_layCut_46 ?_
    refine xv_nmI (pk_sub (by omega)) ?_
    refine xv_iconst (v := -1) dX11_layCut_47 rfl ?_
    refine xv_ixor dX11_layCut_48 ?_
    refine xv_iand dX11_layCut_49 ?_
    refine xv_nmI (xi_andn _ _) ?_
    refine xv_istore dX11_layCut_50 (Nat.le_of_ble_eq_true rfl) rfl ?_
    refine xv_iconst (v := nI 0) dX11_layCut_52 rfl ?_
    refine xv_istore dX11_layCut_53 (Nat.le_of_ble_eq_true rfl) rfl ?_
    refine xv_iconst (v := 0) dX11_layCut_55 rfl ?_
    refine xv_istore dX11_layCut_56 (Nat.le_of_ble_eq_true rfl) rfl ?_
    obtain ⟨g, hch, hIV2⟩ := hIs p k gr bo (by omega) hIV
    have hb := hIb p k gr bo hIV
    refine xv_fg [true, true, true, true, true, true, true, false, false] ?_
    refine s11_lt_l (d := d) hG (f := f) (mn := mn) (gr := gr) (bo := bo) (np := np) (p := p) (k := k) (best := best) hnp (by omega) hb.1 hb.2 hf hmn hbest hch (fun I3 h3 => ?_) g 0 I2 (by omega) hs
    refine xv_iinc dX11_layCut_181 rfl (xv_inc _) (Nat.le_of_ble_eq_true rfl) rfl ?_
    refine xv_goto (tgt := 27) dX11_layCut_184 rfl ?_
    refine xv_fg [true, true, true, true, false, false, false, false, false] ?_
    exact ih (p + 1) _ _ _ I3 (by omega) h3 hIV2

def lk_f (I I2 : xv_I) : Prop := (∀ b, b ≠ 66 → b ≠ 67 → b ≠ 68 → b ≠ 69 → b ≠ 70 → b ≠ 72 → b ≠ 40 → I2 b = I b) ∧ ∀ j, j ≠ 21 → I2 40 j = I 40 j
def lk_g (I2 : xv_I) (k : Nat) (gr bo : Nat → Nat) (np : Nat) : Prop := I2 40 21 = nI k ∧ (∀ i, i < k → I2 70 i = nI (gr i)) ∧ ∀ q, q < np → I2 72 q = nI (bo q)
theorem s11_layCut {l : Launch} {D : va_G} {d : Nat} {G : xv_Gr} {I : xv_I} {J : xv_J} {Q : xv_Po} (hG : xg_ok G) {np : Nat} (hn : I 40 1 = nI np) (hnp : np ≤ 12) {sz : Nat → Nat} (hsz : ∀ p, p < np → I 53 p = nI (sz p)) {lo : Nat} (hlo : I 40 15 = nI lo) {pr : Nat → Nat} (hpr : ∀ j, j < 4 → I 64 j = nI (pr j) ∧ pr j ≤ 9999) (IV : (Nat → Nat) → Nat → Nat → (Nat → Nat) → (Nat → Nat) → Prop) (hI0 : ∀ mn gr bo, mn_k (onf I pr sz lo np) mn (2 ^ np) → mn (2 ^ np - 1) < 100000000 → IV mn 0 0 gr bo) (hIb : ∀ mn p k gr bo, IV mn p k gr bo → k ≤ p ∧ ∀ g, g < k → gr g < 2 ^ np) (hIs : ∀ mn p k gr bo, mn_k (onf I pr sz lo np) mn (2 ^ np) → mn (2 ^ np - 1) < 100000000 → p < np → IV mn p k gr bo → ∃ g, ch_ (onf I pr sz lo np) mn np (mn (2 ^ np - 1)) p k gr g ∧ IV mn (p + 1) (gk_ k g) (gu_ gr g p k) (bo_u bo p g)) (h1 : ∀ I2 mn, mn_k (onf I pr sz lo np) mn (2 ^ np) → ¬ mn (2 ^ np - 1) < 100000000 → lk_f I I2 → Q (some (.int 0)) G I2 J) (h2 : ∀ I2 mn k gr bo, mn_k (onf I pr sz lo np) mn (2 ^ np) → mn (2 ^ np - 1) < 100000000 → lk_f I I2 → lk_g I2 k gr bo np → IV mn np k gr bo → Q (some (.int 1)) G I2 J) : xv_Ev l D (d + 3) mX11_layCut none 0 [some (.ref 40), none, none, none, none, none, none, none, none] [] G I J 0 0 Q := by
  have h2p : 2 ^ np ≤ 2 ^ 12 := Nat.pow_le_pow_right (by decide) hnp
  have h24 : (2 : Nat) ^ 12 = 4096 := by decide
  have h1p : 1 ≤ 2 ^ np := Nat.one_le_two_pow
  refine xv_aload_n dX11_layCut_0 rfl rfl ?_
  refine xv_callV0 (As := []) dX11_layCut_1 cl_X11_193 rfl rfl rfl rfl (go_40 hG) rfl rfl (Nat.le_of_ble_eq_true rfl) (Nat.le_of_ble_eq_true rfl) (Nat.zero_le _) (Nat.zero_le _) ?_
  refine s11_layCosts (d := d) hG hn hnp hsz hlo hpr (fun I2 mn hl => ?_)
  · have hmb := mn_b hl.2.2.2 (show (2 ^ np - 1) < 2 ^ np by omega)
    have hlk : lk_f I (xv_ui I2 40 21 (nI 0)) := ⟨fun b q1 q2 q3 q4 q5 q6 q7 => by rw [xv_ui_ne q7]; exact hl.1 b q1 q2, fun j q => by rw [xv_ui_o q, hl.1 40 (by decide) (by decide)]⟩
    refine xv_iconst (v := nI 1) dX11_layCut_4 rfl ?_
    refine xv_aload_n dX11_layCut_5 rfl rfl ?_
    refine xv_geti dX11_layCut_6 fl_X11_135 (go_40 hG) rfl ?_
    refine xv_nmI ((congrFun (hl.1 40 (by decide) (by decide)) 1).trans hn) ?_
    refine xv_ishl dX11_layCut_9 ?_
    refine xv_nmI (xi_one (by omega)) ?_
    refine xv_iconst (v := nI 1) dX11_layCut_10 rfl ?_
    refine xv_isub dX11_layCut_11 ?_
    refine xv_nmI (pk_sub h1p) ?_
    refine xv_istore_n dX11_layCut_12 rfl (Nat.le_of_ble_eq_true rfl) rfl ?_
    refine xv_aload_n dX11_layCut_13 rfl rfl ?_
    refine xv_getr dX11_layCut_14 fl_X11_57 (go_40 hG) rfl (gr_40_17 hG) ?_
    refine xv_iload_n dX11_layCut_17 rfl rfl ?_
    refine xv_iaload dX11_layCut_18 (go_67 hG) (xv_ixn (by omega) (by decide)) ?_
    refine xv_nmI (hl.2.2.1 (2 ^ np - 1) (by omega)) ?_
    refine xv_istore_n dX11_layCut_19 rfl (Nat.le_of_ble_eq_true rfl) rfl ?_
    refine xv_aload_n dX11_layCut_20 rfl rfl ?_
    refine xv_iconst (v := nI 0) dX11_layCut_21 rfl ?_
    refine xv_puti dX11_layCut_22 fl_X11_190 (go_40 hG) rfl rfl rfl ?_
    refine xv_iconst (v := nI 0) dX11_layCut_25 rfl ?_
    refine xv_istore_n dX11_layCut_26 rfl (Nat.le_of_ble_eq_true rfl) rfl ?_
    by_cases hb : mn (2 ^ np - 1) < 100000000
    · have hf : ∀ T, T < 2 ^ np → (xv_ui I2 40 21 (nI 0)) 66 T = nI ((onf I pr sz lo np) T) ∧ (onf I pr sz lo np) T ≤ 100000000 := fun T q => ⟨by rw [xv_ui_ne (by decide)]; exact hl.2.1 T q, onf_b (fun j hj => (hpr j hj).2)⟩
      have hmn : ∀ T, T < 2 ^ np → (xv_ui I2 40 21 (nI 0)) 67 T = nI (mn T) ∧ mn T ≤ 100000000 := fun T q => ⟨by rw [xv_ui_ne (by decide)]; exact hl.2.2.1 T q, mn_b hl.2.2.2 q⟩
      refine s11_lt_p (d := d + 2) hG (I := (xv_ui I2 40 21 (nI 0))) (f := (onf I pr sz lo np)) (mn := mn) (np := np) (best := mn (2 ^ np - 1)) ((xv_ui_o (by decide)).trans ((congrFun (hl.1 40 (by decide) (by decide)) 1).trans hn)) hnp hf hmn hb (IV mn) (hIb mn) (fun p k gr bo => hIs mn p k gr bo hl.2.2.2 hb) (fun I3 k gr bo h3 hIV => h2 I3 mn k gr bo hl.2.2.2 hb ⟨fun b q1 q2 q3 q4 q5 q6 q7 => ?_, fun j q => ?_⟩ ⟨h3.2.2.1, h3.2.2.2.1, h3.2.2.2.2⟩ hIV) np 0 0 (fun _ => 0) (fun _ => 0) _ (by omega) ⟨fun _ _ _ _ _ _ => rfl, fun _ _ => rfl, xv_ui_s, fun i q => absurd q (by omega), fun q hq => absurd hq (by omega)⟩ (hI0 mn _ _ hl.2.2.2 hb)
      · rw [h3.1 b q3 q4 q5 q6 q7]; exact hlk.1 b q1 q2 q3 q4 q5 q6 q7
      · rw [h3.2.1 j q]; exact hlk.2 j q
    · refine xv_iload_n dX11_layCut_27 rfl rfl ?_
      refine xv_aload_n dX11_layCut_28 rfl rfl ?_
      refine xv_geti dX11_layCut_29 fl_X11_135 (go_40 hG) rfl ?_
      refine xv_nmI ((xv_ui_o (by decide)).trans ((congrFun (hl.1 40 (by decide) (by decide)) 1).trans hn)) ?_
      refine xv_icmp_geN (tgt := 187) dX11_layCut_32 rfl (by omega) (by omega) (fun c_32 => ?_) (fun c_32 => ?_)
      · refine xv_iload_n dX11_layCut_187 rfl rfl ?_
        refine xv_ldc dX11_layCut_188 ld_X11_189 ?_
        refine xv_nmI (show (100000000 : Int32) = nI 100000000 from rfl) ?_
        refine xv_icmp_geN (tgt := 197) dX11_layCut_190 rfl (by omega) (by omega) (fun c_190 => ?_) (fun c_190 => absurd c_190 (by omega))
        refine xv_iconst (v := 0) dX11_layCut_197 rfl ?_
        refine xv_zret dX11_layCut_198 rfl rfl (Nat.zero_le _) (Nat.zero_le _) ?_
        exact h1 _ mn hl.2.2.2 hb hlk
      · refine xv_iload_n dX11_layCut_35 rfl rfl ?_
        refine xv_ldc dX11_layCut_36 ld_X11_189 ?_
        refine xv_nmI (show (100000000 : Int32) = nI 100000000 from rfl) ?_
        refine xv_icmp_geN (tgt := 187) dX11_layCut_38 rfl (by omega) (by omega) (fun c_38 => ?_) (fun c_38 => absurd c_38 (by omega))
        refine xv_iload_n dX11_layCut_187 rfl rfl ?_
        refine xv_ldc dX11_layCut_188 ld_X11_189 ?_
        refine xv_nmI (show (100000000 : Int32) = nI 100000000 from rfl) ?_
        refine xv_icmp_geN (tgt := 197) dX11_layCut_190 rfl (by omega) (by omega) (fun c_190 => ?_) (fun c_190 => absurd c_190 (by omega))
        refine xv_iconst (v := 0) dX11_layCut_197 rfl ?_
        refine xv_zret dX11_layCut_198 rfl rfl (Nat.zero_le _) (Nat.zero_le _) ?_
        exact h1 _ mn hl.2.2.2 hb hlk
