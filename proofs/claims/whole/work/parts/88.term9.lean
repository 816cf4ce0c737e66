/-! terms (model): takeAsking -/
def dg_s (b : Nat → Nat) (n : Nat) : Nat → Nat → Nat → Nat × Nat
  | 0, m, p => (m, p)
  | f + 1, m, p => if p < n ∧ 48 ≤ b p ∧ b p ≤ 57 then dg_s b n f (10 * m + b p - 48) (p + 1) else (m, p)
def cm_ (s : Nat) (v : Int64) (m : Nat) : Bool := if s = 60 then decide (v < lN m) else if s = 61 then decide (v = lN m) else decide (lN m < v)
/-- an asking from p on (p bears no blank): its worth, and where the reading stands -/
def tk_ (b : Nat → Nat) (n : Nat) (val : Nat → Int64) (p : Nat) : Option Bool × Nat := match lt_ (pc_ b n p) with
  | none => (none, p)
  | some v =>
    let p1 := sp_ b n (p + 1)
    let s := pc_ b n p1
    if 60 ≤ s ∧ s ≤ 62 then
      let p2 := sp_ b n (p1 + 1)
      if 48 ≤ pc_ b n p2 ∧ pc_ b n p2 ≤ 57 then
        (some (cm_ s (val v) (dg_s b n 5 0 p2).1), (dg_s b n 5 0 p2).2)
      else (none, p2)
    else (none, p1)
theorem pc_lt {b : Nat → Nat} {n i : Nat} (h : ∀ i, i < n → b i < 256) : pc_ b n i < 256 := by
  unfold pc_
  split
  · exact h _ (by assumption)
  · decide
theorem pc_in {b : Nat → Nat} {n i : Nat} (h : pc_ b n i ≠ 0) : i < n := by
  unfold pc_ at h
  split at h
  · assumption
  · exact absurd rfl h
theorem lt_n {c v : Nat} (h : lt_ c = some v) : c ≠ 0 ∧ v < 5 := by
  unfold lt_ at h
  split at h
  · cases h; exact ⟨by omega, by decide⟩
  · split at h
    · cases h; exact ⟨by omega, by decide⟩
    · split at h
      · cases h; exact ⟨by omega, by decide⟩
      · split at h
        · cases h; exact ⟨by omega, by decide⟩
        · split at h
          · cases h; exact ⟨by omega, by decide⟩
          · cases h
theorem dg_b {b : Nat → Nat} {n : Nat} : ∀ (f m p : Nat), p ≤ n → (dg_s b n f m p).2 ≤ n ∧ p ≤ (dg_s b n f m p).2
  | 0, m, p, h => ⟨h, Nat.le_refl _⟩
  | f + 1, m, p, h => by
    rw [dg_s]
    split
    · rename_i q
      have := dg_b (b := b) (n := n) f (10 * m + b p - 48) (p + 1) (by omega)
      exact ⟨this.1, by omega⟩
    · exact ⟨h, Nat.le_refl _⟩
theorem rq_pT {I I2 : xv_I} {a : Nat} {ops : List Nat} {t : Bool} {trs : List Bool} {v : Int32} (hv : v = xb t) (h : rq I I2 a ops trs) : rq I (xv_ui (xv_ui I2 97 trs.length v) 40 46 (nI (trs.length + 1))) a ops (t :: trs) := by
  refine ⟨fun b h1 h2 h3 => ?_, fun j h1 h2 h3 => ?_, ?_, ?_, ?_, ?_, ⟨?_, ?_⟩⟩
  · rw [xv_ui_ne h1, xv_ui_ne h3]; exact h.1 b h1 h2 h3
  · rw [xv_ui_o h3, xv_ui_ne (by decide)]; exact h.2.1 j h1 h2 h3
  · rw [xv_ui_o (by decide), xv_ui_ne (by decide)]; exact h.2.2.1
  · rw [xv_ui_o (by decide), xv_ui_ne (by decide)]; exact h.2.2.2.1
  · rw [xv_ui_s]; rfl
  · rw [xv_ui_ne (by decide), xv_ui_ne (by decide)]; exact h.2.2.2.2.2.1
  · rw [xv_ui_ne (by decide), xv_ui_s]; exact hv
  · rw [xv_ui_ne (by decide)]
    exact rp_cg (fun i hi => xv_ui_o (by omega)) h.2.2.2.2.2.2
theorem s11_ta_d {l : Launch} {D : va_G} {d : Nat} {G : xv_Gr} {I : xv_I} {J : xv_J} {Q : xv_Po} (hG : xg_ok G) {t n : Nat} {b : Nat → Nat} (ht4 : t < 4) (hn6 : n ≤ 60) (hln : I 91 t = nI n) (hby : ∀ i, i < n → I 92 (60 * t + i) = nI (b i) ∧ b i < 256 ∧ b i ≠ 0) {ops : List Nat} {trs : List Bool} {v s : Int32} : ∀ (f mm p k : Nat) (I2 : xv_I), k + f = 5 → p ≤ n → rq I I2 p ops trs → (∀ I3 k, rq I I3 (dg_s b n f mm p).2 ops trs → xv_Ev l D (d + 1) mX11_takeAsking none 172 [some (.ref 40), some (.int (nI t)), some (.int v), some (.int s), some (.int (nI (dg_s b n f mm p).1)), some (.int (nI k))] [] G I3 J 0 0 Q) → xv_Ev l D (d + 1) mX11_takeAsking none 85 [some (.ref 40), some (.int (nI t)), some (.int v), some (.int s), some (.int (nI mm)), some (.int (nI k))] [] G I2 J 0 0 Q := by
  intro f
  induction f with
  | zero =>
    intro mm p k I2 hk hp hq kk
    refine xv_iload dX11_takeAsking_85 rfl ?_
    refine xv_iconst (v := nI 5) dX11_takeAsking_87 rfl ?_
    refine xv_icmp_geN (tgt := 172) dX11_takeAsking_88 rfl (by omega) (by omega) (fun c_88 => ?_) (fun c_88 => absurd c_88 (by omega))
    rw [dg_s] at kk
    exact kk I2 k hq
  | succ f ih =>
    intro mm p k I2 hk hp hq kk
    by_cases hlt : p < n
    · have hbp := (hby p hlt).2.1
      have hnp := nI_toInt (n := b p) (by omega)
      by_cases hdg : p < n ∧ 48 ≤ b p ∧ b p ≤ 57
      · have hd2 : (48 : Int32) ≤ nI (b p) ∧ nI (b p) ≤ 57 := by
          simp only [xn_le, hnp, Int32.reduceToInt]
          omega
        refine xv_iload dX11_takeAsking_85 rfl ?_
        refine xv_iconst (v := nI 5) dX11_takeAsking_87 rfl ?_
        refine xv_icmp_geN (tgt := 172) dX11_takeAsking_88 rfl (by omega) (by omega) (fun c_88 => absurd c_88 (by omega)) (fun c_88 => ?_)
        refine xv_aload_n dX11_takeAsking_91 rfl rfl ?_
        refine xv_geti dX11_takeAsking_92 fl_X11_286 (go_40 hG) rfl ?_
        refine xv_nmI hq.2.2.1 ?_
        refine xv_aload_n dX11_takeAsking_95 rfl rfl ?_
        refine xv_getr dX11_takeAsking_96 fl_X11_109 (go_40 hG) rfl (gr_40_41 hG) ?_
        refine xv_iload_n dX11_takeAsking_99 rfl rfl ?_
        refine xv_iaload dX11_takeAsking_100 (go_91 hG) (xv_ixn (by omega) (by decide)) ?_
        refine xv_nmI ((congrFun (hq.1 91 (by decide) (by decide) (by decide)) t).trans hln) ?_
        refine xv_icmp_geN (tgt := 172) dX11_takeAsking_101 rfl (by omega) (by omega) (fun c_101 => absurd c_101 (by omega)) (fun c_101 => ?_)
        refine xv_aload_n dX11_takeAsking_104 rfl rfl ?_
        refine xv_getr dX11_takeAsking_105 fl_X11_112 (go_40 hG) rfl (gr_40_42 hG) ?_
        refine xv_bipush (v := nI 60) dX11_takeAsking_108 rfl ?_
        refine xv_iload_n dX11_takeAsking_110 rfl rfl ?_
        refine xv_imul dX11_takeAsking_111 ?_
        refine xv_nmI (pk_mul _ _) ?_
        refine xv_aload_n dX11_takeAsking_112 rfl rfl ?_
        refine xv_geti dX11_takeAsking_113 fl_X11_286 (go_40 hG) rfl ?_
        refine xv_nmI hq.2.2.1 ?_
        refine xv_iadd dX11_takeAsking_116 ?_
        refine xv_nmI (nI_add _ _) ?_
        refine xv_iaload dX11_takeAsking_117 (go_92 hG) (xv_ixn (by omega) (by decide)) ?_
        refine xv_nmI ((congrFun (hq.1 92 (by decide) (by decide) (by decide)) _).trans (hby p (by omega)).1) ?_
        refine xv_i2l dX11_takeAsking_118 ?_
        refine xv_ldc2 dX11_takeAsking_119 ld_X11_297 ?_
        refine xv_ldc2 dX11_takeAsking_122 ld_X11_299 ?_
        refine xv_callS0 (As := [_, _, _]) dX11_takeAsking_125 cl_X11_126 rfl rfl rfl rfl (Nat.le_of_ble_eq_true rfl) (Nat.le_of_ble_eq_true rfl) (Nat.zero_le _) (Nat.zero_le _) ?_
        refine s11_in (v := nI (b p)) (a := 48) (b := 57) rfl rfl ?_
        refine xv_if_eqD (tgt := 172) dX11_takeAsking_128 rfl (fun c_128 => absurd hd2 c_128) (fun c_128 => ?_)
        refine xv_bipush (v := nI 10) dX11_takeAsking_131 rfl ?_
        refine xv_iload dX11_takeAsking_133 rfl ?_
        refine xv_imul dX11_takeAsking_135 ?_
        refine xv_nmI (pk_mul _ _) ?_
        refine xv_aload_n dX11_takeAsking_136 rfl rfl ?_
        refine xv_getr dX11_takeAsking_137 fl_X11_112 (go_40 hG) rfl (gr_40_42 hG) ?_
        refine xv_bipush (v := nI 60) dX11_takeAsking_140 rfl ?_
        refine xv_iload_n dX11_takeAsking_142 rfl rfl ?_
        refine xv_imul dX11_takeAsking_143 ?_
        refine xv_nmI (pk_mul _ _) ?_
        refine xv_aload_n dX11_takeAsking_144 rfl rfl ?_
        refine xv_geti dX11_takeAsking_145 fl_X11_286 (go_40 hG) rfl ?_
        refine xv_nmI hq.2.2.1 ?_
        refine xv_iadd dX11_takeAsking_148 ?_
        refine xv_nmI (nI_add _ _) ?_
        refine xv_iaload dX11_takeAsking_149 (go_92 hG) (xv_ixn (by omega) (by decide)) ?_
        refine xv_nmI ((congrFun (hq.1 92 (by decide) (by decide) (by decide)) _).trans (hby p (by omega)).1) ?_
        refine xv_iadd dX11_takeAsking_150 ?_
        refine xv_nmI (nI_add _ _) ?_
        refine xv_bipush (v := nI 48) dX11_takeAsking_151 rfl ?_
        refine xv_isub dX11_takeAsking_153 ?_
        refine xv_nmI (pk_sub (by omega)) ?_
        refine xv_istore dX11_takeAsking_154 (Nat.le_of_ble_eq_true rfl) rfl ?_
        refine xv_aload_n dX11_takeAsking_156 rfl rfl ?_
        refine xv_dup dX11_takeAsking_157 rfl ?_
        refine xv_geti dX11_takeAsking_158 fl_X11_286 (go_40 hG) rfl ?_
        refine xv_nmI hq.2.2.1 ?_
        refine xv_iconst (v := nI 1) dX11_takeAsking_161 rfl ?_
        refine xv_iadd dX11_takeAsking_162 ?_
        refine xv_nmI (nI_add _ _) ?_
        refine xv_puti dX11_takeAsking_163 fl_X11_286 (go_40 hG) rfl rfl rfl ?_
        refine xv_iinc dX11_takeAsking_166 rfl (xv_inc _) (Nat.le_of_ble_eq_true rfl) rfl ?_
        refine xv_goto (tgt := 85) dX11_takeAsking_169 rfl ?_
        rw [dg_s, if_pos hdg] at kk
        exact ih (10 * mm + b p - 48) (p + 1) (k + 1) _ (by omega) (by omega) (rq_at hq) kk
      · have hd2 : ¬ ((48 : Int32) ≤ nI (b p) ∧ nI (b p) ≤ 57) := by
          simp only [xn_le, hnp, Int32.reduceToInt]
          omega
        refine xv_iload dX11_takeAsking_85 rfl ?_
        refine xv_iconst (v := nI 5) dX11_takeAsking_87 rfl ?_
        refine xv_icmp_geN (tgt := 172) dX11_takeAsking_88 rfl (by omega) (by omega) (fun c_88 => absurd c_88 (by omega)) (fun c_88 => ?_)
        refine xv_aload_n dX11_takeAsking_91 rfl rfl ?_
        refine xv_geti dX11_takeAsking_92 fl_X11_286 (go_40 hG) rfl ?_
        refine xv_nmI hq.2.2.1 ?_
        refine xv_aload_n dX11_takeAsking_95 rfl rfl ?_
        refine xv_getr dX11_takeAsking_96 fl_X11_109 (go_40 hG) rfl (gr_40_41 hG) ?_
        refine xv_iload_n dX11_takeAsking_99 rfl rfl ?_
        refine xv_iaload dX11_takeAsking_100 (go_91 hG) (xv_ixn (by omega) (by decide)) ?_
        refine xv_nmI ((congrFun (hq.1 91 (by decide) (by decide) (by decide)) t).trans hln) ?_
        refine xv_icmp_geN (tgt := 172) dX11_takeAsking_101 rfl (by omega) (by omega) (fun c_101 => absurd c_101 (by omega)) (fun c_101 => ?_)
        refine xv_aload_n dX11_takeAsking_104 rfl rfl ?_
        refine xv_getr dX11_takeAsking_105 fl_X11_112 (go_40 hG) rfl (gr_40_42 hG) ?_
        refine xv_bipush (v := nI 60) dX11_takeAsking_108 rfl ?_
        refine xv_iload_n dX11_takeAsking_110 rfl rfl ?_
        refine xv_imul dX11_takeAsking_111 ?_
        refine xv_nmI (pk_mul _ _) ?_
        refine xv_aload_n dX11_takeAsking_112 rfl rfl ?_
        refine xv_geti dX11_takeAsking_113 fl_X11_286 (go_40 hG) rfl ?_
        refine xv_nmI hq.2.2.1 ?_
        refine xv_iadd dX11_takeAsking_116 ?_
        refine xv_nmI (nI_add _ _) ?_
        refine xv_iaload dX11_takeAsking_117 (go_92 hG) (xv_ixn (by omega) (by decide)) ?_
        refine xv_nmI ((congrFun (hq.1 92 (by decide) (by decide) (by decide)) _).trans (hby p (by omega)).1) ?_
        refine xv_i2l dX11_takeAsking_118 ?_
        refine xv_ldc2 dX11_takeAsking_119 ld_X11_297 ?_
        refine xv_ldc2 dX11_takeAsking_122 ld_X11_299 ?_
        refine xv_callS0 (As := [_, _, _]) dX11_takeAsking_125 cl_X11_126 rfl rfl rfl rfl (Nat.le_of_ble_eq_true rfl) (Nat.le_of_ble_eq_true rfl) (Nat.zero_le _) (Nat.zero_le _) ?_
        refine s11_in (v := nI (b p)) (a := 48) (b := 57) rfl rfl ?_
        refine xv_if_eqD (tgt := 172) dX11_takeAsking_128 rfl (fun c_128 => ?_) (fun c_128 => absurd c_128 hd2)
        rw [dg_s, if_neg hdg] at kk
        exact kk I2 k hq
    · have hdg : ¬ (p < n ∧ 48 ≤ b p ∧ b p ≤ 57) := fun z => hlt z.1
      refine xv_iload dX11_takeAsking_85 rfl ?_
      refine xv_iconst (v := nI 5) dX11_takeAsking_87 rfl ?_
      refine xv_icmp_geN (tgt := 172) dX11_takeAsking_88 rfl (by omega) (by omega) (fun c_88 => absurd c_88 (by omega)) (fun c_88 => ?_)
      refine xv_aload_n dX11_takeAsking_91 rfl rfl ?_
      refine xv_geti dX11_takeAsking_92 fl_X11_286 (go_40 hG) rfl ?_
      refine xv_nmI hq.2.2.1 ?_
      refine xv_aload_n dX11_takeAsking_95 rfl rfl ?_
      refine xv_getr dX11_takeAsking_96 fl_X11_109 (go_40 hG) rfl (gr_40_41 hG) ?_
      refine xv_iload_n dX11_takeAsking_99 rfl rfl ?_
      refine xv_iaload dX11_takeAsking_100 (go_91 hG) (xv_ixn (by omega) (by decide)) ?_
      refine xv_nmI ((congrFun (hq.1 91 (by decide) (by decide) (by decide)) t).trans hln) ?_
      refine xv_icmp_geN (tgt := 172) dX11_takeAsking_101 rfl (by omega) (by omega) (fun c_101 => ?_) (fun c_101 => absurd c_101 (by omega))
      rw [dg_s, if_neg hdg] at kk
      exact kk I2 k hq

theorem dg_m {b : Nat → Nat} {n : Nat} : ∀ (f m p : Nat), (dg_s b n f m p).1 + 1 ≤ (m + 1) * 10 ^ f
  | 0, m, p => by rw [dg_s, Nat.pow_zero, Nat.mul_one]; exact Nat.le_refl _
  | f + 1, m, p => by
    rw [dg_s]
    split
    · rename_i q
      have h := dg_m (b := b) (n := n) f (10 * m + b p - 48) (p + 1)
      refine Nat.le_trans h ?_
      rw [Nat.pow_succ, Nat.mul_comm (10 ^ f) 10, ← Nat.mul_assoc]
      exact Nat.mul_le_mul_right _ (by omega)
    · have : 1 ≤ 10 ^ (f + 1) := Nat.one_le_pow _ _ (by decide)
      exact Nat.le_mul_of_pos_right _ this
theorem cm_c (x : Int64) (m : Nat) (s : Nat) : (s = 60 → (cm_ s x m = true ↔ lg_cmp x (lN m) < 0)) ∧ (s = 61 → (cm_ s x m = true ↔ lg_cmp x (lN m) = 0)) ∧ (s = 62 → (cm_ s x m = true ↔ 0 < lg_cmp x (lN m))) := by
  refine ⟨fun e => ?_, fun e => ?_, fun e => ?_⟩ <;> subst e <;> unfold cm_
  · rw [if_pos rfl, decide_eq_true_iff, xn_cmp_lt]
  · rw [if_neg (by decide), if_pos rfl, decide_eq_true_iff, xn_cmp_eq]
  · rw [if_neg (by decide), if_neg (by decide), decide_eq_true_iff, xn_cmp_gt]
theorem xb_e {b : Bool} {P : Prop} (h : b = true ↔ P) : (P → (1 : Int32) = xb b) ∧ (¬ P → (0 : Int32) = xb b) := by
  cases b with
  | true => exact ⟨fun _ => rfl, fun q => absurd (h.mp rfl) q⟩
  | false => exact ⟨fun q => absurd (h.mpr q) (by decide), fun _ => rfl⟩
theorem s11_takeAsking {l : Launch} {D : va_G} {d : Nat} {G : xv_Gr} {I : xv_I} {J : xv_J} {Q : xv_Po} (hG : xg_ok G) {t n : Nat} {b : Nat → Nat} (ht4 : t < 4) (hn6 : n ≤ 60) (hln : I 91 t = nI n) (hby : ∀ i, i < n → I 92 (60 * t + i) = nI (b i) ∧ b i < 256 ∧ b i ≠ 0) {val : Nat → Int64} (hval : ∀ v, v < 5 → J 98 v = val v) {I2 : xv_I} {at_ : Nat} {ops : List Nat} {trs : List Bool} (hat : at_ ≤ n) (hq : rq I I2 at_ ops trs) (hr6 : trs.length < 64) (hsp : sp_ b n at_ = at_) (hF : ∀ I3, rq I I3 (tk_ b n val at_).2 ops trs → (tk_ b n val at_).1 = none → Q (some (.int 0)) G I3 J) (hY : ∀ I3 w, rq I I3 (tk_ b n val at_).2 ops (w :: trs) → (tk_ b n val at_).1 = some w → Q (some (.int 1)) G I3 J) : xv_Ev l D (d + 1) mX11_takeAsking none 0 [some (.ref 40), some (.int (nI t)), none, none, none, none] [] G I2 J 0 0 Q := by
  have hb8 : ∀ i, i < n → b i < 256 := fun i hi => (hby i hi).2.1
  have c0 := pc_lt (i := at_) hb8
  have hp1 : at_ < n → (sp_ b n (at_ + 1)) ≤ n := fun h => sp_le (by omega)
  cases hl : lt_ (pc_ b n at_) with
  | none =>
    have hT : (tk_ b n val at_) = (none, at_) := by rw [tk_, hl]
    refine xv_aload_n dX11_takeAsking_0 rfl rfl ?_
    refine xv_iload_n dX11_takeAsking_1 rfl rfl ?_
    refine xv_callV0 (As := [_]) dX11_takeAsking_2 cl_X11_289 rfl rfl rfl rfl (go_40 hG) rfl rfl (Nat.le_of_ble_eq_true rfl) (Nat.le_of_ble_eq_true rfl) (Nat.zero_le _) (Nat.zero_le _) ?_
    refine s11_peek (d := d) hG ht4 hn6 hln hby (at_ := at_) hq (by omega) (fun I3 hq3 => ?_)
    · rw [hsp] at hq3 ⊢
      refine xv_callS0 (As := [_]) dX11_takeAsking_5 cl_X11_292 rfl rfl rfl rfl (Nat.le_of_ble_eq_true rfl) (Nat.le_of_ble_eq_true rfl) (Nat.zero_le _) (Nat.zero_le _) ?_
      refine s11_letterValue c0 (?_)
      · rw [hl]
        show xv_Ev l D (d + 1) mX11_takeAsking none 8 [some (.ref 40), some (.int (nI t)), none, none, none, none] [.int (-900009)] G I3 J 0 0 Q
        refine xv_istore_n dX11_takeAsking_8 rfl (Nat.le_of_ble_eq_true rfl) rfl ?_
        refine xv_iload_n dX11_takeAsking_9 rfl rfl ?_
        refine xv_ldc dX11_takeAsking_10 ld_X11_152 ?_
        refine xv_icmp_ne (tgt := 17) dX11_takeAsking_12 rfl (fun c_12 => absurd rfl c_12) (fun c_12 => ?_)
        refine xv_iconst (v := 0) dX11_takeAsking_15 rfl ?_
        refine xv_zret dX11_takeAsking_16 rfl rfl (Nat.zero_le _) (Nat.zero_le _) ?_
        exact hF I3 (by rw [hT]; exact hq3) (by rw [hT])
  | some v =>
    have hv5 := (lt_n hl).2
    have hin := pc_in (lt_n hl).1
    have hp1 := hp1 hin
    have c1 := pc_lt (i := (sp_ b n (at_ + 1))) hb8
    have hn1 := nI_toInt (n := (pc_ b n (sp_ b n (at_ + 1)))) (by omega)
    by_cases hs0 : 60 ≤ (pc_ b n (sp_ b n (at_ + 1))) ∧ (pc_ b n (sp_ b n (at_ + 1))) ≤ 62
    · have hs1 : (60 : Int32) ≤ nI (pc_ b n (sp_ b n (at_ + 1))) ∧ nI (pc_ b n (sp_ b n (at_ + 1))) ≤ 62 := by
        simp only [xn_le, hn1, Int32.reduceToInt]
        omega
      have hin1 := pc_in (b := b) (n := n) (i := (sp_ b n (at_ + 1))) (by omega)
      have hp2 : (sp_ b n ((sp_ b n (at_ + 1)) + 1)) ≤ n := sp_le (by omega)
      have c2 := pc_lt (i := (sp_ b n ((sp_ b n (at_ + 1)) + 1))) hb8
      have hn2 := nI_toInt (n := pc_ b n (sp_ b n ((sp_ b n (at_ + 1)) + 1))) (by omega)
      by_cases hd0 : 48 ≤ pc_ b n (sp_ b n ((sp_ b n (at_ + 1)) + 1)) ∧ pc_ b n (sp_ b n ((sp_ b n (at_ + 1)) + 1)) ≤ 57
      · have hd1 : (48 : Int32) ≤ nI (pc_ b n (sp_ b n ((sp_ b n (at_ + 1)) + 1))) ∧ nI (pc_ b n (sp_ b n ((sp_ b n (at_ + 1)) + 1))) ≤ 57 := by
          simp only [xn_le, hn2, Int32.reduceToInt]
          omega
        have hT : (tk_ b n val at_) = (some (cm_ (pc_ b n (sp_ b n (at_ + 1))) (val v) (dg_s b n 5 0 (sp_ b n ((sp_ b n (at_ + 1)) + 1))).1), (dg_s b n 5 0 (sp_ b n ((sp_ b n (at_ + 1)) + 1))).2) := by rw [tk_, hl]; exact (if_pos hs0).trans (if_pos hd0)
        have hm1 := dg_m (b := b) (n := n) 5 0 (sp_ b n ((sp_ b n (at_ + 1)) + 1))
        have hm2 : (dg_s b n 5 0 (sp_ b n ((sp_ b n (at_ + 1)) + 1))).1 < 2 ^ 31 := by omega
        refine xv_aload_n dX11_takeAsking_0 rfl rfl ?_
        refine xv_iload_n dX11_takeAsking_1 rfl rfl ?_
        refine xv_callV0 (As := [_]) dX11_takeAsking_2 cl_X11_289 rfl rfl rfl rfl (go_40 hG) rfl rfl (Nat.le_of_ble_eq_true rfl) (Nat.le_of_ble_eq_true rfl) (Nat.zero_le _) (Nat.zero_le _) ?_
        refine s11_peek (d := d) hG ht4 hn6 hln hby (at_ := at_) hq (by omega) (fun I3 hq3 => ?_)
        · rw [hsp] at hq3 ⊢
          refine xv_callS0 (As := [_]) dX11_takeAsking_5 cl_X11_292 rfl rfl rfl rfl (Nat.le_of_ble_eq_true rfl) (Nat.le_of_ble_eq_true rfl) (Nat.zero_le _) (Nat.zero_le _) ?_
          refine s11_letterValue c0 (?_)
          · rw [hl]
            show xv_Ev l D (d + 1) mX11_takeAsking none 8 [some (.ref 40), some (.int (nI t)), none, none, none, none] [.int (nI v)] G I3 J 0 0 Q
            refine xv_istore_n dX11_takeAsking_8 rfl (Nat.le_of_ble_eq_true rfl) rfl ?_
            refine xv_iload_n dX11_takeAsking_9 rfl rfl ?_
            refine xv_ldc dX11_takeAsking_10 ld_X11_152 ?_
            refine xv_icmp_ne (tgt := 17) dX11_takeAsking_12 rfl (fun c_12 => ?_) (fun c_12 => absurd c_12 (nI_nNONE (by omega)))
            refine xv_aload_n dX11_takeAsking_17 rfl rfl ?_
            refine xv_dup dX11_takeAsking_18 rfl ?_
            refine xv_geti dX11_takeAsking_19 fl_X11_286 (go_40 hG) rfl ?_
            refine xv_nmI hq3.2.2.1 ?_
            refine xv_iconst (v := nI 1) dX11_takeAsking_22 rfl ?_
            refine xv_iadd dX11_takeAsking_23 ?_
            refine xv_nmI (nI_add _ _) ?_
            refine xv_puti dX11_takeAsking_24 fl_X11_286 (go_40 hG) rfl rfl rfl ?_
            refine xv_aload_n dX11_takeAsking_27 rfl rfl ?_
            refine xv_iload_n dX11_takeAsking_28 rfl rfl ?_
            refine xv_callV0 (As := [_]) dX11_takeAsking_29 cl_X11_289 rfl rfl rfl rfl (go_40 hG) rfl rfl (Nat.le_of_ble_eq_true rfl) (Nat.le_of_ble_eq_true rfl) (Nat.zero_le _) (Nat.zero_le _) ?_
            refine s11_peek (d := d) hG ht4 hn6 hln hby (at_ := at_ + 1) (rq_at hq3) (by omega) (fun I4 hq4 => ?_)
            · refine xv_istore_n dX11_takeAsking_32 rfl (Nat.le_of_ble_eq_true rfl) rfl ?_
              refine xv_iload_n dX11_takeAsking_33 rfl rfl ?_
              refine xv_i2l dX11_takeAsking_34 ?_
              refine xv_ldc2 dX11_takeAsking_35 ld_X11_261 ?_
              refine xv_ldc2 dX11_takeAsking_38 ld_X11_295 ?_
              refine xv_callS0 (As := [_, _, _]) dX11_takeAsking_41 cl_X11_126 rfl rfl rfl rfl (Nat.le_of_ble_eq_true rfl) (Nat.le_of_ble_eq_true rfl) (Nat.zero_le _) (Nat.zero_le _) ?_
              refine s11_in (v := nI (pc_ b n (sp_ b n (at_ + 1)))) (a := 60) (b := 62) rfl rfl ?_
              refine xv_if_neD (tgt := 49) dX11_takeAsking_44 rfl (fun c_44 => ?_) (fun c_44 => absurd hs1 c_44)
              refine xv_aload_n dX11_takeAsking_49 rfl rfl ?_
              refine xv_dup dX11_takeAsking_50 rfl ?_
              refine xv_geti dX11_takeAsking_51 fl_X11_286 (go_40 hG) rfl ?_
              refine xv_nmI hq4.2.2.1 ?_
              refine xv_iconst (v := nI 1) dX11_takeAsking_54 rfl ?_
              refine xv_iadd dX11_takeAsking_55 ?_
              refine xv_nmI (nI_add _ _) ?_
              refine xv_puti dX11_takeAsking_56 fl_X11_286 (go_40 hG) rfl rfl rfl ?_
              refine xv_aload_n dX11_takeAsking_59 rfl rfl ?_
              refine xv_iload_n dX11_takeAsking_60 rfl rfl ?_
              refine xv_callV0 (As := [_]) dX11_takeAsking_61 cl_X11_289 rfl rfl rfl rfl (go_40 hG) rfl rfl (Nat.le_of_ble_eq_true rfl) (Nat.le_of_ble_eq_true rfl) (Nat.zero_le _) (Nat.zero_le _) ?_
              refine s11_peek (d := d) hG ht4 hn6 hln hby (at_ := (sp_ b n (at_ + 1)) + 1) (rq_at hq4) (by omega) (fun I5 hq5 => ?_)
              · refine xv_i2l dX11_takeAsking_64 ?_
                refine xv_ldc2 dX11_takeAsking_65 ld_X11_297 ?_
                refine xv_ldc2 dX11_takeAsking_68 ld_X11_299 ?_
                refine xv_callS0 (As := [_, _, _]) dX11_takeAsking_71 cl_X11_126 rfl rfl rfl rfl (Nat.le_of_ble_eq_true rfl) (Nat.le_of_ble_eq_true rfl) (Nat.zero_le _) (Nat.zero_le _) ?_
                refine s11_in (v := nI (pc_ b n (sp_ b n ((sp_ b n (at_ + 1)) + 1)))) (a := 48) (b := 57) rfl rfl ?_
                refine xv_if_neD (tgt := 79) dX11_takeAsking_74 rfl (fun c_74 => ?_) (fun c_74 => absurd hd1 c_74)
                refine xv_iconst (v := nI 0) dX11_takeAsking_79 rfl ?_
                refine xv_istore dX11_takeAsking_80 (Nat.le_of_ble_eq_true rfl) rfl ?_
                refine xv_iconst (v := nI 0) dX11_takeAsking_82 rfl ?_
                refine xv_istore dX11_takeAsking_83 (Nat.le_of_ble_eq_true rfl) rfl ?_
                refine s11_ta_d (d := d) hG ht4 hn6 hln hby (v := nI v) (s := nI (pc_ b n (sp_ b n (at_ + 1)))) 5 0 (sp_ b n ((sp_ b n (at_ + 1)) + 1)) 0 I5 (by omega) hp2 hq5 (fun I6 k hq6 => ?_)
                refine xv_aload_n dX11_takeAsking_172 rfl rfl ?_
                refine xv_getr dX11_takeAsking_173 fl_X11_118 (go_40 hG) rfl (gr_40_47 hG) ?_
                refine xv_aload_n dX11_takeAsking_176 rfl rfl ?_
                refine xv_geti dX11_takeAsking_177 fl_X11_301 (go_40 hG) rfl ?_
                refine xv_nmI hq6.2.2.2.2.1 ?_
                refine xv_iload_n dX11_takeAsking_180 rfl rfl ?_
                refine xv_bipush (v := nI 60) dX11_takeAsking_181 rfl ?_
                refine xv_icmp_neN (tgt := 207) dX11_takeAsking_183 rfl (by omega) (by omega) (fun c_183 => ?_) (fun c_183 => ?_)
                · refine xv_iload_n dX11_takeAsking_207 rfl rfl ?_
                  refine xv_bipush (v := nI 61) dX11_takeAsking_208 rfl ?_
                  refine xv_icmp_neN (tgt := 234) dX11_takeAsking_210 rfl (by omega) (by omega) (fun c_210 => ?_) (fun c_210 => ?_)
                  · refine xv_aload_n dX11_takeAsking_234 rfl rfl ?_
                    refine xv_getr dX11_takeAsking_235 fl_X11_121 (go_40 hG) rfl (gr_40_48 hG) ?_
                    refine xv_iload_n dX11_takeAsking_238 rfl rfl ?_
                    refine xv_laload dX11_takeAsking_239 (go_98 hG) (xv_ixn (by omega) (by decide)) ?_
                    refine xv_nmJ (hval v hv5) ?_
                    refine xv_iload dX11_takeAsking_240 rfl ?_
                    refine xv_i2l dX11_takeAsking_242 ?_
                    refine xv_nmJ (xl_i hm2) ?_
                    refine xv_lcmp dX11_takeAsking_243 ?_
                    refine xv_if_le (tgt := 251) dX11_takeAsking_244 rfl (fun c_244 => ?_) (fun c_244 => ?_)
                    · refine xv_iconst (v := 0) dX11_takeAsking_251 rfl ?_
                      refine xv_zastore dX11_takeAsking_252 (go_97 hG) (xv_ixn (by omega) (by decide)) rfl ?_
                      refine xv_aload_n dX11_takeAsking_253 rfl rfl ?_
                      refine xv_dup dX11_takeAsking_254 rfl ?_
                      refine xv_geti dX11_takeAsking_255 fl_X11_301 (go_40 hG) rfl ?_
                      refine xv_nmI ((congrFun (xv_ui_ne (by decide)) 46).trans hq6.2.2.2.2.1) ?_
                      refine xv_iconst (v := nI 1) dX11_takeAsking_258 rfl ?_
                      refine xv_iadd dX11_takeAsking_259 ?_
                      refine xv_nmI (nI_add _ _) ?_
                      refine xv_puti dX11_takeAsking_260 fl_X11_301 (go_40 hG) rfl rfl rfl ?_
                      refine xv_iconst (v := 1) dX11_takeAsking_263 rfl ?_
                      refine xv_zret dX11_takeAsking_264 rfl rfl (Nat.zero_le _) (Nat.zero_le _) ?_
                      have hx := (xb_e ((cm_c (val v) (dg_s b n 5 0 (sp_ b n ((sp_ b n (at_ + 1)) + 1))).1 (pc_ b n (sp_ b n (at_ + 1)))).2.2 (by omega))).2 (fun z => absurd z (by simp only [xn_lt, xn_le] at c_244 ⊢; omega))
                      refine hY _ _ ?_ (by rw [hT])
                      rw [hT]
                      exact rq_pT hx hq6
                    · refine xv_iconst (v := 1) dX11_takeAsking_247 rfl ?_
                      refine xv_goto (tgt := 252) dX11_takeAsking_248 rfl ?_
                      refine xv_zastore dX11_takeAsking_252 (go_97 hG) (xv_ixn (by omega) (by decide)) rfl ?_
                      refine xv_aload_n dX11_takeAsking_253 rfl rfl ?_
                      refine xv_dup dX11_takeAsking_254 rfl ?_
                      refine xv_geti dX11_takeAsking_255 fl_X11_301 (go_40 hG) rfl ?_
                      refine xv_nmI ((congrFun (xv_ui_ne (by decide)) 46).trans hq6.2.2.2.2.1) ?_
                      refine xv_iconst (v := nI 1) dX11_takeAsking_258 rfl ?_
                      refine xv_iadd dX11_takeAsking_259 ?_
                      refine xv_nmI (nI_add _ _) ?_
                      refine xv_puti dX11_takeAsking_260 fl_X11_301 (go_40 hG) rfl rfl rfl ?_
                      refine xv_iconst (v := 1) dX11_takeAsking_263 rfl ?_
                      refine xv_zret dX11_takeAsking_264 rfl rfl (Nat.zero_le _) (Nat.zero_le _) ?_
                      have hx := (xb_e ((cm_c (val v) (dg_s b n 5 0 (sp_ b n ((sp_ b n (at_ + 1)) + 1))).1 (pc_ b n (sp_ b n (at_ + 1)))).2.2 (by omega))).1 (by simp only [xn_lt, xn_le] at c_244 ⊢; omega)
                      refine hY _ _ ?_ (by rw [hT])
                      rw [hT]
                      exact rq_pT hx hq6
                  · refine xv_aload_n dX11_takeAsking_213 rfl rfl ?_
                    refine xv_getr dX11_takeAsking_214 fl_X11_121 (go_40 hG) rfl (gr_40_48 hG) ?_
                    refine xv_iload_n dX11_takeAsking_217 rfl rfl ?_
                    refine xv_laload dX11_takeAsking_218 (go_98 hG) (xv_ixn (by omega) (by decide)) ?_
                    refine xv_nmJ (hval v hv5) ?_
                    refine xv_iload dX11_takeAsking_219 rfl ?_
                    refine xv_i2l dX11_takeAsking_221 ?_
                    refine xv_nmJ (xl_i hm2) ?_
                    refine xv_lcmp dX11_takeAsking_222 ?_
                    refine xv_if_ne (tgt := 230) dX11_takeAsking_223 rfl (fun c_223 => ?_) (fun c_223 => ?_)
                    · refine xv_iconst (v := 0) dX11_takeAsking_230 rfl ?_
                      refine xv_goto (tgt := 252) dX11_takeAsking_231 rfl ?_
                      refine xv_zastore dX11_takeAsking_252 (go_97 hG) (xv_ixn (by omega) (by decide)) rfl ?_
                      refine xv_aload_n dX11_takeAsking_253 rfl rfl ?_
                      refine xv_dup dX11_takeAsking_254 rfl ?_
                      refine xv_geti dX11_takeAsking_255 fl_X11_301 (go_40 hG) rfl ?_
                      refine xv_nmI ((congrFun (xv_ui_ne (by decide)) 46).trans hq6.2.2.2.2.1) ?_
                      refine xv_iconst (v := nI 1) dX11_takeAsking_258 rfl ?_
                      refine xv_iadd dX11_takeAsking_259 ?_
                      refine xv_nmI (nI_add _ _) ?_
                      refine xv_puti dX11_takeAsking_260 fl_X11_301 (go_40 hG) rfl rfl rfl ?_
                      refine xv_iconst (v := 1) dX11_takeAsking_263 rfl ?_
                      refine xv_zret dX11_takeAsking_264 rfl rfl (Nat.zero_le _) (Nat.zero_le _) ?_
                      have hx := (xb_e ((cm_c (val v) (dg_s b n 5 0 (sp_ b n ((sp_ b n (at_ + 1)) + 1))).1 (pc_ b n (sp_ b n (at_ + 1)))).2.1 c_210)).2 c_223
                      refine hY _ _ ?_ (by rw [hT])
                      rw [hT]
                      exact rq_pT hx hq6
                    · refine xv_iconst (v := 1) dX11_takeAsking_226 rfl ?_
                      refine xv_goto (tgt := 252) dX11_takeAsking_227 rfl ?_
                      refine xv_zastore dX11_takeAsking_252 (go_97 hG) (xv_ixn (by omega) (by decide)) rfl ?_
                      refine xv_aload_n dX11_takeAsking_253 rfl rfl ?_
                      refine xv_dup dX11_takeAsking_254 rfl ?_
                      refine xv_geti dX11_takeAsking_255 fl_X11_301 (go_40 hG) rfl ?_
                      refine xv_nmI ((congrFun (xv_ui_ne (by decide)) 46).trans hq6.2.2.2.2.1) ?_
                      refine xv_iconst (v := nI 1) dX11_takeAsking_258 rfl ?_
                      refine xv_iadd dX11_takeAsking_259 ?_
                      refine xv_nmI (nI_add _ _) ?_
                      refine xv_puti dX11_takeAsking_260 fl_X11_301 (go_40 hG) rfl rfl rfl ?_
                      refine xv_iconst (v := 1) dX11_takeAsking_263 rfl ?_
                      refine xv_zret dX11_takeAsking_264 rfl rfl (Nat.zero_le _) (Nat.zero_le _) ?_
                      have hx := (xb_e ((cm_c (val v) (dg_s b n 5 0 (sp_ b n ((sp_ b n (at_ + 1)) + 1))).1 (pc_ b n (sp_ b n (at_ + 1)))).2.1 c_210)).1 c_223
                      refine hY _ _ ?_ (by rw [hT])
                      rw [hT]
                      exact rq_pT hx hq6
                · refine xv_aload_n dX11_takeAsking_186 rfl rfl ?_
                  refine xv_getr dX11_takeAsking_187 fl_X11_121 (go_40 hG) rfl (gr_40_48 hG) ?_
                  refine xv_iload_n dX11_takeAsking_190 rfl rfl ?_
                  refine xv_laload dX11_takeAsking_191 (go_98 hG) (xv_ixn (by omega) (by decide)) ?_
                  refine xv_nmJ (hval v hv5) ?_
                  refine xv_iload dX11_takeAsking_192 rfl ?_
                  refine xv_i2l dX11_takeAsking_194 ?_
                  refine xv_nmJ (xl_i hm2) ?_
                  refine xv_lcmp dX11_takeAsking_195 ?_
                  refine xv_if_ge (tgt := 203) dX11_takeAsking_196 rfl (fun c_196 => ?_) (fun c_196 => ?_)
                  · refine xv_iconst (v := 0) dX11_takeAsking_203 rfl ?_
                    refine xv_goto (tgt := 252) dX11_takeAsking_204 rfl ?_
                    refine xv_zastore dX11_takeAsking_252 (go_97 hG) (xv_ixn (by omega) (by decide)) rfl ?_
                    refine xv_aload_n dX11_takeAsking_253 rfl rfl ?_
                    refine xv_dup dX11_takeAsking_254 rfl ?_
                    refine xv_geti dX11_takeAsking_255 fl_X11_301 (go_40 hG) rfl ?_
                    refine xv_nmI ((congrFun (xv_ui_ne (by decide)) 46).trans hq6.2.2.2.2.1) ?_
                    refine xv_iconst (v := nI 1) dX11_takeAsking_258 rfl ?_
                    refine xv_iadd dX11_takeAsking_259 ?_
                    refine xv_nmI (nI_add _ _) ?_
                    refine xv_puti dX11_takeAsking_260 fl_X11_301 (go_40 hG) rfl rfl rfl ?_
                    refine xv_iconst (v := 1) dX11_takeAsking_263 rfl ?_
                    refine xv_zret dX11_takeAsking_264 rfl rfl (Nat.zero_le _) (Nat.zero_le _) ?_
                    have hx := (xb_e ((cm_c (val v) (dg_s b n 5 0 (sp_ b n ((sp_ b n (at_ + 1)) + 1))).1 (pc_ b n (sp_ b n (at_ + 1)))).1 c_183)).2 (fun z => absurd z (by simp only [xn_lt, xn_le] at c_196 ⊢; omega))
                    refine hY _ _ ?_ (by rw [hT])
                    rw [hT]
                    exact rq_pT hx hq6
                  · refine xv_iconst (v := 1) dX11_takeAsking_199 rfl ?_
                    refine xv_goto (tgt := 252) dX11_takeAsking_200 rfl ?_
                    refine xv_zastore dX11_takeAsking_252 (go_97 hG) (xv_ixn (by omega) (by decide)) rfl ?_
                    refine xv_aload_n dX11_takeAsking_253 rfl rfl ?_
                    refine xv_dup dX11_takeAsking_254 rfl ?_
                    refine xv_geti dX11_takeAsking_255 fl_X11_301 (go_40 hG) rfl ?_
                    refine xv_nmI ((congrFun (xv_ui_ne (by decide)) 46).trans hq6.2.2.2.2.1) ?_
                    refine xv_iconst (v := nI 1) dX11_takeAsking_258 rfl ?_
                    refine xv_iadd dX11_takeAsking_259 ?_
                    refine xv_nmI (nI_add _ _) ?_
                    refine xv_puti dX11_takeAsking_260 fl_X11_301 (go_40 hG) rfl rfl rfl ?_
                    refine xv_iconst (v := 1) dX11_takeAsking_263 rfl ?_
                    refine xv_zret dX11_takeAsking_264 rfl rfl (Nat.zero_le _) (Nat.zero_le _) ?_
                    have hx := (xb_e ((cm_c (val v) (dg_s b n 5 0 (sp_ b n ((sp_ b n (at_ + 1)) + 1))).1 (pc_ b n (sp_ b n (at_ + 1)))).1 c_183)).1 (by simp only [xn_lt, xn_le] at c_196 ⊢; omega)
                    refine hY _ _ ?_ (by rw [hT])
                    rw [hT]
                    exact rq_pT hx hq6
      · have hd1 : ¬ ((48 : Int32) ≤ nI (pc_ b n (sp_ b n ((sp_ b n (at_ + 1)) + 1))) ∧ nI (pc_ b n (sp_ b n ((sp_ b n (at_ + 1)) + 1))) ≤ 57) := by
          simp only [xn_le, hn2, Int32.reduceToInt]
          omega
        have hT : (tk_ b n val at_) = (none, (sp_ b n ((sp_ b n (at_ + 1)) + 1))) := by rw [tk_, hl]; exact (if_pos hs0).trans (if_neg hd0)
        refine xv_aload_n dX11_takeAsking_0 rfl rfl ?_
        refine xv_iload_n dX11_takeAsking_1 rfl rfl ?_
        refine xv_callV0 (As := [_]) dX11_takeAsking_2 cl_X11_289 rfl rfl rfl rfl (go_40 hG) rfl rfl (Nat.le_of_ble_eq_true rfl) (Nat.le_of_ble_eq_true rfl) (Nat.zero_le _) (Nat.zero_le _) ?_
        refine s11_peek (d := d) hG ht4 hn6 hln hby (at_ := at_) hq (by omega) (fun I3 hq3 => ?_)
        · rw [hsp] at hq3 ⊢
          refine xv_callS0 (As := [_]) dX11_takeAsking_5 cl_X11_292 rfl rfl rfl rfl (Nat.le_of_ble_eq_true rfl) (Nat.le_of_ble_eq_true rfl) (Nat.zero_le _) (Nat.zero_le _) ?_
          refine s11_letterValue c0 (?_)
          · rw [hl]
            show xv_Ev l D (d + 1) mX11_takeAsking none 8 [some (.ref 40), some (.int (nI t)), none, none, none, none] [.int (nI v)] G I3 J 0 0 Q
            refine xv_istore_n dX11_takeAsking_8 rfl (Nat.le_of_ble_eq_true rfl) rfl ?_
            refine xv_iload_n dX11_takeAsking_9 rfl rfl ?_
            refine xv_ldc dX11_takeAsking_10 ld_X11_152 ?_
            refine xv_icmp_ne (tgt := 17) dX11_takeAsking_12 rfl (fun c_12 => ?_) (fun c_12 => absurd c_12 (nI_nNONE (by omega)))
            refine xv_aload_n dX11_takeAsking_17 rfl rfl ?_
            refine xv_dup dX11_takeAsking_18 rfl ?_
            refine xv_geti dX11_takeAsking_19 fl_X11_286 (go_40 hG) rfl ?_
            refine xv_nmI hq3.2.2.1 ?_
            refine xv_iconst (v := nI 1) dX11_takeAsking_22 rfl ?_
            refine xv_iadd dX11_takeAsking_23 ?_
            refine xv_nmI (nI_add _ _) ?_
            refine xv_puti dX11_takeAsking_24 fl_X11_286 (go_40 hG) rfl rfl rfl ?_
            refine xv_aload_n dX11_takeAsking_27 rfl rfl ?_
            refine xv_iload_n dX11_takeAsking_28 rfl rfl ?_
            refine xv_callV0 (As := [_]) dX11_takeAsking_29 cl_X11_289 rfl rfl rfl rfl (go_40 hG) rfl rfl (Nat.le_of_ble_eq_true rfl) (Nat.le_of_ble_eq_true rfl) (Nat.zero_le _) (Nat.zero_le _) ?_
            refine s11_peek (d := d) hG ht4 hn6 hln hby (at_ := at_ + 1) (rq_at hq3) (by omega) (fun I4 hq4 => ?_)
            · refine xv_istore_n dX11_takeAsking_32 rfl (Nat.le_of_ble_eq_true rfl) rfl ?_
              refine xv_iload_n dX11_takeAsking_33 rfl rfl ?_
              refine xv_i2l dX11_takeAsking_34 ?_
              refine xv_ldc2 dX11_takeAsking_35 ld_X11_261 ?_
              refine xv_ldc2 dX11_takeAsking_38 ld_X11_295 ?_
              refine xv_callS0 (As := [_, _, _]) dX11_takeAsking_41 cl_X11_126 rfl rfl rfl rfl (Nat.le_of_ble_eq_true rfl) (Nat.le_of_ble_eq_true rfl) (Nat.zero_le _) (Nat.zero_le _) ?_
              refine s11_in (v := nI (pc_ b n (sp_ b n (at_ + 1)))) (a := 60) (b := 62) rfl rfl ?_
              refine xv_if_neD (tgt := 49) dX11_takeAsking_44 rfl (fun c_44 => ?_) (fun c_44 => absurd hs1 c_44)
              refine xv_aload_n dX11_takeAsking_49 rfl rfl ?_
              refine xv_dup dX11_takeAsking_50 rfl ?_
              refine xv_geti dX11_takeAsking_51 fl_X11_286 (go_40 hG) rfl ?_
              refine xv_nmI hq4.2.2.1 ?_
              refine xv_iconst (v := nI 1) dX11_takeAsking_54 rfl ?_
              refine xv_iadd dX11_takeAsking_55 ?_
              refine xv_nmI (nI_add _ _) ?_
              refine xv_puti dX11_takeAsking_56 fl_X11_286 (go_40 hG) rfl rfl rfl ?_
              refine xv_aload_n dX11_takeAsking_59 rfl rfl ?_
              refine xv_iload_n dX11_takeAsking_60 rfl rfl ?_
              refine xv_callV0 (As := [_]) dX11_takeAsking_61 cl_X11_289 rfl rfl rfl rfl (go_40 hG) rfl rfl (Nat.le_of_ble_eq_true rfl) (Nat.le_of_ble_eq_true rfl) (Nat.zero_le _) (Nat.zero_le _) ?_
              refine s11_peek (d := d) hG ht4 hn6 hln hby (at_ := (sp_ b n (at_ + 1)) + 1) (rq_at hq4) (by omega) (fun I5 hq5 => ?_)
              · refine xv_i2l dX11_takeAsking_64 ?_
                refine xv_ldc2 dX11_takeAsking_65 ld_X11_297 ?_
                refine xv_ldc2 dX11_takeAsking_68 ld_X11_299 ?_
                refine xv_callS0 (As := [_, _, _]) dX11_takeAsking_71 cl_X11_126 rfl rfl rfl rfl (Nat.le_of_ble_eq_true rfl) (Nat.le_of_ble_eq_true rfl) (Nat.zero_le _) (Nat.zero_le _) ?_
                refine s11_in (v := nI (pc_ b n (sp_ b n ((sp_ b n (at_ + 1)) + 1)))) (a := 48) (b := 57) rfl rfl ?_
                refine xv_if_neD (tgt := 79) dX11_takeAsking_74 rfl (fun c_74 => absurd c_74 hd1) (fun c_74 => ?_)
                refine xv_iconst (v := 0) dX11_takeAsking_77 rfl ?_
                refine xv_zret dX11_takeAsking_78 rfl rfl (Nat.zero_le _) (Nat.zero_le _) ?_
                exact hF I5 (by rw [hT]; exact hq5) (by rw [hT])
    · have hs1 : ¬ ((60 : Int32) ≤ nI (pc_ b n (sp_ b n (at_ + 1))) ∧ nI (pc_ b n (sp_ b n (at_ + 1))) ≤ 62) := by
        simp only [xn_le, hn1, Int32.reduceToInt]
        omega
      have hT : (tk_ b n val at_) = (none, (sp_ b n (at_ + 1))) := by rw [tk_, hl]; exact if_neg hs0
      refine xv_aload_n dX11_takeAsking_0 rfl rfl ?_
      refine xv_iload_n dX11_takeAsking_1 rfl rfl ?_
      refine xv_callV0 (As := [_]) dX11_takeAsking_2 cl_X11_289 rfl rfl rfl rfl (go_40 hG) rfl rfl (Nat.le_of_ble_eq_true rfl) (Nat.le_of_ble_eq_true rfl) (Nat.zero_le _) (Nat.zero_le _) ?_
      refine s11_peek (d := d) hG ht4 hn6 hln hby (at_ := at_) hq (by omega) (fun I3 hq3 => ?_)
      · rw [hsp] at hq3 ⊢
        refine xv_callS0 (As := [_]) dX11_takeAsking_5 cl_X11_292 rfl rfl rfl rfl (Nat.le_of_ble_eq_true rfl) (Nat.le_of_ble_eq_true rfl) (Nat.zero_le _) (Nat.zero_le _) ?_
        refine s11_letterValue c0 (?_)
        · rw [hl]
          show xv_Ev l D (d + 1) mX11_takeAsking none 8 [some (.ref 40), some (.int (nI t)), none, none, none, none] [.int (nI v)] G I3 J 0 0 Q
          refine xv_istore_n dX11_takeAsking_8 rfl (Nat.le_of_ble_eq_true rfl) rfl ?_
          refine xv_iload_n dX11_takeAsking_9 rfl rfl ?_
          refine xv_ldc dX11_takeAsking_10 ld_X11_152 ?_
          refine xv_icmp_ne (tgt := 17) dX11_takeAsking_12 rfl (fun c_12 => ?_) (fun c_12 => absurd c_12 (nI_nNONE (by omega)))
          refine xv_aload_n dX11_takeAsking_17 rfl rfl ?_
          refine xv_dup dX11_takeAsking_18 rfl ?_
          refine xv_geti dX11_takeAsking_19 fl_X11_286 (go_40 hG) rfl ?_
          refine xv_nmI hq3.2.2.1 ?_
          refine xv_iconst (v := nI 1) dX11_takeAsking_22 rfl ?_
          refine xv_iadd dX11_takeAsking_23 ?_
          refine xv_nmI (nI_add _ _) ?_
          refine xv_puti dX11_takeAsking_24 fl_X11_286 (go_40 hG) rfl rfl rfl ?_
          refine xv_aload_n dX11_takeAsking_27 rfl rfl ?_
          refine xv_iload_n dX11_takeAsking_28 rfl rfl ?_
          refine xv_callV0 (As := [_]) dX11_takeAsking_29 cl_X11_289 rfl rfl rfl rfl (go_40 hG) rfl rfl (Nat.le_of_ble_eq_true rfl) (Nat.le_of_ble_eq_true rfl) (Nat.zero_le _) (Nat.zero_le _) ?_
          refine s11_peek (d := d) hG ht4 hn6 hln hby (at_ := at_ + 1) (rq_at hq3) (by omega) (fun I4 hq4 => ?_)
          · refine xv_istore_n dX11_takeAsking_32 rfl (Nat.le_of_ble_eq_true rfl) rfl ?_
            refine xv_iload_n dX11_takeAsking_33 rfl rfl ?_
            refine xv_i2l dX11_takeAsking_34 ?_
            refine xv_ldc2 dX11_takeAsking_35 ld_X11_261 ?_
            refine xv_ldc2 dX11_takeAsking_38 ld_X11_295 ?_
            refine xv_callS0 (As := [_, _, _]) dX11_takeAsking_41 cl_X11_126 rfl rfl rfl rfl (Nat.le_of_ble_eq_true rfl) (Nat.le_of_ble_eq_true rfl) (Nat.zero_le _) (Nat.zero_le _) ?_
            refine s11_in (v := nI (pc_ b n (sp_ b n (at_ + 1)))) (a := 60) (b := 62) rfl rfl ?_
            refine xv_if_neD (tgt := 49) dX11_takeAsking_44 rfl (fun c_44 => absurd c_44 hs1) (fun c_44 => ?_)
            refine xv_iconst (v := 0) dX11_takeAsking_47 rfl ?_
            refine xv_zret dX11_takeAsking_48 rfl rfl (Nat.zero_le _) (Nat.zero_le _) ?_
            exact hF I4 (by rw [hT]; exact hq4) (by rw [hT])
