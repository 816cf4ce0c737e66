/-! terms (model): texts, stacks, small methods -/
/-- behind the blanks -/
def sk_ (b : Nat → Nat) (n : Nat) : Nat → Nat → Nat
  | 0, i => i
  | f + 1, i => if i < n ∧ b i = 32 then sk_ b n f (i + 1) else i
def sp_ (b : Nat → Nat) (n i : Nat) : Nat := sk_ b n (n - i) i
def pc_ (b : Nat → Nat) (n i : Nat) : Nat := if i < n then b i else 0
theorem sp_y {b : Nat → Nat} {n i : Nat} (h : i < n) (h2 : b i = 32) : sp_ b n i = sp_ b n (i + 1) := by
  have e : n - i = (n - (i + 1)) + 1 := by omega
  rw [sp_, e, sk_, if_pos ⟨h, h2⟩]
  rfl
theorem sp_n {b : Nat → Nat} {n i : Nat} (h : ¬ (i < n ∧ b i = 32)) : sp_ b n i = i := by
  rw [sp_]
  cases n - i with
  | zero => rfl
  | succ f => rw [sk_, if_neg h]
theorem sp_ge {b : Nat → Nat} {n : Nat} : ∀ (f i : Nat), n - i = f → i ≤ sp_ b n i ∧ (i ≤ n → sp_ b n i ≤ n)
  | 0, i, h => by
    rw [sp_n (by omega)]
    exact ⟨Nat.le_refl _, fun q => q⟩
  | f + 1, i, h => by
    by_cases q : i < n ∧ b i = 32
    · rw [sp_y q.1 q.2]
      have := sp_ge (b := b) (n := n) f (i + 1) (by omega)
      exact ⟨by omega, fun _ => this.2 (by omega)⟩
    · rw [sp_n q]
      exact ⟨Nat.le_refl _, fun q => q⟩
theorem sp_le {b : Nat → Nat} {n i : Nat} (h : i ≤ n) : sp_ b n i ≤ n := (sp_ge _ i rfl).2 h
theorem sp_gi (b : Nat → Nat) (n i : Nat) : i ≤ sp_ b n i := (sp_ge _ i rfl).1
/-- a stack in a row: the top lies highest -/
def rp_ {α : Type} (v : α → Int32) : List α → (Nat → Int32) → Prop
  | [], _ => True
  | x :: l, a => a l.length = v x ∧ rp_ v l a
theorem rp_cg {α : Type} {v : α → Int32} {a a2 : Nat → Int32} : ∀ {l : List α}, (∀ i, i < l.length → a2 i = a i) → rp_ v l a → rp_ v l a2
  | [], _, _ => True.intro
  | x :: l, h, g => ⟨(h l.length (by simp)).trans g.1, rp_cg (fun i hi => h i (by simp; omega)) g.2⟩
def rq (I I2 : xv_I) (at_ : Nat) (ops : List Nat) (trs : List Bool) : Prop := (∀ b, b ≠ 40 → b ≠ 95 → b ≠ 97 → I2 b = I b) ∧ (∀ j, j ≠ 43 → j ≠ 44 → j ≠ 46 → I2 40 j = I 40 j) ∧ I2 40 43 = nI at_ ∧ I2 40 44 = nI ops.length ∧ I2 40 46 = nI trs.length ∧ rp_ nI ops (I2 95) ∧ rp_ xb trs (I2 97)
theorem rq_at {I I2 : xv_I} {a a2 : Nat} {ops : List Nat} {trs : List Bool} (h : rq I I2 a ops trs) : rq I (xv_ui I2 40 43 (nI a2)) a2 ops trs := by
  refine ⟨fun b h1 h2 h3 => ?_, fun j h1 h2 h3 => ?_, xv_ui_s, ?_, ?_, ?_, ?_⟩
  · rw [xv_ui_ne h1]; exact h.1 b h1 h2 h3
  · rw [xv_ui_o h1]; exact h.2.1 j h1 h2 h3
  · rw [xv_ui_o (by decide)]; exact h.2.2.2.1
  · rw [xv_ui_o (by decide)]; exact h.2.2.2.2.1
  · rw [xv_ui_ne (by decide)]; exact h.2.2.2.2.2.1
  · rw [xv_ui_ne (by decide)]; exact h.2.2.2.2.2.2
theorem rq_po {I I2 : xv_I} {a x : Nat} {ops : List Nat} {trs : List Bool} (h : rq I I2 a (x :: ops) trs) : rq I (xv_ui I2 40 44 (nI ops.length)) a ops trs := by
  refine ⟨fun b h1 h2 h3 => ?_, fun j h1 h2 h3 => ?_, ?_, xv_ui_s, ?_, ?_, ?_⟩
  · rw [xv_ui_ne h1]; exact h.1 b h1 h2 h3
  · rw [xv_ui_o h2]; exact h.2.1 j h1 h2 h3
  · rw [xv_ui_o (by decide)]; exact h.2.2.1
  · rw [xv_ui_o (by decide)]; exact h.2.2.2.2.1
  · rw [xv_ui_ne (by decide)]; exact h.2.2.2.2.2.1.2
  · rw [xv_ui_ne (by decide)]; exact h.2.2.2.2.2.2
theorem rq_pt {I I2 : xv_I} {a : Nat} {ops : List Nat} {t : Bool} {trs : List Bool} (h : rq I I2 a ops (t :: trs)) : rq I (xv_ui I2 40 46 (nI trs.length)) a ops trs := by
  refine ⟨fun b h1 h2 h3 => ?_, fun j h1 h2 h3 => ?_, ?_, ?_, xv_ui_s, ?_, ?_⟩
  · rw [xv_ui_ne h1]; exact h.1 b h1 h2 h3
  · rw [xv_ui_o h3]; exact h.2.1 j h1 h2 h3
  · rw [xv_ui_o (by decide)]; exact h.2.2.1
  · rw [xv_ui_o (by decide)]; exact h.2.2.2.1
  · rw [xv_ui_ne (by decide)]; exact h.2.2.2.2.2.1
  · rw [xv_ui_ne (by decide)]; exact h.2.2.2.2.2.2.2
theorem rq_st {I I2 : xv_I} {a : Nat} {ops : List Nat} {t t2 : Bool} {trs : List Bool} {v : Int32} (hv : v = xb t2) (h : rq I I2 a ops (t :: trs)) : rq I (xv_ui I2 97 trs.length v) a ops (t2 :: trs) := by
  refine ⟨fun b h1 h2 h3 => ?_, fun j h1 h2 h3 => ?_, ?_, ?_, ?_, ?_, ?_, ?_⟩
  · rw [xv_ui_ne h3]; exact h.1 b h1 h2 h3
  · rw [xv_ui_ne (by decide)]; exact h.2.1 j h1 h2 h3
  · rw [xv_ui_ne (by decide)]; exact h.2.2.1
  · rw [xv_ui_ne (by decide)]; exact h.2.2.2.1
  · rw [xv_ui_ne (by decide)]; exact h.2.2.2.2.1
  · rw [xv_ui_ne (by decide)]; exact h.2.2.2.2.2.1
  · rw [xv_ui_s]; exact hv
  · exact rp_cg (fun i hi => xv_ui_o (by omega)) h.2.2.2.2.2.2.2
def lt_ (c : Nat) : Option Nat := if c = 97 then some 0 else if c = 100 then some 1 else if c = 111 then some 2 else if c = 109 then some 3 else if c = 119 then some 4 else none
def bi_ (c : Nat) : Nat := if c = 33 then 3 else if c = 38 then 2 else if c = 124 then 1 else 0
theorem lk_def (x : Int) (h1 : ¬ x = 97) (h2 : ¬ x = 100) (h3 : ¬ x = 109) (h4 : ¬ x = 111) (h5 : ¬ x = 119) : Op.lookupswitch.offset [(97, 51), (100, 53), (109, 57), (111, 55), (119, 59)] 61 x = 61 := by
  simp only [Op.lookupswitch.offset]
  rw [if_neg (fun e => h1 e.symm), if_neg (fun e => h2 e.symm), if_neg (fun e => h3 e.symm), if_neg (fun e => h4 e.symm), if_neg (fun e => h5 e.symm)]
theorem s11_pk_l {l : Launch} {D : va_G} {d : Nat} {G : xv_Gr} {I : xv_I} {J : xv_J} {Q : xv_Po} (hG : xg_ok G) {t n : Nat} {b : Nat → Nat} (ht4 : t < 4) (hn6 : n ≤ 60) (hln : I 91 t = nI n) (hby : ∀ i, i < n → I 92 (60 * t + i) = nI (b i) ∧ b i < 256 ∧ b i ≠ 0) {ops : List Nat} {trs : List Bool} : ∀ (f at_ : Nat) (I2 : xv_I), n - at_ = f → at_ ≤ 100 → rq I I2 at_ ops trs → (∀ I3, rq I I3 (sp_ b n at_) ops trs → Q (some (.int (nI (pc_ b n (sp_ b n at_))))) G I3 J) → xv_Ev l D d mX11_peek none 0 [some (.ref 40), some (.int (nI t))] [] G I2 J 0 0 Q := by
  intro f
  induction f with
  | zero =>
    intro at_ I2 hf hb6 hq hQ
    have hlt : ¬ at_ < n := by omega
    · refine xv_aload_n dX11_peek_0 rfl rfl ?_
      refine xv_geti dX11_peek_1 fl_X11_286 (go_40 hG) rfl ?_
      refine xv_nmI hq.2.2.1 ?_
      refine xv_aload_n dX11_peek_4 rfl rfl ?_
      refine xv_getr dX11_peek_5 fl_X11_109 (go_40 hG) rfl (gr_40_41 hG) ?_
      refine xv_iload_n dX11_peek_8 rfl rfl ?_
      refine xv_iaload dX11_peek_9 (go_91 hG) (xv_ixn (by omega) (by decide)) ?_
      refine xv_nmI ((congrFun (hq.1 91 (by decide) (by decide) (by decide)) t).trans hln) ?_
      refine xv_icmp_geN (tgt := 45) dX11_peek_10 rfl (by omega) (by omega) (fun c_10 => ?_) (fun c_10 => absurd c_10 (by omega))
      refine xv_aload_n dX11_peek_45 rfl rfl ?_
      refine xv_geti dX11_peek_46 fl_X11_286 (go_40 hG) rfl ?_
      refine xv_nmI hq.2.2.1 ?_
      refine xv_aload_n dX11_peek_49 rfl rfl ?_
      refine xv_getr dX11_peek_50 fl_X11_109 (go_40 hG) rfl (gr_40_41 hG) ?_
      refine xv_iload_n dX11_peek_53 rfl rfl ?_
      refine xv_iaload dX11_peek_54 (go_91 hG) (xv_ixn (by omega) (by decide)) ?_
      refine xv_nmI ((congrFun (hq.1 91 (by decide) (by decide) (by decide)) t).trans hln) ?_
      refine xv_icmp_geN (tgt := 75) dX11_peek_55 rfl (by omega) (by omega) (fun c_55 => ?_) (fun c_55 => absurd c_55 (by omega))
      refine xv_iconst (v := 0) dX11_peek_75 rfl ?_
      refine xv_iret dX11_peek_76 rfl (Nat.zero_le _) (Nat.zero_le _) ?_
      rw [sp_n (fun z => hlt z.1), pc_, if_neg hlt] at hQ
      exact hQ I2 hq
  | succ f ih =>
    intro at_ I2 hf hb6 hq hQ
    have hlt : at_ < n := by omega
    have hb2 := (hby at_ hlt).2.1
    by_cases hsp : b at_ = 32
    · refine xv_aload_n dX11_peek_0 rfl rfl ?_
      refine xv_geti dX11_peek_1 fl_X11_286 (go_40 hG) rfl ?_
      refine xv_nmI hq.2.2.1 ?_
      refine xv_aload_n dX11_peek_4 rfl rfl ?_
      refine xv_getr dX11_peek_5 fl_X11_109 (go_40 hG) rfl (gr_40_41 hG) ?_
      refine xv_iload_n dX11_peek_8 rfl rfl ?_
      refine xv_iaload dX11_peek_9 (go_91 hG) (xv_ixn (by omega) (by decide)) ?_
      refine xv_nmI ((congrFun (hq.1 91 (by decide) (by decide) (by decide)) t).trans hln) ?_
      refine xv_icmp_geN (tgt := 45) dX11_peek_10 rfl (by omega) (by omega) (fun c_10 => absurd c_10 (by omega)) (fun c_10 => ?_)
      refine xv_aload_n dX11_peek_13 rfl rfl ?_
      refine xv_getr dX11_peek_14 fl_X11_112 (go_40 hG) rfl (gr_40_42 hG) ?_
      refine xv_bipush (v := nI 60) dX11_peek_17 rfl ?_
      refine xv_iload_n dX11_peek_19 rfl rfl ?_
      refine xv_imul dX11_peek_20 ?_
      refine xv_nmI (pk_mul _ _) ?_
      refine xv_aload_n dX11_peek_21 rfl rfl ?_
      refine xv_geti dX11_peek_22 fl_X11_286 (go_40 hG) rfl ?_
      refine xv_nmI hq.2.2.1 ?_
      refine xv_iadd dX11_peek_25 ?_
      refine xv_nmI (nI_add _ _) ?_
      refine xv_iaload dX11_peek_26 (go_92 hG) (xv_ixn (by omega) (by decide)) ?_
      refine xv_nmI ((congrFun (hq.1 92 (by decide) (by decide) (by decide)) _).trans (hby at_ (by omega)).1) ?_
      refine xv_bipush (v := nI 32) dX11_peek_27 rfl ?_
      refine xv_icmp_neN (tgt := 45) dX11_peek_29 rfl (by omega) (by omega) (fun c_29 => absurd hsp c_29) (fun c_29 => ?_)
      refine xv_aload_n dX11_peek_32 rfl rfl ?_
      refine xv_dup dX11_peek_33 rfl ?_
      refine xv_geti dX11_peek_34 fl_X11_286 (go_40 hG) rfl ?_
      refine xv_nmI hq.2.2.1 ?_
      refine xv_iconst (v := nI 1) dX11_peek_37 rfl ?_
      refine xv_iadd dX11_peek_38 ?_
      refine xv_nmI (nI_add _ _) ?_
      refine xv_puti dX11_peek_39 fl_X11_286 (go_40 hG) rfl rfl rfl ?_
      refine xv_goto (tgt := 0) dX11_peek_42 rfl ?_
      rw [sp_y hlt hsp] at hQ
      exact ih (at_ + 1) _ (by omega) (by omega) (rq_at hq) hQ
    · refine xv_aload_n dX11_peek_0 rfl rfl ?_
      refine xv_geti dX11_peek_1 fl_X11_286 (go_40 hG) rfl ?_
      refine xv_nmI hq.2.2.1 ?_
      refine xv_aload_n dX11_peek_4 rfl rfl ?_
      refine xv_getr dX11_peek_5 fl_X11_109 (go_40 hG) rfl (gr_40_41 hG) ?_
      refine xv_iload_n dX11_peek_8 rfl rfl ?_
      refine xv_iaload dX11_peek_9 (go_91 hG) (xv_ixn (by omega) (by decide)) ?_
      refine xv_nmI ((congrFun (hq.1 91 (by decide) (by decide) (by decide)) t).trans hln) ?_
      refine xv_icmp_geN (tgt := 45) dX11_peek_10 rfl (by omega) (by omega) (fun c_10 => absurd c_10 (by omega)) (fun c_10 => ?_)
      refine xv_aload_n dX11_peek_13 rfl rfl ?_
      refine xv_getr dX11_peek_14 fl_X11_112 (go_40 hG) rfl (gr_40_42 hG) ?_
      refine xv_bipush (v := nI 60) dX11_peek_17 rfl ?_
      refine xv_iload_n dX11_peek_19 rfl rfl ?_
      refine xv_imul dX11_peek_20 ?_
      refine xv_nmI (pk_mul _ _) ?_
      refine xv_aload_n dX11_peek_21 rfl rfl ?_
      refine xv_geti dX11_peek_22 fl_X11_286 (go_40 hG) rfl ?_
      refine xv_nmI hq.2.2.1 ?_
      refine xv_iadd dX11_peek_25 ?_
      refine xv_nmI (nI_add _ _) ?_
      refine xv_iaload dX11_peek_26 (go_92 hG) (xv_ixn (by omega) (by decide)) ?_
      refine xv_nmI ((congrFun (hq.1 92 (by decide) (by decide) (by decide)) _).trans (hby at_ (by omega)).1) ?_
      refine xv_bipush (v := nI 32) dX11_peek_27 rfl ?_
      refine xv_icmp_neN (tgt := 45) dX11_peek_29 rfl (by omega) (by omega) (fun c_29 => ?_) (fun c_29 => absurd c_29 hsp)
      refine xv_aload_n dX11_peek_45 rfl rfl ?_
      refine xv_geti dX11_peek_46 fl_X11_286 (go_40 hG) rfl ?_
      refine xv_nmI hq.2.2.1 ?_
      refine xv_aload_n dX11_peek_49 rfl rfl ?_
      refine xv_getr dX11_peek_50 fl_X11_109 (go_40 hG) rfl (gr_40_41 hG) ?_
      refine xv_iload_n dX11_peek_53 rfl rfl ?_
      refine xv_iaload dX11_peek_54 (go_91 hG) (xv_ixn (by omega) (by decide)) ?_
      refine xv_nmI ((congrFun (hq.1 91 (by decide) (by decide) (by decide)) t).trans hln) ?_
      refine xv_icmp_geN (tgt := 75) dX11_peek_55 rfl (by omega) (by omega) (fun c_55 => absurd c_55 (by omega)) (fun c_55 => ?_)
      refine xv_aload_n dX11_peek_58 rfl rfl ?_
      refine xv_getr dX11_peek_59 fl_X11_112 (go_40 hG) rfl (gr_40_42 hG) ?_
      refine xv_bipush (v := nI 60) dX11_peek_62 rfl ?_
      refine xv_iload_n dX11_peek_64 rfl rfl ?_
      refine xv_imul dX11_peek_65 ?_
      refine xv_nmI (pk_mul _ _) ?_
      refine xv_aload_n dX11_peek_66 rfl rfl ?_
      refine xv_geti dX11_peek_67 fl_X11_286 (go_40 hG) rfl ?_
      refine xv_nmI hq.2.2.1 ?_
      refine xv_iadd dX11_peek_70 ?_
      refine xv_nmI (nI_add _ _) ?_
      refine xv_iaload dX11_peek_71 (go_92 hG) (xv_ixn (by omega) (by decide)) ?_
      refine xv_nmI ((congrFun (hq.1 92 (by decide) (by decide) (by decide)) _).trans (hby at_ (by omega)).1) ?_
      refine xv_goto (tgt := 76) dX11_peek_72 rfl ?_
      refine xv_iret dX11_peek_76 rfl (Nat.zero_le _) (Nat.zero_le _) ?_
      rw [sp_n (fun z => hsp z.2), pc_, if_pos hlt] at hQ
      exact hQ I2 hq

theorem s11_peek {l : Launch} {D : va_G} {d : Nat} {G : xv_Gr} {I : xv_I} {J : xv_J} {Q : xv_Po} (hG : xg_ok G) {t n : Nat} {b : Nat → Nat} (ht4 : t < 4) (hn6 : n ≤ 60) (hln : I 91 t = nI n) (hby : ∀ i, i < n → I 92 (60 * t + i) = nI (b i) ∧ b i < 256 ∧ b i ≠ 0) {I2 : xv_I} {at_ : Nat} {ops : List Nat} {trs : List Bool} (hq : rq I I2 at_ ops trs) (hb6 : at_ ≤ 100) (hQ : ∀ I3, rq I I3 (sp_ b n at_) ops trs → Q (some (.int (nI (pc_ b n (sp_ b n at_))))) G I3 J) : xv_Ev l D d mX11_peek none 0 [some (.ref 40), some (.int (nI t))] [] G I2 J 0 0 Q := by
  exact s11_pk_l hG ht4 hn6 hln hby _ at_ I2 rfl hb6 hq hQ

theorem s11_letterValue {l : Launch} {D : va_G} {d : Nat} {G : xv_Gr} {I : xv_I} {J : xv_J} {Q : xv_Po} {c : Nat} (hc : c < 256) (hQ : Q (some (.int (ob_ (-900009) (lt_ c)))) G I J) : xv_Ev l D d mX11_letterValue none 0 [some (.int (nI c))] [] G I J 0 0 Q := by
  by_cases h97 : c = 97
  · subst h97
    refine xv_iload_n dX11_letterValue_0 rfl rfl ?_
    · refine xv_lookup (tgt := 52) dX11_letterValue_1 (by decide) rfl rfl ?_
      refine xv_iconst (v := 0) dX11_letterValue_52 rfl ?_
      refine xv_iret dX11_letterValue_53 rfl (Nat.zero_le _) (Nat.zero_le _) ?_
      exact hQ
  by_cases h100 : c = 100
  · subst h100
    refine xv_iload_n dX11_letterValue_0 rfl rfl ?_
    · refine xv_lookup (tgt := 54) dX11_letterValue_1 (by decide) rfl rfl ?_
      refine xv_iconst (v := 1) dX11_letterValue_54 rfl ?_
      refine xv_iret dX11_letterValue_55 rfl (Nat.zero_le _) (Nat.zero_le _) ?_
      exact hQ
  by_cases h111 : c = 111
  · subst h111
    refine xv_iload_n dX11_letterValue_0 rfl rfl ?_
    · refine xv_lookup (tgt := 56) dX11_letterValue_1 (by decide) rfl rfl ?_
      refine xv_iconst (v := 2) dX11_letterValue_56 rfl ?_
      refine xv_iret dX11_letterValue_57 rfl (Nat.zero_le _) (Nat.zero_le _) ?_
      exact hQ
  by_cases h109 : c = 109
  · subst h109
    refine xv_iload_n dX11_letterValue_0 rfl rfl ?_
    · refine xv_lookup (tgt := 58) dX11_letterValue_1 (by decide) rfl rfl ?_
      refine xv_iconst (v := 3) dX11_letterValue_58 rfl ?_
      refine xv_iret dX11_letterValue_59 rfl (Nat.zero_le _) (Nat.zero_le _) ?_
      exact hQ
  by_cases h119 : c = 119
  · subst h119
    refine xv_iload_n dX11_letterValue_0 rfl rfl ?_
    · refine xv_lookup (tgt := 60) dX11_letterValue_1 (by decide) rfl rfl ?_
      refine xv_iconst (v := 4) dX11_letterValue_60 rfl ?_
      refine xv_iret dX11_letterValue_61 rfl (Nat.zero_le _) (Nat.zero_le _) ?_
      exact hQ
  refine xv_iload_n dX11_letterValue_0 rfl rfl ?_
  have hx : (nI c).toInt = (c : Int) := nI_toInt (by omega)
  · refine xv_lookup (tgt := 62) dX11_letterValue_1 (by decide) (lk_def _ (by omega) (by omega) (by omega) (by omega) (by omega)) rfl ?_
    refine xv_ldc dX11_letterValue_62 ld_X11_152 ?_
    refine xv_iret dX11_letterValue_64 rfl (Nat.zero_le _) (Nat.zero_le _) ?_
    have e : lt_ c = none := by rw [lt_, if_neg h97, if_neg h100, if_neg h111, if_neg h109, if_neg h119]
    rw [e] at hQ
    exact hQ

theorem s11_binds {l : Launch} {D : va_G} {d : Nat} {G : xv_Gr} {I : xv_I} {J : xv_J} {Q : xv_Po} {c : Nat} (hc : c < 256) (hQ : Q (some (.int (nI (bi_ c)))) G I J) : xv_Ev l D d mX11_binds none 0 [some (.int (nI c))] [] G I J 0 0 Q := by
  refine xv_iload_n dX11_binds_0 rfl rfl ?_
  refine xv_bipush (v := nI 33) dX11_binds_1 rfl ?_
  refine xv_icmp_neN (tgt := 10) dX11_binds_3 rfl (by omega) (by omega) (fun c_3 => ?_) (fun c_3 => ?_)
  · refine xv_iload_n dX11_binds_10 rfl rfl ?_
    refine xv_bipush (v := nI 38) dX11_binds_11 rfl ?_
    refine xv_icmp_neN (tgt := 20) dX11_binds_13 rfl (by omega) (by omega) (fun c_13 => ?_) (fun c_13 => ?_)
    · refine xv_iload_n dX11_binds_20 rfl rfl ?_
      refine xv_bipush (v := nI 124) dX11_binds_21 rfl ?_
      refine xv_icmp_neN (tgt := 30) dX11_binds_23 rfl (by omega) (by omega) (fun c_23 => ?_) (fun c_23 => ?_)
      · refine xv_iconst (v := nI 0) dX11_binds_30 rfl ?_
        refine xv_iret dX11_binds_31 rfl (Nat.zero_le _) (Nat.zero_le _) ?_
        rw [bi_, if_neg c_3, if_neg c_13, if_neg c_23] at hQ
        exact hQ
      · refine xv_iconst (v := nI 1) dX11_binds_26 rfl ?_
        refine xv_goto (tgt := 31) dX11_binds_27 rfl ?_
        refine xv_iret dX11_binds_31 rfl (Nat.zero_le _) (Nat.zero_le _) ?_
        rw [bi_, if_neg c_3, if_neg c_13, if_pos c_23] at hQ
        exact hQ
    · refine xv_iconst (v := nI 2) dX11_binds_16 rfl ?_
      refine xv_goto (tgt := 31) dX11_binds_17 rfl ?_
      refine xv_iret dX11_binds_31 rfl (Nat.zero_le _) (Nat.zero_le _) ?_
      rw [bi_, if_neg c_3, if_pos c_13] at hQ
      exact hQ
  · refine xv_iconst (v := nI 3) dX11_binds_6 rfl ?_
    refine xv_goto (tgt := 31) dX11_binds_7 rfl ?_
    refine xv_iret dX11_binds_31 rfl (Nat.zero_le _) (Nat.zero_le _) ?_
    rw [bi_, if_pos c_3] at hQ
    exact hQ

theorem rq_pu {I I2 : xv_I} {a s : Nat} {ops : List Nat} {trs : List Bool} (h : rq I I2 a ops trs) : rq I (xv_ui (xv_ui (xv_ui I2 95 ops.length (nI s)) 40 44 (nI (ops.length + 1))) 40 43 (nI (a + 1))) (a + 1) (s :: ops) trs := by
  refine ⟨fun b h1 h2 h3 => ?_, fun j h1 h2 h3 => ?_, xv_ui_s, ?_, ?_, ⟨?_, ?_⟩, ?_⟩
  · rw [xv_ui_ne h1, xv_ui_ne h1, xv_ui_ne h2]; exact h.1 b h1 h2 h3
  · rw [xv_ui_o h1, xv_ui_o h2, xv_ui_ne (by decide)]; exact h.2.1 j h1 h2 h3
  · rw [xv_ui_o (by decide), xv_ui_s]; rfl
  · rw [xv_ui_o (by decide), xv_ui_o (by decide), xv_ui_ne (by decide)]; exact h.2.2.2.2.1
  · rw [xv_ui_ne (by decide), xv_ui_ne (by decide), xv_ui_s]
  · rw [xv_ui_ne (by decide), xv_ui_ne (by decide)]
    exact rp_cg (fun i hi => xv_ui_o (by omega)) h.2.2.2.2.2.1
  · rw [xv_ui_ne (by decide), xv_ui_ne (by decide), xv_ui_ne (by decide)]; exact h.2.2.2.2.2.2
theorem s11_push {l : Launch} {D : va_G} {d : Nat} {G : xv_Gr} {I : xv_I} {J : xv_J} {Q : xv_Po} (hG : xg_ok G) {I2 : xv_I} {at_ : Nat} {ops : List Nat} {trs : List Bool} (hq : rq I I2 at_ ops trs) {s : Nat} (ho6 : ops.length < 64) (hQ : ∀ I3, rq I I3 (at_ + 1) (s :: ops) trs → Q none G I3 J) : xv_Ev l D d mX11_push none 0 [some (.ref 40), some (.int (nI s))] [] G I2 J 0 0 Q := by
  refine xv_aload_n dX11_push_0 rfl rfl ?_
  refine xv_getr dX11_push_1 fl_X11_115 (go_40 hG) rfl (gr_40_45 hG) ?_
  refine xv_aload_n dX11_push_4 rfl rfl ?_
  refine xv_geti dX11_push_5 fl_X11_304 (go_40 hG) rfl ?_
  refine xv_nmI hq.2.2.2.1 ?_
  refine xv_iload_n dX11_push_8 rfl rfl ?_
  refine xv_iastore dX11_push_9 (go_95 hG) (xv_ixn (by omega) (by decide)) ?_
  refine xv_aload_n dX11_push_10 rfl rfl ?_
  refine xv_dup dX11_push_11 rfl ?_
  refine xv_geti dX11_push_12 fl_X11_304 (go_40 hG) rfl ?_
  refine xv_nmI ((congrFun (xv_ui_ne (by decide)) 44).trans hq.2.2.2.1) ?_
  refine xv_iconst (v := nI 1) dX11_push_15 rfl ?_
  refine xv_iadd dX11_push_16 ?_
  refine xv_nmI (nI_add _ _) ?_
  refine xv_puti dX11_push_17 fl_X11_304 (go_40 hG) rfl rfl rfl ?_
  refine xv_aload_n dX11_push_20 rfl rfl ?_
  refine xv_dup dX11_push_21 rfl ?_
  refine xv_geti dX11_push_22 fl_X11_286 (go_40 hG) rfl ?_
  refine xv_nmI ((xv_ui_o (by decide)).trans ((congrFun (xv_ui_ne (by decide)) 43).trans hq.2.2.1)) ?_
  refine xv_iconst (v := nI 1) dX11_push_25 rfl ?_
  refine xv_iadd dX11_push_26 ?_
  refine xv_nmI (nI_add _ _) ?_
  refine xv_puti dX11_push_27 fl_X11_286 (go_40 hG) rfl rfl rfl ?_
  refine xv_vret dX11_push_30 rfl (Nat.zero_le _) (Nat.zero_le _) ?_
  exact hQ _ (rq_pu hq)

def cl_o (k : Nat) : List Nat → List Bool → Option (List Nat × List Bool)
  | [], ts => some ([], ts)
  | o :: os, ts => if k ≤ bi_ o then (match ts with
    | [] => none
    | t :: ts => if o = 33 then cl_o k os ((!t) :: ts) else (match ts with
      | [] => none
      | t2 :: ts => cl_o k os ((if o = 38 then t2 && t else t2 || t) :: ts))) else some (o :: os, ts)
theorem xb_i (t : Bool) : xb t = 0 ∨ xb t = 1 := by cases t <;> simp [xb]
theorem bi_le (c : Nat) : bi_ c ≤ 3 := by
  unfold bi_
  split
  · exact Nat.le_refl _
  · split
    · decide
    · split <;> decide
theorem s11_closeTo {l : Launch} {D : va_G} {d : Nat} {G : xv_Gr} {I : xv_I} {J : xv_J} {Q : xv_Po} (hG : xg_ok G) {k : Nat} (hk3 : k ≤ 3) {at_ : Nat} {os2 : List Nat} {ts2 : List Bool} (hQ : ∀ I3, rq I I3 at_ os2 ts2 → Q none G I3 J) : ∀ (ops : List Nat) (trs : List Bool) (I2 : xv_I), (∀ x ∈ ops, x < 256) ∧ ops.length ≤ 64 → trs.length ≤ 64 → rq I I2 at_ ops trs → cl_o k ops trs = some (os2, ts2) → xv_Ev l D (d + 1) mX11_closeTo none 0 [some (.ref 40), some (.int (nI k)), none] [] G I2 J 0 0 Q := by
  intro ops
  induction ops with
  | nil =>
    intro trs I2 ho8 ht6 hq hc
    refine xv_aload_n dX11_closeTo_0 rfl rfl ?_
    refine xv_geti dX11_closeTo_1 fl_X11_304 (go_40 hG) rfl ?_
    refine xv_nmI hq.2.2.2.1 ?_
    refine xv_if_le (tgt := 171) dX11_closeTo_4 rfl (fun c_4 => ?_) (fun c_4 => absurd (by decide) c_4)
    refine xv_vret dX11_closeTo_171 rfl (Nat.zero_le _) (Nat.zero_le _) ?_
    rw [cl_o] at hc
    cases hc
    exact hQ I2 hq
  | cons o os ih0 =>
    intro trs I2 ho8a ht6 hq hc
    have ho8 := ho8a.1
    have ho6 := ho8a.2
    have hl1 : (o :: os).length = os.length + 1 := rfl
    have hb3 := bi_le o
    have ho9 := ho8 o (by simp)
    have ih := fun (ts : List Bool) (I2 : xv_I) (_ : True) (h1 : ts.length ≤ 64) (h2 : rq I I2 at_ os ts) (h3 : cl_o k os ts = some (os2, ts2)) (_ : ∀ I3, rq I I3 at_ os2 ts2 → Q none G I3 J) => ih0 ts I2 ⟨fun x hx => ho8 x (List.mem_cons_of_mem _ hx), by omega⟩ h1 h2 h3
    rw [cl_o.eq_def] at hc
    dsimp only at hc
    by_cases hkb : k ≤ bi_ o
    · rw [if_pos hkb] at hc
      cases trs with
      | nil => cases hc
      | cons t ts =>
        have hl2 : (t :: ts).length = ts.length + 1 := rfl
        by_cases hk33 : o = 33
        · have hc : cl_o k os ((!t) :: ts) = some (os2, ts2) := (if_pos hk33).symm.trans hc
          refine xv_aload_n dX11_closeTo_0 rfl rfl ?_
          refine xv_geti dX11_closeTo_1 fl_X11_304 (go_40 hG) rfl ?_
          refine xv_nmI hq.2.2.2.1 ?_
          refine xv_if_le (tgt := 171) dX11_closeTo_4 rfl (fun c_4 => absurd c_4 (nI_nle (by simp) (by omega))) (fun c_4 => ?_)
          refine xv_aload_n dX11_closeTo_7 rfl rfl ?_
          refine xv_getr dX11_closeTo_8 fl_X11_115 (go_40 hG) rfl (gr_40_45 hG) ?_
          refine xv_aload_n dX11_closeTo_11 rfl rfl ?_
          refine xv_geti dX11_closeTo_12 fl_X11_304 (go_40 hG) rfl ?_
          refine xv_nmI hq.2.2.2.1 ?_
          refine xv_iconst (v := nI 1) dX11_closeTo_15 rfl ?_
          refine xv_isub dX11_closeTo_16 ?_
          refine xv_nmI (pk_sub (by simp)) ?_
          refine xv_nmI (show nI ((o :: os).length - 1) = nI os.length from by simp) ?_
          refine xv_iaload dX11_closeTo_17 (go_95 hG) (xv_ixn (by omega) (by decide)) ?_
          refine xv_nmI (hq.2.2.2.2.2.1.1) ?_
          refine xv_callS0 (As := [_]) dX11_closeTo_18 cl_X11_307 rfl rfl rfl rfl (Nat.le_of_ble_eq_true rfl) (Nat.le_of_ble_eq_true rfl) (Nat.zero_le _) (Nat.zero_le _) ?_
          refine s11_binds (by have := ho8 o (by simp); omega) ?_
          refine xv_iload_n dX11_closeTo_21 rfl rfl ?_
          refine xv_icmp_ltN (tgt := 171) dX11_closeTo_22 rfl (by omega) (by omega) (fun c_22 => absurd c_22 (by omega)) (fun c_22 => ?_)
          refine xv_aload_n dX11_closeTo_25 rfl rfl ?_
          refine xv_dup dX11_closeTo_26 rfl ?_
          refine xv_geti dX11_closeTo_27 fl_X11_304 (go_40 hG) rfl ?_
          refine xv_nmI hq.2.2.2.1 ?_
          refine xv_iconst (v := nI 1) dX11_closeTo_30 rfl ?_
          refine xv_isub dX11_closeTo_31 ?_
          refine xv_nmI (pk_sub (by simp)) ?_
          refine xv_nmI (show nI ((o :: os).length - 1) = nI os.length from by simp) ?_
          refine xv_puti dX11_closeTo_32 fl_X11_304 (go_40 hG) rfl rfl rfl ?_
          refine xv_aload_n dX11_closeTo_35 rfl rfl ?_
          refine xv_getr dX11_closeTo_36 fl_X11_118 (go_40 hG) rfl (gr_40_47 hG) ?_
          refine xv_aload_n dX11_closeTo_39 rfl rfl ?_
          refine xv_geti dX11_closeTo_40 fl_X11_301 (go_40 hG) rfl ?_
          refine xv_nmI ((xv_ui_o (by decide)).trans hq.2.2.2.2.1) ?_
          refine xv_iconst (v := nI 1) dX11_closeTo_43 rfl ?_
          refine xv_isub dX11_closeTo_44 ?_
          refine xv_nmI (pk_sub (by simp)) ?_
          refine xv_nmI (show nI ((t :: ts).length - 1) = nI ts.length from by simp) ?_
          refine xv_zaload dX11_closeTo_45 (go_97 hG) (xv_ixn (by omega) (by decide)) ?_
          refine xv_nmI (show xv_ui I2 40 44 (nI os.length) 97 _ = xb t from (congrFun (xv_ui_ne (by decide)) _).trans hq.2.2.2.2.2.2.1) ?_
          refine xv_istore_n dX11_closeTo_46 rfl (Nat.le_of_ble_eq_true rfl) rfl ?_
          refine xv_aload_n dX11_closeTo_47 rfl rfl ?_
          refine xv_getr dX11_closeTo_48 fl_X11_115 (go_40 hG) rfl (gr_40_45 hG) ?_
          refine xv_aload_n dX11_closeTo_51 rfl rfl ?_
          refine xv_geti dX11_closeTo_52 fl_X11_304 (go_40 hG) rfl ?_
          refine xv_nmI xv_ui_s ?_
          refine xv_iaload dX11_closeTo_55 (go_95 hG) (xv_ixn (by omega) (by decide)) ?_
          refine xv_nmI (show xv_ui I2 40 44 (nI os.length) 95 _ = nI o from (congrFun (xv_ui_ne (by decide)) _).trans (hq.2.2.2.2.2.1.1)) ?_
          refine xv_bipush (v := nI 33) dX11_closeTo_56 rfl ?_
          refine xv_icmp_neN (tgt := 84) dX11_closeTo_58 rfl (by omega) (by omega) (fun c_58 => absurd hk33 c_58) (fun c_58 => ?_)
          refine xv_aload_n dX11_closeTo_61 rfl rfl ?_
          refine xv_getr dX11_closeTo_62 fl_X11_118 (go_40 hG) rfl (gr_40_47 hG) ?_
          refine xv_aload_n dX11_closeTo_65 rfl rfl ?_
          refine xv_geti dX11_closeTo_66 fl_X11_301 (go_40 hG) rfl ?_
          refine xv_nmI ((xv_ui_o (by decide)).trans hq.2.2.2.2.1) ?_
          refine xv_iconst (v := nI 1) dX11_closeTo_69 rfl ?_
          refine xv_isub dX11_closeTo_70 ?_
          refine xv_nmI (pk_sub (by simp)) ?_
          refine xv_nmI (show nI ((t :: ts).length - 1) = nI ts.length from by simp) ?_
          refine xv_iload_n dX11_closeTo_71 rfl rfl ?_
          refine xv_if_neB (tgt := 79) dX11_closeTo_72 rfl (fun c_72 => ?_) (fun c_72 => ?_)
          · refine xv_iconst (v := 0) dX11_closeTo_79 rfl ?_
            refine xv_zastore dX11_closeTo_80 (go_97 hG) (xv_ixn (by omega) (by decide)) rfl ?_
            refine xv_goto (tgt := 168) dX11_closeTo_81 rfl ?_
            refine xv_goto (tgt := 0) dX11_closeTo_168 rfl ?_
            refine xv_fg [true, true, false] ?_
            refine ih ((!t) :: ts) _ True.intro (by simp only [List.length_cons] at ht6 ⊢; omega) (rq_st (t := t) (t2 := !t) (by first | (rw [c_72]; rfl) | rw [c_72]) (rq_po hq)) hc hQ
          · refine xv_iconst (v := 1) dX11_closeTo_75 rfl ?_
            refine xv_goto (tgt := 80) dX11_closeTo_76 rfl ?_
            refine xv_zastore dX11_closeTo_80 (go_97 hG) (xv_ixn (by omega) (by decide)) rfl ?_
            refine xv_goto (tgt := 168) dX11_closeTo_81 rfl ?_
            refine xv_goto (tgt := 0) dX11_closeTo_168 rfl ?_
            refine xv_fg [true, true, false] ?_
            refine ih ((!t) :: ts) _ True.intro (by simp only [List.length_cons] at ht6 ⊢; omega) (rq_st (t := t) (t2 := !t) (by first | (rw [c_72]; rfl) | rw [c_72]) (rq_po hq)) hc hQ
        · have hc := (if_neg hk33).symm.trans hc
          cases ts with
          | nil => cases hc
          | cons t2 ts =>
            have hl3 : (t2 :: ts).length = ts.length + 1 := rfl
            by_cases hk38 : o = 38
            · have hc : cl_o k os ((t2 && t) :: ts) = some (os2, ts2) := (show (if o = 38 then t2 && t else t2 || t) = (t2 && t) from if_pos hk38) ▸ hc
              refine xv_aload_n dX11_closeTo_0 rfl rfl ?_
              refine xv_geti dX11_closeTo_1 fl_X11_304 (go_40 hG) rfl ?_
              refine xv_nmI hq.2.2.2.1 ?_
              refine xv_if_le (tgt := 171) dX11_closeTo_4 rfl (fun c_4 => absurd c_4 (nI_nle (by simp) (by omega))) (fun c_4 => ?_)
              refine xv_aload_n dX11_closeTo_7 rfl rfl ?_
              refine xv_getr dX11_closeTo_8 fl_X11_115 (go_40 hG) rfl (gr_40_45 hG) ?_
              refine xv_aload_n dX11_closeTo_11 rfl rfl ?_
              refine xv_geti dX11_closeTo_12 fl_X11_304 (go_40 hG) rfl ?_
              refine xv_nmI hq.2.2.2.1 ?_
              refine xv_iconst (v := nI 1) dX11_closeTo_15 rfl ?_
              refine xv_isub dX11_closeTo_16 ?_
              refine xv_nmI (pk_sub (by simp)) ?_
              refine xv_nmI (show nI ((o :: os).length - 1) = nI os.length from by simp) ?_
              refine xv_iaload dX11_closeTo_17 (go_95 hG) (xv_ixn (by omega) (by decide)) ?_
              refine xv_nmI (hq.2.2.2.2.2.1.1) ?_
              refine xv_callS0 (As := [_]) dX11_closeTo_18 cl_X11_307 rfl rfl rfl rfl (Nat.le_of_ble_eq_true rfl) (Nat.le_of_ble_eq_true rfl) (Nat.zero_le _) (Nat.zero_le _) ?_
              refine s11_binds (by have := ho8 o (by simp); omega) ?_
              refine xv_iload_n dX11_closeTo_21 rfl rfl ?_
              refine xv_icmp_ltN (tgt := 171) dX11_closeTo_22 rfl (by omega) (by omega) (fun c_22 => absurd c_22 (by omega)) (fun c_22 => ?_)
              refine xv_aload_n dX11_closeTo_25 rfl rfl ?_
              refine xv_dup dX11_closeTo_26 rfl ?_
              refine xv_geti dX11_closeTo_27 fl_X11_304 (go_40 hG) rfl ?_
              refine xv_nmI hq.2.2.2.1 ?_
              refine xv_iconst (v := nI 1) dX11_closeTo_30 rfl ?_
              refine xv_isub dX11_closeTo_31 ?_
              refine xv_nmI (pk_sub (by simp)) ?_
              refine xv_nmI (show nI ((o :: os).length - 1) = nI os.length from by simp) ?_
              refine xv_puti dX11_closeTo_32 fl_X11_304 (go_40 hG) rfl rfl rfl ?_
              refine xv_aload_n dX11_closeTo_35 rfl rfl ?_
              refine xv_getr dX11_closeTo_36 fl_X11_118 (go_40 hG) rfl (gr_40_47 hG) ?_
              refine xv_aload_n dX11_closeTo_39 rfl rfl ?_
              refine xv_geti dX11_closeTo_40 fl_X11_301 (go_40 hG) rfl ?_
              refine xv_nmI ((xv_ui_o (by decide)).trans hq.2.2.2.2.1) ?_
              refine xv_iconst (v := nI 1) dX11_closeTo_43 rfl ?_
              refine xv_isub dX11_closeTo_44 ?_
              refine xv_nmI (pk_sub (by simp)) ?_
              refine xv_nmI (show nI ((t :: t2 :: ts).length - 1) = nI (t2 :: ts).length from by simp) ?_
              refine xv_zaload dX11_closeTo_45 (go_97 hG) (xv_ixn (by omega) (by decide)) ?_
              refine xv_nmI (show xv_ui I2 40 44 (nI os.length) 97 _ = xb t from (congrFun (xv_ui_ne (by decide)) _).trans hq.2.2.2.2.2.2.1) ?_
              refine xv_istore_n dX11_closeTo_46 rfl (Nat.le_of_ble_eq_true rfl) rfl ?_
              refine xv_aload_n dX11_closeTo_47 rfl rfl ?_
              refine xv_getr dX11_closeTo_48 fl_X11_115 (go_40 hG) rfl (gr_40_45 hG) ?_
              refine xv_aload_n dX11_closeTo_51 rfl rfl ?_
              refine xv_geti dX11_closeTo_52 fl_X11_304 (go_40 hG) rfl ?_
              refine xv_nmI xv_ui_s ?_
              refine xv_iaload dX11_closeTo_55 (go_95 hG) (xv_ixn (by omega) (by decide)) ?_
              refine xv_nmI (show xv_ui I2 40 44 (nI os.length) 95 _ = nI o from (congrFun (xv_ui_ne (by decide)) _).trans (hq.2.2.2.2.2.1.1)) ?_
              refine xv_bipush (v := nI 33) dX11_closeTo_56 rfl ?_
              refine xv_icmp_neN (tgt := 84) dX11_closeTo_58 rfl (by omega) (by omega) (fun c_58 => ?_) (fun c_58 => absurd c_58 hk33)
              refine xv_aload_n dX11_closeTo_84 rfl rfl ?_
              refine xv_dup dX11_closeTo_85 rfl ?_
              refine xv_geti dX11_closeTo_86 fl_X11_301 (go_40 hG) rfl ?_
              refine xv_nmI ((xv_ui_o (by decide)).trans hq.2.2.2.2.1) ?_
              refine xv_iconst (v := nI 1) dX11_closeTo_89 rfl ?_
              refine xv_isub dX11_closeTo_90 ?_
              refine xv_nmI (pk_sub (by simp)) ?_
              refine xv_nmI (show nI ((t :: t2 :: ts).length - 1) = nI (t2 :: ts).length from by simp) ?_
              refine xv_puti dX11_closeTo_91 fl_X11_301 (go_40 hG) rfl rfl rfl ?_
              refine xv_aload_n dX11_closeTo_94 rfl rfl ?_
              refine xv_getr dX11_closeTo_95 fl_X11_118 (go_40 hG) rfl (gr_40_47 hG) ?_
              refine xv_aload_n dX11_closeTo_98 rfl rfl ?_
              refine xv_geti dX11_closeTo_99 fl_X11_301 (go_40 hG) rfl ?_
              refine xv_nmI xv_ui_s ?_
              refine xv_iconst (v := nI 1) dX11_closeTo_102 rfl ?_
              refine xv_isub dX11_closeTo_103 ?_
              refine xv_nmI (pk_sub (by simp)) ?_
              refine xv_nmI (show nI ((t2 :: ts).length - 1) = nI ts.length from by simp) ?_
              refine xv_aload_n dX11_closeTo_104 rfl rfl ?_
              refine xv_getr dX11_closeTo_105 fl_X11_115 (go_40 hG) rfl (gr_40_45 hG) ?_
              refine xv_aload_n dX11_closeTo_108 rfl rfl ?_
              refine xv_geti dX11_closeTo_109 fl_X11_304 (go_40 hG) rfl ?_
              refine xv_nmI ((xv_ui_o (by decide)).trans xv_ui_s) ?_
              refine xv_iaload dX11_closeTo_112 (go_95 hG) (xv_ixn (by omega) (by decide)) ?_
              refine xv_nmI (show (xv_ui (xv_ui I2 40 44 (nI os.length)) 40 46 (nI (t2 :: ts).length)) 95 _ = nI o from (congrFun (xv_ui_ne (by decide)) _).trans ((congrFun (xv_ui_ne (by decide)) _).trans (hq.2.2.2.2.2.1.1))) ?_
              refine xv_bipush (v := nI 38) dX11_closeTo_113 rfl ?_
              refine xv_icmp_neN (tgt := 144) dX11_closeTo_115 rfl (by omega) (by omega) (fun c_115 => absurd hk38 c_115) (fun c_115 => ?_)
              refine xv_aload_n dX11_closeTo_118 rfl rfl ?_
              refine xv_getr dX11_closeTo_119 fl_X11_118 (go_40 hG) rfl (gr_40_47 hG) ?_
              refine xv_aload_n dX11_closeTo_122 rfl rfl ?_
              refine xv_geti dX11_closeTo_123 fl_X11_301 (go_40 hG) rfl ?_
              refine xv_nmI xv_ui_s ?_
              refine xv_iconst (v := nI 1) dX11_closeTo_126 rfl ?_
              refine xv_isub dX11_closeTo_127 ?_
              refine xv_nmI (pk_sub (by simp)) ?_
              refine xv_nmI (show nI ((t2 :: ts).length - 1) = nI ts.length from by simp) ?_
              refine xv_zaload dX11_closeTo_128 (go_97 hG) (xv_ixn (by omega) (by decide)) ?_
              refine xv_nmI (show (xv_ui (xv_ui I2 40 44 (nI os.length)) 40 46 (nI (t2 :: ts).length)) 97 _ = xb t2 from (congrFun (xv_ui_ne (by decide)) _).trans ((congrFun (xv_ui_ne (by decide)) _).trans hq.2.2.2.2.2.2.2.1)) ?_
              refine xv_if_eqB (tgt := 140) dX11_closeTo_129 rfl (fun c_129 => ?_) (fun c_129 => ?_)
              · refine xv_iconst (v := 0) dX11_closeTo_140 rfl ?_
                refine xv_goto (tgt := 167) dX11_closeTo_141 rfl ?_
                refine xv_zastore dX11_closeTo_167 (go_97 hG) (xv_ixn (by omega) (by decide)) rfl ?_
                refine xv_goto (tgt := 0) dX11_closeTo_168 rfl ?_
                refine xv_fg [true, true, false] ?_
                refine ih ((t2 && t) :: ts) _ True.intro (by simp only [List.length_cons] at ht6 ⊢; omega) (rq_st (t := t2) (t2 := (t2 && t)) (by first | (rw [c_129, Bool.false_and]; rfl) | rw [c_129, Bool.false_and]) (rq_pt (rq_po hq))) hc hQ
              · refine xv_iload_n dX11_closeTo_132 rfl rfl ?_
                refine xv_if_eqB (tgt := 140) dX11_closeTo_133 rfl (fun c_133 => ?_) (fun c_133 => ?_)
                · refine xv_iconst (v := 0) dX11_closeTo_140 rfl ?_
                  refine xv_goto (tgt := 167) dX11_closeTo_141 rfl ?_
                  refine xv_zastore dX11_closeTo_167 (go_97 hG) (xv_ixn (by omega) (by decide)) rfl ?_
                  refine xv_goto (tgt := 0) dX11_closeTo_168 rfl ?_
                  refine xv_fg [true, true, false] ?_
                  refine ih ((t2 && t) :: ts) _ True.intro (by simp only [List.length_cons] at ht6 ⊢; omega) (rq_st (t := t2) (t2 := (t2 && t)) (by first | (rw [c_129, c_133]; rfl) | rw [c_129, c_133]) (rq_pt (rq_po hq))) hc hQ
                · refine xv_iconst (v := 1) dX11_closeTo_136 rfl ?_
                  refine xv_goto (tgt := 167) dX11_closeTo_137 rfl ?_
                  refine xv_zastore dX11_closeTo_167 (go_97 hG) (xv_ixn (by omega) (by decide)) rfl ?_
                  refine xv_goto (tgt := 0) dX11_closeTo_168 rfl ?_
                  refine xv_fg [true, true, false] ?_
                  refine ih ((t2 && t) :: ts) _ True.intro (by simp only [List.length_cons] at ht6 ⊢; omega) (rq_st (t := t2) (t2 := (t2 && t)) (by first | (rw [c_129, c_133]; rfl) | rw [c_129, c_133]) (rq_pt (rq_po hq))) hc hQ
            · have hc : cl_o k os ((t2 || t) :: ts) = some (os2, ts2) := (show (if o = 38 then t2 && t else t2 || t) = (t2 || t) from if_neg hk38) ▸ hc
              refine xv_aload_n dX11_closeTo_0 rfl rfl ?_
              refine xv_geti dX11_closeTo_1 fl_X11_304 (go_40 hG) rfl ?_
              refine xv_nmI hq.2.2.2.1 ?_
              refine xv_if_le (tgt := 171) dX11_closeTo_4 rfl (fun c_4 => absurd c_4 (nI_nle (by simp) (by omega))) (fun c_4 => ?_)
              refine xv_aload_n dX11_closeTo_7 rfl rfl ?_
              refine xv_getr dX11_closeTo_8 fl_X11_115 (go_40 hG) rfl (gr_40_45 hG) ?_
              refine xv_aload_n dX11_closeTo_11 rfl rfl ?_
              refine xv_geti dX11_closeTo_12 fl_X11_304 (go_40 hG) rfl ?_
              refine xv_nmI hq.2.2.2.1 ?_
              refine xv_iconst (v := nI 1) dX11_closeTo_15 rfl ?_
              refine xv_isub dX11_closeTo_16 ?_
              refine xv_nmI (pk_sub (by simp)) ?_
              refine xv_nmI (show nI ((o :: os).length - 1) = nI os.length from by simp) ?_
              refine xv_iaload dX11_closeTo_17 (go_95 hG) (xv_ixn (by omega) (by decide)) ?_
              refine xv_nmI (hq.2.2.2.2.2.1.1) ?_
              refine xv_callS0 (As := [_]) dX11_closeTo_18 cl_X11_307 rfl rfl rfl rfl (Nat.le_of_ble_eq_true rfl) (Nat.le_of_ble_eq_true rfl) (Nat.zero_le _) (Nat.zero_le _) ?_
              refine s11_binds (by have := ho8 o (by simp); omega) ?_
              refine xv_iload_n dX11_closeTo_21 rfl rfl ?_
              refine xv_icmp_ltN (tgt := 171) dX11_closeTo_22 rfl (by omega) (by omega) (fun c_22 => absurd c_22 (by omega)) (fun c_22 => ?_)
              refine xv_aload_n dX11_closeTo_25 rfl rfl ?_
              refine xv_dup dX11_closeTo_26 rfl ?_
              refine xv_geti dX11_closeTo_27 fl_X11_304 (go_40 hG) rfl ?_
              refine xv_nmI hq.2.2.2.1 ?_
              refine xv_iconst (v := nI 1) dX11_closeTo_30 rfl ?_
              refine xv_isub dX11_closeTo_31 ?_
              refine xv_nmI (pk_sub (by simp)) ?_
              refine xv_nmI (show nI ((o :: os).length - 1) = nI os.length from by simp) ?_
              refine xv_puti dX11_closeTo_32 fl_X11_304 (go_40 hG) rfl rfl rfl ?_
              refine xv_aload_n dX11_closeTo_35 rfl rfl ?_
              refine xv_getr dX11_closeTo_36 fl_X11_118 (go_40 hG) rfl (gr_40_47 hG) ?_
              refine xv_aload_n dX11_closeTo_39 rfl rfl ?_
              refine xv_geti dX11_closeTo_40 fl_X11_301 (go_40 hG) rfl ?_
              refine xv_nmI ((xv_ui_o (by decide)).trans hq.2.2.2.2.1) ?_
              refine xv_iconst (v := nI 1) dX11_closeTo_43 rfl ?_
              refine xv_isub dX11_closeTo_44 ?_
              refine xv_nmI (pk_sub (by simp)) ?_
              refine xv_nmI (show nI ((t :: t2 :: ts).length - 1) = nI (t2 :: ts).length from by simp) ?_
              refine xv_zaload dX11_closeTo_45 (go_97 hG) (xv_ixn (by omega) (by decide)) ?_
              refine xv_nmI (show xv_ui I2 40 44 (nI os.length) 97 _ = xb t from (congrFun (xv_ui_ne (by decide)) _).trans hq.2.2.2.2.2.2.1) ?_
              refine xv_istore_n dX11_closeTo_46 rfl (Nat.le_of_ble_eq_true rfl) rfl ?_
              refine xv_aload_n dX11_closeTo_47 rfl rfl ?_
              refine xv_getr dX11_closeTo_48 fl_X11_115 (go_40 hG) rfl (gr_40_45 hG) ?_
              refine xv_aload_n dX11_closeTo_51 rfl rfl ?_
              refine xv_geti dX11_closeTo_52 fl_X11_304 (go_40 hG) rfl ?_
              refine xv_nmI xv_ui_s ?_
              refine xv_iaload dX11_closeTo_55 (go_95 hG) (xv_ixn (by omega) (by decide)) ?_
              refine xv_nmI (show xv_ui I2 40 44 (nI os.length) 95 _ = nI o from (congrFun (xv_ui_ne (by decide)) _).trans (hq.2.2.2.2.2.1.1)) ?_
              refine xv_bipush (v := nI 33) dX11_closeTo_56 rfl ?_
              refine xv_icmp_neN (tgt := 84) dX11_closeTo_58 rfl (by omega) (by omega) (fun c_58 => ?_) (fun c_58 => absurd c_58 hk33)
              refine xv_aload_n dX11_closeTo_84 rfl rfl ?_
              refine xv_dup dX11_closeTo_85 rfl ?_
              refine xv_geti dX11_closeTo_86 fl_X11_301 (go_40 hG) rfl ?_
              refine xv_nmI ((xv_ui_o (by decide)).trans hq.2.2.2.2.1) ?_
              refine xv_iconst (v := nI 1) dX11_closeTo_89 rfl ?_
              refine xv_isub dX11_closeTo_90 ?_
              refine xv_nmI (pk_sub (by simp)) ?_
              refine xv_nmI (show nI ((t :: t2 :: ts).length - 1) = nI (t2 :: ts).length from by simp) ?_
              refine xv_puti dX11_closeTo_91 fl_X11_301 (go_40 hG) rfl rfl rfl ?_
              refine xv_aload_n dX11_closeTo_94 rfl rfl ?_
              refine xv_getr dX11_closeTo_95 fl_X11_118 (go_40 hG) rfl (gr_40_47 hG) ?_
              refine xv_aload_n dX11_closeTo_98 rfl rfl ?_
              refine xv_geti dX11_closeTo_99 fl_X11_301 (go_40 hG) rfl ?_
              refine xv_nmI xv_ui_s ?_
              refine xv_iconst (v := nI 1) dX11_closeTo_102 rfl ?_
              refine xv_isub dX11_closeTo_103 ?_
              refine xv_nmI (pk_sub (by simp)) ?_
              refine xv_nmI (show nI ((t2 :: ts).length - 1) = nI ts.length from by simp) ?_
              refine xv_aload_n dX11_closeTo_104 rfl rfl ?_
              refine xv_getr dX11_closeTo_105 fl_X11_115 (go_40 hG) rfl (gr_40_45 hG) ?_
              refine xv_aload_n dX11_closeTo_108 rfl rfl ?_
              refine xv_geti dX11_closeTo_109 fl_X11_304 (go_40 hG) rfl ?_
              refine xv_nmI ((xv_ui_o (by decide)).trans xv_ui_s) ?_
              refine xv_iaload dX11_closeTo_112 (go_95 hG) (xv_ixn (by omega) (by decide)) ?_
              refine xv_nmI (show (xv_ui (xv_ui I2 40 44 (nI os.length)) 40 46 (nI (t2 :: ts).length)) 95 _ = nI o from (congrFun (xv_ui_ne (by decide)) _).trans ((congrFun (xv_ui_ne (by decide)) _).trans (hq.2.2.2.2.2.1.1))) ?_
              refine xv_bipush (v := nI 38) dX11_closeTo_113 rfl ?_
              refine xv_icmp_neN (tgt := 144) dX11_closeTo_115 rfl (by omega) (by omega) (fun c_115 => ?_) (fun c_115 => absurd c_115 hk38)
              refine xv_aload_n dX11_closeTo_144 rfl rfl ?_
              refine xv_getr dX11_closeTo_145 fl_X11_118 (go_40 hG) rfl (gr_40_47 hG) ?_
              refine xv_aload_n dX11_closeTo_148 rfl rfl ?_
              refine xv_geti dX11_closeTo_149 fl_X11_301 (go_40 hG) rfl ?_
              refine xv_nmI xv_ui_s ?_
              refine xv_iconst (v := nI 1) dX11_closeTo_152 rfl ?_
              refine xv_isub dX11_closeTo_153 ?_
              refine xv_nmI (pk_sub (by simp)) ?_
              refine xv_nmI (show nI ((t2 :: ts).length - 1) = nI ts.length from by simp) ?_
              refine xv_zaload dX11_closeTo_154 (go_97 hG) (xv_ixn (by omega) (by decide)) ?_
              refine xv_nmI (show (xv_ui (xv_ui I2 40 44 (nI os.length)) 40 46 (nI (t2 :: ts).length)) 97 _ = xb t2 from (congrFun (xv_ui_ne (by decide)) _).trans ((congrFun (xv_ui_ne (by decide)) _).trans hq.2.2.2.2.2.2.2.1)) ?_
              refine xv_if_neB (tgt := 162) dX11_closeTo_155 rfl (fun c_155 => ?_) (fun c_155 => ?_)
              · refine xv_iconst (v := 1) dX11_closeTo_162 rfl ?_
                refine xv_goto (tgt := 167) dX11_closeTo_163 rfl ?_
                refine xv_zastore dX11_closeTo_167 (go_97 hG) (xv_ixn (by omega) (by decide)) rfl ?_
                refine xv_goto (tgt := 0) dX11_closeTo_168 rfl ?_
                refine xv_fg [true, true, false] ?_
                refine ih ((t2 || t) :: ts) _ True.intro (by simp only [List.length_cons] at ht6 ⊢; omega) (rq_st (t := t2) (t2 := (t2 || t)) (by first | (rw [c_155, Bool.true_or]; rfl) | rw [c_155, Bool.true_or]) (rq_pt (rq_po hq))) hc hQ
              · refine xv_iload_n dX11_closeTo_158 rfl rfl ?_
                refine xv_if_eqB (tgt := 166) dX11_closeTo_159 rfl (fun c_159 => ?_) (fun c_159 => ?_)
                · refine xv_iconst (v := 0) dX11_closeTo_166 rfl ?_
                  refine xv_zastore dX11_closeTo_167 (go_97 hG) (xv_ixn (by omega) (by decide)) rfl ?_
                  refine xv_goto (tgt := 0) dX11_closeTo_168 rfl ?_
                  refine xv_fg [true, true, false] ?_
                  refine ih ((t2 || t) :: ts) _ True.intro (by simp only [List.length_cons] at ht6 ⊢; omega) (rq_st (t := t2) (t2 := (t2 || t)) (by first | (rw [c_155, c_159]; rfl) | rw [c_155, c_159]) (rq_pt (rq_po hq))) hc hQ
                · refine xv_iconst (v := 1) dX11_closeTo_162 rfl ?_
                  refine xv_goto (tgt := 167) dX11_closeTo_163 rfl ?_
                  refine xv_zastore dX11_closeTo_167 (go_97 hG) (xv_ixn (by omega) (by decide)) rfl ?_
                  refine xv_goto (tgt := 0) dX11_closeTo_168 rfl ?_
                  refine xv_fg [true, true, false] ?_
                  refine ih ((t2 || t) :: ts) _ True.intro (by simp only [List.length_cons] at ht6 ⊢; omega) (rq_st (t := t2) (t2 := (t2 || t)) (by first | (rw [c_155, c_159]; rfl) | rw [c_155, c_159]) (rq_pt (rq_po hq))) hc hQ
    · rw [if_neg hkb] at hc
      refine xv_aload_n dX11_closeTo_0 rfl rfl ?_
      refine xv_geti dX11_closeTo_1 fl_X11_304 (go_40 hG) rfl ?_
      refine xv_nmI hq.2.2.2.1 ?_
      refine xv_if_le (tgt := 171) dX11_closeTo_4 rfl (fun c_4 => absurd c_4 (nI_nle (by simp) (by omega))) (fun c_4 => ?_)
      refine xv_aload_n dX11_closeTo_7 rfl rfl ?_
      refine xv_getr dX11_closeTo_8 fl_X11_115 (go_40 hG) rfl (gr_40_45 hG) ?_
      refine xv_aload_n dX11_closeTo_11 rfl rfl ?_
      refine xv_geti dX11_closeTo_12 fl_X11_304 (go_40 hG) rfl ?_
      refine xv_nmI hq.2.2.2.1 ?_
      refine xv_iconst (v := nI 1) dX11_closeTo_15 rfl ?_
      refine xv_isub dX11_closeTo_16 ?_
      refine xv_nmI (pk_sub (by simp)) ?_
      refine xv_nmI (show nI ((o :: os).length - 1) = nI os.length from by simp) ?_
      refine xv_iaload dX11_closeTo_17 (go_95 hG) (xv_ixn (by omega) (by decide)) ?_
      refine xv_nmI hq.2.2.2.2.2.1.1 ?_
      refine xv_callS0 (As := [_]) dX11_closeTo_18 cl_X11_307 rfl rfl rfl rfl (Nat.le_of_ble_eq_true rfl) (Nat.le_of_ble_eq_true rfl) (Nat.zero_le _) (Nat.zero_le _) ?_
      refine s11_binds (by have := ho8 o (by simp); omega) ?_
      refine xv_iload_n dX11_closeTo_21 rfl rfl ?_
      refine xv_icmp_ltN (tgt := 171) dX11_closeTo_22 rfl (by omega) (by omega) (fun c_22 => ?_) (fun c_22 => absurd c_22 (by omega))
      refine xv_vret dX11_closeTo_171 rfl (Nat.zero_le _) (Nat.zero_le _) ?_
      cases hc
      exact hQ I2 hq
