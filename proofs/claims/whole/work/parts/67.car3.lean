/-! two cars (class): seekBest, turnedBy -/
def dn_f (od : Nat → Nat) : Nat → Nat
  | 0 => 0
  | i + 1 => dn_f od i ||| 2 ^ od i
def sk_p (I I2 : xv_I) (od ot : Nat → Nat) (i : Nat) : Prop := (∀ b, b ≠ 155 → b ≠ 156 → I2 b = I b) ∧ ∀ j, j < i → I2 155 (od j) = I 104 (od j) ∧ I2 156 (od j) = nI (ot (od j))
theorem s1_sb_l {l : Launch} {D : va_G} {d : Nat} {G : xv_Gr} {I : xv_I} {J : xv_J} {Q : xv_Po} (hG : xg_ok G) {np : Nat} (hnp : np ≤ 12) {od ot sz rm : Nat → Nat} (hod : ∀ i, i < np → I 121 i = nI (od i) ∧ od i < np) (hinj : ∀ i j, i < np → j < np → od i = od j → i = j) (hsur : ∀ p, p < np → ∃ i, i < np ∧ od i = p) (hot : ∀ i, i < np → ot (od i) = xdf (2 ^ od i - 1) (dn_f od i)) (hsz : ∀ p, p < np → I 104 p = nI (sz p) ∧ sz p ≤ 1000000) (hrm : ∀ c, c < 2 → I 150 c = nI (rm c) ∧ rm c ≤ 3000) (kk : ∀ I2, sk_p I I2 od ot np → xv_Ev l D d mX1_seekBest none 67 [some (.ref 4), some (.int (nI np)), some (.ref 104), some (.ref 121), some (.int (nI (dn_f od np))), some (.int (nI np)), none] [] G I2 J 0 0 Q) : ∀ (n i : Nat) (I2 : xv_I), i + n = np → sk_p I I2 od ot i → xv_Ev l D d mX1_seekBest none 11 [some (.ref 4), some (.int (nI np)), some (.ref 104), some (.ref 121), some (.int (nI (dn_f od i))), some (.int (nI i)), none] [] G I2 J 0 0 Q := by
  intro n
  induction n with
  | zero =>
    intro i I2 hi hs
    refine xv_iload dX1_seekBest_11 rfl ?_
    refine xv_iload_n dX1_seekBest_13 rfl rfl ?_
    refine xv_icmp_geN (tgt := 67) dX1_seekBest_14 rfl (by omega) (by omega) (fun c_14 => ?_) (fun c_14 => absurd c_14 (by omega))
    have e : np = i := by omega
    subst e
    exact kk I2 hs
  | succ n ih =>
    intro i I2 hi hs
    have hO := hod i
    have h104 : I2 104 = I 104 := hs.1 104 (by decide) (by decide)
    have h121 : I2 121 = I 121 := hs.1 121 (by decide) (by decide)
    refine xv_iload dX1_seekBest_11 rfl ?_
    refine xv_iload_n dX1_seekBest_13 rfl rfl ?_
    refine xv_icmp_geN (tgt := 67) dX1_seekBest_14 rfl (by omega) (by omega) (fun c_14 => absurd c_14 (by omega)) (fun c_14 => ?_)
    have hO := hod i (by omega)
    refine xv_aload_n dX1_seekBest_17 rfl rfl ?_
    refine xv_iload dX1_seekBest_18 rfl ?_
    refine xv_iaload dX1_seekBest_20 (go_121 hG) (xv_ixn (by omega) (by decide)) ?_
    refine xv_nmI ((congrFun h121 i).trans hO.1) ?_
    refine xv_istore dX1_seekBest_21 (Nat.le_of_ble_eq_true rfl) rfl ?_
    refine xv_aload_n dX1_seekBest_23 rfl rfl ?_
    refine xv_getr dX1_seekBest_24 fl_X1_30 (go_4 hG) rfl (gr_4_5 hG) ?_
    refine xv_iload dX1_seekBest_27 rfl ?_
    refine xv_aload_n dX1_seekBest_29 rfl rfl ?_
    refine xv_iload dX1_seekBest_30 rfl ?_
    refine xv_iaload dX1_seekBest_32 (go_104 hG) (xv_ixn (by omega) (by decide)) ?_
    refine xv_nmI (congrFun h104 (od i)) ?_
    refine xv_iastore dX1_seekBest_33 (go_155 hG) (xv_ixn (by omega) (by decide)) ?_
    refine xv_aload_n dX1_seekBest_34 rfl rfl ?_
    refine xv_getr dX1_seekBest_35 fl_X1_33 (go_4 hG) rfl (gr_4_6 hG) ?_
    refine xv_iload dX1_seekBest_38 rfl ?_
    refine xv_iconst (v := 1) dX1_seekBest_40 rfl ?_
    refine xv_iload dX1_seekBest_41 rfl ?_
    refine xv_ishl dX1_seekBest_43 ?_
    refine xv_nmI (xi_one (by omega)) ?_
    refine xv_iconst (v := nI 1) dX1_seekBest_44 rfl ?_
    refine xv_isub dX1_seekBest_45 ?_
    refine xv_nmI (pk_sub Nat.one_le_two_pow) ?_
    refine xv_iload dX1_seekBest_46 rfl ?_
    refine xv_iconst (v := -1) dX1_seekBest_48 rfl ?_
    refine xv_ixor dX1_seekBest_49 ?_
    refine xv_iand dX1_seekBest_50 ?_
    refine xv_nmI (xi_andn _ _) ?_
    refine xv_iastore dX1_seekBest_51 (go_156 hG) (xv_ixn (by omega) (by decide)) ?_
    refine xv_iload dX1_seekBest_52 rfl ?_
    refine xv_iconst (v := 1) dX1_seekBest_54 rfl ?_
    refine xv_iload dX1_seekBest_55 rfl ?_
    refine xv_ishl dX1_seekBest_57 ?_
    refine xv_nmI (xi_one (by omega)) ?_
    refine xv_ior dX1_seekBest_58 ?_
    refine xv_nmI (xi_or _ _) ?_
    refine xv_istore dX1_seekBest_59 (Nat.le_of_ble_eq_true rfl) rfl ?_
    refine xv_iinc dX1_seekBest_61 rfl (xv_inc _) (Nat.le_of_ble_eq_true rfl) rfl ?_
    refine xv_goto (tgt := 11) dX1_seekBest_64 rfl ?_
    refine xv_fg [true, true, true, true, true, true, false] (ih (i + 1) _ (by omega) ⟨fun b g1 g2 => ?_, fun j hj => ?_⟩)
    · rw [xv_ui_ne g2, xv_ui_ne g1]; exact hs.1 b g1 g2
    · by_cases e : j = i
      · subst e
        refine ⟨?_, ?_⟩
        · rw [xv_ui_ne (by decide), xv_ui_s]
        · rw [xv_ui_s, hot j (by omega)]
      · have ne : od j ≠ od i := fun z => e (hinj j i (by omega) (by omega) z)
        refine ⟨?_, ?_⟩
        · rw [xv_ui_ne (by decide), xv_ui_o ne]; exact (hs.2 j (by omega)).1
        · rw [xv_ui_o ne, xv_ui_ne (by decide)]; exact (hs.2 j (by omega)).2
