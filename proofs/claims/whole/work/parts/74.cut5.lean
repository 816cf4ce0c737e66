/-! boards (class): leastNumber, the walk over the submasks -/
theorem xl_i {p : Nat} (h : p < 2 ^ 31) : (nI p).toInt64 = lN p := Int64.toInt_inj.mp (by rw [Int32.toInt_toInt64, nI_toInt h, pf_lI (by omega)])
def rs_ (S : Nat) : Nat := S ^^^ lw_ S
def Lc (pv : Nat → Option Nat) (bh : Nat → Nat) (S v : Nat) : Prop := ∃ x p, sb_ x (rs_ S) ∧ pv (lw_ S ||| x) = some p ∧ v = p * 743008370688 + bh (rs_ S ^^^ x)
theorem sb_xor {a b : Nat} (h : sb_ a b) : sb_ (b ^^^ a) b := fun i hi => by
  rw [Nat.testBit_xor] at hi
  cases e : b.testBit i with
  | true => rfl
  | false =>
    rw [e] at hi
    cases e2 : a.testBit i with
    | true => rw [h i e2] at e; cases e
    | false => rw [e2] at hi; cases hi
theorem sb_z (b : Nat) : sb_ 0 b := fun i hi => by rw [Nat.zero_testBit] at hi; cases hi
theorem rs_sb (S : Nat) : sb_ (rs_ S) S := sb_xor (lw_sb S)
theorem cmp_ge {a b : Nat} (ha : a < 2 ^ 62) (hb : b < 2 ^ 62) : (0 : Int32) ≤ lg_cmp (lN a) (lN b) ↔ b ≤ a := by
  have h1 := pf_lI (a := a) (by omega)
  have h2 := pf_lI (a := b) (by omega)
  have e := xn_cmp_lt (lN a) (lN b)
  rw [xn_ltL, h1, h2, xn_lt] at e
  rw [xn_le]
  have z : (0 : Int32).toInt = 0 := by decide
  rw [z] at e ⊢
  omega
def ln_i (pv : Nat → Option Nat) (bh : Nat → Nat) (S m v : Nat) : Prop := ∀ x p, sb_ x (rs_ S) → (m < x ∨ x = 0) → pv (lw_ S ||| x) = some p → v ≤ p * 743008370688 + bh (rs_ S ^^^ x)
theorem ln_st {pv : Nat → Option Nat} {bh : Nat → Nat} {S m v w : Nat} (hm : sb_ m (rs_ S)) (h0 : 0 < m) (hi : ln_i pv bh S m v) (hw : w ≤ v) (hx : ∀ p, pv (lw_ S ||| m) = some p → w ≤ p * 743008370688 + bh (rs_ S ^^^ m)) : ln_i pv bh S ((m - 1) &&& rs_ S) w := by
  intro x p h1 h2 h3
  by_cases e : x = m
  · subst e; exact hx p h3
  · refine Nat.le_trans hw (hi x p h1 ?_ h3)
    rcases h2 with q | q
    · left
      rcases Nat.lt_or_ge m x with z | z
      · exact z
      · have := sm_next m (rs_ S) x hm h0 h1 (by omega)
        omega
    · exact Or.inr q
theorem s2_ln_l {l : Launch} {D : va_G} {d : Nat} {G : xv_Gr} {I : xv_I} {J : xv_J} {Q : xv_Po} (hG : xg_ok G) {pv : Nat → Option Nat} {bh : Nat → Nat} {S : Nat} (hS : S < 4096) (hpv : ∀ T, sb_ T S → T ≠ 0 → I 140 T = ob_ (-1) (pv T) ∧ ∀ p, pv T = some p → p ≤ 129988) (hbh : ∀ T, sb_ T (rs_ S) → J 141 T = lN (bh T) ∧ bh T ≤ 1500000000000000000) (hln : lw_ S ≠ 0) (hQ : ∀ v, Lc pv bh S v → (∀ w, Lc pv bh S w → v ≤ w) → Q (some (.long (lN v))) G I J) : ∀ (m v : Nat), sb_ m (rs_ S) → Lc pv bh S v → ln_i pv bh S m v → xv_Ev l D d mX2_leastNumber none 32 [some (.ref 3), some (.int (nI S)), some (.int (nI (lw_ S))), some (.int (nI (rs_ S))), some (.long (lN v)), none, some (.int (nI m)), none, none, none] [] G I J 0 0 Q := by
  intro m
  induction m using Nat.strongRecOn with
  | ind m ih =>
    intro v hm hv hi
    rcases Nat.eq_zero_or_pos m with h0 | h0
    · subst h0
      refine xv_iload dX2_leastNumber_32 rfl ?_
      refine xv_if_le (tgt := 95) dX2_leastNumber_34 rfl (fun c_34 => ?_) (fun c_34 => absurd (by decide) c_34)
      refine xv_lload dX2_leastNumber_95 rfl ?_
      refine xv_lret dX2_leastNumber_97 rfl (Nat.zero_le _) (Nat.zero_le _) ?_
      obtain ⟨x, p, g1, g2, g3⟩ := hv
      exact hQ v ⟨x, p, g1, g2, g3⟩ (fun w ⟨x2, p2, k1, k2, k3⟩ => by rw [k3]; exact hi x2 p2 k1 (by omega) k2)
    · have hr4 : rs_ S < 4096 := Nat.lt_of_le_of_lt (sb_le (rs_sb S)) hS
      have hm4 : m ≤ rs_ S := sb_le hm
      have hT : sb_ (lw_ S ||| m) S := sb_or (lw_sb S) (sb_tr hm (rs_sb S))
      have hT4 := sb_le hT
      have hTn : lw_ S ||| m ≠ 0 := fun z => by
        have q : m ≤ lw_ S ||| m := Nat.right_le_or
        omega
      have hx4 : sb_ (rs_ S ^^^ m) (rs_ S) := sb_xor hm
      have hx5 := sb_le hx4
      have hP := hpv _ hT hTn
      have hB := hbh _ hx4
      have hv62 : v ≤ 1600000000000000000 := by
        obtain ⟨x, p, g1, g2, g3⟩ := hv
        have k1 := (hbh _ (sb_xor g1)).2
        have k2 := (hpv _ (sb_or (lw_sb S) (sb_tr g1 (rs_sb S))) (fun z => hln (by have : lw_ S ≤ lw_ S ||| x := Nat.left_le_or; omega))).2 p g2
        rw [g3]; omega
      have hsm : ((m - 1) &&& rs_ S) < m := by have : (m - 1) &&& rs_ S ≤ m - 1 := Nat.and_le_left; omega
      cases e : pv (lw_ S ||| m) with
      | none =>
        refine xv_iload dX2_leastNumber_32 rfl ?_
        refine xv_if_le (tgt := 95) dX2_leastNumber_34 rfl (fun c_34 => absurd c_34 (nI_nle h0 (by omega))) (fun c_34 => ?_)
        refine xv_aload_n dX2_leastNumber_37 rfl rfl ?_
        refine xv_getr dX2_leastNumber_38 fl_X2_44 (go_3 hG) rfl (gr_3_10 hG) ?_
        refine xv_iload_n dX2_leastNumber_41 rfl rfl ?_
        refine xv_iload dX2_leastNumber_42 rfl ?_
        refine xv_ior dX2_leastNumber_44 ?_
        refine xv_nmI (xi_or _ _) ?_
        refine xv_iaload dX2_leastNumber_45 (go_140 hG) (xv_ixn (by omega) (by decide)) ?_
        refine xv_nmI (hP.1.trans (by rw [e]; rfl : _ = (-1 : Int32))) ?_
        refine xv_istore dX2_leastNumber_46 (Nat.le_of_ble_eq_true rfl) rfl ?_
        refine xv_iload dX2_leastNumber_48 rfl ?_
        refine xv_i2l dX2_leastNumber_50 ?_
        refine xv_ldc2 dX2_leastNumber_51 ld_X2_77 ?_
        refine xv_lmul dX2_leastNumber_54 ?_
        refine xv_aload_n dX2_leastNumber_55 rfl rfl ?_
        refine xv_getr dX2_leastNumber_56 fl_X2_47 (go_3 hG) rfl (gr_3_11 hG) ?_
        refine xv_iload_n dX2_leastNumber_59 rfl rfl ?_
        refine xv_iload dX2_leastNumber_60 rfl ?_
        refine xv_ixor dX2_leastNumber_62 ?_
        refine xv_nmI (xi_xor _ _) ?_
        refine xv_laload dX2_leastNumber_63 (go_141 hG) (xv_ixn (by omega) (by decide)) ?_
        refine xv_nmJ hB.1 ?_
        refine xv_ladd dX2_leastNumber_64 ?_
        refine xv_lstore dX2_leastNumber_65 (Nat.le_of_ble_eq_true rfl) rfl ?_
        refine xv_iload dX2_leastNumber_67 rfl ?_
        refine xv_if_lt (tgt := 84) dX2_leastNumber_69 rfl (fun c_69 => ?_) (fun c_69 => absurd (by decide) c_69)
        refine xv_iload dX2_leastNumber_84 rfl ?_
        refine xv_iconst (v := nI 1) dX2_leastNumber_86 rfl ?_
        refine xv_isub dX2_leastNumber_87 ?_
        refine xv_nmI (pk_sub (by omega)) ?_
        refine xv_iload_n dX2_leastNumber_88 rfl rfl ?_
        refine xv_iand dX2_leastNumber_89 ?_
        refine xv_nmI (xi_and _ _) ?_
        refine xv_istore dX2_leastNumber_90 (Nat.le_of_ble_eq_true rfl) rfl ?_
        refine xv_goto (tgt := 32) dX2_leastNumber_92 rfl ?_
        refine xv_fg [true, true, true, true, true, false, true, false, false, false] (ih ((m - 1) &&& rs_ S) hsm v sb_and hv (ln_st hm h0 hi (Nat.le_refl _) (fun p hp => by rw [e] at hp; cases hp)))
      | some q =>
        have hq := hP.2 q e
        refine xv_iload dX2_leastNumber_32 rfl ?_
        refine xv_if_le (tgt := 95) dX2_leastNumber_34 rfl (fun c_34 => absurd c_34 (nI_nle h0 (by omega))) (fun c_34 => ?_)
        refine xv_aload_n dX2_leastNumber_37 rfl rfl ?_
        refine xv_getr dX2_leastNumber_38 fl_X2_44 (go_3 hG) rfl (gr_3_10 hG) ?_
        refine xv_iload_n dX2_leastNumber_41 rfl rfl ?_
        refine xv_iload dX2_leastNumber_42 rfl ?_
        refine xv_ior dX2_leastNumber_44 ?_
        refine xv_nmI (xi_or _ _) ?_
        refine xv_iaload dX2_leastNumber_45 (go_140 hG) (xv_ixn (by omega) (by decide)) ?_
        refine xv_nmI (hP.1.trans (by rw [e]; rfl : _ = nI q)) ?_
        refine xv_istore dX2_leastNumber_46 (Nat.le_of_ble_eq_true rfl) rfl ?_
        refine xv_iload dX2_leastNumber_48 rfl ?_
        refine xv_i2l dX2_leastNumber_50 ?_
        refine xv_ldc2 dX2_leastNumber_51 ld_X2_77 ?_
        refine xv_lmul dX2_leastNumber_54 ?_
        refine xv_nmJ (show (nI q).toInt64 * 743008370688 = lN (q * 743008370688) from by rw [xl_i (by omega)]; exact xl_mul _ 743008370688) ?_
        refine xv_aload_n dX2_leastNumber_55 rfl rfl ?_
        refine xv_getr dX2_leastNumber_56 fl_X2_47 (go_3 hG) rfl (gr_3_11 hG) ?_
        refine xv_iload_n dX2_leastNumber_59 rfl rfl ?_
        refine xv_iload dX2_leastNumber_60 rfl ?_
        refine xv_ixor dX2_leastNumber_62 ?_
        refine xv_nmI (xi_xor _ _) ?_
        refine xv_laload dX2_leastNumber_63 (go_141 hG) (xv_ixn (by omega) (by decide)) ?_
        refine xv_nmJ hB.1 ?_
        refine xv_ladd dX2_leastNumber_64 ?_
        refine xv_nmJ (xl_add _ _) ?_
        refine xv_lstore dX2_leastNumber_65 (Nat.le_of_ble_eq_true rfl) rfl ?_
        refine xv_iload dX2_leastNumber_67 rfl ?_
        refine xv_if_lt (tgt := 84) dX2_leastNumber_69 rfl (fun c_69 => absurd c_69 (nI_pos (by omega))) (fun c_69 => ?_)
        refine xv_lload dX2_leastNumber_72 rfl ?_
        refine xv_lload dX2_leastNumber_74 rfl ?_
        refine xv_lcmp dX2_leastNumber_76 ?_
        refine xv_if_ge (tgt := 84) dX2_leastNumber_77 rfl (fun c_77 => ?_) (fun c_77 => ?_)
        · refine xv_iload dX2_leastNumber_84 rfl ?_
          refine xv_iconst (v := nI 1) dX2_leastNumber_86 rfl ?_
          refine xv_isub dX2_leastNumber_87 ?_
          refine xv_nmI (pk_sub (by omega)) ?_
          refine xv_iload_n dX2_leastNumber_88 rfl rfl ?_
          refine xv_iand dX2_leastNumber_89 ?_
          refine xv_nmI (xi_and _ _) ?_
          refine xv_istore dX2_leastNumber_90 (Nat.le_of_ble_eq_true rfl) rfl ?_
          refine xv_goto (tgt := 32) dX2_leastNumber_92 rfl ?_
          have c7 := (cmp_ge (by omega) (by omega)).mp c_77
          refine xv_fg [true, true, true, true, true, false, true, false, false, false] (ih ((m - 1) &&& rs_ S) hsm v sb_and hv (ln_st hm h0 hi (Nat.le_refl _) (fun p hp => by rw [e] at hp; cases hp; exact c7)))
        · refine xv_lload dX2_leastNumber_80 rfl ?_
          refine xv_lstore dX2_leastNumber_82 (Nat.le_of_ble_eq_true rfl) rfl ?_
          refine xv_iload dX2_leastNumber_84 rfl ?_
          refine xv_iconst (v := nI 1) dX2_leastNumber_86 rfl ?_
          refine xv_isub dX2_leastNumber_87 ?_
          refine xv_nmI (pk_sub (by omega)) ?_
          refine xv_iload_n dX2_leastNumber_88 rfl rfl ?_
          refine xv_iand dX2_leastNumber_89 ?_
          refine xv_nmI (xi_and _ _) ?_
          refine xv_istore dX2_leastNumber_90 (Nat.le_of_ble_eq_true rfl) rfl ?_
          refine xv_goto (tgt := 32) dX2_leastNumber_92 rfl ?_
          have c7 : ¬ v ≤ q * 743008370688 + bh (rs_ S ^^^ m) := fun z => c_77 ((cmp_ge (by omega) (by omega)).mpr z)
          refine xv_fg [true, true, true, true, true, false, true, false, false, false] (ih ((m - 1) &&& rs_ S) hsm (q * 743008370688 + bh (rs_ S ^^^ m)) sb_and ⟨m, q, hm, e, rfl⟩ (ln_st hm h0 hi (by omega) (fun p hp => by rw [e] at hp; cases hp; exact Nat.le_refl _)))

theorem lw_n0 {S : Nat} (h : S ≠ 0) (h4 : S < 4096) : lw_ S ≠ 0 := fun z => by
  have q := lw_ok S h4
  rw [z] at q
  have h2 : ∀ a, a < 64 → ∀ b, b < 64 → lw_ (64 * a + b) = 0 → 64 * a + b = 0 := by decide +kernel
  have h1 := h2 (S / 64) (by omega) (S % 64) (by omega)
  rw [Nat.div_add_mod] at h1
  exact h (h1 z)
theorem s2_leastNumber {l : Launch} {D : va_G} {d : Nat} {G : xv_Gr} {I : xv_I} {J : xv_J} {Q : xv_Po} (hG : xg_ok G) {pv : Nat → Option Nat} {bh : Nat → Nat} {S : Nat} (hS : S < 4096) (hpv : ∀ T, sb_ T S → T ≠ 0 → I 140 T = ob_ (-1) (pv T) ∧ ∀ p, pv T = some p → p ≤ 129988) (hbh : ∀ T, sb_ T (rs_ S) → J 141 T = lN (bh T) ∧ bh T ≤ 1500000000000000000) (h0 : S ≠ 0) (hfs : ∃ q, pv (lw_ S) = some q) (hQ : ∀ v, Lc pv bh S v → (∀ w, Lc pv bh S w → v ≤ w) → Q (some (.long (lN v))) G I J) : xv_Ev l D d mX2_leastNumber none 0 [some (.ref 3), some (.int (nI S)), none, none, none, none, none, none, none, none] [] G I J 0 0 Q := by
  have hln : lw_ S ≠ 0 := lw_n0 h0 hS
  have hl4 : lw_ S ≤ S := sb_le (lw_sb S)
  have hr4 : rs_ S ≤ S := sb_le (rs_sb S)
  have hP := hpv _ (lw_sb S) hln
  have hB := hbh _ (fun _ h => h)
  obtain ⟨q, hq⟩ := hfs
  have hq4 := hP.2 q hq
  refine xv_iload_n dX2_leastNumber_0 rfl rfl ?_
  refine xv_iload_n dX2_leastNumber_1 rfl rfl ?_
  refine xv_ineg dX2_leastNumber_2 ?_
  refine xv_iand dX2_leastNumber_3 ?_
  refine xv_nmI (lw_ok S hS) ?_
  refine xv_istore_n dX2_leastNumber_4 rfl (Nat.le_of_ble_eq_true rfl) rfl ?_
  refine xv_iload_n dX2_leastNumber_5 rfl rfl ?_
  refine xv_iload_n dX2_leastNumber_6 rfl rfl ?_
  refine xv_ixor dX2_leastNumber_7 ?_
  refine xv_nmI (show nI S ^^^ nI (lw_ S) = nI (rs_ S) from xi_xor _ _) ?_
  refine xv_istore_n dX2_leastNumber_8 rfl (Nat.le_of_ble_eq_true rfl) rfl ?_
  refine xv_aload_n dX2_leastNumber_9 rfl rfl ?_
  refine xv_getr dX2_leastNumber_10 fl_X2_44 (go_3 hG) rfl (gr_3_10 hG) ?_
  refine xv_iload_n dX2_leastNumber_13 rfl rfl ?_
  refine xv_iaload dX2_leastNumber_14 (go_140 hG) (xv_ixn (by omega) (by decide)) ?_
  refine xv_nmI (hP.1.trans (by rw [hq]; rfl : _ = nI q)) ?_
  refine xv_i2l dX2_leastNumber_15 ?_
  refine xv_ldc2 dX2_leastNumber_16 ld_X2_77 ?_
  refine xv_lmul dX2_leastNumber_19 ?_
  refine xv_nmJ (show (nI q).toInt64 * 743008370688 = lN (q * 743008370688) from by rw [xl_i (by omega)]; exact xl_mul _ 743008370688) ?_
  refine xv_aload_n dX2_leastNumber_20 rfl rfl ?_
  refine xv_getr dX2_leastNumber_21 fl_X2_47 (go_3 hG) rfl (gr_3_11 hG) ?_
  refine xv_iload_n dX2_leastNumber_24 rfl rfl ?_
  refine xv_laload dX2_leastNumber_25 (go_141 hG) (xv_ixn (by omega) (by decide)) ?_
  refine xv_nmJ hB.1 ?_
  refine xv_ladd dX2_leastNumber_26 ?_
  refine xv_nmJ (xl_add _ _) ?_
  refine xv_lstore dX2_leastNumber_27 (Nat.le_of_ble_eq_true rfl) rfl ?_
  refine xv_iload_n dX2_leastNumber_29 rfl rfl ?_
  refine xv_istore dX2_leastNumber_30 (Nat.le_of_ble_eq_true rfl) rfl ?_
  refine s2_ln_l hG hS hpv hbh hln hQ (rs_ S) _ (fun _ h => h) ⟨0, q, sb_z _, by rw [Nat.or_zero]; exact hq, by rw [Nat.xor_zero]⟩ (fun x p g1 g2 g3 => ?_)
  have g4 := sb_le g1
  have e : x = 0 := by omega
  subst e
  rw [Nat.or_zero, hq] at g3
  cases g3
  rw [Nat.xor_zero]
  exact Nat.le_refl _
