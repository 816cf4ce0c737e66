/-! two cars (class): placeFrom -/
noncomputable def ps_ (sz ot rm : Nat → Nat) (n p S so : Nat) (ld : Nat → Nat) (c : Nat) (b : Option (Nat × Nat)) : Option (Nat × Nat) := if ld c + sz p ≤ rm c then pf sz ot rm n (p + 1) (S ||| c * 2 ^ p) (so + tf_ (ot p) c S) (ld_u ld c (sz p)) b else b
theorem pf_y {sz ot rm : Nat → Nat} {n p S so : Nat} {ld : Nat → Nat} {b : Option (Nat × Nat)} (h : pfB b so) : pf sz ot rm (n + 1) p S so ld b = ps_ sz ot rm n p S so ld 1 (ps_ sz ot rm n p S so ld 0 b) := by
  rw [pf]
  exact if_pos h
theorem pf_n {sz ot rm : Nat → Nat} {n p S so : Nat} {ld : Nat → Nat} {b : Option (Nat × Nat)} (h : ¬ pfB b so) : pf sz ot rm n p S so ld b = b := by
  cases n <;> (rw [pf]; exact if_neg h)
theorem pf_z {sz ot rm : Nat → Nat} {p S so : Nat} {ld : Nat → Nat} {b : Option (Nat × Nat)} (h : pfB b so) : pf sz ot rm 0 p S so ld b = some (so, S) := by
  rw [pf]; exact if_pos h
def cr_ok (np : Nat) (sz ot rm : Nat → Nat) (I : xv_I) : Prop := I 4 4 = nI np ∧ (∀ p, p < np → I 155 p = nI (sz p) ∧ sz p ≤ 1000000 ∧ I 156 p = nI (ot p) ∧ ot p < 4096) ∧ ∀ c, c < 2 → I 150 c = nI (rm c) ∧ rm c ≤ 3000
def ld_k (I : xv_I) (ld : Nat → Nat) : Prop := ∀ c, c < 2 → I 157 c = nI (ld c) ∧ ld c ≤ 3000
def pl_f (I I2 : xv_I) : Prop := (∀ b, b ≠ 157 → b ≠ 4 → I2 b = I b) ∧ (∀ j, j ≠ 2 → j ≠ 3 → I2 4 j = I 4 j) ∧ I2 157 = I 157
theorem pl_re (I : xv_I) : pl_f I I := ⟨fun _ _ _ => rfl, fun _ _ _ => rfl, rfl⟩
theorem pl_tr {I I2 I3 : xv_I} (h : pl_f I I2) (h2 : pl_f I2 I3) : pl_f I I3 := ⟨fun b g1 g2 => (h2.1 b g1 g2).trans (h.1 b g1 g2), fun j g1 g2 => (h2.2.1 j g1 g2).trans (h.2.1 j g1 g2), h2.2.2.trans h.2.2⟩
theorem cr_fr {np : Nat} {sz ot rm : Nat → Nat} {I I2 : xv_I} (h : cr_ok np sz ot rm I) (h1 : ∀ b, b ≠ 157 → b ≠ 4 → I2 b = I b) (h2 : I2 4 4 = I 4 4) : cr_ok np sz ot rm I2 := by
  refine ⟨h2.trans h.1, fun p hp => ?_, fun c hc => ?_⟩
  · rw [h1 155 (by decide) (by decide), h1 156 (by decide) (by decide)]; exact h.2.1 p hp
  · rw [h1 150 (by decide) (by decide)]; exact h.2.2 c hc
theorem bs_fr {I I2 : xv_I} {b : Option (Nat × Nat)} (h : bs_ I b) (h2 : I2 4 = I 4) : bs_ I2 b := by
  cases b with
  | none => show I2 4 2 = _; rw [h2]; exact h
  | some q => show I2 4 2 = _ ∧ I2 4 3 = _ ∧ _; rw [h2]; exact h
theorem nI_nb {n : Nat} (h : n ≤ 10000) : ¬ nI n = -900009 := fun e => by
  have q := congrArg Int32.toInt e
  rw [nI_toInt (by omega)] at q
  have z : ((-900009 : Int32)).toInt = -900009 := by decide
  rw [z] at q
  omega
theorem s1_pl_c {l : Launch} {D : va_G} {d : Nat} {G : xv_Gr} {J : xv_J} (hG : xg_ok G) {np : Nat} {sz ot rm : Nat → Nat} (hnp : np ≤ 12) {n : Nat} (IH : ∀ (p S so : Nat) (ld : Nat → Nat) (b : Option (Nat × Nat)) (I : xv_I) (Q : xv_Po), p + n = np → so + 16 * n ≤ 10000 → cr_ok np sz ot rm I → ld_k I ld → bs_ I b → (∀ I2, pl_f I I2 → bs_ I2 (pf sz ot rm n p S so ld b) → Q none G I2 J) → xv_Ev l D (d + 2 + n) mX1_placeFrom none 0 [some (.ref 4), some (.int (nI p)), some (.int (nI S)), some (.int (nI so)), none] [] G I J 0 0 Q) {p S so : Nat} {ld : Nat → Nat} {b : Option (Nat × Nat)} {I : xv_I} {Q : xv_Po} (hp : p + (n + 1) = np) (hso : so + 16 * (n + 1) ≤ 10000) (hok : cr_ok np sz ot rm I) (hld : ld_k I ld) (hb : bs_ I b) {c : Nat} (hc : c < 2) (kk : ∀ I2, pl_f I I2 → bs_ I2 (ps_ sz ot rm n p S so ld c b) → xv_Ev l D (d + 2 + (n + 1)) mX1_placeFrom none 125 [some (.ref 4), some (.int (nI p)), some (.int (nI S)), some (.int (nI so)), some (.int (nI c))] [] G I2 J 0 0 Q) : xv_Ev l D (d + 2 + (n + 1)) mX1_placeFrom none 46 [some (.ref 4), some (.int (nI p)), some (.int (nI S)), some (.int (nI so)), some (.int (nI c))] [] G I J 0 0 Q := by
  have hP := hok.2.1 p (by omega)
  have hR := hok.2.2 c hc
  have hL := hld c hc
  have ht : tf_ (ot p) c S ≤ 16 := xpc_le _ _
  have h2p : c * 2 ^ p < 2 ^ 32 := by
    have e : 2 ^ p < 2 ^ 12 := Nat.pow_lt_pow_right (by decide) (by omega)
    rcases (show c = 0 ∨ c = 1 by omega) with z | z <;> rw [z] <;> omega
  refine xv_aload_n dX1_placeFrom_46 rfl rfl ?_
  refine xv_getr dX1_placeFrom_47 fl_X1_36 (go_4 hG) rfl (gr_4_7 hG) ?_
  refine xv_iload dX1_placeFrom_50 rfl ?_
  refine xv_iaload dX1_placeFrom_52 (go_157 hG) (xv_ixn (by omega) (by decide)) ?_
  refine xv_nmI hL.1 ?_
  refine xv_aload_n dX1_placeFrom_53 rfl rfl ?_
  refine xv_getr dX1_placeFrom_54 fl_X1_30 (go_4 hG) rfl (gr_4_5 hG) ?_
  refine xv_iload_n dX1_placeFrom_57 rfl rfl ?_
  refine xv_iaload dX1_placeFrom_58 (go_155 hG) (xv_ixn (by omega) (by decide)) ?_
  refine xv_nmI hP.1 ?_
  refine xv_iadd dX1_placeFrom_59 ?_
  refine xv_nmI (nI_add _ _) ?_
  refine xv_aload_n dX1_placeFrom_60 rfl rfl ?_
  refine xv_getr dX1_placeFrom_61 fl_X1_9 (go_4 hG) rfl (gr_4_0 hG) ?_
  refine xv_iload dX1_placeFrom_64 rfl ?_
  refine xv_iaload dX1_placeFrom_66 (go_150 hG) (xv_ixn (by omega) (by decide)) ?_
  refine xv_nmI hR.1 ?_
  refine xv_icmp_gtN (tgt := 125) dX1_placeFrom_67 rfl (by omega) (by omega) (fun c_67 => ?_) (fun c_67 => ?_)
  · have e : ps_ sz ot rm n p S so ld c b = b := if_neg (by omega)
    exact kk I (pl_re I) (by rw [e]; exact hb)
  · refine xv_aload_n dX1_placeFrom_70 rfl rfl ?_
    refine xv_getr dX1_placeFrom_71 fl_X1_36 (go_4 hG) rfl (gr_4_7 hG) ?_
    refine xv_iload dX1_placeFrom_74 rfl ?_
    refine xv_dup2 dX1_placeFrom_76 rfl rfl ?_
    refine xv_iaload dX1_placeFrom_77 (go_157 hG) (xv_ixn (by omega) (by decide)) ?_
    refine xv_nmI hL.1 ?_
    refine xv_aload_n dX1_placeFrom_78 rfl rfl ?_
    refine xv_getr dX1_placeFrom_79 fl_X1_30 (go_4 hG) rfl (gr_4_5 hG) ?_
    refine xv_iload_n dX1_placeFrom_82 rfl rfl ?_
    refine xv_iaload dX1_placeFrom_83 (go_155 hG) (xv_ixn (by omega) (by decide)) ?_
    refine xv_nmI hP.1 ?_
    refine xv_iadd dX1_placeFrom_84 ?_
    refine xv_nmI (nI_add _ _) ?_
    refine xv_iastore dX1_placeFrom_85 (go_157 hG) (xv_ixn (by omega) (by decide)) ?_
    refine xv_aload_n dX1_placeFrom_86 rfl rfl ?_
    refine xv_iload_n dX1_placeFrom_87 rfl rfl ?_
    refine xv_iconst (v := nI 1) dX1_placeFrom_88 rfl ?_
    refine xv_iadd dX1_placeFrom_89 ?_
    refine xv_nmI (nI_add _ _) ?_
    refine xv_iload_n dX1_placeFrom_90 rfl rfl ?_
    refine xv_iload dX1_placeFrom_91 rfl ?_
    refine xv_iload_n dX1_placeFrom_93 rfl rfl ?_
    refine xv_ishl dX1_placeFrom_94 ?_
    refine xv_nmI (xi_shl c (by omega) h2p) ?_
    refine xv_ior dX1_placeFrom_95 ?_
    refine xv_nmI (xi_or _ _) ?_
    refine xv_iload_n dX1_placeFrom_96 rfl rfl ?_
    refine xv_aload_n dX1_placeFrom_97 rfl rfl ?_
    refine xv_iload_n dX1_placeFrom_98 rfl rfl ?_
    refine xv_iload dX1_placeFrom_99 rfl ?_
    refine xv_iload_n dX1_placeFrom_101 rfl rfl ?_
    refine xv_callV0 (As := [_, _, _]) dX1_placeFrom_102 cl_X1_43 rfl rfl rfl rfl (go_4 hG) rfl rfl (Nat.le_of_ble_eq_true rfl) (Nat.le_of_ble_eq_true rfl) (Nat.zero_le _) (Nat.zero_le _) ?_
    refine xv_dp (show d + 2 + n = (d + 1 + n) + 1 by omega) ?_
    refine s1_turnedFor hG (I := (xv_ui I 157 c (nI (ld c + sz p)))) (by omega) (o := ot p) ((congrFun (xv_ui_ne (by decide)) p).trans hP.2.2.1) hP.2.2.2 hc ?_
    refine xv_iadd dX1_placeFrom_105 ?_
    refine xv_nmI (nI_add _ _) ?_
    refine xv_callV0 (As := [_, _, _]) dX1_placeFrom_106 cl_X1_39 rfl rfl rfl rfl (go_4 hG) rfl rfl (Nat.le_of_ble_eq_true rfl) (Nat.le_of_ble_eq_true rfl) (Nat.zero_le _) (Nat.zero_le _) ?_
    have hlk : ld_k (xv_ui I 157 c (nI (ld c + sz p))) (ld_u ld c (sz p)) := fun q hq => by
      by_cases e : q = c
      · subst e
        refine ⟨?_, ?_⟩
        · rw [xv_ui_s]; simp [ld_u]
        · simp only [ld_u, if_true]; omega
      · refine ⟨?_, ?_⟩
        · rw [xv_ui_o e]; simp only [ld_u, if_neg e]; exact (hld q hq).1
        · simp only [ld_u, if_neg e]; exact (hld q hq).2
    refine IH (p + 1) (S ||| c * 2 ^ p) (so + tf_ (ot p) c S) (ld_u ld c (sz p)) b (xv_ui I 157 c (nI (ld c + sz p))) _ (by omega) (by omega) (cr_fr hok (fun b g1 g2 => xv_ui_ne g1) (congrFun (xv_ui_ne (by decide)) 4)) hlk (bs_fr hb (xv_ui_ne (by decide))) (fun I2 hf hb2 => ?_)
    · refine xv_aload_n dX1_placeFrom_109 rfl rfl ?_
      refine xv_getr dX1_placeFrom_110 fl_X1_36 (go_4 hG) rfl (gr_4_7 hG) ?_
      refine xv_iload dX1_placeFrom_113 rfl ?_
      refine xv_dup2 dX1_placeFrom_115 rfl rfl ?_
      refine xv_iaload dX1_placeFrom_116 (go_157 hG) (xv_ixn (by omega) (by decide)) ?_
      refine xv_nmI ((congrFun hf.2.2 c).trans xv_ui_s) ?_
      refine xv_aload_n dX1_placeFrom_117 rfl rfl ?_
      refine xv_getr dX1_placeFrom_118 fl_X1_30 (go_4 hG) rfl (gr_4_5 hG) ?_
      refine xv_iload_n dX1_placeFrom_121 rfl rfl ?_
      refine xv_iaload dX1_placeFrom_122 (go_155 hG) (xv_ixn (by omega) (by decide)) ?_
      refine xv_nmI ((congrFun (hf.1 155 (by decide) (by decide)) p).trans ((congrFun (xv_ui_ne (by decide)) p).trans hP.1)) ?_
      refine xv_isub dX1_placeFrom_123 ?_
      refine xv_nmI (pk_sub (by omega)) ?_
      refine xv_iastore dX1_placeFrom_124 (go_157 hG) (xv_ixn (by omega) (by decide)) ?_
      have e : ps_ sz ot rm n p S so ld c b = _ := if_pos (show ld c + sz p ≤ rm c by omega)
      refine kk _ ⟨fun b g1 g2 => ?_, fun j g1 g2 => ?_, ?_⟩ (by rw [e]; exact bs_fr hb2 (xv_ui_ne (by decide)))
      · rw [xv_ui_ne g1, hf.1 b g1 g2, xv_ui_ne g1]
      · rw [xv_ui_ne (by decide), hf.2.1 j g1 g2, xv_ui_ne (by decide)]
      · funext j
        by_cases ej : j = c
        · subst ej; rw [xv_ui_s, hL.1]; congr 1; omega
        · rw [xv_ui_o ej, hf.2.2, xv_ui_o ej]

theorem s1_place {l : Launch} {D : va_G} {d : Nat} {G : xv_Gr} {J : xv_J} (hG : xg_ok G) {np : Nat} {sz ot rm : Nat → Nat} (hnp : np ≤ 12) : ∀ n : Nat, ∀ (p S so : Nat) (ld : Nat → Nat) (b : Option (Nat × Nat)) (I : xv_I) (Q : xv_Po), p + n = np → so + 16 * n ≤ 10000 → cr_ok np sz ot rm I → ld_k I ld → bs_ I b → (∀ I2, pl_f I I2 → bs_ I2 (pf sz ot rm n p S so ld b) → Q none G I2 J) → xv_Ev l D (d + 2 + n) mX1_placeFrom none 0 [some (.ref 4), some (.int (nI p)), some (.int (nI S)), some (.int (nI so)), none] [] G I J 0 0 Q := by
  intro n
  induction n with
  | zero =>
    intro p S so ld b I Q hp hso hok hld hb hQ
    cases b with
    | none =>
      refine xv_aload_n dX1_placeFrom_0 rfl rfl ?_
      refine xv_geti dX1_placeFrom_1 fl_X1_20 (go_4 hG) rfl ?_
      refine xv_nmI hb ?_
      refine xv_ldc dX1_placeFrom_4 ld_X1_19 ?_
      refine xv_icmp_eq (tgt := 18) dX1_placeFrom_6 rfl (fun c_6 => ?_) (fun c_6 => absurd rfl c_6)
      refine xv_iload_n dX1_placeFrom_18 rfl rfl ?_
      refine xv_aload_n dX1_placeFrom_19 rfl rfl ?_
      refine xv_geti dX1_placeFrom_20 fl_X1_27 (go_4 hG) rfl ?_
      refine xv_nmI hok.1 ?_
      refine xv_icmp_ltN (tgt := 37) dX1_placeFrom_23 rfl (by omega) (by omega) (fun c_23 => absurd c_23 (by omega)) (fun c_23 => ?_)
      refine xv_aload_n dX1_placeFrom_26 rfl rfl ?_
      refine xv_iload_n dX1_placeFrom_27 rfl rfl ?_
      refine xv_puti dX1_placeFrom_28 fl_X1_20 (go_4 hG) rfl rfl rfl ?_
      refine xv_aload_n dX1_placeFrom_31 rfl rfl ?_
      refine xv_iload_n dX1_placeFrom_32 rfl rfl ?_
      refine xv_puti dX1_placeFrom_33 fl_X1_24 (go_4 hG) rfl rfl rfl ?_
      refine xv_vret dX1_placeFrom_36 rfl (Nat.zero_le _) (Nat.zero_le _) ?_
      have hB : pfB none so := fun r hr => by cases hr
      refine hQ _ ⟨fun b g1 g2 => ?_, fun j g1 g2 => ?_, ?_⟩ ?_
      · rw [xv_ui_ne g2, xv_ui_ne g2]
      · rw [xv_ui_o g2, xv_ui_o g1]
      · rw [xv_ui_ne (by decide), xv_ui_ne (by decide)]
      · rw [pf_z hB]; exact ⟨by rw [xv_ui_o (by decide), xv_ui_s], xv_ui_s, by show so ≤ 10000; omega⟩
    | some q =>
      refine xv_aload_n dX1_placeFrom_0 rfl rfl ?_
      refine xv_geti dX1_placeFrom_1 fl_X1_20 (go_4 hG) rfl ?_
      refine xv_nmI hb.1 ?_
      refine xv_ldc dX1_placeFrom_4 ld_X1_19 ?_
      refine xv_icmp_eq (tgt := 18) dX1_placeFrom_6 rfl (fun c_6 => absurd c_6 (nI_nb hb.2.2)) (fun c_6 => ?_)
      have hq4 : q.1 ≤ 10000 := hb.2.2
      refine xv_iload_n dX1_placeFrom_9 rfl rfl ?_
      refine xv_aload_n dX1_placeFrom_10 rfl rfl ?_
      refine xv_geti dX1_placeFrom_11 fl_X1_20 (go_4 hG) rfl ?_
      refine xv_nmI hb.1 ?_
      refine xv_icmp_ltN (tgt := 18) dX1_placeFrom_14 rfl (by omega) (by omega) (fun c_14 => ?_) (fun c_14 => ?_)
      · refine xv_iload_n dX1_placeFrom_18 rfl rfl ?_
        refine xv_aload_n dX1_placeFrom_19 rfl rfl ?_
        refine xv_geti dX1_placeFrom_20 fl_X1_27 (go_4 hG) rfl ?_
        refine xv_nmI hok.1 ?_
        refine xv_icmp_ltN (tgt := 37) dX1_placeFrom_23 rfl (by omega) (by omega) (fun c_23 => absurd c_23 (by omega)) (fun c_23 => ?_)
        refine xv_aload_n dX1_placeFrom_26 rfl rfl ?_
        refine xv_iload_n dX1_placeFrom_27 rfl rfl ?_
        refine xv_puti dX1_placeFrom_28 fl_X1_20 (go_4 hG) rfl rfl rfl ?_
        refine xv_aload_n dX1_placeFrom_31 rfl rfl ?_
        refine xv_iload_n dX1_placeFrom_32 rfl rfl ?_
        refine xv_puti dX1_placeFrom_33 fl_X1_24 (go_4 hG) rfl rfl rfl ?_
        refine xv_vret dX1_placeFrom_36 rfl (Nat.zero_le _) (Nat.zero_le _) ?_
        have hB : pfB (some q) so := fun r hr => by cases hr; exact c_14
        refine hQ _ ⟨fun b g1 g2 => ?_, fun j g1 g2 => ?_, ?_⟩ ?_
        · rw [xv_ui_ne g2, xv_ui_ne g2]
        · rw [xv_ui_o g2, xv_ui_o g1]
        · rw [xv_ui_ne (by decide), xv_ui_ne (by decide)]
        · rw [pf_z hB]; exact ⟨by rw [xv_ui_o (by decide), xv_ui_s], xv_ui_s, by show so ≤ 10000; omega⟩
      · refine xv_vret dX1_placeFrom_17 rfl (Nat.zero_le _) (Nat.zero_le _) ?_
        have hB : ¬ pfB (some q) so := fun z => absurd (z q rfl) (by omega)
        exact hQ I (pl_re I) (by rw [pf_n hB]; exact hb)
  | succ n ih =>
    intro p S so ld b I Q hp hso hok hld hb hQ
    cases b with
    | none =>
      refine xv_aload_n dX1_placeFrom_0 rfl rfl ?_
      refine xv_geti dX1_placeFrom_1 fl_X1_20 (go_4 hG) rfl ?_
      refine xv_nmI hb ?_
      refine xv_ldc dX1_placeFrom_4 ld_X1_19 ?_
      refine xv_icmp_eq (tgt := 18) dX1_placeFrom_6 rfl (fun c_6 => ?_) (fun c_6 => absurd rfl c_6)
      refine xv_iload_n dX1_placeFrom_18 rfl rfl ?_
      refine xv_aload_n dX1_placeFrom_19 rfl rfl ?_
      refine xv_geti dX1_placeFrom_20 fl_X1_27 (go_4 hG) rfl ?_
      refine xv_nmI hok.1 ?_
      refine xv_icmp_ltN (tgt := 37) dX1_placeFrom_23 rfl (by omega) (by omega) (fun c_23 => ?_) (fun c_23 => absurd c_23 (by omega))
      refine xv_iconst (v := nI 0) dX1_placeFrom_37 rfl ?_
      refine xv_istore dX1_placeFrom_38 (Nat.le_of_ble_eq_true rfl) rfl ?_
      refine xv_iload dX1_placeFrom_40 rfl ?_
      refine xv_iconst (v := nI 2) dX1_placeFrom_42 rfl ?_
      refine xv_icmp_geN (tgt := 131) dX1_placeFrom_43 rfl (by omega) (by omega) (fun c_43 => absurd c_43 (by omega)) (fun c_43 => ?_)
      refine s1_pl_c hG hnp ih hp hso hok hld (b := none) hb (c := 0) (by decide) (fun I2 hf2 hb2 => ?_)
      refine xv_iinc dX1_placeFrom_125 rfl (xv_inc _) (Nat.le_of_ble_eq_true rfl) rfl ?_
      refine xv_goto (tgt := 40) dX1_placeFrom_128 rfl ?_
      refine xv_iload dX1_placeFrom_40 rfl ?_
      refine xv_iconst (v := nI 2) dX1_placeFrom_42 rfl ?_
      refine xv_icmp_geN (tgt := 131) dX1_placeFrom_43 rfl (by omega) (by omega) (fun c_43 => absurd c_43 (by omega)) (fun c_43 => ?_)
      refine s1_pl_c hG hnp ih hp hso (cr_fr hok hf2.1 (hf2.2.1 4 (by decide) (by decide))) (fun q hq => by rw [hf2.2.2]; exact hld q hq) hb2 (c := 0 + 1) (by decide) (fun I3 hf3 hb3 => ?_)
      refine xv_iinc dX1_placeFrom_125 rfl (xv_inc _) (Nat.le_of_ble_eq_true rfl) rfl ?_
      refine xv_goto (tgt := 40) dX1_placeFrom_128 rfl ?_
      refine xv_iload dX1_placeFrom_40 rfl ?_
      refine xv_iconst (v := nI 2) dX1_placeFrom_42 rfl ?_
      refine xv_icmp_geN (tgt := 131) dX1_placeFrom_43 rfl (by omega) (by omega) (fun c_43 => ?_) (fun c_43 => absurd c_43 (by omega))
      refine xv_vret dX1_placeFrom_131 rfl (Nat.zero_le _) (Nat.zero_le _) ?_
      have hB : pfB none so := fun r hr => by cases hr
      exact hQ I3 (pl_tr hf2 hf3) (by rw [pf_y hB]; exact hb3)
    | some q =>
      refine xv_aload_n dX1_placeFrom_0 rfl rfl ?_
      refine xv_geti dX1_placeFrom_1 fl_X1_20 (go_4 hG) rfl ?_
      refine xv_nmI hb.1 ?_
      refine xv_ldc dX1_placeFrom_4 ld_X1_19 ?_
      refine xv_icmp_eq (tgt := 18) dX1_placeFrom_6 rfl (fun c_6 => absurd c_6 (nI_nb hb.2.2)) (fun c_6 => ?_)
      have hq4 : q.1 ≤ 10000 := hb.2.2
      refine xv_iload_n dX1_placeFrom_9 rfl rfl ?_
      refine xv_aload_n dX1_placeFrom_10 rfl rfl ?_
      refine xv_geti dX1_placeFrom_11 fl_X1_20 (go_4 hG) rfl ?_
      refine xv_nmI hb.1 ?_
      refine xv_icmp_ltN (tgt := 18) dX1_placeFrom_14 rfl (by omega) (by omega) (fun c_14 => ?_) (fun c_14 => ?_)
      · refine xv_iload_n dX1_placeFrom_18 rfl rfl ?_
        refine xv_aload_n dX1_placeFrom_19 rfl rfl ?_
        refine xv_geti dX1_placeFrom_20 fl_X1_27 (go_4 hG) rfl ?_
        refine xv_nmI hok.1 ?_
        refine xv_icmp_ltN (tgt := 37) dX1_placeFrom_23 rfl (by omega) (by omega) (fun c_23 => ?_) (fun c_23 => absurd c_23 (by omega))
        refine xv_iconst (v := nI 0) dX1_placeFrom_37 rfl ?_
        refine xv_istore dX1_placeFrom_38 (Nat.le_of_ble_eq_true rfl) rfl ?_
        refine xv_iload dX1_placeFrom_40 rfl ?_
        refine xv_iconst (v := nI 2) dX1_placeFrom_42 rfl ?_
        refine xv_icmp_geN (tgt := 131) dX1_placeFrom_43 rfl (by omega) (by omega) (fun c_43 => absurd c_43 (by omega)) (fun c_43 => ?_)
        refine s1_pl_c hG hnp ih hp hso hok hld (b := (some q)) hb (c := 0) (by decide) (fun I2 hf2 hb2 => ?_)
        refine xv_iinc dX1_placeFrom_125 rfl (xv_inc _) (Nat.le_of_ble_eq_true rfl) rfl ?_
        refine xv_goto (tgt := 40) dX1_placeFrom_128 rfl ?_
        refine xv_iload dX1_placeFrom_40 rfl ?_
        refine xv_iconst (v := nI 2) dX1_placeFrom_42 rfl ?_
        refine xv_icmp_geN (tgt := 131) dX1_placeFrom_43 rfl (by omega) (by omega) (fun c_43 => absurd c_43 (by omega)) (fun c_43 => ?_)
        refine s1_pl_c hG hnp ih hp hso (cr_fr hok hf2.1 (hf2.2.1 4 (by decide) (by decide))) (fun q hq => by rw [hf2.2.2]; exact hld q hq) hb2 (c := 0 + 1) (by decide) (fun I3 hf3 hb3 => ?_)
        refine xv_iinc dX1_placeFrom_125 rfl (xv_inc _) (Nat.le_of_ble_eq_true rfl) rfl ?_
        refine xv_goto (tgt := 40) dX1_placeFrom_128 rfl ?_
        refine xv_iload dX1_placeFrom_40 rfl ?_
        refine xv_iconst (v := nI 2) dX1_placeFrom_42 rfl ?_
        refine xv_icmp_geN (tgt := 131) dX1_placeFrom_43 rfl (by omega) (by omega) (fun c_43 => ?_) (fun c_43 => absurd c_43 (by omega))
        refine xv_vret dX1_placeFrom_131 rfl (Nat.zero_le _) (Nat.zero_le _) ?_
        have hB : pfB (some q) so := fun r hr => by cases hr; exact c_14
        exact hQ I3 (pl_tr hf2 hf3) (by rw [pf_y hB]; exact hb3)
      · refine xv_vret dX1_placeFrom_17 rfl (Nat.zero_le _) (Nat.zero_le _) ?_
        have hB : ¬ pfB (some q) so := fun z => absurd (z q rfl) (by omega)
        exact hQ I (pl_re I) (by rw [pf_n hB]; exact hb)
