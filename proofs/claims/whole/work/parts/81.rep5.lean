/-! bestCauses, causes, cause (model) -/
noncomputable def ml_ (P : Nat → Prop) : Nat → Nat
  | 0 => 0
  | i + 1 => ml_ P i ||| @ite Nat (P i) (Classical.propDecidable _) (2 ^ i) 0
theorem ml_y {P : Nat → Prop} {i : Nat} (h : P i) : ml_ P (i + 1) = ml_ P i ||| 2 ^ i := by rw [ml_, if_pos h]
theorem ml_n {P : Nat → Prop} {i : Nat} (h : ¬ P i) : ml_ P (i + 1) = ml_ P i ||| 0 := by rw [ml_, if_neg h]
/-- the last that is better, from 0 on -/
noncomputable def bst (C : Nat → Option Nat → Prop) : Nat → Option Nat
  | 0 => none
  | k + 1 => @ite _ (C k (bst C k)) (Classical.propDecidable _) (some k) (bst C k)
theorem bst_y {C : Nat → Option Nat → Prop} {k : Nat} (h : C k (bst C k)) : bst C (k + 1) = some k := by rw [bst, if_pos h]
theorem bst_n {C : Nat → Option Nat → Prop} {k : Nat} (h : ¬ C k (bst C k)) : bst C (k + 1) = bst C k := by rw [bst, if_neg h]
theorem bst_lt {C : Nat → Option Nat → Prop} : ∀ {k j : Nat}, bst C k = some j → j < k
  | 0, j, h => by cases h
  | k + 1, j, h => by
    by_cases q : C k (bst C k)
    · rw [bst_y q] at h; cases h; exact Nat.lt_succ_self _
    · rw [bst_n q] at h
      have := bst_lt h
      omega
def bc_C (I : xv_I) (hs : Nat → Nat) (n mm k : Nat) (b : Option Nat) : Prop := xdf k mm = 0 ∧ (∀ q, b = some q → xpc k 16 < xpc q 16 ∨ (xpc k 16 = xpc q 16 ∧ ¬ il_ k q)) ∧ ea_P I hs k n
theorem s11_bc_a {l : Launch} {D : va_G} {d : Nat} {G : xv_Gr} {I : xv_I} {J : xv_J} {Q : xv_Po} (hG : xg_ok G) {n : Nat} (hn : I 40 24 = nI n) (hn4 : n ≤ 40) {hs : Nat → Nat} (hhs : ∀ r, r < n → I 75 r = nI (hs r) ∧ hs r < 65536) {su : Nat} (hsu : I 40 27 = nI su) (hsu2 : su ≤ 100) (kk : xv_Ev l D (d + 2) mX11_bestCauses none 34 [some (.ref 40), some (.int (nI (ml_ (lk_P I hs n su) 16))), some (.int (nI 16)), none] [] G I J 0 0 Q) : ∀ (k i : Nat), i + k = 16 → xv_Ev l D (d + 2) mX11_bestCauses none 4 [some (.ref 40), some (.int (nI (ml_ (lk_P I hs n su) i))), some (.int (nI i)), none] [] G I J 0 0 Q := by
  intro k
  induction k with
  | zero =>
    intro i hi
    refine xv_iload_n dX11_bestCauses_4 rfl rfl ?_
    refine xv_bipush (v := nI 16) dX11_bestCauses_5 rfl ?_
    refine xv_icmp_geN (tgt := 34) dX11_bestCauses_7 rfl (by omega) (by omega) (fun c_7 => ?_) (fun c_7 => absurd c_7 (by omega))
    have e : i = 16 := by omega
    subst e
    exact kk
  | succ k ih =>
    intro i hi
    refine xv_iload_n dX11_bestCauses_4 rfl rfl ?_
    refine xv_bipush (v := nI 16) dX11_bestCauses_5 rfl ?_
    refine xv_icmp_geN (tgt := 34) dX11_bestCauses_7 rfl (by omega) (by omega) (fun c_7 => absurd c_7 (by omega)) (fun c_7 => ?_)
    refine xv_iload_n dX11_bestCauses_10 rfl rfl ?_
    refine xv_aload_n dX11_bestCauses_11 rfl rfl ?_
    refine xv_iload_n dX11_bestCauses_12 rfl rfl ?_
    refine xv_callV0 (As := [_]) dX11_bestCauses_13 cl_X11_227 rfl rfl rfl rfl (go_40 hG) rfl rfl (Nat.le_of_ble_eq_true rfl) (Nat.le_of_ble_eq_true rfl) (Nat.zero_le _) (Nat.zero_le _) ?_
    refine s11_isLikely (d := d) hG hn hn4 hhs hsu hsu2 (c := i) (by omega) ?_
    refine xv_if_eqP (tgt := 25) dX11_bestCauses_16 rfl (fun c_16 => ?_) (fun c_16 => ?_)
    · refine xv_iconst (v := nI 0) dX11_bestCauses_25 rfl ?_
      refine xv_ior dX11_bestCauses_26 ?_
      refine xv_nmI (xi_or _ _) ?_
      refine xv_istore_n dX11_bestCauses_27 rfl (Nat.le_of_ble_eq_true rfl) rfl ?_
      refine xv_iinc dX11_bestCauses_28 rfl (xv_inc _) (Nat.le_of_ble_eq_true rfl) rfl ?_
      refine xv_goto (tgt := 4) dX11_bestCauses_31 rfl ?_
      have h := ih (i + 1) (by omega)
      rw [ml_n (P := (lk_P I hs n su)) c_16] at h
      exact h
    · refine xv_iconst (v := nI 1) dX11_bestCauses_19 rfl ?_
      refine xv_iload_n dX11_bestCauses_20 rfl rfl ?_
      refine xv_ishl dX11_bestCauses_21 ?_
      refine xv_nmI (xi_one (by omega)) ?_
      refine xv_goto (tgt := 26) dX11_bestCauses_22 rfl ?_
      refine xv_ior dX11_bestCauses_26 ?_
      refine xv_nmI (xi_or _ _) ?_
      refine xv_istore_n dX11_bestCauses_27 rfl (Nat.le_of_ble_eq_true rfl) rfl ?_
      refine xv_iinc dX11_bestCauses_28 rfl (xv_inc _) (Nat.le_of_ble_eq_true rfl) rfl ?_
      refine xv_goto (tgt := 4) dX11_bestCauses_31 rfl ?_
      have h := ih (i + 1) (by omega)
      rw [ml_y (P := (lk_P I hs n su)) c_16] at h
      exact h

theorem s11_bc_b {l : Launch} {D : va_G} {d : Nat} {G : xv_Gr} {I : xv_I} {J : xv_J} {Q : xv_Po} (hG : xg_ok G) {n : Nat} (hn : I 40 24 = nI n) (hn4 : n ≤ 40) {hs : Nat → Nat} (hhs : ∀ r, r < n → I 75 r = nI (hs r) ∧ hs r < 65536) {mm : Nat} (hQ : Q (some (.int (ob_ (-900009) (bst (bc_C I hs n mm) 65536)))) G I J) : ∀ (r k : Nat), k + r = 65536 → xv_Ev l D (d + 2) mX11_bestCauses none 39 [some (.ref 40), some (.int (nI mm)), some (.int (ob_ (-900009) (bst (bc_C I hs n mm) k))), some (.int (nI k))] [] G I J 0 0 Q := by
  intro r
  induction r with
  | zero =>
    intro k hk
    refine xv_iload_n dX11_bestCauses_39 rfl rfl ?_
    refine xv_ldc dX11_bestCauses_40 ld_X11_230 ?_
    refine xv_nmI (show (65536 : Int32) = nI 65536 from rfl) ?_
    refine xv_icmp_geN (tgt := 105) dX11_bestCauses_42 rfl (by omega) (by omega) (fun c_42 => ?_) (fun c_42 => absurd c_42 (by omega))
    refine xv_iload_n dX11_bestCauses_105 rfl rfl ?_
    refine xv_iret dX11_bestCauses_106 rfl (Nat.zero_le _) (Nat.zero_le _) ?_
    have e : k = 65536 := by omega
    subst e
    exact hQ
  | succ r ih =>
    intro k hk
    cases e : bst (bc_C I hs n mm) k with
    | none =>
      show xv_Ev l D (d + 2) mX11_bestCauses none 39 [some (.ref 40), some (.int (nI mm)), some (.int (-900009)), some (.int (nI k))] [] G I J 0 0 Q
      refine xv_iload_n dX11_bestCauses_39 rfl rfl ?_
      refine xv_ldc dX11_bestCauses_40 ld_X11_230 ?_
      refine xv_nmI (show (65536 : Int32) = nI 65536 from rfl) ?_
      refine xv_icmp_geN (tgt := 105) dX11_bestCauses_42 rfl (by omega) (by omega) (fun c_42 => absurd c_42 (by omega)) (fun c_42 => ?_)
      refine xv_iload_n dX11_bestCauses_45 rfl rfl ?_
      refine xv_iload_n dX11_bestCauses_46 rfl rfl ?_
      refine xv_iconst (v := -1) dX11_bestCauses_47 rfl ?_
      refine xv_ixor dX11_bestCauses_48 ?_
      refine xv_iand dX11_bestCauses_49 ?_
      refine xv_nmI (xi_andn _ _) ?_
      refine xv_if_ne (tgt := 99) dX11_bestCauses_50 rfl (fun c_50 => ?_) (fun c_50 => ?_)
      · refine xv_iinc dX11_bestCauses_99 rfl (xv_inc _) (Nat.le_of_ble_eq_true rfl) rfl ?_
        refine xv_goto (tgt := 39) dX11_bestCauses_102 rfl ?_
        have hc : ¬ (bc_C I hs n mm) k (bst (bc_C I hs n mm) k) := fun h => c_50 (by rw [h.1]; rfl)
        have h := ih (k + 1) (by omega)
        rw [bst_n hc, e] at h
        exact h
      · refine xv_iload_n dX11_bestCauses_53 rfl rfl ?_
        refine xv_ldc dX11_bestCauses_54 ld_X11_152 ?_
        refine xv_icmp_eq (tgt := 89) dX11_bestCauses_56 rfl (fun c_56 => ?_) (fun c_56 => absurd rfl c_56)
        refine xv_aload_n dX11_bestCauses_89 rfl rfl ?_
        refine xv_iload_n dX11_bestCauses_90 rfl rfl ?_
        refine xv_callV0 (As := [_]) dX11_bestCauses_91 cl_X11_231 rfl rfl rfl rfl (go_40 hG) rfl rfl (Nat.le_of_ble_eq_true rfl) (Nat.le_of_ble_eq_true rfl) (Nat.zero_le _) (Nat.zero_le _) ?_
        refine s11_explainsAll hG hn hn4 hhs ?_
        refine xv_if_eqP (tgt := 99) dX11_bestCauses_94 rfl (fun c_94 => ?_) (fun c_94 => ?_)
        · refine xv_iinc dX11_bestCauses_99 rfl (xv_inc _) (Nat.le_of_ble_eq_true rfl) rfl ?_
          refine xv_goto (tgt := 39) dX11_bestCauses_102 rfl ?_
          have hc : ¬ (bc_C I hs n mm) k (bst (bc_C I hs n mm) k) := fun h => c_94 h.2.2
          have h := ih (k + 1) (by omega)
          rw [bst_n hc, e] at h
          exact h
        · refine xv_iload_n dX11_bestCauses_97 rfl rfl ?_
          refine xv_istore_n dX11_bestCauses_98 rfl (Nat.le_of_ble_eq_true rfl) rfl ?_
          refine xv_iinc dX11_bestCauses_99 rfl (xv_inc _) (Nat.le_of_ble_eq_true rfl) rfl ?_
          refine xv_goto (tgt := 39) dX11_bestCauses_102 rfl ?_
          have hc : (bc_C I hs n mm) k (bst (bc_C I hs n mm) k) := ⟨(xi_0 (by have := xdf_le k mm; omega)).mp c_50, fun q hq => (by rw [e] at hq; cases hq), c_94⟩
          have h := ih (k + 1) (by omega)
          rw [bst_y hc] at h
          exact h
    | some b =>
      have hb := bst_lt e
      show xv_Ev l D (d + 2) mX11_bestCauses none 39 [some (.ref 40), some (.int (nI mm)), some (.int (nI b)), some (.int (nI k))] [] G I J 0 0 Q
      refine xv_iload_n dX11_bestCauses_39 rfl rfl ?_
      refine xv_ldc dX11_bestCauses_40 ld_X11_230 ?_
      refine xv_nmI (show (65536 : Int32) = nI 65536 from rfl) ?_
      refine xv_icmp_geN (tgt := 105) dX11_bestCauses_42 rfl (by omega) (by omega) (fun c_42 => absurd c_42 (by omega)) (fun c_42 => ?_)
      refine xv_iload_n dX11_bestCauses_45 rfl rfl ?_
      refine xv_iload_n dX11_bestCauses_46 rfl rfl ?_
      refine xv_iconst (v := -1) dX11_bestCauses_47 rfl ?_
      refine xv_ixor dX11_bestCauses_48 ?_
      refine xv_iand dX11_bestCauses_49 ?_
      refine xv_nmI (xi_andn _ _) ?_
      refine xv_if_ne (tgt := 99) dX11_bestCauses_50 rfl (fun c_50 => ?_) (fun c_50 => ?_)
      · refine xv_iinc dX11_bestCauses_99 rfl (xv_inc _) (Nat.le_of_ble_eq_true rfl) rfl ?_
        refine xv_goto (tgt := 39) dX11_bestCauses_102 rfl ?_
        have hc : ¬ (bc_C I hs n mm) k (bst (bc_C I hs n mm) k) := fun h => c_50 (by rw [h.1]; rfl)
        have h := ih (k + 1) (by omega)
        rw [bst_n hc, e] at h
        exact h
      · refine xv_iload_n dX11_bestCauses_53 rfl rfl ?_
        refine xv_ldc dX11_bestCauses_54 ld_X11_152 ?_
        refine xv_icmp_eq (tgt := 89) dX11_bestCauses_56 rfl (fun c_56 => absurd c_56 (nI_nNONE (by omega))) (fun c_56 => ?_)
        refine xv_iload_n dX11_bestCauses_59 rfl rfl ?_
        refine xv_callS0 (As := [_]) dX11_bestCauses_60 cl_X11_176 rfl rfl rfl rfl (Nat.le_of_ble_eq_true rfl) (Nat.le_of_ble_eq_true rfl) (Nat.zero_le _) (Nat.zero_le _) ?_
        refine s11_ones (by omega) ?_
        refine xv_iload_n dX11_bestCauses_63 rfl rfl ?_
        refine xv_callS0 (As := [_]) dX11_bestCauses_64 cl_X11_176 rfl rfl rfl rfl (Nat.le_of_ble_eq_true rfl) (Nat.le_of_ble_eq_true rfl) (Nat.zero_le _) (Nat.zero_le _) ?_
        refine s11_ones (by omega) ?_
        have o1 := xpc_le k 16
        have o2 := xpc_le b 16
        refine xv_icmp_ltN (tgt := 89) dX11_bestCauses_67 rfl (by omega) (by omega) (fun c_67 => ?_) (fun c_67 => ?_)
        · refine xv_aload_n dX11_bestCauses_89 rfl rfl ?_
          refine xv_iload_n dX11_bestCauses_90 rfl rfl ?_
          refine xv_callV0 (As := [_]) dX11_bestCauses_91 cl_X11_231 rfl rfl rfl rfl (go_40 hG) rfl rfl (Nat.le_of_ble_eq_true rfl) (Nat.le_of_ble_eq_true rfl) (Nat.zero_le _) (Nat.zero_le _) ?_
          refine s11_explainsAll hG hn hn4 hhs ?_
          refine xv_if_eqP (tgt := 99) dX11_bestCauses_94 rfl (fun c_94 => ?_) (fun c_94 => ?_)
          · refine xv_iinc dX11_bestCauses_99 rfl (xv_inc _) (Nat.le_of_ble_eq_true rfl) rfl ?_
            refine xv_goto (tgt := 39) dX11_bestCauses_102 rfl ?_
            have hc : ¬ (bc_C I hs n mm) k (bst (bc_C I hs n mm) k) := fun h => c_94 h.2.2
            have h := ih (k + 1) (by omega)
            rw [bst_n hc, e] at h
            exact h
          · refine xv_iload_n dX11_bestCauses_97 rfl rfl ?_
            refine xv_istore_n dX11_bestCauses_98 rfl (Nat.le_of_ble_eq_true rfl) rfl ?_
            refine xv_iinc dX11_bestCauses_99 rfl (xv_inc _) (Nat.le_of_ble_eq_true rfl) rfl ?_
            refine xv_goto (tgt := 39) dX11_bestCauses_102 rfl ?_
            have hc : (bc_C I hs n mm) k (bst (bc_C I hs n mm) k) := ⟨(xi_0 (by have := xdf_le k mm; omega)).mp c_50, fun q hq => (by rw [e] at hq; cases hq; exact Or.inl c_67), c_94⟩
            have h := ih (k + 1) (by omega)
            rw [bst_y hc] at h
            exact h
        · refine xv_iload_n dX11_bestCauses_70 rfl rfl ?_
          refine xv_callS0 (As := [_]) dX11_bestCauses_71 cl_X11_176 rfl rfl rfl rfl (Nat.le_of_ble_eq_true rfl) (Nat.le_of_ble_eq_true rfl) (Nat.zero_le _) (Nat.zero_le _) ?_
          refine s11_ones (by omega) ?_
          refine xv_iload_n dX11_bestCauses_74 rfl rfl ?_
          refine xv_callS0 (As := [_]) dX11_bestCauses_75 cl_X11_176 rfl rfl rfl rfl (Nat.le_of_ble_eq_true rfl) (Nat.le_of_ble_eq_true rfl) (Nat.zero_le _) (Nat.zero_le _) ?_
          refine s11_ones (by omega) ?_
          have o1 := xpc_le k 16
          have o2 := xpc_le b 16
          refine xv_icmp_neN (tgt := 99) dX11_bestCauses_78 rfl (by omega) (by omega) (fun c_78 => ?_) (fun c_78 => ?_)
          · refine xv_iinc dX11_bestCauses_99 rfl (xv_inc _) (Nat.le_of_ble_eq_true rfl) rfl ?_
            refine xv_goto (tgt := 39) dX11_bestCauses_102 rfl ?_
            have hc : ¬ (bc_C I hs n mm) k (bst (bc_C I hs n mm) k) := fun h => (h.2.1 b e).elim (fun z => absurd z (by omega)) (fun z => c_78 z.1)
            have h := ih (k + 1) (by omega)
            rw [bst_n hc, e] at h
            exact h
          · refine xv_iload_n dX11_bestCauses_81 rfl rfl ?_
            refine xv_iload_n dX11_bestCauses_82 rfl rfl ?_
            refine xv_callS0 (As := [_, _]) dX11_bestCauses_83 cl_X11_211 rfl rfl rfl rfl (Nat.le_of_ble_eq_true rfl) (Nat.le_of_ble_eq_true rfl) (Nat.zero_le _) (Nat.zero_le _) ?_
            refine s11_isLesser ?_
            refine xv_if_neP (tgt := 99) dX11_bestCauses_86 rfl (fun c_86 => ?_) (fun c_86 => ?_)
            · refine xv_iinc dX11_bestCauses_99 rfl (xv_inc _) (Nat.le_of_ble_eq_true rfl) rfl ?_
              refine xv_goto (tgt := 39) dX11_bestCauses_102 rfl ?_
              have hc : ¬ (bc_C I hs n mm) k (bst (bc_C I hs n mm) k) := fun h => (h.2.1 b e).elim (fun z => absurd z (by omega)) (fun z => z.2 c_86)
              have h := ih (k + 1) (by omega)
              rw [bst_n hc, e] at h
              exact h
            · refine xv_aload_n dX11_bestCauses_89 rfl rfl ?_
              refine xv_iload_n dX11_bestCauses_90 rfl rfl ?_
              refine xv_callV0 (As := [_]) dX11_bestCauses_91 cl_X11_231 rfl rfl rfl rfl (go_40 hG) rfl rfl (Nat.le_of_ble_eq_true rfl) (Nat.le_of_ble_eq_true rfl) (Nat.zero_le _) (Nat.zero_le _) ?_
              refine s11_explainsAll hG hn hn4 hhs ?_
              refine xv_if_eqP (tgt := 99) dX11_bestCauses_94 rfl (fun c_94 => ?_) (fun c_94 => ?_)
              · refine xv_iinc dX11_bestCauses_99 rfl (xv_inc _) (Nat.le_of_ble_eq_true rfl) rfl ?_
                refine xv_goto (tgt := 39) dX11_bestCauses_102 rfl ?_
                have hc : ¬ (bc_C I hs n mm) k (bst (bc_C I hs n mm) k) := fun h => c_94 h.2.2
                have h := ih (k + 1) (by omega)
                rw [bst_n hc, e] at h
                exact h
              · refine xv_iload_n dX11_bestCauses_97 rfl rfl ?_
                refine xv_istore_n dX11_bestCauses_98 rfl (Nat.le_of_ble_eq_true rfl) rfl ?_
                refine xv_iinc dX11_bestCauses_99 rfl (xv_inc _) (Nat.le_of_ble_eq_true rfl) rfl ?_
                refine xv_goto (tgt := 39) dX11_bestCauses_102 rfl ?_
                have hc : (bc_C I hs n mm) k (bst (bc_C I hs n mm) k) := ⟨(xi_0 (by have := xdf_le k mm; omega)).mp c_50, fun q hq => (by rw [e] at hq; cases hq; exact Or.inr ⟨c_78, c_86⟩), c_94⟩
                have h := ih (k + 1) (by omega)
                rw [bst_y hc] at h
                exact h

theorem s11_bestCauses {l : Launch} {D : va_G} {d : Nat} {G : xv_Gr} {I : xv_I} {J : xv_J} {Q : xv_Po} (hG : xg_ok G) {n : Nat} (hn : I 40 24 = nI n) (hn4 : n ≤ 40) {hs : Nat → Nat} (hhs : ∀ r, r < n → I 75 r = nI (hs r) ∧ hs r < 65536) {su : Nat} (hsu : I 40 27 = nI su) (hsu2 : su ≤ 100) (hQ : Q (some (.int (ob_ (-900009) (bst (bc_C I hs n (ml_ (lk_P I hs n su) 16)) 65536)))) G I J) : xv_Ev l D (d + 2) mX11_bestCauses none 0 [some (.ref 40), none, none, none] [] G I J 0 0 Q := by
  refine xv_iconst (v := nI 0) dX11_bestCauses_0 rfl ?_
  refine xv_istore_n dX11_bestCauses_1 rfl (Nat.le_of_ble_eq_true rfl) rfl ?_
  refine xv_iconst (v := nI 0) dX11_bestCauses_2 rfl ?_
  refine xv_istore_n dX11_bestCauses_3 rfl (Nat.le_of_ble_eq_true rfl) rfl ?_
  refine s11_bc_a hG hn hn4 hhs hsu hsu2 ?_ 16 0 (by omega)
  refine xv_ldc dX11_bestCauses_34 ld_X11_152 ?_
  refine xv_istore_n dX11_bestCauses_36 rfl (Nat.le_of_ble_eq_true rfl) rfl ?_
  refine xv_iconst (v := nI 0) dX11_bestCauses_37 rfl ?_
  refine xv_istore_n dX11_bestCauses_38 rfl (Nat.le_of_ble_eq_true rfl) rfl ?_
  exact s11_bc_b hG hn hn4 hhs hQ 65536 0 (by omega)

theorem s11_causes {l : Launch} {D : va_G} {d : Nat} {G : xv_Gr} {I : xv_I} {J : xv_J} {Q : xv_Po} (hG : xg_ok G) {n : Nat} (hn : I 40 24 = nI n) (hn4 : n ≤ 40) {hs : Nat → Nat} (hhs : ∀ r, r < n → I 75 r = nI (hs r) ∧ hs r < 65536) {su : Nat} (hsu : I 40 27 = nI su) (hsu2 : su ≤ 100) (h1 : (bst (bc_C I hs n (ml_ (lk_P I hs n su) 16)) 65536) = none → Q (some (.int (-900009))) G I J) (h2 : ∀ b, (bst (bc_C I hs n (ml_ (lk_P I hs n su) 16)) 65536) = some b → Q (some (.int (nI (xpc b 16)))) G I J) : xv_Ev l D (d + 3) mX11_causes none 0 [some (.ref 40), none] [] G I J 0 0 Q := by
  cases e : (bst (bc_C I hs n (ml_ (lk_P I hs n su) 16)) 65536) with
  | none =>
    refine xv_aload_n dX11_causes_0 rfl rfl ?_
    refine xv_callV0 (As := []) dX11_causes_1 cl_X11_234 rfl rfl rfl rfl (go_40 hG) rfl rfl (Nat.le_of_ble_eq_true rfl) (Nat.le_of_ble_eq_true rfl) (Nat.zero_le _) (Nat.zero_le _) ?_
    refine s11_bestCauses (d := d) hG hn hn4 hhs hsu hsu2 ?_
    rw [e]
    show xv_Ev l D (d + 3) mX11_causes none 4 [some (.ref 40), none] [.int (-900009)] G I J 0 0 Q
    refine xv_istore_n dX11_causes_4 rfl (Nat.le_of_ble_eq_true rfl) rfl ?_
    refine xv_iload_n dX11_causes_5 rfl rfl ?_
    refine xv_ldc dX11_causes_6 ld_X11_152 ?_
    refine xv_icmp_ne (tgt := 16) dX11_causes_8 rfl (fun c_8 => absurd rfl c_8) (fun c_8 => ?_)
    refine xv_ldc dX11_causes_11 ld_X11_152 ?_
    refine xv_goto (tgt := 20) dX11_causes_13 rfl ?_
    refine xv_iret dX11_causes_20 rfl (Nat.zero_le _) (Nat.zero_le _) ?_
    exact h1 e
  | some b =>
    have hb := bst_lt e
    refine xv_aload_n dX11_causes_0 rfl rfl ?_
    refine xv_callV0 (As := []) dX11_causes_1 cl_X11_234 rfl rfl rfl rfl (go_40 hG) rfl rfl (Nat.le_of_ble_eq_true rfl) (Nat.le_of_ble_eq_true rfl) (Nat.zero_le _) (Nat.zero_le _) ?_
    refine s11_bestCauses (d := d) hG hn hn4 hhs hsu hsu2 ?_
    rw [e]
    show xv_Ev l D (d + 3) mX11_causes none 4 [some (.ref 40), none] [.int (nI b)] G I J 0 0 Q
    refine xv_istore_n dX11_causes_4 rfl (Nat.le_of_ble_eq_true rfl) rfl ?_
    refine xv_iload_n dX11_causes_5 rfl rfl ?_
    refine xv_ldc dX11_causes_6 ld_X11_152 ?_
    refine xv_icmp_ne (tgt := 16) dX11_causes_8 rfl (fun c_8 => ?_) (fun c_8 => absurd c_8 (nI_nNONE (by omega)))
    refine xv_iload_n dX11_causes_16 rfl rfl ?_
    refine xv_callS0 (As := [_]) dX11_causes_17 cl_X11_176 rfl rfl rfl rfl (Nat.le_of_ble_eq_true rfl) (Nat.le_of_ble_eq_true rfl) (Nat.zero_le _) (Nat.zero_le _) ?_
    refine s11_ones (by omega) ?_
    refine xv_iret dX11_causes_20 rfl (Nat.zero_le _) (Nat.zero_le _) ?_
    exact h2 b e

def cz_P (S j c : Nat) : Prop := S.testBit c = true ∧ xpc S c = j
theorem nI_dec1 {n : Nat} (h : 1 ≤ n) : nI n + Int32.ofInt (-1) = nI (n - 1) := by
  have e := pd_dec n
  cases n with
  | zero => omega
  | succ n => exact e
theorem s11_cz_l {l : Launch} {D : va_G} {d : Nat} {G : xv_Gr} {I : xv_I} {J : xv_J} {Q : xv_Po} {S j : Nat} (hS : S < 65536) (hj2 : j < 2 ^ 31) : ∀ (n c : Nat), c + n = 16 → xpc S c ≤ j → Q (some (.int (xfst (cz_P S j) (fun c => nI c) (-900009) n c))) G I J → xv_Ev l D d mX11_cause none 10 [some (.ref 40), some (.int (nI j)), some (.int (nI S)), some (.int (nI (j - xpc S c))), some (.int (nI c))] [] G I J 0 0 Q := by
  intro n
  induction n with
  | zero =>
    intro c hc hj hQ
    refine xv_iload dX11_cause_10 rfl ?_
    refine xv_bipush (v := nI 16) dX11_cause_12 rfl ?_
    refine xv_icmp_geN (tgt := 53) dX11_cause_14 rfl (by omega) (by omega) (fun c_14 => ?_) (fun c_14 => absurd c_14 (by omega))
    refine xv_ldc dX11_cause_53 ld_X11_152 ?_
    refine xv_iret dX11_cause_55 rfl (Nat.zero_le _) (Nat.zero_le _) ?_
    exact hQ
  | succ n ih =>
    intro c hc hj hQ
    refine xv_iload dX11_cause_10 rfl ?_
    refine xv_bipush (v := nI 16) dX11_cause_12 rfl ?_
    refine xv_icmp_geN (tgt := 53) dX11_cause_14 rfl (by omega) (by omega) (fun c_14 => absurd c_14 (by omega)) (fun c_14 => ?_)
    refine xv_iload_n dX11_cause_17 rfl rfl ?_
    refine xv_ldc dX11_cause_18 ld_X11_152 ?_
    refine xv_icmp_eq (tgt := 53) dX11_cause_20 rfl (fun c_20 => absurd c_20 (nI_nNONE (by omega))) (fun c_20 => ?_)
    refine xv_iload_n dX11_cause_23 rfl rfl ?_
    refine xv_if_lt (tgt := 53) dX11_cause_24 rfl (fun c_24 => absurd c_24 (nI_pos hj2)) (fun c_24 => ?_)
    refine xv_iload_n dX11_cause_27 rfl rfl ?_
    refine xv_iload dX11_cause_28 rfl ?_
    refine xv_ishr dX11_cause_30 ?_
    refine xv_iconst (v := 1) dX11_cause_31 rfl ?_
    refine xv_iand dX11_cause_32 ?_
    have hm2 := Nat.mod_lt (S / 2 ^ c) (show 0 < 2 by decide)
    refine xv_nmI (xi_bit (by omega) (by omega)) ?_
    refine xv_iconst (v := nI 1) dX11_cause_33 rfl ?_
    refine xv_icmp_neN (tgt := 47) dX11_cause_34 rfl (by omega) (by omega) (fun c_34 => ?_) (fun c_34 => ?_)
    · refine xv_iinc dX11_cause_47 rfl (xv_inc _) (Nat.le_of_ble_eq_true rfl) rfl ?_
      refine xv_goto (tgt := 10) dX11_cause_50 rfl ?_
      have hb : ¬ S.testBit c = true := fun z => c_34 (by rw [xt_v1 z])
      have e0 : S / 2 ^ c % 2 = 0 := by have := Nat.mod_lt (S / 2 ^ c) (show 0 < 2 by decide); omega
      have e1 : xpc S (c + 1) = xpc S c := by rw [xpc, e0, Nat.add_zero]
      have h := ih (c + 1) (by omega) (by rw [e1]; exact hj)
      rw [e1] at h
      refine h ?_
      rw [xfst_n (fun z => hb z.1)] at hQ
      exact hQ
    · refine xv_iload_n dX11_cause_37 rfl rfl ?_
      refine xv_if_ne (tgt := 44) dX11_cause_38 rfl (fun c_38 => ?_) (fun c_38 => ?_)
      · refine xv_iinc dX11_cause_44 rfl (nI_dec1 (by have q : ¬ j - xpc S c = 0 := fun z => c_38 (by rw [z]; rfl); omega)) (Nat.le_of_ble_eq_true rfl) rfl ?_
        refine xv_iinc dX11_cause_47 rfl (xv_inc _) (Nat.le_of_ble_eq_true rfl) rfl ?_
        refine xv_goto (tgt := 10) dX11_cause_50 rfl ?_
        have e1 : xpc S (c + 1) = xpc S c + 1 := by rw [xpc, c_34]
        have hz : ¬ xpc S c = j := fun z => c_38 (by rw [z, Nat.sub_self]; rfl)
        have h := ih (c + 1) (by omega) (by omega)
        rw [e1, Nat.sub_add_eq] at h
        refine h ?_
        rw [xfst_n (fun z => hz z.2)] at hQ
        exact hQ
      · refine xv_iload dX11_cause_41 rfl ?_
        refine xv_iret dX11_cause_43 rfl (Nat.zero_le _) (Nat.zero_le _) ?_
        rw [xfst_y ⟨(xt_iff S c).mp c_34, by have q := (xi_0 (show j - xpc S c < 2 ^ 32 by omega)).mp c_38; omega⟩] at hQ
        exact hQ

theorem s11_cause {l : Launch} {D : va_G} {d : Nat} {G : xv_Gr} {I : xv_I} {J : xv_J} {Q : xv_Po} (hG : xg_ok G) {n : Nat} (hn : I 40 24 = nI n) (hn4 : n ≤ 40) {hs : Nat → Nat} (hhs : ∀ r, r < n → I 75 r = nI (hs r) ∧ hs r < 65536) {su : Nat} (hsu : I 40 27 = nI su) (hsu2 : su ≤ 100) {x : Int32} (h1 : (bst (bc_C I hs n (ml_ (lk_P I hs n su) 16)) 65536) = none → Q (some (.int (-900009))) G I J) (h2 : ∀ b, (bst (bc_C I hs n (ml_ (lk_P I hs n su) 16)) 65536) = some b → x < 0 → Q (some (.int (-900009))) G I J) (h3 : ∀ S, (bst (bc_C I hs n (ml_ (lk_P I hs n su) 16)) 65536) = some S → ∀ j, j < 2 ^ 31 → x = nI j → Q (some (.int (xfst (cz_P S j) (fun c => nI c) (-900009) 16 0))) G I J) : xv_Ev l D (d + 3) mX11_cause none 0 [some (.ref 40), some (.int x), none, none, none] [] G I J 0 0 Q := by
  cases e : (bst (bc_C I hs n (ml_ (lk_P I hs n su) 16)) 65536) with
  | none =>
    refine xv_aload_n dX11_cause_0 rfl rfl ?_
    refine xv_callV0 (As := []) dX11_cause_1 cl_X11_234 rfl rfl rfl rfl (go_40 hG) rfl rfl (Nat.le_of_ble_eq_true rfl) (Nat.le_of_ble_eq_true rfl) (Nat.zero_le _) (Nat.zero_le _) ?_
    refine s11_bestCauses (d := d) hG hn hn4 hhs hsu hsu2 ?_
    rw [e]
    show xv_Ev l D (d + 3) mX11_cause none 4 [some (.ref 40), some (.int x), none, none, none] [.int (-900009)] G I J 0 0 Q
    refine xv_istore_n dX11_cause_4 rfl (Nat.le_of_ble_eq_true rfl) rfl ?_
    refine xv_iload_n dX11_cause_5 rfl rfl ?_
    refine xv_istore_n dX11_cause_6 rfl (Nat.le_of_ble_eq_true rfl) rfl ?_
    refine xv_iconst (v := 0) dX11_cause_7 rfl ?_
    refine xv_istore dX11_cause_8 (Nat.le_of_ble_eq_true rfl) rfl ?_
    refine xv_iload dX11_cause_10 rfl ?_
    refine xv_bipush (v := 16) dX11_cause_12 rfl ?_
    refine xv_icmp_ge (tgt := 53) dX11_cause_14 rfl (fun c_14 => absurd c_14 (by decide)) (fun c_14 => ?_)
    refine xv_iload_n dX11_cause_17 rfl rfl ?_
    refine xv_ldc dX11_cause_18 ld_X11_152 ?_
    refine xv_icmp_eq (tgt := 53) dX11_cause_20 rfl (fun c_20 => ?_) (fun c_20 => absurd rfl c_20)
    refine xv_ldc dX11_cause_53 ld_X11_152 ?_
    refine xv_iret dX11_cause_55 rfl (Nat.zero_le _) (Nat.zero_le _) ?_
    exact h1 e
  | some b =>
    have hb := bst_lt e
    by_cases hx : x < 0
    · refine xv_aload_n dX11_cause_0 rfl rfl ?_
      refine xv_callV0 (As := []) dX11_cause_1 cl_X11_234 rfl rfl rfl rfl (go_40 hG) rfl rfl (Nat.le_of_ble_eq_true rfl) (Nat.le_of_ble_eq_true rfl) (Nat.zero_le _) (Nat.zero_le _) ?_
      refine s11_bestCauses (d := d) hG hn hn4 hhs hsu hsu2 ?_
      rw [e]
      show xv_Ev l D (d + 3) mX11_cause none 4 [some (.ref 40), some (.int x), none, none, none] [.int (nI b)] G I J 0 0 Q
      refine xv_istore_n dX11_cause_4 rfl (Nat.le_of_ble_eq_true rfl) rfl ?_
      refine xv_iload_n dX11_cause_5 rfl rfl ?_
      refine xv_istore_n dX11_cause_6 rfl (Nat.le_of_ble_eq_true rfl) rfl ?_
      refine xv_iconst (v := 0) dX11_cause_7 rfl ?_
      refine xv_istore dX11_cause_8 (Nat.le_of_ble_eq_true rfl) rfl ?_
      refine xv_iload dX11_cause_10 rfl ?_
      refine xv_bipush (v := 16) dX11_cause_12 rfl ?_
      refine xv_icmp_ge (tgt := 53) dX11_cause_14 rfl (fun c_14 => absurd c_14 (by decide)) (fun c_14 => ?_)
      refine xv_iload_n dX11_cause_17 rfl rfl ?_
      refine xv_ldc dX11_cause_18 ld_X11_152 ?_
      refine xv_icmp_eq (tgt := 53) dX11_cause_20 rfl (fun c_20 => absurd c_20 (nI_nNONE (by omega))) (fun c_20 => ?_)
      refine xv_iload_n dX11_cause_23 rfl rfl ?_
      refine xv_if_lt (tgt := 53) dX11_cause_24 rfl (fun c_24 => ?_) (fun c_24 => absurd hx c_24)
      refine xv_ldc dX11_cause_53 ld_X11_152 ?_
      refine xv_iret dX11_cause_55 rfl (Nat.zero_le _) (Nat.zero_le _) ?_
      exact h2 b e hx
    · obtain ⟨j, hj, rfl⟩ := nI_of hx
      refine xv_aload_n dX11_cause_0 rfl rfl ?_
      refine xv_callV0 (As := []) dX11_cause_1 cl_X11_234 rfl rfl rfl rfl (go_40 hG) rfl rfl (Nat.le_of_ble_eq_true rfl) (Nat.le_of_ble_eq_true rfl) (Nat.zero_le _) (Nat.zero_le _) ?_
      refine s11_bestCauses (d := d) hG hn hn4 hhs hsu hsu2 ?_
      rw [e]
      show xv_Ev l D (d + 3) mX11_cause none 4 [some (.ref 40), some (.int (nI j)), none, none, none] [.int (nI b)] G I J 0 0 Q
      refine xv_istore_n dX11_cause_4 rfl (Nat.le_of_ble_eq_true rfl) rfl ?_
      refine xv_iload_n dX11_cause_5 rfl rfl ?_
      refine xv_istore_n dX11_cause_6 rfl (Nat.le_of_ble_eq_true rfl) rfl ?_
      refine xv_iconst (v := nI 0) dX11_cause_7 rfl ?_
      refine xv_istore dX11_cause_8 (Nat.le_of_ble_eq_true rfl) rfl ?_
      exact s11_cz_l (by omega) hj 16 0 (by omega) (Nat.zero_le _) (h3 b e j hj rfl)

theorem s11_loan {l : Launch} {D : va_G} {d : Nat} {G : xv_Gr} {I : xv_I} {J : xv_J} {Q : xv_Po} (hG : xg_ok G) {nl : Nat} (hnl : I 40 29 = nI nl) (hl8 : nl ≤ 8) {mo : Nat} (hmo : I 40 28 = nI mo) (hm5 : mo ≤ 599) {pr rt pt : Int32} (h1 : ¬ ((1 ≤ pr ∧ pr ≤ 100000) ∧ (0 ≤ rt ∧ rt ≤ 50) ∧ (1 ≤ pt ∧ pt ≤ 10000)) → Q (some (.int (-900002))) G I J) (h2 : ((1 ≤ pr ∧ pr ≤ 100000) ∧ (0 ≤ rt ∧ rt ≤ 50) ∧ (1 ≤ pt ∧ pt ≤ 10000)) → nl = 8 → Q (some (.int (-900004))) G I J) (h3 : ((1 ≤ pr ∧ pr ≤ 100000) ∧ (0 ≤ rt ∧ rt ≤ 50) ∧ (1 ≤ pt ∧ pt ≤ 10000)) → nl < 8 → Q (some (.int (nI nl))) G (xv_ui (xv_ui (xv_ui (xv_ui (xv_ui (xv_ui I 80 nl rt) 81 nl pt) 82 nl (nI mo)) 83 nl 1) 86 (600 * nl + mo) 1) 40 29 (nI (nl + 1))) (xv_uj J 84 (600 * nl + mo) pr.toInt64)) : xv_Ev l D (d + 1) mX11_loan none 0 [some (.ref 40), some (.int pr), some (.int rt), some (.int pt)] [] G I J 0 0 Q := by
  refine xv_iload_n dX11_loan_0 rfl rfl ?_
  refine xv_i2l dX11_loan_1 ?_
  refine xv_lconst (v := 1) dX11_loan_2 rfl ?_
  refine xv_ldc2 dX11_loan_3 ld_X11_243 ?_
  refine xv_callS0 (As := [_, _, _]) dX11_loan_6 cl_X11_126 rfl rfl rfl rfl (Nat.le_of_ble_eq_true rfl) (Nat.le_of_ble_eq_true rfl) (Nat.zero_le _) (Nat.zero_le _) ?_
  refine s11_in (a := 1) (b := 100000) rfl rfl ?_
  refine xv_if_eqD (tgt := 36) dX11_loan_9 rfl (fun c_9 => ?_) (fun c_9 => ?_)
  · refine xv_ldc dX11_loan_36 ld_X11_130 ?_
    refine xv_iret dX11_loan_38 rfl (Nat.zero_le _) (Nat.zero_le _) ?_
    exact h1 (fun h => c_9 h.1)
  · refine xv_iload_n dX11_loan_12 rfl rfl ?_
    refine xv_i2l dX11_loan_13 ?_
    refine xv_lconst (v := 0) dX11_loan_14 rfl ?_
    refine xv_ldc2 dX11_loan_15 ld_X11_245 ?_
    refine xv_callS0 (As := [_, _, _]) dX11_loan_18 cl_X11_126 rfl rfl rfl rfl (Nat.le_of_ble_eq_true rfl) (Nat.le_of_ble_eq_true rfl) (Nat.zero_le _) (Nat.zero_le _) ?_
    refine s11_in (a := 0) (b := 50) rfl rfl ?_
    refine xv_if_eqD (tgt := 36) dX11_loan_21 rfl (fun c_21 => ?_) (fun c_21 => ?_)
    · refine xv_ldc dX11_loan_36 ld_X11_130 ?_
      refine xv_iret dX11_loan_38 rfl (Nat.zero_le _) (Nat.zero_le _) ?_
      exact h1 (fun h => c_21 h.2.1)
    · refine xv_iload_n dX11_loan_24 rfl rfl ?_
      refine xv_i2l dX11_loan_25 ?_
      refine xv_lconst (v := 1) dX11_loan_26 rfl ?_
      refine xv_ldc2 dX11_loan_27 ld_X11_247 ?_
      refine xv_callS0 (As := [_, _, _]) dX11_loan_30 cl_X11_126 rfl rfl rfl rfl (Nat.le_of_ble_eq_true rfl) (Nat.le_of_ble_eq_true rfl) (Nat.zero_le _) (Nat.zero_le _) ?_
      refine s11_in (a := 1) (b := 10000) rfl rfl ?_
      refine xv_if_neD (tgt := 39) dX11_loan_33 rfl (fun c_33 => ?_) (fun c_33 => ?_)
      · have hV : ((1 ≤ pr ∧ pr ≤ 100000) ∧ (0 ≤ rt ∧ rt ≤ 50) ∧ (1 ≤ pt ∧ pt ≤ 10000)) := ⟨c_9, c_21, c_33⟩
        refine xv_aload_n dX11_loan_39 rfl rfl ?_
        refine xv_geti dX11_loan_40 fl_X11_237 (go_40 hG) rfl ?_
        refine xv_nmI hnl ?_
        refine xv_bipush (v := nI 8) dX11_loan_43 rfl ?_
        refine xv_icmp_neN (tgt := 51) dX11_loan_45 rfl (by omega) (by omega) (fun c_45 => ?_) (fun c_45 => ?_)
        · refine xv_aload_n dX11_loan_51 rfl rfl ?_
          refine xv_getr dX11_loan_52 fl_X11_84 (go_40 hG) rfl (gr_40_30 hG) ?_
          refine xv_aload_n dX11_loan_55 rfl rfl ?_
          refine xv_geti dX11_loan_56 fl_X11_237 (go_40 hG) rfl ?_
          refine xv_nmI hnl ?_
          refine xv_iload_n dX11_loan_59 rfl rfl ?_
          refine xv_iastore dX11_loan_60 (go_80 hG) (xv_ixn (by omega) (by decide)) ?_
          refine xv_aload_n dX11_loan_61 rfl rfl ?_
          refine xv_getr dX11_loan_62 fl_X11_87 (go_40 hG) rfl (gr_40_31 hG) ?_
          refine xv_aload_n dX11_loan_65 rfl rfl ?_
          refine xv_geti dX11_loan_66 fl_X11_237 (go_40 hG) rfl ?_
          refine xv_nmI hnl ?_
          refine xv_iload_n dX11_loan_69 rfl rfl ?_
          refine xv_iastore dX11_loan_70 (go_81 hG) (xv_ixn (by omega) (by decide)) ?_
          refine xv_aload_n dX11_loan_71 rfl rfl ?_
          refine xv_getr dX11_loan_72 fl_X11_90 (go_40 hG) rfl (gr_40_32 hG) ?_
          refine xv_aload_n dX11_loan_75 rfl rfl ?_
          refine xv_geti dX11_loan_76 fl_X11_237 (go_40 hG) rfl ?_
          refine xv_nmI hnl ?_
          refine xv_aload_n dX11_loan_79 rfl rfl ?_
          refine xv_geti dX11_loan_80 fl_X11_240 (go_40 hG) rfl ?_
          refine xv_nmI hmo ?_
          refine xv_iastore dX11_loan_83 (go_82 hG) (xv_ixn (by omega) (by decide)) ?_
          refine xv_aload_n dX11_loan_84 rfl rfl ?_
          refine xv_getr dX11_loan_85 fl_X11_93 (go_40 hG) rfl (gr_40_33 hG) ?_
          refine xv_aload_n dX11_loan_88 rfl rfl ?_
          refine xv_geti dX11_loan_89 fl_X11_237 (go_40 hG) rfl ?_
          refine xv_nmI hnl ?_
          refine xv_iconst (v := 1) dX11_loan_92 rfl ?_
          refine xv_zastore dX11_loan_93 (go_83 hG) (xv_ixn (by omega) (by decide)) rfl ?_
          refine xv_aload_n dX11_loan_94 rfl rfl ?_
          refine xv_getr dX11_loan_95 fl_X11_96 (go_40 hG) rfl (gr_40_34 hG) ?_
          refine xv_aload_n dX11_loan_98 rfl rfl ?_
          refine xv_aload_n dX11_loan_99 rfl rfl ?_
          refine xv_geti dX11_loan_100 fl_X11_237 (go_40 hG) rfl ?_
          refine xv_nmI hnl ?_
          refine xv_callV0 (As := [_]) dX11_loan_103 cl_X11_249 rfl rfl rfl rfl (go_40 hG) rfl rfl (Nat.le_of_ble_eq_true rfl) (Nat.le_of_ble_eq_true rfl) (Nat.zero_le _) (Nat.zero_le _) ?_
          refine s11_nowOf hG (I := (xv_ui (xv_ui (xv_ui (xv_ui I 80 nl rt) 81 nl pt) 82 nl (nI mo)) 83 nl 1)) (mo := mo) (show (xv_ui (xv_ui (xv_ui (xv_ui I 80 nl rt) 81 nl pt) 82 nl (nI mo)) 83 nl 1) 40 28 = nI mo from hmo) hm5 ?_
          refine xv_iload_n dX11_loan_106 rfl rfl ?_
          refine xv_i2l dX11_loan_107 ?_
          refine xv_lastore dX11_loan_108 (go_84 hG) (xv_ixn (by omega) (by decide)) ?_
          refine xv_aload_n dX11_loan_109 rfl rfl ?_
          refine xv_getr dX11_loan_110 fl_X11_103 (go_40 hG) rfl (gr_40_36 hG) ?_
          refine xv_aload_n dX11_loan_113 rfl rfl ?_
          refine xv_aload_n dX11_loan_114 rfl rfl ?_
          refine xv_geti dX11_loan_115 fl_X11_237 (go_40 hG) rfl ?_
          refine xv_nmI hnl ?_
          refine xv_callV0 (As := [_]) dX11_loan_118 cl_X11_249 rfl rfl rfl rfl (go_40 hG) rfl rfl (Nat.le_of_ble_eq_true rfl) (Nat.le_of_ble_eq_true rfl) (Nat.zero_le _) (Nat.zero_le _) ?_
          refine s11_nowOf hG (I := (xv_ui (xv_ui (xv_ui (xv_ui I 80 nl rt) 81 nl pt) 82 nl (nI mo)) 83 nl 1)) (mo := mo) (show (xv_ui (xv_ui (xv_ui (xv_ui I 80 nl rt) 81 nl pt) 82 nl (nI mo)) 83 nl 1) 40 28 = nI mo from hmo) hm5 ?_
          refine xv_iconst (v := 1) dX11_loan_121 rfl ?_
          refine xv_iastore dX11_loan_122 (go_86 hG) (xv_ixn (by omega) (by decide)) ?_
          refine xv_aload_n dX11_loan_123 rfl rfl ?_
          refine xv_dup dX11_loan_124 rfl ?_
          refine xv_geti dX11_loan_125 fl_X11_237 (go_40 hG) rfl ?_
          refine xv_nmI hnl ?_
          refine xv_iconst (v := nI 1) dX11_loan_128 rfl ?_
          refine xv_iadd dX11_loan_129 ?_
          refine xv_nmI (nI_add _ _) ?_
          refine xv_puti dX11_loan_130 fl_X11_237 (go_40 hG) rfl rfl rfl ?_
          refine xv_aload_n dX11_loan_133 rfl rfl ?_
          refine xv_geti dX11_loan_134 fl_X11_237 (go_40 hG) rfl ?_
          refine xv_nmI xv_ui_s ?_
          refine xv_iconst (v := nI 1) dX11_loan_137 rfl ?_
          refine xv_isub dX11_loan_138 ?_
          refine xv_nmI (pk_sub (by omega)) ?_
          refine xv_iret dX11_loan_139 rfl (Nat.zero_le _) (Nat.zero_le _) ?_
          exact h3 hV (by omega)
        · refine xv_ldc dX11_loan_48 ld_X11_138 ?_
          refine xv_iret dX11_loan_50 rfl (Nat.zero_le _) (Nat.zero_le _) ?_
          exact h2 hV (by omega)
      · refine xv_ldc dX11_loan_36 ld_X11_130 ?_
        refine xv_iret dX11_loan_38 rfl (Nat.zero_le _) (Nat.zero_le _) ?_
        exact h1 (fun h => c_33 h.2.2)
