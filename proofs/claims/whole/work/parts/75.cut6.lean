/-! boards (class): bestNumber, readDigits -/
theorem oe_lt (S : Nat) : ∀ k, oe_ S k < 12 ^ k
  | 0 => Nat.one_pos
  | k + 1 => by
    have h := oe_lt S k
    have q : S / 2 ^ (k + 1) % 2 < 2 := Nat.mod_lt _ (by decide)
    rw [oe_, Nat.pow_succ]
    omega
theorem rs_pc {S : Nat} (h : S ≠ 0) (h4 : S < 4096) : xpc (rs_ S) 12 + 1 = xpc S 12 := by
  have h2 : ∀ a, a < 64 → ∀ b, b < 64 → 64 * a + b ≠ 0 → xpc (rs_ (64 * a + b)) 12 + 1 = xpc (64 * a + b) 12 := by decide +kernel
  have h1 := h2 (S / 64) (by omega) (S % 64) (by omega)
  rw [Nat.div_add_mod] at h1
  exact h1 h
theorem rs_lt {S : Nat} (h : S ≠ 0) (h4 : S < 4096) : rs_ S < S := by
  have h2 : ∀ a, a < 64 → ∀ b, b < 64 → 64 * a + b ≠ 0 → rs_ (64 * a + b) < 64 * a + b := by decide +kernel
  have h1 := h2 (S / 64) (by omega) (S % 64) (by omega)
  rw [Nat.div_add_mod] at h1
  exact h1 h
theorem xpc_b (s : Nat) : ∀ n, xpc s n ≤ n
  | 0 => Nat.le_refl _
  | n + 1 => by
    have := xpc_b s n
    have q : s / 2 ^ n % 2 < 2 := Nat.mod_lt _ (by decide)
    rw [xpc]
    omega
def Lm (pv : Nat → Option Nat) (bh : Nat → Nat) (S v : Nat) : Prop := Lc pv bh S v ∧ ∀ w, Lc pv bh S w → v ≤ w
def dp_k (pv : Nat → Option Nat) (bh : Nat → Nat) (t : Nat) : Prop := bh 0 = 0 ∧ ∀ S, S % 2 = 0 → S ≠ 0 → S < t → (∃ v, Lm pv bh S v ∧ bh S = v + oe_ S 11) ∧ bh S ≤ xpc S 12 * 96582915097362432
theorem Lc_cg {pv : Nat → Option Nat} {bh b2 : Nat → Nat} {S v : Nat} (h : ∀ T, sb_ T (rs_ S) → b2 T = bh T) : Lc pv b2 S v ↔ Lc pv bh S v :=
  ⟨fun ⟨x, p, g1, g2, g3⟩ => ⟨x, p, g1, g2, by rw [g3, h _ (sb_xor g1)]⟩, fun ⟨x, p, g1, g2, g3⟩ => ⟨x, p, g1, g2, by rw [g3, h _ (sb_xor g1)]⟩⟩
theorem Lm_cg {pv : Nat → Option Nat} {bh b2 : Nat → Nat} {S v : Nat} (h : ∀ T, sb_ T (rs_ S) → b2 T = bh T) (hm : Lm pv bh S v) : Lm pv b2 S v :=
  ⟨(Lc_cg h).mpr hm.1, fun w hw => hm.2 w ((Lc_cg h).mp hw)⟩
theorem dp_pu {pv : Nat → Option Nat} {bh : Nat → Nat} {t v : Nat} (h : dp_k pv bh t) (ht : t % 2 = 0) (ht0 : t ≠ 0) (ht4 : t < 4096) (hq : ∃ q, pv (lw_ t) = some q ∧ q ≤ 129988) (hb : bh (rs_ t) ≤ xpc (rs_ t) 12 * 96582915097362432) (hv : Lm pv bh t v) : dp_k pv (fun S => if S = t then v + oe_ t 11 else bh S) (t + 2) := by
  refine ⟨(if_neg (fun z => ht0 z.symm)).trans h.1, fun S g1 g2 g3 => ?_⟩
  have hcg : ∀ S, S ≠ 0 → S ≤ t → ∀ T, sb_ T (rs_ S) → (if T = t then v + oe_ t 11 else bh T) = bh T := fun S k0 k1 T k2 => by
    have a1 := sb_le k2
    have a2 := rs_lt k0 (show S < 4096 by omega)
    rw [if_neg (by omega)]
  by_cases e : S = t
  · subst e
    refine ⟨⟨v, Lm_cg (hcg S g2 (Nat.le_refl _)) hv, if_pos rfl⟩, ?_⟩
    show (if S = S then _ else _) ≤ _
    rw [if_pos rfl]
    obtain ⟨q, k1, k2⟩ := hq
    have a1 := hv.2 _ ⟨0, q, sb_z _, by rw [Nat.or_zero]; exact k1, rfl⟩
    rw [Nat.xor_zero] at a1
    have a2 := oe_lt S 11
    have a3 := rs_pc ht0 ht4
    rw [← a3, Nat.succ_mul]
    omega
  · have k := h.2 S g1 g2 (by omega)
    obtain ⟨⟨w, k1, k2⟩, k3⟩ := k
    exact ⟨⟨w, Lm_cg (hcg S g2 (by omega)) k1, (if_neg e).trans k2⟩, Nat.le_trans (Nat.le_of_eq (if_neg e)) k3⟩
theorem dp_b {pv : Nat → Option Nat} {bh : Nat → Nat} {t S : Nat} (h : dp_k pv bh t) (h1 : S % 2 = 0) (h2 : S < t) : bh S ≤ xpc S 12 * 96582915097362432 ∧ bh S ≤ 1500000000000000000 := by
  by_cases e : S = 0
  · subst e; rw [h.1]; exact ⟨Nat.zero_le _, Nat.zero_le _⟩
  · have a := (h.2 S h1 e h2).2
    have b := xpc_b S 12
    refine ⟨a, ?_⟩
    have hp : xpc S 12 ≤ 12 := b
    have : xpc S 12 * 96582915097362432 ≤ 12 * 96582915097362432 := Nat.mul_le_mul_right _ hp
    omega
def bn_j (J J2 : xv_J) (bh : Nat → Nat) (t : Nat) : Prop := (∀ b, b ≠ 141 → J2 b = J b) ∧ ∀ S, S % 2 = 0 → S < t → J2 141 S = lN (bh S)
theorem rs_all {np : Nat} (h : np ≤ 12) (h0 : 2 ^ np - 1 ≠ 0) : rs_ (2 ^ np - 1) % 2 = 0 := by
  have h2 : ∀ n, n ≤ 12 → 2 ^ n - 1 ≠ 0 → rs_ (2 ^ n - 1) % 2 = 0 := by decide +kernel
  exact h2 np h h0
theorem Lm_b {pv : Nat → Option Nat} {bh : Nat → Nat} {S v : Nat} (hv : Lm pv bh S v) (hp : ∀ T, T ≠ 0 → sb_ T S → ∀ p, pv T = some p → p ≤ 129988) (h0 : S ≠ 0) (h4 : S < 4096) (hb : ∀ T, sb_ T (rs_ S) → bh T ≤ 1500000000000000000) : v ≤ 1600000000000000000 := by
  obtain ⟨⟨x, p, g1, g2, g3⟩, -⟩ := hv
  have k1 := hb _ (sb_xor g1)
  have hln := lw_n0 h0 h4
  have k2 := hp _ (fun z => hln (by have : lw_ S ≤ lw_ S ||| x := Nat.left_le_or; omega)) (sb_or (lw_sb S) (sb_tr g1 (rs_sb S))) p g2
  rw [g3]; omega
theorem s2_bn_l {l : Launch} {D : va_G} {d : Nat} {G : xv_Gr} {I : xv_I} {J : xv_J} {Q : xv_Po} (hG : xg_ok G) {np : Nat} (hnp : np ≤ 12) {pv : Nat → Option Nat} (hpv : ∀ T, T ≠ 0 → T < 2 ^ np → I 140 T = ob_ (-1) (pv T) ∧ ∀ p, pv T = some p → p ≤ 129988) (hfs : ∀ S, S ≠ 0 → S < 2 ^ np → ∃ q, pv (lw_ S) = some q) (h1n : 1 ≤ np) (hQ : ∀ bh J2 v, bn_j J J2 bh 1 → dp_k pv bh (2 ^ np - 1) → Lm pv bh (2 ^ np - 1) v → v ≤ 1600000000000000000 → Q (some (.long (lN v))) G I J2) : ∀ (n t : Nat) (bh : Nat → Nat) (J2 : xv_J), (2 ^ np - 1) ≤ t + 2 * n → t % 2 = 0 → 2 ≤ t → bn_j J J2 bh t → dp_k pv bh t → t ≤ 4096 → xv_Ev l D (d + 1) mX2_bestNumber none 14 [some (.ref 3), some (.int (nI np)), some (.int (nI (2 ^ np - 1))), some (.int (nI t))] [] G I J2 0 0 Q := by
  have h1p : 2 ≤ 2 ^ np := by
    have q : 2 ^ 1 ≤ 2 ^ np := Nat.pow_le_pow_right (by decide) h1n
    omega
  intro n
  induction n with
  | zero =>
    intro t bh J2 ht hte ht2 hj hd ht4
    have h2 : 2 ^ np ≤ 2 ^ 12 := Nat.pow_le_pow_right (by decide) hnp
    have h24 : (2 : Nat) ^ 12 = 4096 := by decide
    have hr1 := rs_lt (S := (2 ^ np - 1)) (by omega) (by omega)
    have hrp : rs_ (2 ^ np - 1) % 2 = 0 := rs_all hnp (by omega)
    refine xv_iload_n dX2_bestNumber_14 rfl rfl ?_
    refine xv_iload_n dX2_bestNumber_15 rfl rfl ?_
    refine xv_icmp_geN (tgt := 41) dX2_bestNumber_16 rfl (by omega) (by omega) (fun c_16 => ?_) (fun c_16 => absurd c_16 (by omega))
    refine xv_aload_n dX2_bestNumber_41 rfl rfl ?_
    refine xv_iload_n dX2_bestNumber_42 rfl rfl ?_
    refine xv_callV0 (As := [_]) dX2_bestNumber_43 cl_X2_71 rfl rfl rfl rfl (go_3 hG) rfl rfl (Nat.le_of_ble_eq_true rfl) (Nat.le_of_ble_eq_true rfl) (Nat.zero_le _) (Nat.zero_le _) ?_
    refine s2_leastNumber (d := d) hG (pv := pv) (bh := bh) (S := (2 ^ np - 1)) (by omega) (fun T k1 k2 => hpv T k2 (by have := sb_le k1; omega)) (fun T k1 => ⟨hj.2 T (by have q := sb_par k1; omega) (by have := sb_le k1; omega), (dp_b hd (by have q := sb_par k1; omega) (by have := sb_le k1; omega)).2⟩) (by omega) (hfs _ (by omega) (by omega)) (fun v hv hl => ?_)
    · refine xv_lret dX2_bestNumber_46 rfl (Nat.zero_le _) (Nat.zero_le _) ?_
      refine hQ bh J2 v ⟨hj.1, fun S k1 k2 => hj.2 S k1 (by omega)⟩ ⟨hd.1, fun S k1 k2 k3 => hd.2 S k1 k2 (by omega)⟩ ⟨hv, hl⟩ ?_
      exact Lm_b ⟨hv, hl⟩ (fun T k1 k2 => (hpv T k1 (by have := sb_le k2; omega)).2) (by omega) (by omega) (fun T k1 => (dp_b hd (by have q := sb_par k1; omega) (by have := sb_le k1; omega)).2)
  | succ n ih =>
    intro t bh J2 ht hte ht2 hj hd ht4
    have h2 : 2 ^ np ≤ 2 ^ 12 := Nat.pow_le_pow_right (by decide) hnp
    have h24 : (2 : Nat) ^ 12 = 4096 := by decide
    have hr1 := rs_lt (S := (2 ^ np - 1)) (by omega) (by omega)
    have hrp : rs_ (2 ^ np - 1) % 2 = 0 := rs_all hnp (by omega)
    refine xv_iload_n dX2_bestNumber_14 rfl rfl ?_
    refine xv_iload_n dX2_bestNumber_15 rfl rfl ?_
    refine xv_icmp_geN (tgt := 41) dX2_bestNumber_16 rfl (by omega) (by omega) (fun c_16 => ?_) (fun c_16 => ?_)
    · refine xv_aload_n dX2_bestNumber_41 rfl rfl ?_
      refine xv_iload_n dX2_bestNumber_42 rfl rfl ?_
      refine xv_callV0 (As := [_]) dX2_bestNumber_43 cl_X2_71 rfl rfl rfl rfl (go_3 hG) rfl rfl (Nat.le_of_ble_eq_true rfl) (Nat.le_of_ble_eq_true rfl) (Nat.zero_le _) (Nat.zero_le _) ?_
      refine s2_leastNumber (d := d) hG (pv := pv) (bh := bh) (S := (2 ^ np - 1)) (by omega) (fun T k1 k2 => hpv T k2 (by have := sb_le k1; omega)) (fun T k1 => ⟨hj.2 T (by have q := sb_par k1; omega) (by have := sb_le k1; omega), (dp_b hd (by have q := sb_par k1; omega) (by have := sb_le k1; omega)).2⟩) (by omega) (hfs _ (by omega) (by omega)) (fun v hv hl => ?_)
      · refine xv_lret dX2_bestNumber_46 rfl (Nat.zero_le _) (Nat.zero_le _) ?_
        refine hQ bh J2 v ⟨hj.1, fun S k1 k2 => hj.2 S k1 (by omega)⟩ ⟨hd.1, fun S k1 k2 k3 => hd.2 S k1 k2 (by omega)⟩ ⟨hv, hl⟩ ?_
        exact Lm_b ⟨hv, hl⟩ (fun T k1 k2 => (hpv T k1 (by have := sb_le k2; omega)).2) (by omega) (by omega) (fun T k1 => (dp_b hd (by have q := sb_par k1; omega) (by have := sb_le k1; omega)).2)
    · refine xv_aload_n dX2_bestNumber_19 rfl rfl ?_
      refine xv_getr dX2_bestNumber_20 fl_X2_47 (go_3 hG) rfl (gr_3_11 hG) ?_
      refine xv_iload_n dX2_bestNumber_23 rfl rfl ?_
      refine xv_aload_n dX2_bestNumber_24 rfl rfl ?_
      refine xv_iload_n dX2_bestNumber_25 rfl rfl ?_
      refine xv_callV0 (As := [_]) dX2_bestNumber_26 cl_X2_71 rfl rfl rfl rfl (go_3 hG) rfl rfl (Nat.le_of_ble_eq_true rfl) (Nat.le_of_ble_eq_true rfl) (Nat.zero_le _) (Nat.zero_le _) ?_
      refine s2_leastNumber (d := d) hG (pv := pv) (bh := bh) (S := t) (by omega) (fun T k1 k2 => hpv T k2 (by have := sb_le k1; omega)) (fun T k1 => ⟨hj.2 T (by have q := sb_par k1; have q2 := sb_par (rs_sb t); omega) (by have := sb_le k1; have := rs_lt (S := t) (by omega) (by omega); omega), (dp_b hd (by have q := sb_par k1; have q2 := sb_par (rs_sb t); omega) (by have := sb_le k1; have := rs_lt (S := t) (by omega) (by omega); omega)).2⟩) (by omega) (hfs _ (by omega) (by omega)) (fun v hv hl => ?_)
      · refine xv_iload_n dX2_bestNumber_29 rfl rfl ?_
        refine xv_callS0 (As := [_]) dX2_bestNumber_30 cl_X2_74 rfl rfl rfl rfl (Nat.le_of_ble_eq_true rfl) (Nat.le_of_ble_eq_true rfl) (Nat.zero_le _) (Nat.zero_le _) ?_
        refine s2_oneForEach (by omega) ?_
        refine xv_ladd dX2_bestNumber_33 ?_
        refine xv_nmJ (xl_add _ _) ?_
        refine xv_lastore dX2_bestNumber_34 (go_141 hG) (xv_ixn (by omega) (by decide)) ?_
        refine xv_iinc dX2_bestNumber_35 rfl (show nI t + Int32.ofInt 2 = nI (t + 2) from nI_add t 2) (Nat.le_of_ble_eq_true rfl) rfl ?_
        refine xv_goto (tgt := 14) dX2_bestNumber_38 rfl ?_
        have hl1 : bh (rs_ t) ≤ xpc (rs_ t) 12 * 96582915097362432 := (dp_b hd (by have q2 := sb_par (rs_sb t); omega) (rs_lt (by omega) (by omega))).1
        obtain ⟨q, hq⟩ := hfs t (by omega) (by omega)
        have hq2 := (hpv (lw_ t) (lw_n0 (by omega) (by omega)) (by have := sb_le (lw_sb t); omega)).2 q hq
        refine ih (t + 2) (fun S => if S = t then v + oe_ t 11 else bh S) _ (by omega) (by omega) (by omega) ⟨fun b g => ?_, fun S g1 g2 => ?_⟩ (dp_pu hd hte (by omega) (by omega) ⟨q, hq, hq2⟩ hl1 ⟨hv, hl⟩) (by omega)
        · rw [xv_uj_ne g]; exact hj.1 b g
        · by_cases e : S = t
          · subst e; rw [xv_uj_s]; exact congrArg lN (if_pos rfl).symm
          · rw [xv_uj_o e]; exact (hj.2 S g1 (by omega)).trans (congrArg lN (if_neg e).symm)

theorem s2_bestNumber {l : Launch} {D : va_G} {d : Nat} {G : xv_Gr} {I : xv_I} {J : xv_J} {Q : xv_Po} (hG : xg_ok G) {np : Nat} (hnp : np ≤ 12) {pv : Nat → Option Nat} (hpv : ∀ T, T ≠ 0 → T < 2 ^ np → I 140 T = ob_ (-1) (pv T) ∧ ∀ p, pv T = some p → p ≤ 129988) (hfs : ∀ S, S ≠ 0 → S < 2 ^ np → ∃ q, pv (lw_ S) = some q) (h0 : J 141 0 = 0) (hz : np = 0 → Q (some (.long (lN 0))) G I J) (hQ : 1 ≤ np → ∀ bh J2 v, bn_j J J2 bh 1 → dp_k pv bh (2 ^ np - 1) → Lm pv bh (2 ^ np - 1) v → v ≤ 1600000000000000000 → Q (some (.long (lN v))) G I J2) : xv_Ev l D (d + 1) mX2_bestNumber none 0 [some (.ref 3), some (.int (nI np)), none, none] [] G I J 0 0 Q := by
  refine xv_iload_n dX2_bestNumber_0 rfl rfl ?_
  refine xv_if_ne (tgt := 6) dX2_bestNumber_1 rfl (fun c_1 => ?_) (fun c_1 => ?_)
  · refine xv_iconst (v := nI 1) dX2_bestNumber_6 rfl ?_
    refine xv_iload_n dX2_bestNumber_7 rfl rfl ?_
    refine xv_ishl dX2_bestNumber_8 ?_
    refine xv_nmI (xi_one (by omega)) ?_
    refine xv_iconst (v := nI 1) dX2_bestNumber_9 rfl ?_
    refine xv_isub dX2_bestNumber_10 ?_
    refine xv_nmI (pk_sub Nat.one_le_two_pow) ?_
    refine xv_istore_n dX2_bestNumber_11 rfl (Nat.le_of_ble_eq_true rfl) rfl ?_
    refine xv_iconst (v := nI 2) dX2_bestNumber_12 rfl ?_
    refine xv_istore_n dX2_bestNumber_13 rfl (Nat.le_of_ble_eq_true rfl) rfl ?_
    have h1n : 1 ≤ np := Nat.one_le_iff_ne_zero.mpr (fun z => c_1 (by rw [z]; rfl))
    have h2 : 2 ^ np ≤ 2 ^ 12 := Nat.pow_le_pow_right (by decide) hnp
    have h24 : (2 : Nat) ^ 12 = 4096 := by decide
    exact s2_bn_l hG hnp hpv hfs h1n (hQ h1n) 2048 2 (fun _ => 0) J (by omega) rfl (by omega) ⟨fun _ _ => rfl, fun S k1 k2 => by rw [show S = 0 by omega]; exact h0⟩ ⟨rfl, fun S k1 k2 k3 => absurd k3 (by omega)⟩ (by omega)
  · refine xv_lconst (v := 0) dX2_bestNumber_4 rfl ?_
    refine xv_lret dX2_bestNumber_5 rfl (Nat.zero_le _) (Nat.zero_le _) ?_
    exact hz ((xi_0 (by omega)).mp c_1)

theorem xl_div {a d : Nat} (ha : a < 2 ^ 63) (h0 : 0 < d) (hd : d < 2 ^ 63) : lN a / lN d = lN (a / d) := by
  apply Int64.toInt_inj.mp
  have h1 := pf_lI ha
  have h2 := pf_lI hd
  rw [lg_ldiv_nonneg (by rw [h1]; omega) (by rw [h2]; omega), h1, h2, pf_lI (Nat.lt_of_le_of_lt (Nat.div_le_self _ _) ha)]
  rfl
theorem xl_sub {a b : Nat} (h : b ≤ a) : lN a - lN b = lN (a - b) := by
  have e : lN a = lN (a - b) + lN b := by rw [xl_add, Nat.sub_add_cancel h]
  rw [e, Int64.add_sub_cancel]
theorem xl_rem {a d : Nat} (ha : a < 2 ^ 63) (h0 : 0 < d) (hd : d < 2 ^ 63) : lN a - lN a / lN d * lN d = lN (a % d) := by
  have h1 := Nat.div_add_mod a d
  rw [Nat.mul_comm] at h1
  rw [xl_div ha h0 hd, xl_mul, xl_sub (by omega)]
  congr 1
  omega
theorem xl_ti {a : Nat} (h : a < 2 ^ 31) : (lN a).toInt32 = nI a := by
  rw [← xl_i h, Int32.toInt32_toInt64]
def pd_ : Nat → Int32
  | 0 => -1
  | n + 1 => nI n
theorem pd_dec (n : Nat) : nI n + Int32.ofInt (-1) = pd_ n := by
  cases n with
  | zero => rfl
  | succ n =>
    have h := nI_pred n
    rw [Int32.sub_eq_add_neg] at h
    exact h
def dg_ (v p : Nat) : Nat := v % 743008370688 / 12 ^ (11 - p) % 12
def rd_i (I I2 : xv_I) (v n : Nat) : Prop := (∀ b, b ≠ 137 → I2 b = I b) ∧ ∀ p, n ≤ p → p < 12 → I2 137 p = nI (dg_ v p)
theorem s2_rd_l {l : Launch} {D : va_G} {d : Nat} {G : xv_Gr} {I : xv_I} {J : xv_J} {Q : xv_Po} (hG : xg_ok G) {v : Nat} (hQ : ∀ I2, rd_i I I2 v 0 → Q none G I2 J) : ∀ (n : Nat) (I2 : xv_I), rd_i I I2 v n → n ≤ 12 → xv_Ev l D d mX2_readDigits none 34 [some (.ref 3), none, none, none, some (.long (lN (v % 743008370688 / 12 ^ (12 - n)))), none, some (.int (pd_ n))] [] G I2 J 0 0 Q := by
  intro n
  induction n with
  | zero =>
    intro I2 hi hn
    refine xv_iload dX2_readDigits_34 rfl ?_
    refine xv_if_lt (tgt := 67) dX2_readDigits_36 rfl (fun c_36 => ?_) (fun c_36 => absurd (by decide) c_36)
    refine xv_vret dX2_readDigits_67 rfl (Nat.zero_le _) (Nat.zero_le _) ?_
    exact hQ I2 hi
  | succ n ih =>
    intro I2 hi hn
    have e0 : 12 - (n + 1) = 11 - n := by omega
    rw [e0]
    show xv_Ev l D d mX2_readDigits none 34 [some (.ref 3), none, none, none, some (.long (lN (v % 743008370688 / 12 ^ (11 - n)))), none, some (.int (nI n))] [] G I2 J 0 0 Q
    refine xv_iload dX2_readDigits_34 rfl ?_
    refine xv_if_lt (tgt := 67) dX2_readDigits_36 rfl (fun c_36 => absurd c_36 (nI_pos (by omega))) (fun c_36 => ?_)
    have hw : v % 743008370688 / 12 ^ (11 - n) < 743008370688 := Nat.lt_of_le_of_lt (Nat.div_le_self _ _) (Nat.mod_lt _ (by decide))
    have hw2 : v % 743008370688 / 12 ^ (11 - n) % 12 < 12 := Nat.mod_lt _ (by decide)
    refine xv_aload_n dX2_readDigits_39 rfl rfl ?_
    refine xv_getr dX2_readDigits_40 fl_X2_35 (go_3 hG) rfl (gr_3_7 hG) ?_
    refine xv_iload dX2_readDigits_43 rfl ?_
    refine xv_lload dX2_readDigits_45 rfl ?_
    refine xv_ldc2 dX2_readDigits_47 ld_X2_79 ?_
    refine xv_lrem dX2_readDigits_50 (by decide) ?_
    refine xv_nmJ (xl_rem (d := 12) (by omega) (by decide) (by decide)) ?_
    refine xv_l2i dX2_readDigits_51 ?_
    refine xv_nmI (xl_ti (by omega)) ?_
    refine xv_iastore dX2_readDigits_52 (go_137 hG) (xv_ixn (by omega) (by decide)) ?_
    refine xv_lload dX2_readDigits_53 rfl ?_
    refine xv_ldc2 dX2_readDigits_55 ld_X2_79 ?_
    refine xv_ldiv dX2_readDigits_58 (by decide) ?_
    refine xv_nmJ (xl_div (d := 12) (by omega) (by decide) (by decide)) ?_
    refine xv_lstore dX2_readDigits_59 (Nat.le_of_ble_eq_true rfl) rfl ?_
    refine xv_iinc dX2_readDigits_61 rfl (pd_dec n) (Nat.le_of_ble_eq_true rfl) rfl ?_
    refine xv_goto (tgt := 34) dX2_readDigits_64 rfl ?_
    have e : v % 743008370688 / 12 ^ (11 - n) / 12 = v % 743008370688 / 12 ^ (12 - n) := by
      rw [Nat.div_div_eq_div_mul, ← Nat.pow_succ]
      congr 2
      omega
    rw [e]
    refine ih _ ⟨fun b g => ?_, fun p g1 g2 => ?_⟩ (by omega)
    · rw [xv_ui_ne g]; exact hi.1 b g
    · by_cases ep : p = n
      · subst ep; rw [xv_ui_s]; rfl
      · rw [xv_ui_o ep]; exact hi.2 p (by omega) g2

def rd_o (I I2 : xv_I) (v : Nat) : Prop := (∀ b, b ≠ 3 → b ≠ 137 → I2 b = I b) ∧ (∀ j, j ≠ 5 → j ≠ 6 → I2 3 j = I 3 j) ∧ I2 3 5 = nI (v / 743008370688 / 13) ∧ I2 3 6 = nI (v / 743008370688 % 13) ∧ ∀ p, p < 12 → I2 137 p = nI (dg_ v p)
theorem s2_readDigits {l : Launch} {D : va_G} {d : Nat} {G : xv_Gr} {I : xv_I} {J : xv_J} {Q : xv_Po} (hG : xg_ok G) {v : Nat} (hv : v ≤ 1600000000000000000) (hQ : ∀ I2, rd_o I I2 v → Q none G I2 J) : xv_Ev l D d mX2_readDigits none 0 [some (.ref 3), some (.long (lN v)), none, none, none, none, none] [] G I J 0 0 Q := by
  have hh : v / 743008370688 < 2 ^ 31 := by omega
  refine xv_lload_n dX2_readDigits_0 rfl rfl ?_
  refine xv_ldc2 dX2_readDigits_1 ld_X2_77 ?_
  refine xv_ldiv dX2_readDigits_4 (by decide) ?_
  refine xv_nmJ (xl_div (d := 743008370688) (by omega) (by decide) (by decide)) ?_
  refine xv_l2i dX2_readDigits_5 ?_
  refine xv_nmI (xl_ti hh) ?_
  refine xv_istore_n dX2_readDigits_6 rfl (Nat.le_of_ble_eq_true rfl) rfl ?_
  refine xv_aload_n dX2_readDigits_7 rfl rfl ?_
  refine xv_iload_n dX2_readDigits_8 rfl rfl ?_
  refine xv_bipush (v := nI 13) dX2_readDigits_9 rfl ?_
  refine xv_idiv dX2_readDigits_11 (by decide) ?_
  refine xv_nmI (pk_div hh (by decide) (by decide)) ?_
  refine xv_puti dX2_readDigits_12 fl_X2_29 (go_3 hG) rfl rfl rfl ?_
  refine xv_aload_n dX2_readDigits_15 rfl rfl ?_
  refine xv_iload_n dX2_readDigits_16 rfl rfl ?_
  refine xv_bipush (v := nI 13) dX2_readDigits_17 rfl ?_
  refine xv_irem dX2_readDigits_19 (by decide) ?_
  refine xv_nmI (pk_rem hh (by decide) (by decide)) ?_
  refine xv_puti dX2_readDigits_20 fl_X2_32 (go_3 hG) rfl rfl rfl ?_
  refine xv_lload_n dX2_readDigits_23 rfl rfl ?_
  refine xv_ldc2 dX2_readDigits_24 ld_X2_77 ?_
  refine xv_lrem dX2_readDigits_27 (by decide) ?_
  refine xv_nmJ (xl_rem (d := 743008370688) (by omega) (by decide) (by decide)) ?_
  refine xv_lstore dX2_readDigits_28 (Nat.le_of_ble_eq_true rfl) rfl ?_
  refine xv_bipush (v := nI 11) dX2_readDigits_30 rfl ?_
  refine xv_istore dX2_readDigits_32 (Nat.le_of_ble_eq_true rfl) rfl ?_
  have hq : ∀ I2, rd_i (xv_ui (xv_ui I 3 5 (nI (v / 743008370688 / 13))) 3 6 (nI (v / 743008370688 % 13))) I2 v 0 → rd_o I I2 v := fun I2 hi => ⟨fun b g1 g2 => by rw [hi.1 b g2, xv_ui_ne g1, xv_ui_ne g1], fun j g1 g2 => by rw [hi.1 3 (by decide), xv_ui_o g2, xv_ui_o g1], by rw [hi.1 3 (by decide), xv_ui_o (by decide), xv_ui_s], by rw [hi.1 3 (by decide), xv_ui_s], fun p hp => hi.2 p (Nat.zero_le _) hp⟩
  refine xv_fg [true, false, false, false, true, false, true] ?_
  have h := s2_rd_l (l := l) (D := D) (d := d) (J := J) (Q := Q) hG (v := v) (I := (xv_ui (xv_ui I 3 5 (nI (v / 743008370688 / 13))) 3 6 (nI (v / 743008370688 % 13)))) (fun I2 hi => hQ I2 (hq I2 hi)) 12 (xv_ui (xv_ui I 3 5 (nI (v / 743008370688 / 13))) 3 6 (nI (v / 743008370688 % 13))) ⟨fun _ _ => rfl, fun p g1 g2 => absurd g1 (by omega)⟩ (Nat.le_refl _)
  rw [Nat.sub_self, Nat.pow_zero, Nat.div_one] at h
  exact h
