/-! boards (class): oneForEach -/
theorem xl_mul (a b : Nat) : lN a * lN b = lN (a * b) := wb_inj (by
  show BitVec.ofNat 64 a * BitVec.ofNat 64 b = BitVec.ofNat 64 (a * b)
  apply BitVec.eq_of_toNat_eq
  simp [BitVec.toNat_mul, BitVec.toNat_ofNat, Nat.mul_mod])
theorem xl_add (a b : Nat) : lN a + lN b = lN (a + b) := wb_inj (by
  show BitVec.ofNat 64 a + BitVec.ofNat 64 b = BitVec.ofNat 64 (a + b)
  apply BitVec.eq_of_toNat_eq
  simp [BitVec.toNat_add, BitVec.toNat_ofNat, Nat.add_mod])
theorem xl_b : ∀ b, b < 2 → (nI b).toInt64 = lN b := by decide
/-- the digits of a set (pieces 1 to 11) in the base twelve -/
def oe_ (S : Nat) : Nat → Nat
  | 0 => 0
  | k + 1 => oe_ S k * 12 + S / 2 ^ (k + 1) % 2
theorem s2_oe_l {l : Launch} {D : va_G} {d : Nat} {G : xv_Gr} {I : xv_I} {J : xv_J} {Q : xv_Po} {S : Nat} (hS : S < 4096) (hQ : Q (some (.long (lN (oe_ S 11)))) G I J) : ∀ (n k : Nat), k + n = 11 → xv_Ev l D d mX2_oneForEach none 4 [some (.int (nI S)), some (.long (lN (oe_ S k))), none, some (.int (nI (k + 1)))] [] G I J 0 0 Q := by
  intro n
  induction n with
  | zero =>
    intro k hk
    refine xv_iload_n dX2_oneForEach_4 rfl rfl ?_
    refine xv_bipush (v := nI 12) dX2_oneForEach_5 rfl ?_
    refine xv_icmp_geN (tgt := 29) dX2_oneForEach_7 rfl (by omega) (by omega) (fun c_7 => ?_) (fun c_7 => absurd c_7 (by omega))
    refine xv_lload_n dX2_oneForEach_29 rfl rfl ?_
    refine xv_lret dX2_oneForEach_30 rfl (Nat.zero_le _) (Nat.zero_le _) ?_
    have e : k = 11 := by omega
    subst e
    exact hQ
  | succ n ih =>
    intro k hk
    refine xv_iload_n dX2_oneForEach_4 rfl rfl ?_
    refine xv_bipush (v := nI 12) dX2_oneForEach_5 rfl ?_
    refine xv_icmp_geN (tgt := 29) dX2_oneForEach_7 rfl (by omega) (by omega) (fun c_7 => absurd c_7 (by omega)) (fun c_7 => ?_)
    refine xv_lload_n dX2_oneForEach_10 rfl rfl ?_
    refine xv_ldc2 dX2_oneForEach_11 ld_X2_79 ?_
    refine xv_lmul dX2_oneForEach_14 ?_
    refine xv_nmJ (show lN (oe_ S k) * 12 = lN (oe_ S k * 12) from xl_mul _ 12) ?_
    refine xv_iload_n dX2_oneForEach_15 rfl rfl ?_
    refine xv_iload_n dX2_oneForEach_16 rfl rfl ?_
    refine xv_ishr dX2_oneForEach_17 ?_
    refine xv_iconst (v := 1) dX2_oneForEach_18 rfl ?_
    refine xv_iand dX2_oneForEach_19 ?_
    refine xv_nmI (xi_bit (by omega) (by omega)) ?_
    refine xv_i2l dX2_oneForEach_20 ?_
    refine xv_nmJ (xl_b _ (Nat.mod_lt _ (by decide))) ?_
    refine xv_ladd dX2_oneForEach_21 ?_
    refine xv_nmJ (xl_add _ _) ?_
    refine xv_lstore_n dX2_oneForEach_22 rfl (Nat.le_of_ble_eq_true rfl) rfl ?_
    refine xv_iinc dX2_oneForEach_23 rfl (xv_inc _) (Nat.le_of_ble_eq_true rfl) rfl ?_
    refine xv_goto (tgt := 4) dX2_oneForEach_26 rfl ?_
    exact ih (k + 1) (by omega)

theorem s2_oneForEach {l : Launch} {D : va_G} {d : Nat} {G : xv_Gr} {I : xv_I} {J : xv_J} {Q : xv_Po} {S : Nat} (hS : S < 4096) (hQ : Q (some (.long (lN (oe_ S 11)))) G I J) : xv_Ev l D d mX2_oneForEach none 0 [some (.int (nI S)), none, none, none] [] G I J 0 0 Q := by
  refine xv_lconst (v := 0) dX2_oneForEach_0 rfl ?_
  refine xv_lstore_n dX2_oneForEach_1 rfl (Nat.le_of_ble_eq_true rfl) rfl ?_
  refine xv_iconst (v := nI 1) dX2_oneForEach_2 rfl ?_
  refine xv_istore_n dX2_oneForEach_3 rfl (Nat.le_of_ble_eq_true rfl) rfl ?_
  exact s2_oe_l hS hQ 11 0 (by omega)
