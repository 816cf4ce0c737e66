/-! two cars (class) -/
def tf_ (o c S : Nat) : Nat := xpc (if c = 0 then xdf o S else o &&& S) 16
def pfB (b : Option (Nat × Nat)) (s : Nat) : Prop := ∀ q, b = some q → s < q.1
def ld_u (ld : Nat → Nat) (c s : Nat) : Nat → Nat := fun q => if q = c then ld c + s else ld q
noncomputable def pf (sz ot rm : Nat → Nat) : Nat → Nat → Nat → Nat → (Nat → Nat) → Option (Nat × Nat) → Option (Nat × Nat)
  | 0, _, S, so, _, b => @ite _ (pfB b so) (Classical.propDecidable _) (some (so, S)) b
  | n + 1, p, S, so, ld, b =>
    let st := fun (c : Nat) (b : Option (Nat × Nat)) => if ld c + sz p ≤ rm c then pf sz ot rm n (p + 1) (S ||| c * 2 ^ p) (so + tf_ (ot p) c S) (ld_u ld c (sz p)) b else b
    @ite _ (pfB b so) (Classical.propDecidable _) (st 1 (st 0 b)) b
def bs_ (I : xv_I) : Option (Nat × Nat) → Prop
  | none => I 4 2 = -900009
  | some q => I 4 2 = nI q.1 ∧ I 4 3 = nI q.2 ∧ q.1 ≤ 10000
theorem s1_turnedFor {l : Launch} {D : va_G} {d : Nat} {G : xv_Gr} {I : xv_I} {J : xv_J} {Q : xv_Po} (hG : xg_ok G) {p c S : Nat} (hp : p < 12) {o : Nat} (ho : I 156 p = nI o) (ho4 : o < 4096) (hc : c < 2) (hQ : Q (some (.int (nI (tf_ o c S)))) G I J) : xv_Ev l D (d + 1) mX1_turnedFor none 0 [some (.ref 4), some (.int (nI p)), some (.int (nI c)), some (.int (nI S))] [] G I J 0 0 Q := by
  refine xv_aload_n dX1_turnedFor_0 rfl rfl ?_
  refine xv_getr dX1_turnedFor_1 fl_X1_33 (go_4 hG) rfl (gr_4_6 hG) ?_
  refine xv_iload_n dX1_turnedFor_4 rfl rfl ?_
  refine xv_iaload dX1_turnedFor_5 (go_156 hG) (xv_ixn (by omega) (by decide)) ?_
  refine xv_nmI ho ?_
  refine xv_iload_n dX1_turnedFor_6 rfl rfl ?_
  refine xv_if_ne (tgt := 16) dX1_turnedFor_7 rfl (fun c_7 => ?_) (fun c_7 => ?_)
  · refine xv_iload_n dX1_turnedFor_16 rfl rfl ?_
    refine xv_iand dX1_turnedFor_17 ?_
    refine xv_nmI (xi_and _ _) ?_
    refine xv_callS0 (As := [_]) dX1_turnedFor_18 cl_X1_47 rfl rfl rfl rfl (Nat.le_of_ble_eq_true rfl) (Nat.le_of_ble_eq_true rfl) (Nat.zero_le _) (Nat.zero_le _) ?_
    refine sJ_bitCount (Nat.lt_of_le_of_lt Nat.and_le_left ho4) ?_
    refine xv_iret dX1_turnedFor_21 rfl (Nat.zero_le _) (Nat.zero_le _) ?_
    have e : ¬ c = 0 := fun z => c_7 (by rw [z]; rfl)
    rw [tf_, if_neg e] at hQ
    exact hQ
  · refine xv_iload_n dX1_turnedFor_10 rfl rfl ?_
    refine xv_iconst (v := -1) dX1_turnedFor_11 rfl ?_
    refine xv_ixor dX1_turnedFor_12 ?_
    refine xv_goto (tgt := 17) dX1_turnedFor_13 rfl ?_
    refine xv_iand dX1_turnedFor_17 ?_
    refine xv_nmI (xi_andn _ _) ?_
    refine xv_callS0 (As := [_]) dX1_turnedFor_18 cl_X1_47 rfl rfl rfl rfl (Nat.le_of_ble_eq_true rfl) (Nat.le_of_ble_eq_true rfl) (Nat.zero_le _) (Nat.zero_le _) ?_
    refine sJ_bitCount (Nat.lt_of_le_of_lt (xdf_le _ _) ho4) ?_
    refine xv_iret dX1_turnedFor_21 rfl (Nat.zero_le _) (Nat.zero_le _) ?_
    have e : c = 0 := (xi_0 (by omega)).mp c_7
    rw [tf_, if_pos e] at hQ
    exact hQ
