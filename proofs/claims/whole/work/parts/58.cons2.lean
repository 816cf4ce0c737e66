/-! the class made: the state at the start -/
theorem k_X5_f {G : xv_Gr} {b : Nat} (h : b < 100 ∨ 112 ≤ b) : (k_X5_G G).1 b = G.1 b := (gu_ne (by omega)).trans ((gu_ne (by omega)).trans ((gu_ne (by omega)).trans ((gu_ne (by omega)).trans ((gu_ne (by omega)).trans ((gu_ne (by omega)).trans ((gu_ne (by omega)).trans (gu_ne (by omega))))))))
theorem k_X3_f {G : xv_Gr} {b : Nat} (h : b < 120 ∨ 123 ≤ b) : (k_X3_G G).1 b = G.1 b := (gu_ne (by omega)).trans (gu_ne (by omega))
theorem k_X2_f {G : xv_Gr} {b : Nat} (h : b < 130 ∨ 143 ≤ b) : (k_X2_G G).1 b = G.1 b := (gu_ne (by omega)).trans ((gu_ne (by omega)).trans ((gu_ne (by omega)).trans ((gu_ne (by omega)).trans ((gu_ne (by omega)).trans ((gu_ne (by omega)).trans (gu_ne (by omega)))))))
theorem k_X1_f {G : xv_Gr} {b : Nat} (h : b < 150 ∨ 159 ≤ b) : (k_X1_G G).1 b = G.1 b := (gu_ne (by omega)).trans ((gu_ne (by omega)).trans ((gu_ne (by omega)).trans (gu_ne (by omega))))
theorem k_X6_f {G : xv_Gr} {b : Nat} (h : b < 160 ∨ 170 ≤ b) : (k_X6_G G).1 b = G.1 b := (gu_ne (by omega)).trans ((gu_ne (by omega)).trans ((gu_ne (by omega)).trans (gu_ne (by omega))))
theorem k_X0_f {G : xv_Gr} {b : Nat} (h : b < 170 ∨ 178 ≤ b) : (k_X0_G G).1 b = G.1 b := (gu_ne (by omega)).trans ((gu_ne (by omega)).trans ((gu_ne (by omega)).trans (gu_ne (by omega))))
theorem k_X11_f {G : xv_Gr} {b : Nat} (h : b < 50 ∨ 100 ≤ b) : (k_X11_G G).1 b = G.1 b := (gu_ne (by omega)).trans ((gu_ne (by omega)).trans ((gu_ne (by omega)).trans ((gu_ne (by omega)).trans ((gu_ne (by omega)).trans ((gu_ne (by omega)).trans ((gu_ne (by omega)).trans ((gu_ne (by omega)).trans ((gu_ne (by omega)).trans ((gu_ne (by omega)).trans ((gu_ne (by omega)).trans ((gu_ne (by omega)).trans ((gu_ne (by omega)).trans ((gu_ne (by omega)).trans ((gu_ne (by omega)).trans ((gu_ne (by omega)).trans ((gu_ne (by omega)).trans ((gu_ne (by omega)).trans ((gu_ne (by omega)).trans ((gu_ne (by omega)).trans ((gu_ne (by omega)).trans ((gu_ne (by omega)).trans ((gu_ne (by omega)).trans ((gu_ne (by omega)).trans ((gu_ne (by omega)).trans ((gu_ne (by omega)).trans ((gu_ne (by omega)).trans ((gu_ne (by omega)).trans ((gu_ne (by omega)).trans ((gu_ne (by omega)).trans ((gu_ne (by omega)).trans ((gu_ne (by omega)).trans ((gu_ne (by omega)).trans (gu_ne (by omega))))))))))))))))))))))))))))))))))
def k_X10_G (G : xv_Gr) : xv_Gr := (xv_ur (k_X0_G (xv_gn (xv_ur (k_X6_G (xv_gn (xv_ur (k_X1_G (xv_gn (xv_ur (k_X2_G (xv_gn (xv_ur (k_X3_G (xv_gn (xv_ur (k_X5_G (xv_gn G 1 (.inl 5))) 0 0 (some 1)) 2 (.inl 3))) 0 1 (some 2)) 3 (.inl 2))) 0 2 (some 3)) 4 (.inl 1))) 0 3 (some 4)) 5 (.inl 6))) 0 4 (some 5)) 6 (.inl 0))) 0 5 (some 6))
def k_X10_I (I : xv_I) : xv_I := (k_X0_I (va_up (k_X6_I (va_up (k_X1_I (va_up (k_X2_I (va_up (k_X3_I (va_up (k_X5_I (va_up I 1 (fun _ => 0))) 2 (fun _ => 0))) 3 (fun _ => 0))) 4 (fun _ => 0))) 5 (fun _ => 0))) 6 (fun _ => 0)))
def k_X10_J (J : xv_J) : xv_J := (k_X0_J (va_up (k_X6_J (va_up (k_X1_J (va_up (k_X2_J (va_up (k_X3_J (va_up (k_X5_J (va_up J 1 (fun _ => 0))) 2 (fun _ => 0))) 3 (fun _ => 0))) 4 (fun _ => 0))) 5 (fun _ => 0))) 6 (fun _ => 0)))
theorem s10_init {l : Launch} {D : va_G} {d : Nat} {G : xv_Gr} {I : xv_I} {J : xv_J} {Q : xv_Po} (ho : G.1 0 = some (.inl 10)) (hn : ∀ a, 0 < a → a < 1000 → G.1 a = none) (hQ : Q none (k_X10_G G) (k_X10_I I) (k_X10_J J)) : xv_Ev l D (d + 2) mX10_init none 0 [some (.ref 0)] [] G I J 0 0 Q := by
  refine xv_aload_n dX10_init_0 rfl rfl ?_
  refine xv_objI dX10_init_1 ol_X10_1 ow_i ow_c (Nat.le_of_ble_eq_true rfl) ?_
  refine xv_aload_n dX10_init_4 rfl rfl ?_
  refine xv_new (a := 1) dX10_init_5 nl_X10_7 (hn 1 (by omega) (by omega)) (by decide) (Nat.le_of_ble_eq_true rfl) (Nat.le_of_ble_eq_true rfl) ?_
  refine xv_dup dX10_init_8 rfl ?_
  refine xv_callN (As := []) dX10_init_9 cl_X10_9 rfl rfl (Nat.le_of_ble_eq_true rfl) (Nat.le_of_ble_eq_true rfl) (Nat.le_of_ble_eq_true rfl) (Nat.le_of_ble_eq_true rfl) ?_
  refine s5_init gn_eq (fun a h1 h2 => (gn_ne (by omega)).trans (hn a (by omega) (by omega))) ?_
  refine xv_putrF dX10_init_12 fl_X10_10 rfl rfl ((k_X5_f (by omega)).trans ((gn_ne (by decide)).trans ho)) rfl (fun z => by rw [k_X5_f (by omega), gn_eq] at z; cases z) ?_
  generalize hg1 : xv_ur (k_X5_G (xv_gn G 1 (.inl 5))) 0 0 (some 1) = G1
  have ho1 : G1.1 0 = some (.inl 10) := by rw [← hg1]; exact (k_X5_f (by omega)).trans ((gn_ne (by decide)).trans ho)
  have hn1 : ∀ a, 1 < a → (a < 100 ∨ 112 ≤ a) → a < 1000 → G1.1 a = none := fun a h1 h2 h3 => by rw [← hg1]; exact (k_X5_f (by omega)).trans ((gn_ne (by omega)).trans (hn a (by omega) (by omega)))
  refine xv_aload_n dX10_init_15 rfl rfl ?_
  refine xv_new (a := 2) dX10_init_16 nl_X10_16 (hn1 2 (by omega) (by omega) (by omega)) (by decide) (Nat.le_of_ble_eq_true rfl) (Nat.le_of_ble_eq_true rfl) ?_
  refine xv_dup dX10_init_19 rfl ?_
  refine xv_callN (As := []) dX10_init_20 cl_X10_18 rfl rfl (Nat.le_of_ble_eq_true rfl) (Nat.le_of_ble_eq_true rfl) (Nat.le_of_ble_eq_true rfl) (Nat.le_of_ble_eq_true rfl) ?_
  refine s3_init gn_eq (fun a h1 h2 => (gn_ne (by omega)).trans (hn1 a (by omega) (by omega) (by omega))) ?_
  refine xv_putrF dX10_init_23 fl_X10_19 rfl rfl ((k_X3_f (by omega)).trans ((gn_ne (by decide)).trans ho1)) rfl (fun z => by rw [k_X3_f (by omega), gn_eq] at z; cases z) ?_
  generalize hg2 : xv_ur (k_X3_G (xv_gn G1 2 (.inl 3))) 0 1 (some 2) = G2
  have ho2 : G2.1 0 = some (.inl 10) := by rw [← hg2]; exact (k_X3_f (by omega)).trans ((gn_ne (by decide)).trans ho1)
  have hn2 : ∀ a, 2 < a → (a < 100 ∨ 123 ≤ a) → a < 1000 → G2.1 a = none := fun a h1 h2 h3 => by rw [← hg2]; exact (k_X3_f (by omega)).trans ((gn_ne (by omega)).trans (hn1 a (by omega) (by omega) (by omega)))
  refine xv_aload_n dX10_init_26 rfl rfl ?_
  refine xv_new (a := 3) dX10_init_27 nl_X10_23 (hn2 3 (by omega) (by omega) (by omega)) (by decide) (Nat.le_of_ble_eq_true rfl) (Nat.le_of_ble_eq_true rfl) ?_
  refine xv_dup dX10_init_30 rfl ?_
  refine xv_callN (As := []) dX10_init_31 cl_X10_25 rfl rfl (Nat.le_of_ble_eq_true rfl) (Nat.le_of_ble_eq_true rfl) (Nat.le_of_ble_eq_true rfl) (Nat.le_of_ble_eq_true rfl) ?_
  refine s2_init gn_eq (fun a h1 h2 => (gn_ne (by omega)).trans (hn2 a (by omega) (by omega) (by omega))) ?_
  refine xv_putrF dX10_init_34 fl_X10_26 rfl rfl ((k_X2_f (by omega)).trans ((gn_ne (by decide)).trans ho2)) rfl (fun z => by rw [k_X2_f (by omega), gn_eq] at z; cases z) ?_
  generalize hg3 : xv_ur (k_X2_G (xv_gn G2 3 (.inl 2))) 0 2 (some 3) = G3
  have ho3 : G3.1 0 = some (.inl 10) := by rw [← hg3]; exact (k_X2_f (by omega)).trans ((gn_ne (by decide)).trans ho2)
  have hn3 : ∀ a, 3 < a → (a < 100 ∨ 143 ≤ a) → a < 1000 → G3.1 a = none := fun a h1 h2 h3 => by rw [← hg3]; exact (k_X2_f (by omega)).trans ((gn_ne (by omega)).trans (hn2 a (by omega) (by omega) (by omega)))
  refine xv_aload_n dX10_init_37 rfl rfl ?_
  refine xv_new (a := 4) dX10_init_38 nl_X10_30 (hn3 4 (by omega) (by omega) (by omega)) (by decide) (Nat.le_of_ble_eq_true rfl) (Nat.le_of_ble_eq_true rfl) ?_
  refine xv_dup dX10_init_41 rfl ?_
  refine xv_callN (As := []) dX10_init_42 cl_X10_32 rfl rfl (Nat.le_of_ble_eq_true rfl) (Nat.le_of_ble_eq_true rfl) (Nat.le_of_ble_eq_true rfl) (Nat.le_of_ble_eq_true rfl) ?_
  refine s1_init gn_eq (fun a h1 h2 => (gn_ne (by omega)).trans (hn3 a (by omega) (by omega) (by omega))) ?_
  refine xv_putrF dX10_init_45 fl_X10_33 rfl rfl ((k_X1_f (by omega)).trans ((gn_ne (by decide)).trans ho3)) rfl (fun z => by rw [k_X1_f (by omega), gn_eq] at z; cases z) ?_
  generalize hg4 : xv_ur (k_X1_G (xv_gn G3 4 (.inl 1))) 0 3 (some 4) = G4
  have ho4 : G4.1 0 = some (.inl 10) := by rw [← hg4]; exact (k_X1_f (by omega)).trans ((gn_ne (by decide)).trans ho3)
  have hn4 : ∀ a, 4 < a → (a < 100 ∨ 159 ≤ a) → a < 1000 → G4.1 a = none := fun a h1 h2 h3 => by rw [← hg4]; exact (k_X1_f (by omega)).trans ((gn_ne (by omega)).trans (hn3 a (by omega) (by omega) (by omega)))
  refine xv_aload_n dX10_init_48 rfl rfl ?_
  refine xv_new (a := 5) dX10_init_49 nl_X10_37 (hn4 5 (by omega) (by omega) (by omega)) (by decide) (Nat.le_of_ble_eq_true rfl) (Nat.le_of_ble_eq_true rfl) ?_
  refine xv_dup dX10_init_52 rfl ?_
  refine xv_callN (As := []) dX10_init_53 cl_X10_39 rfl rfl (Nat.le_of_ble_eq_true rfl) (Nat.le_of_ble_eq_true rfl) (Nat.le_of_ble_eq_true rfl) (Nat.le_of_ble_eq_true rfl) ?_
  refine s6_init gn_eq (fun a h1 h2 => (gn_ne (by omega)).trans (hn4 a (by omega) (by omega) (by omega))) ?_
  refine xv_putrF dX10_init_56 fl_X10_40 rfl rfl ((k_X6_f (by omega)).trans ((gn_ne (by decide)).trans ho4)) rfl (fun z => by rw [k_X6_f (by omega), gn_eq] at z; cases z) ?_
  generalize hg5 : xv_ur (k_X6_G (xv_gn G4 5 (.inl 6))) 0 4 (some 5) = G5
  have ho5 : G5.1 0 = some (.inl 10) := by rw [← hg5]; exact (k_X6_f (by omega)).trans ((gn_ne (by decide)).trans ho4)
  have hn5 : ∀ a, 5 < a → (a < 100 ∨ 170 ≤ a) → a < 1000 → G5.1 a = none := fun a h1 h2 h3 => by rw [← hg5]; exact (k_X6_f (by omega)).trans ((gn_ne (by omega)).trans (hn4 a (by omega) (by omega) (by omega)))
  refine xv_aload_n dX10_init_59 rfl rfl ?_
  refine xv_new (a := 6) dX10_init_60 nl_X10_44 (hn5 6 (by omega) (by omega) (by omega)) (by decide) (Nat.le_of_ble_eq_true rfl) (Nat.le_of_ble_eq_true rfl) ?_
  refine xv_dup dX10_init_63 rfl ?_
  refine xv_callN (As := []) dX10_init_64 cl_X10_46 rfl rfl (Nat.le_of_ble_eq_true rfl) (Nat.le_of_ble_eq_true rfl) (Nat.le_of_ble_eq_true rfl) (Nat.le_of_ble_eq_true rfl) ?_
  refine s0_init gn_eq (fun a h1 h2 => (gn_ne (by omega)).trans (hn5 a (by omega) (by omega) (by omega))) ?_
  refine xv_putrF dX10_init_67 fl_X10_47 rfl rfl ((k_X0_f (by omega)).trans ((gn_ne (by decide)).trans ho5)) rfl (fun z => by rw [k_X0_f (by omega), gn_eq] at z; cases z) ?_
  generalize hg6 : xv_ur (k_X0_G (xv_gn G5 6 (.inl 0))) 0 5 (some 6) = G6
  have ho6 : G6.1 0 = some (.inl 10) := by rw [← hg6]; exact (k_X0_f (by omega)).trans ((gn_ne (by decide)).trans ho5)
  have hn6 : ∀ a, 6 < a → (a < 100 ∨ 178 ≤ a) → a < 1000 → G6.1 a = none := fun a h1 h2 h3 => by rw [← hg6]; exact (k_X0_f (by omega)).trans ((gn_ne (by omega)).trans (hn5 a (by omega) (by omega) (by omega)))
  refine xv_vret dX10_init_70 rfl (Nat.le_of_ble_eq_true rfl) (Nat.le_of_ble_eq_true rfl) ?_
  subst hg1 hg2 hg3 hg4 hg5 hg6
  exact hQ

/-- the state that the law's loop starts with -/
def st_G : xv_Gr := k_X11_G (xv_gn (k_X10_G (xv_gn xv_G0 0 (.inl 10))) 40 (.inl 11))
def st_I : xv_I := k_X11_I (va_up (k_X10_I (va_up (fun _ _ => 0) 0 (fun _ => 0))) 40 (fun _ => 0))
def st_J : xv_J := k_X11_J (va_up (k_X10_J (va_up (fun _ _ => 0) 0 (fun _ => 0))) 40 (fun _ => 0))
theorem st_ok : xg_ok st_G := ⟨by decide +kernel, by decide +kernel⟩
theorem st_no : ∀ a, a < 1000 → 178 ≤ a → st_G.1 a = none := by
  intro a h1 h2
  exact ((k_X11_f (by omega)).trans ((gn_ne (by omega)).trans ((k_X0_f (by omega)).trans ((gn_ne (by omega)).trans ((k_X6_f (by omega)).trans ((gn_ne (by omega)).trans ((k_X1_f (by omega)).trans ((gn_ne (by omega)).trans ((k_X2_f (by omega)).trans ((gn_ne (by omega)).trans ((k_X3_f (by omega)).trans ((gn_ne (by omega)).trans ((k_X5_f (by omega)).trans ((gn_ne (by omega)).trans (gn_ne (by omega))))))))))))))))
theorem st_dy : xg_dy st_G 0 0 := ⟨fun i h => by omega, fun i h => by omega, fun a h1 h2 => st_no a (by omega) (by omega), fun a h1 h2 => st_no a (by omega) (by omega)⟩