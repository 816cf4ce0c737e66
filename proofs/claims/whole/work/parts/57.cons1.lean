/-! the constructors -/
theorem gn_ne {G : xv_Gr} {a b : Nat} {s : Nat ⊕ (Nat × Nat)} (h : b ≠ a) : (xv_gn G a s).1 b = G.1 b := vu_ne h
theorem gn_eq {G : xv_Gr} {a : Nat} {s : Nat ⊕ (Nat × Nat)} : (xv_gn G a s).1 a = some s := vu_eq
theorem gu_ne {G : xv_Gr} {a b c k : Nat} {r : Option Nat} {s : Nat ⊕ (Nat × Nat)} (h : b ≠ a) : (xv_ur (xv_gn G a s) c k r).1 b = G.1 b := vu_ne h
theorem gu_eq {G : xv_Gr} {a c k : Nat} {r : Option Nat} {s : Nat ⊕ (Nat × Nat)} : (xv_ur (xv_gn G a s) c k r).1 a = some s := vu_eq
theorem gn_nn {G : xv_Gr} {a : Nat} {s : Nat ⊕ (Nat × Nat)} : (xv_gn G a s).1 a ≠ none := fun z => by rw [gn_eq] at z; cases z
theorem s9_init {l : Launch} {D : va_G} {d : Nat} {G : xv_Gr} {I : xv_I} {J : xv_J} {Q : xv_Po} {b : Nat} (hb : G.1 b = some (.inl 9)) (hQ : Q none G (xv_ui I b 3 0) (xv_uj (xv_uj (xv_uj J b 0 0) b 1 0) b 2 0)) : xv_Ev l D d mX9_init none 0 [some (.ref b)] [] G I J 0 0 Q := by
  refine xv_aload_n dX9_init_0 rfl rfl ?_
  refine xv_objI dX9_init_1 ol_X9_1 ow_i ow_c (Nat.le_of_ble_eq_true rfl) ?_
  refine xv_aload_n dX9_init_4 rfl rfl ?_
  refine xv_lconst (v := 0) dX9_init_5 rfl ?_
  refine xv_putj dX9_init_6 fl_X9_7 hb rfl ?_
  refine xv_aload_n dX9_init_9 rfl rfl ?_
  refine xv_lconst (v := 0) dX9_init_10 rfl ?_
  refine xv_putj dX9_init_11 fl_X9_13 hb rfl ?_
  refine xv_aload_n dX9_init_14 rfl rfl ?_
  refine xv_lconst (v := 0) dX9_init_15 rfl ?_
  refine xv_putj dX9_init_16 fl_X9_16 hb rfl ?_
  refine xv_aload_n dX9_init_19 rfl rfl ?_
  refine xv_iconst (v := 0) dX9_init_20 rfl ?_
  refine xv_puti dX9_init_21 fl_X9_19 hb rfl rfl rfl ?_
  refine xv_vret dX9_init_24 rfl (Nat.zero_le _) (Nat.zero_le _) ?_
  exact hQ

def k_X5_G (G : xv_Gr) : xv_Gr := (xv_ur (xv_gn (xv_ur (xv_gn (xv_ur (xv_gn (xv_ur (xv_gn (xv_ur (xv_gn (xv_ur (xv_gn (xv_ur (xv_gn (xv_ur (xv_gn G 103 (.inr (0, 12))) 1 3 (some 103)) 104 (.inr (0, 12))) 1 4 (some 104)) 105 (.inr (0, 12))) 1 5 (some 105)) 106 (.inr (2, 12))) 1 6 (some 106)) 107 (.inr (0, 20))) 1 7 (some 107)) 108 (.inr (0, 20))) 1 8 (some 108)) 109 (.inr (0, 20))) 1 9 (some 109)) 110 (.inr (0, 20))) 1 10 (some 110))
def k_X5_I (I : xv_I) : xv_I := (va_up (va_up (va_up (va_up (va_up (va_up (va_up (va_up (xv_ui (xv_ui (xv_ui I 1 0 100) 1 1 0) 1 2 0) 103 (fun _ => 0)) 104 (fun _ => 0)) 105 (fun _ => 0)) 106 (fun _ => 0)) 107 (fun _ => 0)) 108 (fun _ => 0)) 109 (fun _ => 0)) 110 (fun _ => 0))
def k_X5_J (J : xv_J) : xv_J := (va_up (va_up (va_up (va_up (va_up (va_up (va_up (va_up J 103 (fun _ => 0)) 104 (fun _ => 0)) 105 (fun _ => 0)) 106 (fun _ => 0)) 107 (fun _ => 0)) 108 (fun _ => 0)) 109 (fun _ => 0)) 110 (fun _ => 0))
theorem s5_init {l : Launch} {D : va_G} {d : Nat} {G : xv_Gr} {I : xv_I} {J : xv_J} {Q : xv_Po} (ho : G.1 1 = some (.inl 5)) (hn : ∀ a, 100 ≤ a → a < 112 → G.1 a = none) (hQ : Q none (k_X5_G G) (k_X5_I I) (k_X5_J J)) : xv_Ev l D d mX5_init none 0 [some (.ref 1)] [] G I J 0 0 Q := by
  refine xv_aload_n dX5_init_0 rfl rfl ?_
  refine xv_objI dX5_init_1 ol_X5_3 ow_i ow_c (Nat.le_of_ble_eq_true rfl) ?_
  refine xv_aload_n dX5_init_4 rfl rfl ?_
  refine xv_bipush (v := 100) dX5_init_5 rfl ?_
  refine xv_puti dX5_init_7 fl_X5_9 (by simp [xv_gn, xv_ur, va_up, ho]) rfl rfl rfl ?_
  refine xv_aload_n dX5_init_10 rfl rfl ?_
  refine xv_iconst (v := 0) dX5_init_11 rfl ?_
  refine xv_puti dX5_init_12 fl_X5_15 (by simp [xv_gn, xv_ur, va_up, ho]) rfl rfl rfl ?_
  refine xv_aload_n dX5_init_15 rfl rfl ?_
  refine xv_iconst (v := 0) dX5_init_16 rfl ?_
  refine xv_puti dX5_init_17 fl_X5_18 (by simp [xv_gn, xv_ur, va_up, ho]) rfl rfl rfl ?_
  refine xv_aload_n dX5_init_20 rfl rfl ?_
  refine xv_bipush (v := 12) dX5_init_21 rfl ?_
  refine xv_newa (a := 103) (N := 12) (t := 0) dX5_init_23 aw_int rfl rfl (by decide) (by decide) rfl (by decide) (by simp [xv_gn, xv_ur, va_up, hn]) (by decide) (Nat.le_of_ble_eq_true rfl) (Nat.le_of_ble_eq_true rfl) ?_
  refine xv_putrF dX5_init_25 fl_X5_21 rfl rfl (by simp [xv_gn, xv_ur, va_up, ho]) rfl (by simp [xv_gn, xv_ur, va_up]) ?_
  refine xv_aload_n dX5_init_28 rfl rfl ?_
  refine xv_bipush (v := 12) dX5_init_29 rfl ?_
  refine xv_newa (a := 104) (N := 12) (t := 0) dX5_init_31 aw_int rfl rfl (by decide) (by decide) rfl (by decide) (by simp [xv_gn, xv_ur, va_up, hn]) (by decide) (Nat.le_of_ble_eq_true rfl) (Nat.le_of_ble_eq_true rfl) ?_
  refine xv_putrF dX5_init_33 fl_X5_25 rfl rfl (by simp [xv_gn, xv_ur, va_up, ho]) rfl (by simp [xv_gn, xv_ur, va_up]) ?_
  refine xv_aload_n dX5_init_36 rfl rfl ?_
  refine xv_bipush (v := 12) dX5_init_37 rfl ?_
  refine xv_newa (a := 105) (N := 12) (t := 0) dX5_init_39 aw_int rfl rfl (by decide) (by decide) rfl (by decide) (by simp [xv_gn, xv_ur, va_up, hn]) (by decide) (Nat.le_of_ble_eq_true rfl) (Nat.le_of_ble_eq_true rfl) ?_
  refine xv_putrF dX5_init_41 fl_X5_28 rfl rfl (by simp [xv_gn, xv_ur, va_up, ho]) rfl (by simp [xv_gn, xv_ur, va_up]) ?_
  refine xv_aload_n dX5_init_44 rfl rfl ?_
  refine xv_bipush (v := 12) dX5_init_45 rfl ?_
  refine xv_newa (a := 106) (N := 12) (t := 2) dX5_init_47 aw_boolean rfl rfl (by decide) (by decide) rfl (by decide) (by simp [xv_gn, xv_ur, va_up, hn]) (by decide) (Nat.le_of_ble_eq_true rfl) (Nat.le_of_ble_eq_true rfl) ?_
  refine xv_putrF dX5_init_49 fl_X5_31 rfl rfl (by simp [xv_gn, xv_ur, va_up, ho]) rfl (by simp [xv_gn, xv_ur, va_up]) ?_
  refine xv_aload_n dX5_init_52 rfl rfl ?_
  refine xv_bipush (v := 20) dX5_init_53 rfl ?_
  refine xv_newa (a := 107) (N := 20) (t := 0) dX5_init_55 aw_int rfl rfl (by decide) (by decide) rfl (by decide) (by simp [xv_gn, xv_ur, va_up, hn]) (by decide) (Nat.le_of_ble_eq_true rfl) (Nat.le_of_ble_eq_true rfl) ?_
  refine xv_putrF dX5_init_57 fl_X5_35 rfl rfl (by simp [xv_gn, xv_ur, va_up, ho]) rfl (by simp [xv_gn, xv_ur, va_up]) ?_
  refine xv_aload_n dX5_init_60 rfl rfl ?_
  refine xv_bipush (v := 20) dX5_init_61 rfl ?_
  refine xv_newa (a := 108) (N := 20) (t := 0) dX5_init_63 aw_int rfl rfl (by decide) (by decide) rfl (by decide) (by simp [xv_gn, xv_ur, va_up, hn]) (by decide) (Nat.le_of_ble_eq_true rfl) (Nat.le_of_ble_eq_true rfl) ?_
  refine xv_putrF dX5_init_65 fl_X5_38 rfl rfl (by simp [xv_gn, xv_ur, va_up, ho]) rfl (by simp [xv_gn, xv_ur, va_up]) ?_
  refine xv_aload_n dX5_init_68 rfl rfl ?_
  refine xv_bipush (v := 20) dX5_init_69 rfl ?_
  refine xv_newa (a := 109) (N := 20) (t := 0) dX5_init_71 aw_int rfl rfl (by decide) (by decide) rfl (by decide) (by simp [xv_gn, xv_ur, va_up, hn]) (by decide) (Nat.le_of_ble_eq_true rfl) (Nat.le_of_ble_eq_true rfl) ?_
  refine xv_putrF dX5_init_73 fl_X5_41 rfl rfl (by simp [xv_gn, xv_ur, va_up, ho]) rfl (by simp [xv_gn, xv_ur, va_up]) ?_
  refine xv_aload_n dX5_init_76 rfl rfl ?_
  refine xv_bipush (v := 20) dX5_init_77 rfl ?_
  refine xv_newa (a := 110) (N := 20) (t := 0) dX5_init_79 aw_int rfl rfl (by decide) (by decide) rfl (by decide) (by simp [xv_gn, xv_ur, va_up, hn]) (by decide) (Nat.le_of_ble_eq_true rfl) (Nat.le_of_ble_eq_true rfl) ?_
  refine xv_putrF dX5_init_81 fl_X5_44 rfl rfl (by simp [xv_gn, xv_ur, va_up, ho]) rfl (by simp [xv_gn, xv_ur, va_up]) ?_
  refine xv_vret dX5_init_84 rfl (Nat.le_of_ble_eq_true rfl) (Nat.le_of_ble_eq_true rfl) ?_
  exact hQ

def k_X3_G (G : xv_Gr) : xv_Gr := (xv_ur (xv_gn (xv_ur (xv_gn G 120 (.inr (0, 12))) 2 0 (some 120)) 121 (.inr (0, 12))) 2 1 (some 121))
def k_X3_I (I : xv_I) : xv_I := (va_up (va_up I 120 (fun _ => 0)) 121 (fun _ => 0))
def k_X3_J (J : xv_J) : xv_J := (va_up (va_up J 120 (fun _ => 0)) 121 (fun _ => 0))
theorem s3_init {l : Launch} {D : va_G} {d : Nat} {G : xv_Gr} {I : xv_I} {J : xv_J} {Q : xv_Po} (ho : G.1 2 = some (.inl 3)) (hn : ∀ a, 120 ≤ a → a < 123 → G.1 a = none) (hQ : Q none (k_X3_G G) (k_X3_I I) (k_X3_J J)) : xv_Ev l D d mX3_init none 0 [some (.ref 2)] [] G I J 0 0 Q := by
  refine xv_aload_n dX3_init_0 rfl rfl ?_
  refine xv_objI dX3_init_1 ol_X3_3 ow_i ow_c (Nat.le_of_ble_eq_true rfl) ?_
  refine xv_aload_n dX3_init_4 rfl rfl ?_
  refine xv_bipush (v := 12) dX3_init_5 rfl ?_
  refine xv_newa (a := 120) (N := 12) (t := 0) dX3_init_7 aw_int rfl rfl (by decide) (by decide) rfl (by decide) (by simp [xv_gn, xv_ur, va_up, hn]) (by decide) (Nat.le_of_ble_eq_true rfl) (Nat.le_of_ble_eq_true rfl) ?_
  refine xv_putrF dX3_init_9 fl_X3_9 rfl rfl (by simp [xv_gn, xv_ur, va_up, ho]) rfl (by simp [xv_gn, xv_ur, va_up]) ?_
  refine xv_aload_n dX3_init_12 rfl rfl ?_
  refine xv_bipush (v := 12) dX3_init_13 rfl ?_
  refine xv_newa (a := 121) (N := 12) (t := 0) dX3_init_15 aw_int rfl rfl (by decide) (by decide) rfl (by decide) (by simp [xv_gn, xv_ur, va_up, hn]) (by decide) (Nat.le_of_ble_eq_true rfl) (Nat.le_of_ble_eq_true rfl) ?_
  refine xv_putrF dX3_init_17 fl_X3_15 rfl rfl (by simp [xv_gn, xv_ur, va_up, ho]) rfl (by simp [xv_gn, xv_ur, va_up]) ?_
  refine xv_vret dX3_init_20 rfl (Nat.le_of_ble_eq_true rfl) (Nat.le_of_ble_eq_true rfl) ?_
  exact hQ

def k_X2_G (G : xv_Gr) : xv_Gr := (xv_ur (xv_gn (xv_ur (xv_gn (xv_ur (xv_gn (xv_ur (xv_gn (xv_ur (xv_gn (xv_ur (xv_gn (xv_ur (xv_gn G 130 (.inr (0, 4))) 3 0 (some 130)) 131 (.inr (0, 4))) 3 1 (some 131)) 137 (.inr (0, 12))) 3 7 (some 137)) 138 (.inr (0, 12))) 3 8 (some 138)) 139 (.inr (0, 12))) 3 9 (some 139)) 140 (.inr (0, 4096))) 3 10 (some 140)) 141 (.inr (3, 4096))) 3 11 (some 141))
def k_X2_I (I : xv_I) : xv_I := (va_up (va_up (va_up (va_up (va_up (xv_ui (xv_ui (xv_ui (xv_ui (xv_ui (va_up (va_up I 130 (fun _ => 0)) 131 (fun _ => 0)) 3 2 1) 3 3 1) 3 4 0) 3 5 0) 3 6 0) 137 (fun _ => 0)) 138 (fun _ => 0)) 139 (fun _ => 0)) 140 (fun _ => 0)) 141 (fun _ => 0))
def k_X2_J (J : xv_J) : xv_J := (va_up (va_up (va_up (va_up (va_up (va_up (va_up J 130 (fun _ => 0)) 131 (fun _ => 0)) 137 (fun _ => 0)) 138 (fun _ => 0)) 139 (fun _ => 0)) 140 (fun _ => 0)) 141 (fun _ => 0))
theorem s2_init {l : Launch} {D : va_G} {d : Nat} {G : xv_Gr} {I : xv_I} {J : xv_J} {Q : xv_Po} (ho : G.1 3 = some (.inl 2)) (hn : ∀ a, 130 ≤ a → a < 143 → G.1 a = none) (hQ : Q none (k_X2_G G) (k_X2_I I) (k_X2_J J)) : xv_Ev l D d mX2_init none 0 [some (.ref 3)] [] G I J 0 0 Q := by
  refine xv_aload_n dX2_init_0 rfl rfl ?_
  refine xv_objI dX2_init_1 ol_X2_3 ow_i ow_c (Nat.le_of_ble_eq_true rfl) ?_
  refine xv_aload_n dX2_init_4 rfl rfl ?_
  refine xv_iconst (v := 4) dX2_init_5 rfl ?_
  refine xv_newa (a := 130) (N := 4) (t := 0) dX2_init_6 aw_int rfl rfl (by decide) (by decide) rfl (by decide) (by simp [xv_gn, xv_ur, va_up, hn]) (by decide) (Nat.le_of_ble_eq_true rfl) (Nat.le_of_ble_eq_true rfl) ?_
  refine xv_putrF dX2_init_8 fl_X2_9 rfl rfl (by simp [xv_gn, xv_ur, va_up, ho]) rfl (by simp [xv_gn, xv_ur, va_up]) ?_
  refine xv_aload_n dX2_init_11 rfl rfl ?_
  refine xv_iconst (v := 4) dX2_init_12 rfl ?_
  refine xv_newa (a := 131) (N := 4) (t := 0) dX2_init_13 aw_int rfl rfl (by decide) (by decide) rfl (by decide) (by simp [xv_gn, xv_ur, va_up, hn]) (by decide) (Nat.le_of_ble_eq_true rfl) (Nat.le_of_ble_eq_true rfl) ?_
  refine xv_putrF dX2_init_15 fl_X2_15 rfl rfl (by simp [xv_gn, xv_ur, va_up, ho]) rfl (by simp [xv_gn, xv_ur, va_up]) ?_
  refine xv_aload_n dX2_init_18 rfl rfl ?_
  refine xv_iconst (v := 1) dX2_init_19 rfl ?_
  refine xv_puti dX2_init_20 fl_X2_18 (by simp [xv_gn, xv_ur, va_up, ho]) rfl rfl rfl ?_
  refine xv_aload_n dX2_init_23 rfl rfl ?_
  refine xv_iconst (v := 1) dX2_init_24 rfl ?_
  refine xv_puti dX2_init_25 fl_X2_22 (by simp [xv_gn, xv_ur, va_up, ho]) rfl rfl rfl ?_
  refine xv_aload_n dX2_init_28 rfl rfl ?_
  refine xv_iconst (v := 0) dX2_init_29 rfl ?_
  refine xv_puti dX2_init_30 fl_X2_26 (by simp [xv_gn, xv_ur, va_up, ho]) rfl rfl rfl ?_
  refine xv_aload_n dX2_init_33 rfl rfl ?_
  refine xv_iconst (v := 0) dX2_init_34 rfl ?_
  refine xv_puti dX2_init_35 fl_X2_29 (by simp [xv_gn, xv_ur, va_up, ho]) rfl rfl rfl ?_
  refine xv_aload_n dX2_init_38 rfl rfl ?_
  refine xv_iconst (v := 0) dX2_init_39 rfl ?_
  refine xv_puti dX2_init_40 fl_X2_32 (by simp [xv_gn, xv_ur, va_up, ho]) rfl rfl rfl ?_
  refine xv_aload_n dX2_init_43 rfl rfl ?_
  refine xv_bipush (v := 12) dX2_init_44 rfl ?_
  refine xv_newa (a := 137) (N := 12) (t := 0) dX2_init_46 aw_int rfl rfl (by decide) (by decide) rfl (by decide) (by simp [xv_gn, xv_ur, va_up, hn]) (by decide) (Nat.le_of_ble_eq_true rfl) (Nat.le_of_ble_eq_true rfl) ?_
  refine xv_putrF dX2_init_48 fl_X2_35 rfl rfl (by simp [xv_gn, xv_ur, va_up, ho]) rfl (by simp [xv_gn, xv_ur, va_up]) ?_
  refine xv_aload_n dX2_init_51 rfl rfl ?_
  refine xv_bipush (v := 12) dX2_init_52 rfl ?_
  refine xv_newa (a := 138) (N := 12) (t := 0) dX2_init_54 aw_int rfl rfl (by decide) (by decide) rfl (by decide) (by simp [xv_gn, xv_ur, va_up, hn]) (by decide) (Nat.le_of_ble_eq_true rfl) (Nat.le_of_ble_eq_true rfl) ?_
  refine xv_putrF dX2_init_56 fl_X2_38 rfl rfl (by simp [xv_gn, xv_ur, va_up, ho]) rfl (by simp [xv_gn, xv_ur, va_up]) ?_
  refine xv_aload_n dX2_init_59 rfl rfl ?_
  refine xv_bipush (v := 12) dX2_init_60 rfl ?_
  refine xv_newa (a := 139) (N := 12) (t := 0) dX2_init_62 aw_int rfl rfl (by decide) (by decide) rfl (by decide) (by simp [xv_gn, xv_ur, va_up, hn]) (by decide) (Nat.le_of_ble_eq_true rfl) (Nat.le_of_ble_eq_true rfl) ?_
  refine xv_putrF dX2_init_64 fl_X2_41 rfl rfl (by simp [xv_gn, xv_ur, va_up, ho]) rfl (by simp [xv_gn, xv_ur, va_up]) ?_
  refine xv_aload_n dX2_init_67 rfl rfl ?_
  refine xv_sipush (v := 4096) dX2_init_68 rfl ?_
  refine xv_newa (a := 140) (N := 4096) (t := 0) dX2_init_71 aw_int rfl rfl (by decide) (by decide) rfl (by decide) (by simp [xv_gn, xv_ur, va_up, hn]) (by decide) (Nat.le_of_ble_eq_true rfl) (Nat.le_of_ble_eq_true rfl) ?_
  refine xv_putrF dX2_init_73 fl_X2_44 rfl rfl (by simp [xv_gn, xv_ur, va_up, ho]) rfl (by simp [xv_gn, xv_ur, va_up]) ?_
  refine xv_aload_n dX2_init_76 rfl rfl ?_
  refine xv_sipush (v := 4096) dX2_init_77 rfl ?_
  refine xv_newa (a := 141) (N := 4096) (t := 3) dX2_init_80 aw_long rfl rfl (by decide) (by decide) rfl (by decide) (by simp [xv_gn, xv_ur, va_up, hn]) (by decide) (Nat.le_of_ble_eq_true rfl) (Nat.le_of_ble_eq_true rfl) ?_
  refine xv_putrF dX2_init_82 fl_X2_47 rfl rfl (by simp [xv_gn, xv_ur, va_up, ho]) rfl (by simp [xv_gn, xv_ur, va_up]) ?_
  refine xv_vret dX2_init_85 rfl (Nat.le_of_ble_eq_true rfl) (Nat.le_of_ble_eq_true rfl) ?_
  exact hQ

def k_X1_G (G : xv_Gr) : xv_Gr := (xv_ur (xv_gn (xv_ur (xv_gn (xv_ur (xv_gn (xv_ur (xv_gn G 150 (.inr (0, 2))) 4 0 (some 150)) 155 (.inr (0, 12))) 4 5 (some 155)) 156 (.inr (0, 12))) 4 6 (some 156)) 157 (.inr (0, 2))) 4 7 (some 157))
def k_X1_I (I : xv_I) : xv_I := (va_up (va_up (va_up (xv_ui (xv_ui (xv_ui (xv_ui (xv_ui (xv_ui (va_up I 150 (fun _ => 0)) 150 0 600) 150 1 600) 4 1 1) 4 2 (-900009)) 4 3 0) 4 4 0) 155 (fun _ => 0)) 156 (fun _ => 0)) 157 (fun _ => 0))
def k_X1_J (J : xv_J) : xv_J := (va_up (va_up (va_up (va_up J 150 (fun _ => 0)) 155 (fun _ => 0)) 156 (fun _ => 0)) 157 (fun _ => 0))
theorem s1_init {l : Launch} {D : va_G} {d : Nat} {G : xv_Gr} {I : xv_I} {J : xv_J} {Q : xv_Po} (ho : G.1 4 = some (.inl 1)) (hn : ∀ a, 150 ≤ a → a < 159 → G.1 a = none) (hQ : Q none (k_X1_G G) (k_X1_I I) (k_X1_J J)) : xv_Ev l D d mX1_init none 0 [some (.ref 4)] [] G I J 0 0 Q := by
  refine xv_aload_n dX1_init_0 rfl rfl ?_
  refine xv_objI dX1_init_1 ol_X1_3 ow_i ow_c (Nat.le_of_ble_eq_true rfl) ?_
  refine xv_aload_n dX1_init_4 rfl rfl ?_
  refine xv_iconst (v := 2) dX1_init_5 rfl ?_
  refine xv_newa (a := 150) (N := 2) (t := 0) dX1_init_6 aw_int rfl rfl (by decide) (by decide) rfl (by decide) (by simp [xv_gn, xv_ur, va_up, hn]) (by decide) (Nat.le_of_ble_eq_true rfl) (Nat.le_of_ble_eq_true rfl) ?_
  refine xv_dup dX1_init_8 rfl ?_
  refine xv_iconst (v := nI 0) dX1_init_9 rfl ?_
  refine xv_sipush (v := 600) dX1_init_10 rfl ?_
  refine xv_iastore dX1_init_13 (show _ = some (Sum.inr (0, 2)) from by simp [xv_gn, xv_ur, va_up]) (xv_ixn (by omega) (by decide)) ?_
  refine xv_dup dX1_init_14 rfl ?_
  refine xv_iconst (v := nI 1) dX1_init_15 rfl ?_
  refine xv_sipush (v := 600) dX1_init_16 rfl ?_
  refine xv_iastore dX1_init_19 (show _ = some (Sum.inr (0, 2)) from by simp [xv_gn, xv_ur, va_up]) (xv_ixn (by omega) (by decide)) ?_
  refine xv_putrF dX1_init_20 fl_X1_9 rfl rfl (by simp [xv_gn, xv_ur, va_up, ho]) rfl (by simp [xv_gn, xv_ur, va_up]) ?_
  refine xv_aload_n dX1_init_23 rfl rfl ?_
  refine xv_iconst (v := 1) dX1_init_24 rfl ?_
  refine xv_puti dX1_init_25 fl_X1_15 (by simp [xv_gn, xv_ur, va_up, ho]) rfl rfl rfl ?_
  refine xv_aload_n dX1_init_28 rfl rfl ?_
  refine xv_ldc dX1_init_29 ld_X1_19 ?_
  refine xv_puti dX1_init_31 fl_X1_20 (by simp [xv_gn, xv_ur, va_up, ho]) rfl rfl rfl ?_
  refine xv_aload_n dX1_init_34 rfl rfl ?_
  refine xv_iconst (v := 0) dX1_init_35 rfl ?_
  refine xv_puti dX1_init_36 fl_X1_24 (by simp [xv_gn, xv_ur, va_up, ho]) rfl rfl rfl ?_
  refine xv_aload_n dX1_init_39 rfl rfl ?_
  refine xv_iconst (v := 0) dX1_init_40 rfl ?_
  refine xv_puti dX1_init_41 fl_X1_27 (by simp [xv_gn, xv_ur, va_up, ho]) rfl rfl rfl ?_
  refine xv_aload_n dX1_init_44 rfl rfl ?_
  refine xv_bipush (v := 12) dX1_init_45 rfl ?_
  refine xv_newa (a := 155) (N := 12) (t := 0) dX1_init_47 aw_int rfl rfl (by decide) (by decide) rfl (by decide) (by simp [xv_gn, xv_ur, va_up, hn]) (by decide) (Nat.le_of_ble_eq_true rfl) (Nat.le_of_ble_eq_true rfl) ?_
  refine xv_putrF dX1_init_49 fl_X1_30 rfl rfl (by simp [xv_gn, xv_ur, va_up, ho]) rfl (by simp [xv_gn, xv_ur, va_up]) ?_
  refine xv_aload_n dX1_init_52 rfl rfl ?_
  refine xv_bipush (v := 12) dX1_init_53 rfl ?_
  refine xv_newa (a := 156) (N := 12) (t := 0) dX1_init_55 aw_int rfl rfl (by decide) (by decide) rfl (by decide) (by simp [xv_gn, xv_ur, va_up, hn]) (by decide) (Nat.le_of_ble_eq_true rfl) (Nat.le_of_ble_eq_true rfl) ?_
  refine xv_putrF dX1_init_57 fl_X1_33 rfl rfl (by simp [xv_gn, xv_ur, va_up, ho]) rfl (by simp [xv_gn, xv_ur, va_up]) ?_
  refine xv_aload_n dX1_init_60 rfl rfl ?_
  refine xv_iconst (v := 2) dX1_init_61 rfl ?_
  refine xv_newa (a := 157) (N := 2) (t := 0) dX1_init_62 aw_int rfl rfl (by decide) (by decide) rfl (by decide) (by simp [xv_gn, xv_ur, va_up, hn]) (by decide) (Nat.le_of_ble_eq_true rfl) (Nat.le_of_ble_eq_true rfl) ?_
  refine xv_putrF dX1_init_64 fl_X1_36 rfl rfl (by simp [xv_gn, xv_ur, va_up, ho]) rfl (by simp [xv_gn, xv_ur, va_up]) ?_
  refine xv_vret dX1_init_67 rfl (Nat.le_of_ble_eq_true rfl) (Nat.le_of_ble_eq_true rfl) ?_
  exact hQ

def k_X6_G (G : xv_Gr) : xv_Gr := (xv_ur (xv_gn (xv_ur (xv_gn (xv_ur (xv_gn (xv_ur (xv_gn G 164 (.inr (0, 16))) 5 4 (some 164)) 166 (.inr (3, 16))) 5 6 (some 166)) 167 (.inr (3, 16))) 5 7 (some 167)) 168 (.inr (3, 17))) 5 8 (some 168))
def k_X6_I (I : xv_I) : xv_I := (va_up (va_up (va_up (va_up (xv_ui (xv_ui (xv_ui (xv_ui I 5 0 0) 5 1 50) 5 2 1) 5 3 0) 164 (fun _ => 0)) 166 (fun _ => 0)) 167 (fun _ => 0)) 168 (fun _ => 0))
def k_X6_J (J : xv_J) : xv_J := (va_up (va_up (va_up (xv_uj (va_up J 164 (fun _ => 0)) 5 5 0) 166 (fun _ => 0)) 167 (fun _ => 0)) 168 (fun _ => 0))
theorem s6_init {l : Launch} {D : va_G} {d : Nat} {G : xv_Gr} {I : xv_I} {J : xv_J} {Q : xv_Po} (ho : G.1 5 = some (.inl 6)) (hn : ∀ a, 160 ≤ a → a < 170 → G.1 a = none) (hQ : Q none (k_X6_G G) (k_X6_I I) (k_X6_J J)) : xv_Ev l D d mX6_init none 0 [some (.ref 5)] [] G I J 0 0 Q := by
  refine xv_aload_n dX6_init_0 rfl rfl ?_
  refine xv_objI dX6_init_1 ol_X6_3 ow_i ow_c (Nat.le_of_ble_eq_true rfl) ?_
  refine xv_aload_n dX6_init_4 rfl rfl ?_
  refine xv_iconst (v := 0) dX6_init_5 rfl ?_
  refine xv_puti dX6_init_6 fl_X6_9 (by simp [xv_gn, xv_ur, va_up, ho]) rfl rfl rfl ?_
  refine xv_aload_n dX6_init_9 rfl rfl ?_
  refine xv_bipush (v := 50) dX6_init_10 rfl ?_
  refine xv_puti dX6_init_12 fl_X6_15 (by simp [xv_gn, xv_ur, va_up, ho]) rfl rfl rfl ?_
  refine xv_aload_n dX6_init_15 rfl rfl ?_
  refine xv_iconst (v := 1) dX6_init_16 rfl ?_
  refine xv_puti dX6_init_17 fl_X6_18 (by simp [xv_gn, xv_ur, va_up, ho]) rfl rfl rfl ?_
  refine xv_aload_n dX6_init_20 rfl rfl ?_
  refine xv_iconst (v := 0) dX6_init_21 rfl ?_
  refine xv_puti dX6_init_22 fl_X6_22 (by simp [xv_gn, xv_ur, va_up, ho]) rfl rfl rfl ?_
  refine xv_aload_n dX6_init_25 rfl rfl ?_
  refine xv_bipush (v := 16) dX6_init_26 rfl ?_
  refine xv_newa (a := 164) (N := 16) (t := 0) dX6_init_28 aw_int rfl rfl (by decide) (by decide) rfl (by decide) (by simp [xv_gn, xv_ur, va_up, hn]) (by decide) (Nat.le_of_ble_eq_true rfl) (Nat.le_of_ble_eq_true rfl) ?_
  refine xv_putrF dX6_init_30 fl_X6_25 rfl rfl (by simp [xv_gn, xv_ur, va_up, ho]) rfl (by simp [xv_gn, xv_ur, va_up]) ?_
  refine xv_aload_n dX6_init_33 rfl rfl ?_
  refine xv_lconst (v := 0) dX6_init_34 rfl ?_
  refine xv_putj dX6_init_35 fl_X6_29 (by simp [xv_gn, xv_ur, va_up, ho]) rfl ?_
  refine xv_aload_n dX6_init_38 rfl rfl ?_
  refine xv_bipush (v := 16) dX6_init_39 rfl ?_
  refine xv_newa (a := 166) (N := 16) (t := 3) dX6_init_41 aw_long rfl rfl (by decide) (by decide) rfl (by decide) (by simp [xv_gn, xv_ur, va_up, hn]) (by decide) (Nat.le_of_ble_eq_true rfl) (Nat.le_of_ble_eq_true rfl) ?_
  refine xv_putrF dX6_init_43 fl_X6_33 rfl rfl (by simp [xv_gn, xv_ur, va_up, ho]) rfl (by simp [xv_gn, xv_ur, va_up]) ?_
  refine xv_aload_n dX6_init_46 rfl rfl ?_
  refine xv_bipush (v := 16) dX6_init_47 rfl ?_
  refine xv_newa (a := 167) (N := 16) (t := 3) dX6_init_49 aw_long rfl rfl (by decide) (by decide) rfl (by decide) (by simp [xv_gn, xv_ur, va_up, hn]) (by decide) (Nat.le_of_ble_eq_true rfl) (Nat.le_of_ble_eq_true rfl) ?_
  refine xv_putrF dX6_init_51 fl_X6_37 rfl rfl (by simp [xv_gn, xv_ur, va_up, ho]) rfl (by simp [xv_gn, xv_ur, va_up]) ?_
  refine xv_aload_n dX6_init_54 rfl rfl ?_
  refine xv_bipush (v := 17) dX6_init_55 rfl ?_
  refine xv_newa (a := 168) (N := 17) (t := 3) dX6_init_57 aw_long rfl rfl (by decide) (by decide) rfl (by decide) (by simp [xv_gn, xv_ur, va_up, hn]) (by decide) (Nat.le_of_ble_eq_true rfl) (Nat.le_of_ble_eq_true rfl) ?_
  refine xv_putrF dX6_init_59 fl_X6_40 rfl rfl (by simp [xv_gn, xv_ur, va_up, ho]) rfl (by simp [xv_gn, xv_ur, va_up]) ?_
  refine xv_vret dX6_init_62 rfl (Nat.le_of_ble_eq_true rfl) (Nat.le_of_ble_eq_true rfl) ?_
  exact hQ

def k_X0_G (G : xv_Gr) : xv_Gr := (xv_ur (xv_gn (xv_ur (xv_gn (xv_ur (xv_gn (xv_ur (xv_gn G 173 (.inr (8, 8))) 6 3 (some 173)) 174 (.inr (12, 4))) 6 4 (some 174)) 175 (.inl 7)) 6 5 (some 175)) 176 (.inl 9)) 6 6 (some 176))
def k_X0_I (I : xv_I) : xv_I := (xv_ui (va_up (xv_ui (xv_ui (xv_ui (va_up (va_up (va_up (xv_ui (xv_ui (xv_ui I 6 0 0) 6 1 0) 6 2 0) 173 (fun _ => 0)) 174 (fun _ => 0)) 175 (fun _ => 0)) 175 2 0) 175 3 1) 175 4 1) 176 (fun _ => 0)) 176 3 0)
def k_X0_J (J : xv_J) : xv_J := (xv_uj (xv_uj (xv_uj (va_up (xv_uj (xv_uj (va_up (va_up (va_up J 173 (fun _ => 0)) 174 (fun _ => 0)) 175 (fun _ => 0)) 175 0 0) 175 1 0) 176 (fun _ => 0)) 176 0 0) 176 1 0) 176 2 0)
theorem s0_init {l : Launch} {D : va_G} {d : Nat} {G : xv_Gr} {I : xv_I} {J : xv_J} {Q : xv_Po} (ho : G.1 6 = some (.inl 0)) (hn : ∀ a, 170 ≤ a → a < 178 → G.1 a = none) (hQ : Q none (k_X0_G G) (k_X0_I I) (k_X0_J J)) : xv_Ev l D (d + 1) mX0_init none 0 [some (.ref 6)] [] G I J 0 0 Q := by
  refine xv_aload_n dX0_init_0 rfl rfl ?_
  refine xv_objI dX0_init_1 ol_X0_3 ow_i ow_c (Nat.le_of_ble_eq_true rfl) ?_
  refine xv_aload_n dX0_init_4 rfl rfl ?_
  refine xv_iconst (v := 0) dX0_init_5 rfl ?_
  refine xv_puti dX0_init_6 fl_X0_9 (by simp [xv_gn, xv_ur, va_up, ho]) rfl rfl rfl ?_
  refine xv_aload_n dX0_init_9 rfl rfl ?_
  refine xv_iconst (v := 0) dX0_init_10 rfl ?_
  refine xv_puti dX0_init_11 fl_X0_15 (by simp [xv_gn, xv_ur, va_up, ho]) rfl rfl rfl ?_
  refine xv_aload_n dX0_init_14 rfl rfl ?_
  refine xv_iconst (v := 0) dX0_init_15 rfl ?_
  refine xv_puti dX0_init_16 fl_X0_18 (by simp [xv_gn, xv_ur, va_up, ho]) rfl rfl rfl ?_
  refine xv_aload_n dX0_init_19 rfl rfl ?_
  refine xv_bipush (v := 8) dX0_init_20 rfl ?_
  refine xv_newq (a := 173) (N := 8) dX0_init_22 ql_X0_21 qo_X0_21 (by decide) rfl (by decide) (by simp [xv_gn, xv_ur, va_up, hn]) (by decide) (Nat.le_of_ble_eq_true rfl) (Nat.le_of_ble_eq_true rfl) ?_
  refine xv_putrF dX0_init_25 fl_X0_23 rfl rfl (by simp [xv_gn, xv_ur, va_up, ho]) rfl (by simp [xv_gn, xv_ur, va_up]) ?_
  refine xv_aload_n dX0_init_28 rfl rfl ?_
  refine xv_iconst (v := 4) dX0_init_29 rfl ?_
  refine xv_newq (a := 174) (N := 4) dX0_init_30 ql_X0_27 qo_X0_27 (by decide) rfl (by decide) (by simp [xv_gn, xv_ur, va_up, hn]) (by decide) (Nat.le_of_ble_eq_true rfl) (Nat.le_of_ble_eq_true rfl) ?_
  refine xv_putrF dX0_init_33 fl_X0_29 rfl rfl (by simp [xv_gn, xv_ur, va_up, ho]) rfl (by simp [xv_gn, xv_ur, va_up]) ?_
  refine xv_aload_n dX0_init_36 rfl rfl ?_
  refine xv_new (a := 175) dX0_init_37 nl_X0_33 (by simp [xv_gn, xv_ur, va_up, hn]) (by decide) (Nat.le_of_ble_eq_true rfl) (Nat.le_of_ble_eq_true rfl) ?_
  refine xv_dup dX0_init_40 rfl ?_
  refine xv_callN (As := []) dX0_init_41 cl_X0_35 rfl rfl (Nat.le_of_ble_eq_true rfl) (Nat.le_of_ble_eq_true rfl) (Nat.le_of_ble_eq_true rfl) (Nat.le_of_ble_eq_true rfl) ?_
  refine s7_init (by simp [xv_gn, xv_ur, va_up]) ?_
  refine xv_putrF dX0_init_44 fl_X0_36 rfl rfl (by simp [xv_gn, xv_ur, va_up, ho]) rfl (by simp [xv_gn, xv_ur, va_up]) ?_
  refine xv_aload_n dX0_init_47 rfl rfl ?_
  refine xv_new (a := 176) dX0_init_48 nl_X0_40 (by simp [xv_gn, xv_ur, va_up, hn]) (by decide) (Nat.le_of_ble_eq_true rfl) (Nat.le_of_ble_eq_true rfl) ?_
  refine xv_dup dX0_init_51 rfl ?_
  refine xv_callN (As := []) dX0_init_52 cl_X0_42 rfl rfl (Nat.le_of_ble_eq_true rfl) (Nat.le_of_ble_eq_true rfl) (Nat.le_of_ble_eq_true rfl) (Nat.le_of_ble_eq_true rfl) ?_
  refine s9_init (by simp [xv_gn, xv_ur, va_up]) ?_
  refine xv_putrF dX0_init_55 fl_X0_43 rfl rfl (by simp [xv_gn, xv_ur, va_up, ho]) rfl (by simp [xv_gn, xv_ur, va_up]) ?_
  refine xv_vret dX0_init_58 rfl (Nat.le_of_ble_eq_true rfl) (Nat.le_of_ble_eq_true rfl) ?_
  exact hQ

def k_X11_G (G : xv_Gr) : xv_Gr := (xv_ur (xv_gn (xv_ur (xv_gn (xv_ur (xv_gn (xv_ur (xv_gn (xv_ur (xv_gn (xv_ur (xv_gn (xv_ur (xv_gn (xv_ur (xv_gn (xv_ur (xv_gn (xv_ur (xv_gn (xv_ur (xv_gn (xv_ur (xv_gn (xv_ur (xv_gn (xv_ur (xv_gn (xv_ur (xv_gn (xv_ur (xv_gn (xv_ur (xv_gn (xv_ur (xv_gn (xv_ur (xv_gn (xv_ur (xv_gn (xv_ur (xv_gn (xv_ur (xv_gn (xv_ur (xv_gn (xv_ur (xv_gn (xv_ur (xv_gn (xv_ur (xv_gn (xv_ur (xv_gn (xv_ur (xv_gn (xv_ur (xv_gn (xv_ur (xv_gn (xv_ur (xv_gn (xv_ur (xv_gn (xv_ur (xv_gn (xv_ur (xv_gn G 52 (.inr (0, 12))) 40 2 (some 52)) 53 (.inr (0, 12))) 40 3 (some 53)) 54 (.inr (0, 12))) 40 4 (some 54)) 55 (.inr (2, 12))) 40 5 (some 55)) 57 (.inr (0, 20))) 40 7 (some 57)) 58 (.inr (0, 20))) 40 8 (some 58)) 59 (.inr (0, 20))) 40 9 (some 59)) 60 (.inr (0, 20))) 40 10 (some 60)) 61 (.inr (0, 12))) 40 11 (some 61)) 62 (.inr (0, 12))) 40 12 (some 62)) 63 (.inr (0, 4))) 40 13 (some 63)) 64 (.inr (0, 4))) 40 14 (some 64)) 66 (.inr (0, 4096))) 40 16 (some 66)) 67 (.inr (0, 4096))) 40 17 (some 67)) 68 (.inr (0, 4096))) 40 18 (some 68)) 69 (.inr (0, 4096))) 40 19 (some 69)) 70 (.inr (0, 12))) 40 20 (some 70)) 72 (.inr (0, 12))) 40 22 (some 72)) 73 (.inr (0, 2))) 40 23 (some 73)) 75 (.inr (0, 40))) 40 25 (some 75)) 76 (.inr (2, 40))) 40 26 (some 76)) 80 (.inr (0, 8))) 40 30 (some 80)) 81 (.inr (0, 8))) 40 31 (some 81)) 82 (.inr (0, 8))) 40 32 (some 82)) 83 (.inr (2, 8))) 40 33 (some 83)) 84 (.inr (3, 4800))) 40 34 (some 84)) 85 (.inr (3, 4800))) 40 35 (some 85)) 86 (.inr (0, 4800))) 40 36 (some 86)) 90 (.inr (0, 4))) 40 40 (some 90)) 91 (.inr (0, 4))) 40 41 (some 91)) 92 (.inr (0, 240))) 40 42 (some 92)) 95 (.inr (0, 64))) 40 45 (some 95)) 97 (.inr (2, 64))) 40 47 (some 97)) 98 (.inr (3, 5))) 40 48 (some 98))
def k_X11_I (I : xv_I) : xv_I := (xv_ui (xv_ui (va_up (va_up (va_up (va_up (va_up (va_up (va_up (va_up (va_up (va_up (va_up (va_up (va_up (xv_ui (va_up (va_up (va_up (va_up (va_up (va_up (va_up (va_up (va_up (xv_ui (va_up (va_up (va_up (va_up (va_up (va_up (va_up (va_up (va_up (va_up (va_up (va_up (xv_ui I 40 0 100) 52 (fun _ => 0)) 53 (fun _ => 0)) 54 (fun _ => 0)) 55 (fun _ => 0)) 57 (fun _ => 0)) 58 (fun _ => 0)) 59 (fun _ => 0)) 60 (fun _ => 0)) 61 (fun _ => 0)) 62 (fun _ => 0)) 63 (fun _ => 0)) 64 (fun _ => 0)) 40 15 1) 66 (fun _ => 0)) 67 (fun _ => 0)) 68 (fun _ => 0)) 69 (fun _ => 0)) 70 (fun _ => 0)) 72 (fun _ => 0)) 73 (fun _ => 0)) 75 (fun _ => 0)) 76 (fun _ => 0)) 40 27 50) 80 (fun _ => 0)) 81 (fun _ => 0)) 82 (fun _ => 0)) 83 (fun _ => 0)) 84 (fun _ => 0)) 85 (fun _ => 0)) 86 (fun _ => 0)) 90 (fun _ => 0)) 91 (fun _ => 0)) 92 (fun _ => 0)) 95 (fun _ => 0)) 97 (fun _ => 0)) 98 (fun _ => 0)) 73 0 600) 73 1 600)
def k_X11_J (J : xv_J) : xv_J := (va_up (va_up (va_up (va_up (va_up (va_up (va_up (va_up (va_up (va_up (va_up (va_up (va_up (va_up (va_up (va_up (va_up (va_up (va_up (va_up (va_up (va_up (va_up (va_up (va_up (va_up (va_up (va_up (va_up (va_up (va_up (va_up (va_up (va_up J 52 (fun _ => 0)) 53 (fun _ => 0)) 54 (fun _ => 0)) 55 (fun _ => 0)) 57 (fun _ => 0)) 58 (fun _ => 0)) 59 (fun _ => 0)) 60 (fun _ => 0)) 61 (fun _ => 0)) 62 (fun _ => 0)) 63 (fun _ => 0)) 64 (fun _ => 0)) 66 (fun _ => 0)) 67 (fun _ => 0)) 68 (fun _ => 0)) 69 (fun _ => 0)) 70 (fun _ => 0)) 72 (fun _ => 0)) 73 (fun _ => 0)) 75 (fun _ => 0)) 76 (fun _ => 0)) 80 (fun _ => 0)) 81 (fun _ => 0)) 82 (fun _ => 0)) 83 (fun _ => 0)) 84 (fun _ => 0)) 85 (fun _ => 0)) 86 (fun _ => 0)) 90 (fun _ => 0)) 91 (fun _ => 0)) 92 (fun _ => 0)) 95 (fun _ => 0)) 97 (fun _ => 0)) 98 (fun _ => 0))
theorem s11_init {l : Launch} {D : va_G} {d : Nat} {G : xv_Gr} {I : xv_I} {J : xv_J} {Q : xv_Po} (ho : G.1 40 = some (.inl 11)) (hn : ∀ a, 50 ≤ a → a < 100 → G.1 a = none) (hQ : Q none (k_X11_G G) (k_X11_I I) (k_X11_J J)) : xv_Ev l D d mX11_init none 0 [some (.ref 40)] [] G I J 0 0 Q := by
  refine xv_aload_n dX11_init_0 rfl rfl ?_
  refine xv_objI dX11_init_1 ol_X11_1 ow_i ow_c (Nat.le_of_ble_eq_true rfl) ?_
  refine xv_aload_n dX11_init_4 rfl rfl ?_
  refine xv_bipush (v := 100) dX11_init_5 rfl ?_
  refine xv_puti dX11_init_7 fl_X11_7 ho rfl rfl rfl ?_
  refine xv_aload_n dX11_init_10 rfl rfl ?_
  refine xv_bipush (v := 12) dX11_init_11 rfl ?_
  refine xv_newa (a := 52) (N := 12) (t := 0) dX11_init_13 aw_int rfl rfl (by decide) (by decide) rfl (by decide) (hn 52 (by decide) (by decide)) (by decide) (Nat.le_of_ble_eq_true rfl) (Nat.le_of_ble_eq_true rfl) ?_
  refine xv_putrF dX11_init_15 fl_X11_13 rfl rfl ((gn_ne (by decide)).trans ho) rfl gn_nn ?_
  generalize hg1 : xv_ur (xv_gn G 52 (.inr (0, 12))) 40 2 (some 52) = G1
  have ho1 : G1.1 40 = some (.inl 11) := by rw [← hg1]; exact (gu_ne (by decide)).trans ho
  have hn1 : ∀ a, 53 ≤ a → a < 100 → G1.1 a = none := fun a h1 h2 => by rw [← hg1]; exact (gu_ne (by omega)).trans (hn a (by omega) h2)
  refine xv_aload_n dX11_init_18 rfl rfl ?_
  refine xv_bipush (v := 12) dX11_init_19 rfl ?_
  refine xv_newa (a := 53) (N := 12) (t := 0) dX11_init_21 aw_int rfl rfl (by decide) (by decide) rfl (by decide) (hn1 53 (by decide) (by decide)) (by decide) (Nat.le_of_ble_eq_true rfl) (Nat.le_of_ble_eq_true rfl) ?_
  refine xv_putrF dX11_init_23 fl_X11_17 rfl rfl ((gn_ne (by decide)).trans ho1) rfl gn_nn ?_
  generalize hg2 : xv_ur (xv_gn G1 53 (.inr (0, 12))) 40 3 (some 53) = G2
  have ho2 : G2.1 40 = some (.inl 11) := by rw [← hg2]; exact (gu_ne (by decide)).trans ho1
  have hn2 : ∀ a, 54 ≤ a → a < 100 → G2.1 a = none := fun a h1 h2 => by rw [← hg2]; exact (gu_ne (by omega)).trans (hn1 a (by omega) h2)
  refine xv_aload_n dX11_init_26 rfl rfl ?_
  refine xv_bipush (v := 12) dX11_init_27 rfl ?_
  refine xv_newa (a := 54) (N := 12) (t := 0) dX11_init_29 aw_int rfl rfl (by decide) (by decide) rfl (by decide) (hn2 54 (by decide) (by decide)) (by decide) (Nat.le_of_ble_eq_true rfl) (Nat.le_of_ble_eq_true rfl) ?_
  refine xv_putrF dX11_init_31 fl_X11_20 rfl rfl ((gn_ne (by decide)).trans ho2) rfl gn_nn ?_
  generalize hg3 : xv_ur (xv_gn G2 54 (.inr (0, 12))) 40 4 (some 54) = G3
  have ho3 : G3.1 40 = some (.inl 11) := by rw [← hg3]; exact (gu_ne (by decide)).trans ho2
  have hn3 : ∀ a, 55 ≤ a → a < 100 → G3.1 a = none := fun a h1 h2 => by rw [← hg3]; exact (gu_ne (by omega)).trans (hn2 a (by omega) h2)
  refine xv_aload_n dX11_init_34 rfl rfl ?_
  refine xv_bipush (v := 12) dX11_init_35 rfl ?_
  refine xv_newa (a := 55) (N := 12) (t := 2) dX11_init_37 aw_boolean rfl rfl (by decide) (by decide) rfl (by decide) (hn3 55 (by decide) (by decide)) (by decide) (Nat.le_of_ble_eq_true rfl) (Nat.le_of_ble_eq_true rfl) ?_
  refine xv_putrF dX11_init_39 fl_X11_23 rfl rfl ((gn_ne (by decide)).trans ho3) rfl gn_nn ?_
  generalize hg4 : xv_ur (xv_gn G3 55 (.inr (2, 12))) 40 5 (some 55) = G4
  have ho4 : G4.1 40 = some (.inl 11) := by rw [← hg4]; exact (gu_ne (by decide)).trans ho3
  have hn4 : ∀ a, 56 ≤ a → a < 100 → G4.1 a = none := fun a h1 h2 => by rw [← hg4]; exact (gu_ne (by omega)).trans (hn3 a (by omega) h2)
  refine xv_aload_n dX11_init_42 rfl rfl ?_
  refine xv_bipush (v := 20) dX11_init_43 rfl ?_
  refine xv_newa (a := 57) (N := 20) (t := 0) dX11_init_45 aw_int rfl rfl (by decide) (by decide) rfl (by decide) (hn4 57 (by decide) (by decide)) (by decide) (Nat.le_of_ble_eq_true rfl) (Nat.le_of_ble_eq_true rfl) ?_
  refine xv_putrF dX11_init_47 fl_X11_27 rfl rfl ((gn_ne (by decide)).trans ho4) rfl gn_nn ?_
  generalize hg5 : xv_ur (xv_gn G4 57 (.inr (0, 20))) 40 7 (some 57) = G5
  have ho5 : G5.1 40 = some (.inl 11) := by rw [← hg5]; exact (gu_ne (by decide)).trans ho4
  have hn5 : ∀ a, 58 ≤ a → a < 100 → G5.1 a = none := fun a h1 h2 => by rw [← hg5]; exact (gu_ne (by omega)).trans (hn4 a (by omega) h2)
  refine xv_aload_n dX11_init_50 rfl rfl ?_
  refine xv_bipush (v := 20) dX11_init_51 rfl ?_
  refine xv_newa (a := 58) (N := 20) (t := 0) dX11_init_53 aw_int rfl rfl (by decide) (by decide) rfl (by decide) (hn5 58 (by decide) (by decide)) (by decide) (Nat.le_of_ble_eq_true rfl) (Nat.le_of_ble_eq_true rfl) ?_
  refine xv_putrF dX11_init_55 fl_X11_30 rfl rfl ((gn_ne (by decide)).trans ho5) rfl gn_nn ?_
  generalize hg6 : xv_ur (xv_gn G5 58 (.inr (0, 20))) 40 8 (some 58) = G6
  have ho6 : G6.1 40 = some (.inl 11) := by rw [← hg6]; exact (gu_ne (by decide)).trans ho5
  have hn6 : ∀ a, 59 ≤ a → a < 100 → G6.1 a = none := fun a h1 h2 => by rw [← hg6]; exact (gu_ne (by omega)).trans (hn5 a (by omega) h2)
  refine xv_aload_n dX11_init_58 rfl rfl ?_
  refine xv_bipush (v := 20) dX11_init_59 rfl ?_
  refine xv_newa (a := 59) (N := 20) (t := 0) dX11_init_61 aw_int rfl rfl (by decide) (by decide) rfl (by decide) (hn6 59 (by decide) (by decide)) (by decide) (Nat.le_of_ble_eq_true rfl) (Nat.le_of_ble_eq_true rfl) ?_
  refine xv_putrF dX11_init_63 fl_X11_33 rfl rfl ((gn_ne (by decide)).trans ho6) rfl gn_nn ?_
  generalize hg7 : xv_ur (xv_gn G6 59 (.inr (0, 20))) 40 9 (some 59) = G7
  have ho7 : G7.1 40 = some (.inl 11) := by rw [← hg7]; exact (gu_ne (by decide)).trans ho6
  have hn7 : ∀ a, 60 ≤ a → a < 100 → G7.1 a = none := fun a h1 h2 => by rw [← hg7]; exact (gu_ne (by omega)).trans (hn6 a (by omega) h2)
  refine xv_aload_n dX11_init_66 rfl rfl ?_
  refine xv_bipush (v := 20) dX11_init_67 rfl ?_
  refine xv_newa (a := 60) (N := 20) (t := 0) dX11_init_69 aw_int rfl rfl (by decide) (by decide) rfl (by decide) (hn7 60 (by decide) (by decide)) (by decide) (Nat.le_of_ble_eq_true rfl) (Nat.le_of_ble_eq_true rfl) ?_
  refine xv_putrF dX11_init_71 fl_X11_36 rfl rfl ((gn_ne (by decide)).trans ho7) rfl gn_nn ?_
  generalize hg8 : xv_ur (xv_gn G7 60 (.inr (0, 20))) 40 10 (some 60) = G8
  have ho8 : G8.1 40 = some (.inl 11) := by rw [← hg8]; exact (gu_ne (by decide)).trans ho7
  have hn8 : ∀ a, 61 ≤ a → a < 100 → G8.1 a = none := fun a h1 h2 => by rw [← hg8]; exact (gu_ne (by omega)).trans (hn7 a (by omega) h2)
  refine xv_aload_n dX11_init_74 rfl rfl ?_
  refine xv_bipush (v := 12) dX11_init_75 rfl ?_
  refine xv_newa (a := 61) (N := 12) (t := 0) dX11_init_77 aw_int rfl rfl (by decide) (by decide) rfl (by decide) (hn8 61 (by decide) (by decide)) (by decide) (Nat.le_of_ble_eq_true rfl) (Nat.le_of_ble_eq_true rfl) ?_
  refine xv_putrF dX11_init_79 fl_X11_39 rfl rfl ((gn_ne (by decide)).trans ho8) rfl gn_nn ?_
  generalize hg9 : xv_ur (xv_gn G8 61 (.inr (0, 12))) 40 11 (some 61) = G9
  have ho9 : G9.1 40 = some (.inl 11) := by rw [← hg9]; exact (gu_ne (by decide)).trans ho8
  have hn9 : ∀ a, 62 ≤ a → a < 100 → G9.1 a = none := fun a h1 h2 => by rw [← hg9]; exact (gu_ne (by omega)).trans (hn8 a (by omega) h2)
  refine xv_aload_n dX11_init_82 rfl rfl ?_
  refine xv_bipush (v := 12) dX11_init_83 rfl ?_
  refine xv_newa (a := 62) (N := 12) (t := 0) dX11_init_85 aw_int rfl rfl (by decide) (by decide) rfl (by decide) (hn9 62 (by decide) (by decide)) (by decide) (Nat.le_of_ble_eq_true rfl) (Nat.le_of_ble_eq_true rfl) ?_
  refine xv_putrF dX11_init_87 fl_X11_42 rfl rfl ((gn_ne (by decide)).trans ho9) rfl gn_nn ?_
  generalize hg10 : xv_ur (xv_gn G9 62 (.inr (0, 12))) 40 12 (some 62) = G10
  have ho10 : G10.1 40 = some (.inl 11) := by rw [← hg10]; exact (gu_ne (by decide)).trans ho9
  have hn10 : ∀ a, 63 ≤ a → a < 100 → G10.1 a = none := fun a h1 h2 => by rw [← hg10]; exact (gu_ne (by omega)).trans (hn9 a (by omega) h2)
  refine xv_aload_n dX11_init_90 rfl rfl ?_
  refine xv_iconst (v := 4) dX11_init_91 rfl ?_
  refine xv_newa (a := 63) (N := 4) (t := 0) dX11_init_92 aw_int rfl rfl (by decide) (by decide) rfl (by decide) (hn10 63 (by decide) (by decide)) (by decide) (Nat.le_of_ble_eq_true rfl) (Nat.le_of_ble_eq_true rfl) ?_
  refine xv_putrF dX11_init_94 fl_X11_45 rfl rfl ((gn_ne (by decide)).trans ho10) rfl gn_nn ?_
  generalize hg11 : xv_ur (xv_gn G10 63 (.inr (0, 4))) 40 13 (some 63) = G11
  have ho11 : G11.1 40 = some (.inl 11) := by rw [← hg11]; exact (gu_ne (by decide)).trans ho10
  have hn11 : ∀ a, 64 ≤ a → a < 100 → G11.1 a = none := fun a h1 h2 => by rw [← hg11]; exact (gu_ne (by omega)).trans (hn10 a (by omega) h2)
  refine xv_aload_n dX11_init_97 rfl rfl ?_
  refine xv_iconst (v := 4) dX11_init_98 rfl ?_
  refine xv_newa (a := 64) (N := 4) (t := 0) dX11_init_99 aw_int rfl rfl (by decide) (by decide) rfl (by decide) (hn11 64 (by decide) (by decide)) (by decide) (Nat.le_of_ble_eq_true rfl) (Nat.le_of_ble_eq_true rfl) ?_
  refine xv_putrF dX11_init_101 fl_X11_48 rfl rfl ((gn_ne (by decide)).trans ho11) rfl gn_nn ?_
  generalize hg12 : xv_ur (xv_gn G11 64 (.inr (0, 4))) 40 14 (some 64) = G12
  have ho12 : G12.1 40 = some (.inl 11) := by rw [← hg12]; exact (gu_ne (by decide)).trans ho11
  have hn12 : ∀ a, 65 ≤ a → a < 100 → G12.1 a = none := fun a h1 h2 => by rw [← hg12]; exact (gu_ne (by omega)).trans (hn11 a (by omega) h2)
  refine xv_aload_n dX11_init_104 rfl rfl ?_
  refine xv_iconst (v := 1) dX11_init_105 rfl ?_
  refine xv_puti dX11_init_106 fl_X11_51 ho12 rfl rfl rfl ?_
  refine xv_aload_n dX11_init_109 rfl rfl ?_
  refine xv_sipush (v := 4096) dX11_init_110 rfl ?_
  refine xv_newa (a := 66) (N := 4096) (t := 0) dX11_init_113 aw_int rfl rfl (by decide) (by decide) rfl (by decide) (hn12 66 (by decide) (by decide)) (by decide) (Nat.le_of_ble_eq_true rfl) (Nat.le_of_ble_eq_true rfl) ?_
  refine xv_putrF dX11_init_115 fl_X11_54 rfl rfl ((gn_ne (by decide)).trans ho12) rfl gn_nn ?_
  generalize hg13 : xv_ur (xv_gn G12 66 (.inr (0, 4096))) 40 16 (some 66) = G13
  have ho13 : G13.1 40 = some (.inl 11) := by rw [← hg13]; exact (gu_ne (by decide)).trans ho12
  have hn13 : ∀ a, 67 ≤ a → a < 100 → G13.1 a = none := fun a h1 h2 => by rw [← hg13]; exact (gu_ne (by omega)).trans (hn12 a (by omega) h2)
  refine xv_aload_n dX11_init_118 rfl rfl ?_
  refine xv_sipush (v := 4096) dX11_init_119 rfl ?_
  refine xv_newa (a := 67) (N := 4096) (t := 0) dX11_init_122 aw_int rfl rfl (by decide) (by decide) rfl (by decide) (hn13 67 (by decide) (by decide)) (by decide) (Nat.le_of_ble_eq_true rfl) (Nat.le_of_ble_eq_true rfl) ?_
  refine xv_putrF dX11_init_124 fl_X11_57 rfl rfl ((gn_ne (by decide)).trans ho13) rfl gn_nn ?_
  generalize hg14 : xv_ur (xv_gn G13 67 (.inr (0, 4096))) 40 17 (some 67) = G14
  have ho14 : G14.1 40 = some (.inl 11) := by rw [← hg14]; exact (gu_ne (by decide)).trans ho13
  have hn14 : ∀ a, 68 ≤ a → a < 100 → G14.1 a = none := fun a h1 h2 => by rw [← hg14]; exact (gu_ne (by omega)).trans (hn13 a (by omega) h2)
  refine xv_aload_n dX11_init_127 rfl rfl ?_
  refine xv_sipush (v := 4096) dX11_init_128 rfl ?_
  refine xv_newa (a := 68) (N := 4096) (t := 0) dX11_init_131 aw_int rfl rfl (by decide) (by decide) rfl (by decide) (hn14 68 (by decide) (by decide)) (by decide) (Nat.le_of_ble_eq_true rfl) (Nat.le_of_ble_eq_true rfl) ?_
  refine xv_putrF dX11_init_133 fl_X11_60 rfl rfl ((gn_ne (by decide)).trans ho14) rfl gn_nn ?_
  generalize hg15 : xv_ur (xv_gn G14 68 (.inr (0, 4096))) 40 18 (some 68) = G15
  have ho15 : G15.1 40 = some (.inl 11) := by rw [← hg15]; exact (gu_ne (by decide)).trans ho14
  have hn15 : ∀ a, 69 ≤ a → a < 100 → G15.1 a = none := fun a h1 h2 => by rw [← hg15]; exact (gu_ne (by omega)).trans (hn14 a (by omega) h2)
  refine xv_aload_n dX11_init_136 rfl rfl ?_
  refine xv_sipush (v := 4096) dX11_init_137 rfl ?_
  refine xv_newa (a := 69) (N := 4096) (t := 0) dX11_init_140 aw_int rfl rfl (by decide) (by decide) rfl (by decide) (hn15 69 (by decide) (by decide)) (by decide) (Nat.le_of_ble_eq_true rfl) (Nat.le_of_ble_eq_true rfl) ?_
  refine xv_putrF dX11_init_142 fl_X11_63 rfl rfl ((gn_ne (by decide)).trans ho15) rfl gn_nn ?_
  generalize hg16 : xv_ur (xv_gn G15 69 (.inr (0, 4096))) 40 19 (some 69) = G16
  have ho16 : G16.1 40 = some (.inl 11) := by rw [← hg16]; exact (gu_ne (by decide)).trans ho15
  have hn16 : ∀ a, 70 ≤ a → a < 100 → G16.1 a = none := fun a h1 h2 => by rw [← hg16]; exact (gu_ne (by omega)).trans (hn15 a (by omega) h2)
  refine xv_aload_n dX11_init_145 rfl rfl ?_
  refine xv_bipush (v := 12) dX11_init_146 rfl ?_
  refine xv_newa (a := 70) (N := 12) (t := 0) dX11_init_148 aw_int rfl rfl (by decide) (by decide) rfl (by decide) (hn16 70 (by decide) (by decide)) (by decide) (Nat.le_of_ble_eq_true rfl) (Nat.le_of_ble_eq_true rfl) ?_
  refine xv_putrF dX11_init_150 fl_X11_66 rfl rfl ((gn_ne (by decide)).trans ho16) rfl gn_nn ?_
  generalize hg17 : xv_ur (xv_gn G16 70 (.inr (0, 12))) 40 20 (some 70) = G17
  have ho17 : G17.1 40 = some (.inl 11) := by rw [← hg17]; exact (gu_ne (by decide)).trans ho16
  have hn17 : ∀ a, 71 ≤ a → a < 100 → G17.1 a = none := fun a h1 h2 => by rw [← hg17]; exact (gu_ne (by omega)).trans (hn16 a (by omega) h2)
  refine xv_aload_n dX11_init_153 rfl rfl ?_
  refine xv_bipush (v := 12) dX11_init_154 rfl ?_
  refine xv_newa (a := 72) (N := 12) (t := 0) dX11_init_156 aw_int rfl rfl (by decide) (by decide) rfl (by decide) (hn17 72 (by decide) (by decide)) (by decide) (Nat.le_of_ble_eq_true rfl) (Nat.le_of_ble_eq_true rfl) ?_
  refine xv_putrF dX11_init_158 fl_X11_69 rfl rfl ((gn_ne (by decide)).trans ho17) rfl gn_nn ?_
  generalize hg18 : xv_ur (xv_gn G17 72 (.inr (0, 12))) 40 22 (some 72) = G18
  have ho18 : G18.1 40 = some (.inl 11) := by rw [← hg18]; exact (gu_ne (by decide)).trans ho17
  have hn18 : ∀ a, 73 ≤ a → a < 100 → G18.1 a = none := fun a h1 h2 => by rw [← hg18]; exact (gu_ne (by omega)).trans (hn17 a (by omega) h2)
  refine xv_aload_n dX11_init_161 rfl rfl ?_
  refine xv_iconst (v := 2) dX11_init_162 rfl ?_
  refine xv_newa (a := 73) (N := 2) (t := 0) dX11_init_163 aw_int rfl rfl (by decide) (by decide) rfl (by decide) (hn18 73 (by decide) (by decide)) (by decide) (Nat.le_of_ble_eq_true rfl) (Nat.le_of_ble_eq_true rfl) ?_
  refine xv_putrF dX11_init_165 fl_X11_72 rfl rfl ((gn_ne (by decide)).trans ho18) rfl gn_nn ?_
  generalize hg19 : xv_ur (xv_gn G18 73 (.inr (0, 2))) 40 23 (some 73) = G19
  have ho19 : G19.1 40 = some (.inl 11) := by rw [← hg19]; exact (gu_ne (by decide)).trans ho18
  have hn19 : ∀ a, 74 ≤ a → a < 100 → G19.1 a = none := fun a h1 h2 => by rw [← hg19]; exact (gu_ne (by omega)).trans (hn18 a (by omega) h2)
  refine xv_aload_n dX11_init_168 rfl rfl ?_
  refine xv_bipush (v := 40) dX11_init_169 rfl ?_
  refine xv_newa (a := 75) (N := 40) (t := 0) dX11_init_171 aw_int rfl rfl (by decide) (by decide) rfl (by decide) (hn19 75 (by decide) (by decide)) (by decide) (Nat.le_of_ble_eq_true rfl) (Nat.le_of_ble_eq_true rfl) ?_
  refine xv_putrF dX11_init_173 fl_X11_75 rfl rfl ((gn_ne (by decide)).trans ho19) rfl gn_nn ?_
  generalize hg20 : xv_ur (xv_gn G19 75 (.inr (0, 40))) 40 25 (some 75) = G20
  have ho20 : G20.1 40 = some (.inl 11) := by rw [← hg20]; exact (gu_ne (by decide)).trans ho19
  have hn20 : ∀ a, 76 ≤ a → a < 100 → G20.1 a = none := fun a h1 h2 => by rw [← hg20]; exact (gu_ne (by omega)).trans (hn19 a (by omega) h2)
  refine xv_aload_n dX11_init_176 rfl rfl ?_
  refine xv_bipush (v := 40) dX11_init_177 rfl ?_
  refine xv_newa (a := 76) (N := 40) (t := 2) dX11_init_179 aw_boolean rfl rfl (by decide) (by decide) rfl (by decide) (hn20 76 (by decide) (by decide)) (by decide) (Nat.le_of_ble_eq_true rfl) (Nat.le_of_ble_eq_true rfl) ?_
  refine xv_putrF dX11_init_181 fl_X11_78 rfl rfl ((gn_ne (by decide)).trans ho20) rfl gn_nn ?_
  generalize hg21 : xv_ur (xv_gn G20 76 (.inr (2, 40))) 40 26 (some 76) = G21
  have ho21 : G21.1 40 = some (.inl 11) := by rw [← hg21]; exact (gu_ne (by decide)).trans ho20
  have hn21 : ∀ a, 77 ≤ a → a < 100 → G21.1 a = none := fun a h1 h2 => by rw [← hg21]; exact (gu_ne (by omega)).trans (hn20 a (by omega) h2)
  refine xv_aload_n dX11_init_184 rfl rfl ?_
  refine xv_bipush (v := 50) dX11_init_185 rfl ?_
  refine xv_puti dX11_init_187 fl_X11_81 ho21 rfl rfl rfl ?_
  refine xv_aload_n dX11_init_190 rfl rfl ?_
  refine xv_bipush (v := 8) dX11_init_191 rfl ?_
  refine xv_newa (a := 80) (N := 8) (t := 0) dX11_init_193 aw_int rfl rfl (by decide) (by decide) rfl (by decide) (hn21 80 (by decide) (by decide)) (by decide) (Nat.le_of_ble_eq_true rfl) (Nat.le_of_ble_eq_true rfl) ?_
  refine xv_putrF dX11_init_195 fl_X11_84 rfl rfl ((gn_ne (by decide)).trans ho21) rfl gn_nn ?_
  generalize hg22 : xv_ur (xv_gn G21 80 (.inr (0, 8))) 40 30 (some 80) = G22
  have ho22 : G22.1 40 = some (.inl 11) := by rw [← hg22]; exact (gu_ne (by decide)).trans ho21
  have hn22 : ∀ a, 81 ≤ a → a < 100 → G22.1 a = none := fun a h1 h2 => by rw [← hg22]; exact (gu_ne (by omega)).trans (hn21 a (by omega) h2)
  refine xv_aload_n dX11_init_198 rfl rfl ?_
  refine xv_bipush (v := 8) dX11_init_199 rfl ?_
  refine xv_newa (a := 81) (N := 8) (t := 0) dX11_init_201 aw_int rfl rfl (by decide) (by decide) rfl (by decide) (hn22 81 (by decide) (by decide)) (by decide) (Nat.le_of_ble_eq_true rfl) (Nat.le_of_ble_eq_true rfl) ?_
  refine xv_putrF dX11_init_203 fl_X11_87 rfl rfl ((gn_ne (by decide)).trans ho22) rfl gn_nn ?_
  generalize hg23 : xv_ur (xv_gn G22 81 (.inr (0, 8))) 40 31 (some 81) = G23
  have ho23 : G23.1 40 = some (.inl 11) := by rw [← hg23]; exact (gu_ne (by decide)).trans ho22
  have hn23 : ∀ a, 82 ≤ a → a < 100 → G23.1 a = none := fun a h1 h2 => by rw [← hg23]; exact (gu_ne (by omega)).trans (hn22 a (by omega) h2)
  refine xv_aload_n dX11_init_206 rfl rfl ?_
  refine xv_bipush (v := 8) dX11_init_207 rfl ?_
  refine xv_newa (a := 82) (N := 8) (t := 0) dX11_init_209 aw_int rfl rfl (by decide) (by decide) rfl (by decide) (hn23 82 (by decide) (by decide)) (by decide) (Nat.le_of_ble_eq_true rfl) (Nat.le_of_ble_eq_true rfl) ?_
  refine xv_putrF dX11_init_211 fl_X11_90 rfl rfl ((gn_ne (by decide)).trans ho23) rfl gn_nn ?_
  generalize hg24 : xv_ur (xv_gn G23 82 (.inr (0, 8))) 40 32 (some 82) = G24
  have ho24 : G24.1 40 = some (.inl 11) := by rw [← hg24]; exact (gu_ne (by decide)).trans ho23
  have hn24 : ∀ a, 83 ≤ a → a < 100 → G24.1 a = none := fun a h1 h2 => by rw [← hg24]; exact (gu_ne (by omega)).trans (hn23 a (by omega) h2)
  refine xv_aload_n dX11_init_214 rfl rfl ?_
  refine xv_bipush (v := 8) dX11_init_215 rfl ?_
  refine xv_newa (a := 83) (N := 8) (t := 2) dX11_init_217 aw_boolean rfl rfl (by decide) (by decide) rfl (by decide) (hn24 83 (by decide) (by decide)) (by decide) (Nat.le_of_ble_eq_true rfl) (Nat.le_of_ble_eq_true rfl) ?_
  refine xv_putrF dX11_init_219 fl_X11_93 rfl rfl ((gn_ne (by decide)).trans ho24) rfl gn_nn ?_
  generalize hg25 : xv_ur (xv_gn G24 83 (.inr (2, 8))) 40 33 (some 83) = G25
  have ho25 : G25.1 40 = some (.inl 11) := by rw [← hg25]; exact (gu_ne (by decide)).trans ho24
  have hn25 : ∀ a, 84 ≤ a → a < 100 → G25.1 a = none := fun a h1 h2 => by rw [← hg25]; exact (gu_ne (by omega)).trans (hn24 a (by omega) h2)
  refine xv_aload_n dX11_init_222 rfl rfl ?_
  refine xv_sipush (v := 4800) dX11_init_223 rfl ?_
  refine xv_newa (a := 84) (N := 4800) (t := 3) dX11_init_226 aw_long rfl rfl (by decide) (by decide) rfl (by decide) (hn25 84 (by decide) (by decide)) (by decide) (Nat.le_of_ble_eq_true rfl) (Nat.le_of_ble_eq_true rfl) ?_
  refine xv_putrF dX11_init_228 fl_X11_96 rfl rfl ((gn_ne (by decide)).trans ho25) rfl gn_nn ?_
  generalize hg26 : xv_ur (xv_gn G25 84 (.inr (3, 4800))) 40 34 (some 84) = G26
  have ho26 : G26.1 40 = some (.inl 11) := by rw [← hg26]; exact (gu_ne (by decide)).trans ho25
  have hn26 : ∀ a, 85 ≤ a → a < 100 → G26.1 a = none := fun a h1 h2 => by rw [← hg26]; exact (gu_ne (by omega)).trans (hn25 a (by omega) h2)
  refine xv_aload_n dX11_init_231 rfl rfl ?_
  refine xv_sipush (v := 4800) dX11_init_232 rfl ?_
  refine xv_newa (a := 85) (N := 4800) (t := 3) dX11_init_235 aw_long rfl rfl (by decide) (by decide) rfl (by decide) (hn26 85 (by decide) (by decide)) (by decide) (Nat.le_of_ble_eq_true rfl) (Nat.le_of_ble_eq_true rfl) ?_
  refine xv_putrF dX11_init_237 fl_X11_100 rfl rfl ((gn_ne (by decide)).trans ho26) rfl gn_nn ?_
  generalize hg27 : xv_ur (xv_gn G26 85 (.inr (3, 4800))) 40 35 (some 85) = G27
  have ho27 : G27.1 40 = some (.inl 11) := by rw [← hg27]; exact (gu_ne (by decide)).trans ho26
  have hn27 : ∀ a, 86 ≤ a → a < 100 → G27.1 a = none := fun a h1 h2 => by rw [← hg27]; exact (gu_ne (by omega)).trans (hn26 a (by omega) h2)
  refine xv_aload_n dX11_init_240 rfl rfl ?_
  refine xv_sipush (v := 4800) dX11_init_241 rfl ?_
  refine xv_newa (a := 86) (N := 4800) (t := 0) dX11_init_244 aw_int rfl rfl (by decide) (by decide) rfl (by decide) (hn27 86 (by decide) (by decide)) (by decide) (Nat.le_of_ble_eq_true rfl) (Nat.le_of_ble_eq_true rfl) ?_
  refine xv_putrF dX11_init_246 fl_X11_103 rfl rfl ((gn_ne (by decide)).trans ho27) rfl gn_nn ?_
  generalize hg28 : xv_ur (xv_gn G27 86 (.inr (0, 4800))) 40 36 (some 86) = G28
  have ho28 : G28.1 40 = some (.inl 11) := by rw [← hg28]; exact (gu_ne (by decide)).trans ho27
  have hn28 : ∀ a, 87 ≤ a → a < 100 → G28.1 a = none := fun a h1 h2 => by rw [← hg28]; exact (gu_ne (by omega)).trans (hn27 a (by omega) h2)
  refine xv_aload_n dX11_init_249 rfl rfl ?_
  refine xv_iconst (v := 4) dX11_init_250 rfl ?_
  refine xv_newa (a := 90) (N := 4) (t := 0) dX11_init_251 aw_int rfl rfl (by decide) (by decide) rfl (by decide) (hn28 90 (by decide) (by decide)) (by decide) (Nat.le_of_ble_eq_true rfl) (Nat.le_of_ble_eq_true rfl) ?_
  refine xv_putrF dX11_init_253 fl_X11_106 rfl rfl ((gn_ne (by decide)).trans ho28) rfl gn_nn ?_
  generalize hg29 : xv_ur (xv_gn G28 90 (.inr (0, 4))) 40 40 (some 90) = G29
  have ho29 : G29.1 40 = some (.inl 11) := by rw [← hg29]; exact (gu_ne (by decide)).trans ho28
  have hn29 : ∀ a, 91 ≤ a → a < 100 → G29.1 a = none := fun a h1 h2 => by rw [← hg29]; exact (gu_ne (by omega)).trans (hn28 a (by omega) h2)
  refine xv_aload_n dX11_init_256 rfl rfl ?_
  refine xv_iconst (v := 4) dX11_init_257 rfl ?_
  refine xv_newa (a := 91) (N := 4) (t := 0) dX11_init_258 aw_int rfl rfl (by decide) (by decide) rfl (by decide) (hn29 91 (by decide) (by decide)) (by decide) (Nat.le_of_ble_eq_true rfl) (Nat.le_of_ble_eq_true rfl) ?_
  refine xv_putrF dX11_init_260 fl_X11_109 rfl rfl ((gn_ne (by decide)).trans ho29) rfl gn_nn ?_
  generalize hg30 : xv_ur (xv_gn G29 91 (.inr (0, 4))) 40 41 (some 91) = G30
  have ho30 : G30.1 40 = some (.inl 11) := by rw [← hg30]; exact (gu_ne (by decide)).trans ho29
  have hn30 : ∀ a, 92 ≤ a → a < 100 → G30.1 a = none := fun a h1 h2 => by rw [← hg30]; exact (gu_ne (by omega)).trans (hn29 a (by omega) h2)
  refine xv_aload_n dX11_init_263 rfl rfl ?_
  refine xv_sipush (v := 240) dX11_init_264 rfl ?_
  refine xv_newa (a := 92) (N := 240) (t := 0) dX11_init_267 aw_int rfl rfl (by decide) (by decide) rfl (by decide) (hn30 92 (by decide) (by decide)) (by decide) (Nat.le_of_ble_eq_true rfl) (Nat.le_of_ble_eq_true rfl) ?_
  refine xv_putrF dX11_init_269 fl_X11_112 rfl rfl ((gn_ne (by decide)).trans ho30) rfl gn_nn ?_
  generalize hg31 : xv_ur (xv_gn G30 92 (.inr (0, 240))) 40 42 (some 92) = G31
  have ho31 : G31.1 40 = some (.inl 11) := by rw [← hg31]; exact (gu_ne (by decide)).trans ho30
  have hn31 : ∀ a, 93 ≤ a → a < 100 → G31.1 a = none := fun a h1 h2 => by rw [← hg31]; exact (gu_ne (by omega)).trans (hn30 a (by omega) h2)
  refine xv_aload_n dX11_init_272 rfl rfl ?_
  refine xv_bipush (v := 64) dX11_init_273 rfl ?_
  refine xv_newa (a := 95) (N := 64) (t := 0) dX11_init_275 aw_int rfl rfl (by decide) (by decide) rfl (by decide) (hn31 95 (by decide) (by decide)) (by decide) (Nat.le_of_ble_eq_true rfl) (Nat.le_of_ble_eq_true rfl) ?_
  refine xv_putrF dX11_init_277 fl_X11_115 rfl rfl ((gn_ne (by decide)).trans ho31) rfl gn_nn ?_
  generalize hg32 : xv_ur (xv_gn G31 95 (.inr (0, 64))) 40 45 (some 95) = G32
  have ho32 : G32.1 40 = some (.inl 11) := by rw [← hg32]; exact (gu_ne (by decide)).trans ho31
  have hn32 : ∀ a, 96 ≤ a → a < 100 → G32.1 a = none := fun a h1 h2 => by rw [← hg32]; exact (gu_ne (by omega)).trans (hn31 a (by omega) h2)
  refine xv_aload_n dX11_init_280 rfl rfl ?_
  refine xv_bipush (v := 64) dX11_init_281 rfl ?_
  refine xv_newa (a := 97) (N := 64) (t := 2) dX11_init_283 aw_boolean rfl rfl (by decide) (by decide) rfl (by decide) (hn32 97 (by decide) (by decide)) (by decide) (Nat.le_of_ble_eq_true rfl) (Nat.le_of_ble_eq_true rfl) ?_
  refine xv_putrF dX11_init_285 fl_X11_118 rfl rfl ((gn_ne (by decide)).trans ho32) rfl gn_nn ?_
  generalize hg33 : xv_ur (xv_gn G32 97 (.inr (2, 64))) 40 47 (some 97) = G33
  have ho33 : G33.1 40 = some (.inl 11) := by rw [← hg33]; exact (gu_ne (by decide)).trans ho32
  have hn33 : ∀ a, 98 ≤ a → a < 100 → G33.1 a = none := fun a h1 h2 => by rw [← hg33]; exact (gu_ne (by omega)).trans (hn32 a (by omega) h2)
  refine xv_aload_n dX11_init_288 rfl rfl ?_
  refine xv_iconst (v := 5) dX11_init_289 rfl ?_
  refine xv_newa (a := 98) (N := 5) (t := 3) dX11_init_290 aw_long rfl rfl (by decide) (by decide) rfl (by decide) (hn33 98 (by decide) (by decide)) (by decide) (Nat.le_of_ble_eq_true rfl) (Nat.le_of_ble_eq_true rfl) ?_
  refine xv_putrF dX11_init_292 fl_X11_121 rfl rfl ((gn_ne (by decide)).trans ho33) rfl gn_nn ?_
  generalize hg34 : xv_ur (xv_gn G33 98 (.inr (3, 5))) 40 48 (some 98) = G34
  have ho34 : G34.1 40 = some (.inl 11) := by rw [← hg34]; exact (gu_ne (by decide)).trans ho33
  have hn34 : ∀ a, 99 ≤ a → a < 100 → G34.1 a = none := fun a h1 h2 => by rw [← hg34]; exact (gu_ne (by omega)).trans (hn33 a (by omega) h2)
  have hs19 : G19.1 73 = some (Sum.inr (0, 2)) := by rw [← hg19]; exact gu_eq
  have hr19 : G19.2 40 23 = some 73 := by rw [← hg19]; simp [xv_gn, xv_ur, va_up]
  have hs20 : G20.1 73 = some (Sum.inr (0, 2)) := by rw [← hg20]; exact (gu_ne (by decide)).trans hs19
  have hr20 : G20.2 40 23 = some 73 := by rw [← hg20]; simp [xv_gn, xv_ur, va_up]; exact hr19
  have hs21 : G21.1 73 = some (Sum.inr (0, 2)) := by rw [← hg21]; exact (gu_ne (by decide)).trans hs20
  have hr21 : G21.2 40 23 = some 73 := by rw [← hg21]; simp [xv_gn, xv_ur, va_up]; exact hr20
  have hs22 : G22.1 73 = some (Sum.inr (0, 2)) := by rw [← hg22]; exact (gu_ne (by decide)).trans hs21
  have hr22 : G22.2 40 23 = some 73 := by rw [← hg22]; simp [xv_gn, xv_ur, va_up]; exact hr21
  have hs23 : G23.1 73 = some (Sum.inr (0, 2)) := by rw [← hg23]; exact (gu_ne (by decide)).trans hs22
  have hr23 : G23.2 40 23 = some 73 := by rw [← hg23]; simp [xv_gn, xv_ur, va_up]; exact hr22
  have hs24 : G24.1 73 = some (Sum.inr (0, 2)) := by rw [← hg24]; exact (gu_ne (by decide)).trans hs23
  have hr24 : G24.2 40 23 = some 73 := by rw [← hg24]; simp [xv_gn, xv_ur, va_up]; exact hr23
  have hs25 : G25.1 73 = some (Sum.inr (0, 2)) := by rw [← hg25]; exact (gu_ne (by decide)).trans hs24
  have hr25 : G25.2 40 23 = some 73 := by rw [← hg25]; simp [xv_gn, xv_ur, va_up]; exact hr24
  have hs26 : G26.1 73 = some (Sum.inr (0, 2)) := by rw [← hg26]; exact (gu_ne (by decide)).trans hs25
  have hr26 : G26.2 40 23 = some 73 := by rw [← hg26]; simp [xv_gn, xv_ur, va_up]; exact hr25
  have hs27 : G27.1 73 = some (Sum.inr (0, 2)) := by rw [← hg27]; exact (gu_ne (by decide)).trans hs26
  have hr27 : G27.2 40 23 = some 73 := by rw [← hg27]; simp [xv_gn, xv_ur, va_up]; exact hr26
  have hs28 : G28.1 73 = some (Sum.inr (0, 2)) := by rw [← hg28]; exact (gu_ne (by decide)).trans hs27
  have hr28 : G28.2 40 23 = some 73 := by rw [← hg28]; simp [xv_gn, xv_ur, va_up]; exact hr27
  have hs29 : G29.1 73 = some (Sum.inr (0, 2)) := by rw [← hg29]; exact (gu_ne (by decide)).trans hs28
  have hr29 : G29.2 40 23 = some 73 := by rw [← hg29]; simp [xv_gn, xv_ur, va_up]; exact hr28
  have hs30 : G30.1 73 = some (Sum.inr (0, 2)) := by rw [← hg30]; exact (gu_ne (by decide)).trans hs29
  have hr30 : G30.2 40 23 = some 73 := by rw [← hg30]; simp [xv_gn, xv_ur, va_up]; exact hr29
  have hs31 : G31.1 73 = some (Sum.inr (0, 2)) := by rw [← hg31]; exact (gu_ne (by decide)).trans hs30
  have hr31 : G31.2 40 23 = some 73 := by rw [← hg31]; simp [xv_gn, xv_ur, va_up]; exact hr30
  have hs32 : G32.1 73 = some (Sum.inr (0, 2)) := by rw [← hg32]; exact (gu_ne (by decide)).trans hs31
  have hr32 : G32.2 40 23 = some 73 := by rw [← hg32]; simp [xv_gn, xv_ur, va_up]; exact hr31
  have hs33 : G33.1 73 = some (Sum.inr (0, 2)) := by rw [← hg33]; exact (gu_ne (by decide)).trans hs32
  have hr33 : G33.2 40 23 = some 73 := by rw [← hg33]; simp [xv_gn, xv_ur, va_up]; exact hr32
  have hs34 : G34.1 73 = some (Sum.inr (0, 2)) := by rw [← hg34]; exact (gu_ne (by decide)).trans hs33
  have hr34 : G34.2 40 23 = some 73 := by rw [← hg34]; simp [xv_gn, xv_ur, va_up]; exact hr33
  refine xv_aload_n dX11_init_295 rfl rfl ?_
  refine xv_getr dX11_init_296 fl_X11_72 ho34 rfl hr34 ?_
  refine xv_iconst (v := nI 0) dX11_init_299 rfl ?_
  refine xv_sipush (v := 600) dX11_init_300 rfl ?_
  refine xv_iastore dX11_init_303 hs34 (xv_ixn (by omega) (by decide)) ?_
  refine xv_aload_n dX11_init_304 rfl rfl ?_
  refine xv_getr dX11_init_305 fl_X11_72 ho34 rfl hr34 ?_
  refine xv_iconst (v := nI 1) dX11_init_308 rfl ?_
  refine xv_sipush (v := 600) dX11_init_309 rfl ?_
  refine xv_iastore dX11_init_312 hs34 (xv_ixn (by omega) (by decide)) ?_
  refine xv_vret dX11_init_313 rfl (Nat.le_of_ble_eq_true rfl) (Nat.le_of_ble_eq_true rfl) ?_
  subst hg1 hg2 hg3 hg4 hg5 hg6 hg7 hg8 hg9 hg10 hg11 hg12 hg13 hg14 hg15 hg16 hg17 hg18 hg19 hg20 hg21 hg22 hg23 hg24 hg25 hg26 hg27 hg28 hg29 hg30 hg31 hg32 hg33 hg34
  exact hQ
