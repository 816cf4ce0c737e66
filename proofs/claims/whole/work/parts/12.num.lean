/-! rules with plain conditions: numbers nI, truth values xb (decide ..) -/
section XV7
variable {l : Launch} {D : va_G} {d : Nat} {mt : xv_MT} {sx : xv_Sc} {pc : Nat} {ls : List (Option Value)} {st : List Value} {G : xv_Gr} {I : xv_I} {J : xv_J} {uc us : Nat} {Q : xv_Po}
-- eq: ('x = y', '¬ x = y')
-- ne: ('¬ x = y', 'x = y')
-- lt: ('x < y', '¬ x < y')
-- ge: ('y ≤ x', '¬ y ≤ x')
-- gt: ('y < x', '¬ y < x')
-- le: ('x ≤ y', '¬ x ≤ y')
theorem xv_icmp_eqN {a b : Nat} {off : Int} {tgt : Nat} (h : decode mt.2.1 pc = .ok (.if_icmp .eq off, 3)) (ht : (pc : Int) + off = (tgt : Int)) (ha : a < 2 ^ 31) (hb : b < 2 ^ 31)
    (kt : a = b → xv_Ev l D d mt sx tgt ls st G I J uc us Q) (kf : ¬ a = b → xv_Ev l D d mt sx (pc + 3) ls st G I J uc us Q) : xv_Ev l D d mt sx pc ls (.int (nI b) :: .int (nI a) :: st) G I J uc us Q :=
  xv_icmp_eq h ht (fun c => kt ((nI_eq ha hb).mp c)) (fun c => kf ((fun e => c (by rw [e]))))
theorem xv_icmp_neN {a b : Nat} {off : Int} {tgt : Nat} (h : decode mt.2.1 pc = .ok (.if_icmp .ne off, 3)) (ht : (pc : Int) + off = (tgt : Int)) (ha : a < 2 ^ 31) (hb : b < 2 ^ 31)
    (kt : ¬ a = b → xv_Ev l D d mt sx tgt ls st G I J uc us Q) (kf : a = b → xv_Ev l D d mt sx (pc + 3) ls st G I J uc us Q) : xv_Ev l D d mt sx pc ls (.int (nI b) :: .int (nI a) :: st) G I J uc us Q :=
  xv_icmp_ne h ht (fun c => kt ((fun e => c (by rw [e])))) (fun c => kf ((nI_eq ha hb).mp c))
theorem xv_icmp_ltN {a b : Nat} {off : Int} {tgt : Nat} (h : decode mt.2.1 pc = .ok (.if_icmp .lt off, 3)) (ht : (pc : Int) + off = (tgt : Int)) (ha : a < 2 ^ 31) (hb : b < 2 ^ 31)
    (kt : a < b → xv_Ev l D d mt sx tgt ls st G I J uc us Q) (kf : b ≤ a → xv_Ev l D d mt sx (pc + 3) ls st G I J uc us Q) : xv_Ev l D d mt sx pc ls (.int (nI b) :: .int (nI a) :: st) G I J uc us Q :=
  xv_icmp_lt h ht (fun c => kt ((nI_ltI ha hb).mp c)) (fun c => kf (Nat.not_lt.mp (fun e => c ((nI_ltI ha hb).mpr e))))
theorem xv_icmp_geN {a b : Nat} {off : Int} {tgt : Nat} (h : decode mt.2.1 pc = .ok (.if_icmp .ge off, 3)) (ht : (pc : Int) + off = (tgt : Int)) (ha : a < 2 ^ 31) (hb : b < 2 ^ 31)
    (kt : b ≤ a → xv_Ev l D d mt sx tgt ls st G I J uc us Q) (kf : a < b → xv_Ev l D d mt sx (pc + 3) ls st G I J uc us Q) : xv_Ev l D d mt sx pc ls (.int (nI b) :: .int (nI a) :: st) G I J uc us Q :=
  xv_icmp_ge h ht (fun c => kt ((nI_leI hb ha).mp c)) (fun c => kf (Nat.not_le.mp (fun e => c ((nI_leI hb ha).mpr e))))
theorem xv_icmp_gtN {a b : Nat} {off : Int} {tgt : Nat} (h : decode mt.2.1 pc = .ok (.if_icmp .gt off, 3)) (ht : (pc : Int) + off = (tgt : Int)) (ha : a < 2 ^ 31) (hb : b < 2 ^ 31)
    (kt : b < a → xv_Ev l D d mt sx tgt ls st G I J uc us Q) (kf : a ≤ b → xv_Ev l D d mt sx (pc + 3) ls st G I J uc us Q) : xv_Ev l D d mt sx pc ls (.int (nI b) :: .int (nI a) :: st) G I J uc us Q :=
  xv_icmp_gt h ht (fun c => kt ((nI_ltI hb ha).mp c)) (fun c => kf (Nat.not_lt.mp (fun e => c ((nI_ltI hb ha).mpr e))))
theorem xv_icmp_leN {a b : Nat} {off : Int} {tgt : Nat} (h : decode mt.2.1 pc = .ok (.if_icmp .le off, 3)) (ht : (pc : Int) + off = (tgt : Int)) (ha : a < 2 ^ 31) (hb : b < 2 ^ 31)
    (kt : a ≤ b → xv_Ev l D d mt sx tgt ls st G I J uc us Q) (kf : b < a → xv_Ev l D d mt sx (pc + 3) ls st G I J uc us Q) : xv_Ev l D d mt sx pc ls (.int (nI b) :: .int (nI a) :: st) G I J uc us Q :=
  xv_icmp_le h ht (fun c => kt ((nI_leI ha hb).mp c)) (fun c => kf (Nat.not_le.mp (fun e => c ((nI_leI ha hb).mpr e))))
theorem xv_if_eqD {P : Prop} {dp : Decidable P} {off : Int} {tgt : Nat} (h : decode mt.2.1 pc = .ok (.ifCond .eq off, 3)) (ht : (pc : Int) + off = (tgt : Int))
    (kt : ¬ P → xv_Ev l D d mt sx tgt ls st G I J uc us Q) (kf : P → xv_Ev l D d mt sx (pc + 3) ls st G I J uc us Q) : xv_Ev l D d mt sx pc ls (.int (xb (@decide P dp)) :: st) G I J uc us Q :=
  xv_if_eqB h ht (fun c => kt (of_decide_eq_false c)) (fun c => kf (of_decide_eq_true c))
theorem xv_if_neD {P : Prop} {dp : Decidable P} {off : Int} {tgt : Nat} (h : decode mt.2.1 pc = .ok (.ifCond .ne off, 3)) (ht : (pc : Int) + off = (tgt : Int))
    (kt : P → xv_Ev l D d mt sx tgt ls st G I J uc us Q) (kf : ¬ P → xv_Ev l D d mt sx (pc + 3) ls st G I J uc us Q) : xv_Ev l D d mt sx pc ls (.int (xb (@decide P dp)) :: st) G I J uc us Q :=
  xv_if_neB h ht (fun c => kt (of_decide_eq_true c)) (fun c => kf (of_decide_eq_false c))
end XV7
theorem xb_T {P : Prop} {dp : Decidable P} (h : P) : xb (@decide P dp) = 1 := by rw [decide_eq_true h]; rfl
theorem xb_F {P : Prop} {dp : Decidable P} (h : ¬ P) : xb (@decide P dp) = 0 := by rw [decide_eq_false h]; rfl
theorem xq_T {Q : Value → Prop} {P : Prop} {dp : Decidable P} (hQ : Q (.int (xb (@decide P dp)))) (h : P) : Q (.int 1) := by rw [xb_T h] at hQ; exact hQ
theorem xq_F {Q : Value → Prop} {P : Prop} {dp : Decidable P} (hQ : Q (.int (xb (@decide P dp)))) (h : ¬ P) : Q (.int 0) := by rw [xb_F h] at hQ; exact hQ
theorem xn_lt (a b : Int32) : a < b ↔ a.toInt < b.toInt := Int32.lt_iff_toInt_lt
theorem xn_le (a b : Int32) : a ≤ b ↔ a.toInt ≤ b.toInt := Int32.le_iff_toInt_le
theorem xn_eq (a b : Int32) : a = b ↔ a.toInt = b.toInt := Int32.toInt_inj.symm
theorem xn_ltL (a b : Int64) : a < b ↔ a.toInt < b.toInt := Int64.lt_iff_toInt_lt
theorem xn_leL (a b : Int64) : a ≤ b ↔ a.toInt ≤ b.toInt := Int64.le_iff_toInt_le
theorem xn_eqL (a b : Int64) : a = b ↔ a.toInt = b.toInt := Int64.toInt_inj.symm
theorem xn_wide (a : Int32) : a.toInt64.toInt = a.toInt := Int32.toInt_toInt64 a
theorem xn_cmp_lt (x y : Int64) : lg_cmp x y < 0 ↔ x < y := by
  unfold lg_cmp
  by_cases h1 : x > y
  · simp only [h1, if_true]
    have : ¬ x < y := by simp only [gt_iff_lt, xn_ltL] at h1 ⊢; omega
    simp [this]
  · by_cases h2 : x = y
    · subst h2
      simp [xn_ltL]
    · have h3 : x < y := by simp only [gt_iff_lt, xn_ltL, xn_eqL] at h1 h2 ⊢; omega
      simp [h1, h2, h3]
theorem xn_cmp_gt (x y : Int64) : 0 < lg_cmp x y ↔ y < x := by
  unfold lg_cmp
  by_cases h1 : x > y
  · have h2 : y < x := h1
    simp [h2]
  · have h3 : ¬ y < x := h1
    by_cases h2 : x = y
    · subst h2
      simp [xn_ltL]
    · simp [h1, h2, h3]
theorem xn_cmp_eq (x y : Int64) : lg_cmp x y = 0 ↔ x = y := by
  unfold lg_cmp
  by_cases h1 : x > y
  · have : ¬ x = y := by simp only [gt_iff_lt, xn_ltL, xn_eqL] at h1 ⊢; omega
    simp [h1, this]
  · by_cases h2 : x = y
    · simp [h2]
    · simp [h1, h2]
/-- a number in a range is a plain number -/
theorem xn_nat {x : Int32} {n : Nat} (h0 : 0 ≤ x.toInt) (h1 : x.toInt < n) (hn : n ≤ 2 ^ 31) : ∃ j : Nat, j < n ∧ x = nI j := by
  refine ⟨x.toInt.toNat, by omega, ?_⟩
  rw [xn_eq, nI_toInt (by omega)]
  omega
