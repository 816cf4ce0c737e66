/-! truth values of any proposition; searches, counts, filled rows -/
noncomputable def xbp (P : Prop) : Int32 := xb (@decide P (Classical.propDecidable P))
theorem xbp_T {P : Prop} (h : P) : xbp P = 1 := xb_T h
theorem xbp_F {P : Prop} (h : ¬ P) : xbp P = 0 := xb_F h
theorem xbp_iff {P R : Prop} (h : P ↔ R) : xbp P = xbp R := by rw [propext h]
theorem xb_dec {P : Prop} {dp : Decidable P} : xb (@decide P dp) = xbp P := by
  by_cases h : P
  · rw [xb_T h, xbp_T h]
  · rw [xb_F h, xbp_F h]
theorem xbp_0 {P : Prop} : xbp P = 0 ↔ ¬ P := by
  by_cases h : P
  · rw [xbp_T h]; simp [h]
  · rw [xbp_F h]; simp [h]
theorem xbp_nar (P : Prop) : narrow .boolean (.int (xbp P)) = .int (xbp P) := xb_nar _
theorem xbp_fit (P : Prop) : fits .boolean (.int (xbp P)) = true := xb_fit _
theorem xbp_vp (P : Prop) : vp_nar .boolean (xbp P) = xbp P := xb_vp _
theorem xqp_T {Q : Value → Prop} {P : Prop} (hQ : Q (.int (xbp P))) (h : P) : Q (.int 1) := by rw [xbp_T h] at hQ; exact hQ
theorem xqp_F {Q : Value → Prop} {P : Prop} (hQ : Q (.int (xbp P))) (h : ¬ P) : Q (.int 0) := by rw [xbp_F h] at hQ; exact hQ
section XV8
variable {l : Launch} {D : va_G} {d : Nat} {mt : xv_MT} {sx : xv_Sc} {pc : Nat} {ls : List (Option Value)} {st : List Value} {G : xv_Gr} {I : xv_I} {J : xv_J} {uc us : Nat} {Q : xv_Po}
theorem xv_if_eqP {P : Prop} {off : Int} {tgt : Nat} (h : decode mt.2.1 pc = .ok (.ifCond .eq off, 3)) (ht : (pc : Int) + off = (tgt : Int))
    (kt : ¬ P → xv_Ev l D d mt sx tgt ls st G I J uc us Q) (kf : P → xv_Ev l D d mt sx (pc + 3) ls st G I J uc us Q) : xv_Ev l D d mt sx pc ls (.int (xbp P) :: st) G I J uc us Q := xv_if_eqD h ht kt kf
theorem xv_if_neP {P : Prop} {off : Int} {tgt : Nat} (h : decode mt.2.1 pc = .ok (.ifCond .ne off, 3)) (ht : (pc : Int) + off = (tgt : Int))
    (kt : P → xv_Ev l D d mt sx tgt ls st G I J uc us Q) (kf : ¬ P → xv_Ev l D d mt sx (pc + 3) ls st G I J uc us Q) : xv_Ev l D d mt sx pc ls (.int (xbp P) :: st) G I J uc us Q := xv_if_neD h ht kt kf
theorem xv_zretP {P : Prop} (h : decode mt.2.1 pc = .ok (.ireturn, 1)) (hr : mt.2.2.2.1 = some .boolean) (hu : uc ≤ mt.2.2.2.2.1) (hu2 : us ≤ mt.2.2.2.2.2) (hq : Q (some (.int (xbp P))) G I J) : xv_Ev l D d mt sx pc ls [.int (xbp P)] G I J uc us Q := xv_zret h hr (xbp_nar P) hu hu2 hq
end XV8
/-- the first place with P in n places from i on: f of it; else z -/
noncomputable def xfst {α : Type} (P : Nat → Prop) (f : Nat → α) (z : α) : Nat → Nat → α
  | 0, _ => z
  | n + 1, i => @ite α (P i) (Classical.propDecidable _) (f i) (xfst P f z n (i + 1))
theorem xfst_y {α : Type} {P : Nat → Prop} {f : Nat → α} {z : α} {n i : Nat} (h : P i) : xfst P f z (n + 1) i = f i := by simp [xfst, h]
theorem xfst_n {α : Type} {P : Nat → Prop} {f : Nat → α} {z : α} {n i : Nat} (h : ¬ P i) : xfst P f z (n + 1) i = xfst P f z n (i + 1) := by simp [xfst, h]
theorem xfst_0 {α : Type} {P : Nat → Prop} {f : Nat → α} {z : α} {i : Nat} : xfst P f z 0 i = z := rfl
theorem xfst_cong {α : Type} {P P2 : Nat → Prop} {f f2 : Nat → α} {z z2 : α} (hz : z = z2) : ∀ (n i : Nat), (∀ k, i ≤ k → k < i + n → (P k ↔ P2 k) ∧ f k = f2 k) → xfst P f z n i = xfst P2 f2 z2 n i
  | 0, _, _ => hz
  | n + 1, i, h => by
    have h1 := h i (Nat.le_refl i) (by omega)
    have ih := xfst_cong hz n (i + 1) (fun k a b => h k (by omega) (by omega))
    by_cases hp : P i
    · rw [xfst_y hp, xfst_y (h1.1.mp hp), h1.2]
    · rw [xfst_n hp, xfst_n (fun q => hp (h1.1.mpr q)), ih]
/-- how many of the first n have P -/
noncomputable def xcn (P : Nat → Prop) : Nat → Nat
  | 0 => 0
  | n + 1 => xcn P n + @ite Nat (P n) (Classical.propDecidable _) 1 0
theorem xcn_y {P : Nat → Prop} {n : Nat} (h : P n) : xcn P (n + 1) = xcn P n + 1 := by simp [xcn, h]
theorem xcn_n {P : Nat → Prop} {n : Nat} (h : ¬ P n) : xcn P (n + 1) = xcn P n := by simp [xcn, h]
theorem xcn_le (P : Nat → Prop) : ∀ n, xcn P n ≤ n
  | 0 => Nat.le_refl 0
  | n + 1 => by
    have := xcn_le P n
    by_cases h : P n
    · rw [xcn_y h]; omega
    · rw [xcn_n h]; omega
theorem xcn_cong {P P2 : Nat → Prop} : ∀ n, (∀ k, k < n → (P k ↔ P2 k)) → xcn P n = xcn P2 n
  | 0, _ => rfl
  | n + 1, h => by
    have ih := xcn_cong n (fun k hk => h k (by omega))
    have h1 := h n (by omega)
    by_cases hp : P n
    · rw [xcn_y hp, xcn_y (h1.mp hp), ih]
    · rw [xcn_n hp, xcn_n (fun q => hp (h1.mpr q)), ih]
/-- the row a filled with f up to i -/
def xfl (I : xv_I) (a : Nat) (f : Nat → Int32) (i : Nat) : xv_I := fun b k => if b = a ∧ k < i then f k else I b k
theorem xfl_0 (I : xv_I) (a : Nat) (f : Nat → Int32) : xfl I a f 0 = I := by funext b k; simp [xfl]
theorem xfl_put {I : xv_I} {a : Nat} {f : Nat → Int32} {i : Nat} {v : Int32} (h : v = f i) : xv_ui (xfl I a f i) a i v = xfl I a f (i + 1) := by
  funext b k
  simp only [xv_ui_ap, xfl]
  grind
theorem xfl_ne {I : xv_I} {a : Nat} {f : Nat → Int32} {i b : Nat} (h : b ≠ a) : xfl I a f i b = I b := by
  funext k
  simp [xfl, h]
theorem xfl_ge {I : xv_I} {a : Nat} {f : Nat → Int32} {i k : Nat} (h : i ≤ k) : xfl I a f i a k = I a k := by
  simp only [xfl]
  rw [if_neg (by omega)]
theorem xv_ixv {x : Int32} {n : Nat} (h : vp_in x n) : xv_ix x n x.toNatClampNeg := ⟨h, rfl⟩
