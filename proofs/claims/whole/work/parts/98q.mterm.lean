/-! terms in math (1): levels -/
def vcl (A L N : Nat) : List (Bool × Bool × Bool) → Prop
  | [] => True
  | x :: r => A.testBit r.length = x.1 ∧ L.testBit r.length = x.2.1 ∧ N.testBit r.length = x.2.2 ∧ vcl A L N r
theorem vcl_cg {A L N A2 L2 N2 : Nat} : ∀ T, (∀ j, j < T.length → A2.testBit j = A.testBit j ∧ L2.testBit j = L.testBit j ∧ N2.testBit j = N.testBit j) → vcl A L N T → vcl A2 L2 N2 T
  | [], _, _ => True.intro
  | x :: r, h, g => by
    have e := h r.length (by simp)
    exact ⟨e.1.trans g.1, e.2.1.trans g.2.1, e.2.2.trans g.2.2.1, vcl_cg r (fun j hj => h j (by simp; omega)) g.2.2.2⟩
def Vr (s : Nat × Nat × Nat × Nat) (T : List (Bool × Bool × Bool)) : Prop := s.2.2.2 + 1 = T.length ∧ vcl s.1 s.2.1 s.2.2.1 T ∧ ∀ j, T.length ≤ j → s.2.2.1.testBit j = false
theorem b2 (n m : Nat) : (2 ^ n).testBit m = decide (n = m) := Nat.testBit_two_pow
theorem Vr_neg {s : Nat × Nat × Nat × Nat} {o a n : Bool} {r : List (Bool × Bool × Bool)} (h : Vr s ((o, a, n) :: r)) : Vr (vd_neg s) ((o, a, !n) :: r) := by
  obtain ⟨A, L, N, d⟩ := s
  obtain ⟨h1, ⟨h2, h3, h4, h5⟩, h6⟩ := h
  simp only [List.length_cons] at *
  have e : d = r.length := by omega
  subst e
  refine ⟨rfl, ⟨h2, h3, ?_, vcl_cg r (fun j hj => ⟨rfl, rfl, ?_⟩) h5⟩, fun j hj => ?_⟩
  · show (N ^^^ 2 ^ r.length).testBit r.length = !n
    rw [Nat.testBit_xor, b2, h4]; simp
  · show (N ^^^ 2 ^ r.length).testBit j = N.testBit j
    rw [Nat.testBit_xor, b2, decide_eq_false (by omega)]; simp
  · simp only [List.length_cons] at hj
    show (N ^^^ 2 ^ r.length).testBit j = false
    rw [Nat.testBit_xor, b2, h6 j hj]; simp; omega
theorem Vr_all {s : Nat × Nat × Nat × Nat} {o a n : Bool} {r : List (Bool × Bool × Bool)} (h : Vr s ((o, a, n) :: r)) : Vr (vd_all s) ((o || a, true, n) :: r) := by
  obtain ⟨A, L, N, d⟩ := s
  obtain ⟨h1, ⟨h2, h3, h4, h5⟩, h6⟩ := h
  simp only [List.length_cons] at *
  have e : d = r.length := by omega
  subst e
  refine ⟨rfl, ⟨?_, ?_, h4, vcl_cg r (fun j hj => ⟨?_, ?_, rfl⟩) h5⟩, h6⟩
  · show (A ||| (L &&& 2 ^ r.length)).testBit r.length = (o || a)
    rw [Nat.testBit_or, Nat.testBit_and, b2, h2, h3]; simp
  · show (L ||| 2 ^ r.length).testBit r.length = true
    rw [Nat.testBit_or, b2]; simp
  · show (A ||| (L &&& 2 ^ r.length)).testBit j = A.testBit j
    rw [Nat.testBit_or, Nat.testBit_and, b2, decide_eq_false (by omega)]; simp
  · show (L ||| 2 ^ r.length).testBit j = L.testBit j
    rw [Nat.testBit_or, b2, decide_eq_false (by omega)]; simp
theorem Vr_ent {s : Nat × Nat × Nat × Nat} {x : Bool × Bool × Bool} {r : List (Bool × Bool × Bool)} (h : Vr s (x :: r)) : Vr (vd_ent s) ((false, true, false) :: x :: r) := by
  obtain ⟨A, L, N, d⟩ := s
  obtain ⟨h1, h5, h6⟩ := h
  simp only [List.length_cons] at *
  have e : d = r.length := by omega
  subst e
  refine ⟨rfl, ⟨?_, ?_, h6 _ (by simp), vcl_cg (x :: r) (fun j hj => ⟨?_, ?_, rfl⟩) h5⟩, fun j hj => h6 j (by simp at hj; omega)⟩
  · show (xdf A (2 ^ (r.length + 1))).testBit (r.length + 1) = false
    rw [xdf_bit, b2]; simp
  · show (L ||| 2 ^ (r.length + 1)).testBit (r.length + 1) = true
    rw [Nat.testBit_or, b2]; simp
  · show (xdf A (2 ^ (r.length + 1))).testBit j = A.testBit j
    simp only [List.length_cons] at hj
    rw [xdf_bit, b2, decide_eq_false (by omega)]; simp
  · show (L ||| 2 ^ (r.length + 1)).testBit j = L.testBit j
    simp only [List.length_cons] at hj
    rw [Nat.testBit_or, b2, decide_eq_false (by omega)]; simp
theorem Vr_tak {s : Nat × Nat × Nat × Nat} {o a n : Bool} {r : List (Bool × Bool × Bool)} {v : Prop} {vb : Bool} (hv : v ↔ vb = true) (h : Vr s ((o, a, n) :: r)) : Vr (vd_tak v s) ((o, a && (vb ^^ n), false) :: r) := by
  obtain ⟨A, L, N, d⟩ := s
  obtain ⟨h1, ⟨h2, h3, h4, h5⟩, h6⟩ := h
  simp only [List.length_cons] at *
  have e : d = r.length := by omega
  subst e
  have key : ∀ j, (@ite Nat (v ↔ N.testBit r.length = true) (Classical.propDecidable _) (xdf L (2 ^ r.length)) L).testBit j = if j = r.length then a && (vb ^^ n) else L.testBit j := fun j => by
    rw [h4]
    by_cases q : v ↔ n = true
    · rw [if_pos q, xdf_bit, b2]
      have z : vb = n := by rw [hv] at q; cases vb <;> cases n <;> simp_all
      by_cases e : j = r.length
      · rw [if_pos e, z, e]; simp
      · rw [if_neg e, decide_eq_false (by omega)]; simp
    · rw [if_neg q]
      have z : (vb ^^ n) = true := by rw [hv] at q; cases vb <;> cases n <;> simp_all
      by_cases e : j = r.length
      · rw [if_pos e, z, e, h3]; simp
      · rw [if_neg e]
  have kn : ∀ j, (xdf N (2 ^ r.length)).testBit j = if j = r.length then false else N.testBit j := fun j => by
    rw [xdf_bit, b2]
    by_cases e : j = r.length
    · rw [if_pos e, e]; simp
    · rw [if_neg e, decide_eq_false (by omega)]; simp
  refine ⟨rfl, ⟨h2, ?_, ?_, vcl_cg r (fun j hj => ⟨rfl, ?_, ?_⟩) h5⟩, fun j hj => ?_⟩
  · exact (key _).trans (if_pos rfl)
  · exact (kn _).trans (if_pos rfl)
  · exact (key _).trans (if_neg (by omega))
  · exact (kn _).trans (if_neg (by omega))
  · simp only [List.length_cons] at hj
    exact (kn _).trans ((if_neg (by omega)).trans (h6 j hj))
theorem Vr_is {s : Nat × Nat × Nat × Nat} {o a n : Bool} {r : List (Bool × Bool × Bool)} (h : Vr s ((o, a, n) :: r)) : vd_is s ↔ (o || a) = true := by
  obtain ⟨A, L, N, d⟩ := s
  obtain ⟨h1, ⟨h2, h3, h4, h5⟩, h6⟩ := h
  simp only [List.length_cons] at *
  have e : d = r.length := by omega
  subst e
  show (A ||| L).testBit r.length = true ↔ _
  rw [Nat.testBit_or, h2, h3]
theorem Vr_lea {s : Nat × Nat × Nat × Nat} {o a o2 a2 n2 : Bool} {r : List (Bool × Bool × Bool)} (h : Vr s ((o, a, false) :: (o2, a2, n2) :: r)) : Vr (vd_lea s) ((o2, a2 && ((o || a) ^^ n2), false) :: r) := by
  refine Vr_tak (Vr_is h) ?_
  obtain ⟨A, L, N, d⟩ := s
  obtain ⟨h1, ⟨h2, h3, h4, h5⟩, h6⟩ := h
  simp only [List.length_cons] at *
  refine ⟨by show d - 1 + 1 = _; simp only [List.length_cons]; omega, h5, fun j hj => ?_⟩
  simp only [List.length_cons] at hj
  by_cases e : j = r.length + 1
  · rw [e]; exact h4
  · exact h6 j (by omega)
/-- a level of the model's reading: so many nots, the and's left side, the or's left side -/
def lv_o (x : Nat × Option Bool × Option Bool) : List Nat := List.replicate x.1 33 ++ ((if x.2.1.isSome then [38] else []) ++ (if x.2.2.isSome then [124] else []))
def lv_t (x : Nat × Option Bool × Option Bool) : List Bool := x.2.1.toList ++ x.2.2.toList
def Lo : (Nat × Option Bool × Option Bool) → List (Nat × Option Bool × Option Bool) → List Nat
  | x, [] => lv_o x
  | x, y :: r => lv_o x ++ 40 :: Lo y r
def Lt : (Nat × Option Bool × Option Bool) → List (Nat × Option Bool × Option Bool) → List Bool
  | x, [] => lv_t x
  | x, y :: r => lv_t x ++ Lt y r
def odd_ : Nat → Bool
  | 0 => false
  | k + 1 => !odd_ k
def lv_n (x : Nat × Option Bool × Option Bool) (t : Bool) : Bool := x.2.1.getD true && (t ^^ odd_ x.1)
def lv_c (x : Nat × Option Bool × Option Bool) : Bool × Bool × Bool := (x.2.2.getD false, x.2.1.getD true, odd_ x.1)
def lv_d (x : Nat × Option Bool × Option Bool) (t : Bool) : Bool × Bool × Bool := (x.2.2.getD false, lv_n x t, false)
theorem cl_nt {k : Nat} (hk : k ≤ 3) {os : List Nat} {ts : List Bool} : ∀ (m : Nat) (t : Bool), cl_o k (List.replicate m 33 ++ os) (t :: ts) = cl_o k os ((t ^^ odd_ m) :: ts)
  | 0, t => by simp [odd_]
  | m + 1, t => by
    rw [List.replicate_succ, List.cons_append, cl_o.eq_def]
    dsimp only
    rw [if_pos (show k ≤ bi_ 33 from hk)]
    rw [if_pos rfl, cl_nt hk m]
    congr 2
    rw [odd_]
    cases t <;> cases odd_ m <;> rfl
def tl_ok (tl : List Nat) : Prop := tl = [] ∨ ∃ r, tl = 40 :: r
theorem cl_tl {k : Nat} (hk : 1 ≤ k) {tl : List Nat} (h : tl_ok tl) (ts : List Bool) : cl_o k tl ts = some (tl, ts) := by
  rcases h with rfl | ⟨r, rfl⟩
  · rfl
  · rw [cl_o.eq_def]
    dsimp only
    rw [if_neg (show ¬ k ≤ bi_ 40 by rw [show bi_ 40 = 0 from rfl]; omega)]
theorem cl_1 {x : Nat × Option Bool × Option Bool} {tl : List Nat} (h : tl_ok tl) {t : Bool} {ts : List Bool} : cl_o 1 (lv_o x ++ tl) (t :: (lv_t x ++ ts)) = some (tl, ((x.2.2.getD false || lv_n x t) :: ts)) := by
  obtain ⟨k, A, O⟩ := x
  rw [lv_o, List.append_assoc, cl_nt (by decide), lv_t]
  have e1 : ∀ (os : List Nat) (t u : Bool) (ts : List Bool), cl_o 1 (38 :: os) (t :: u :: ts) = cl_o 1 os ((u && t) :: ts) := fun _ _ _ _ => rfl
  have e2 : ∀ (os : List Nat) (t u : Bool) (ts : List Bool), cl_o 1 (124 :: os) (t :: u :: ts) = cl_o 1 os ((u || t) :: ts) := fun _ _ _ _ => rfl
  cases A <;> cases O <;> simp [e1, e2, lv_n, cl_tl (Nat.le_refl 1) h]
theorem cl_2 {x : Nat × Option Bool × Option Bool} {tl : List Nat} (h : tl_ok tl) {t : Bool} {ts : List Bool} : cl_o 2 (lv_o x ++ tl) (t :: (lv_t x ++ ts)) = some (lv_o (0, none, x.2.2) ++ tl, (lv_n x t :: (x.2.2.toList ++ ts))) := by
  obtain ⟨k, A, O⟩ := x
  rw [lv_o, List.append_assoc, cl_nt (by decide), lv_t]
  have e1 : ∀ (os : List Nat) (t u : Bool) (ts : List Bool), cl_o 2 (38 :: os) (t :: u :: ts) = cl_o 2 os ((u && t) :: ts) := fun _ _ _ _ => rfl
  have e2 : ∀ (os : List Nat) (ts : List Bool), cl_o 2 (124 :: os) ts = some (124 :: os, ts) := fun _ _ => rfl
  cases A <;> cases O <;> simp [e1, e2, lv_n, lv_o, cl_tl (show 1 ≤ 2 by decide) h]
/-- the tail behind a level -/
def Lx : List (Nat × Option Bool × Option Bool) → List Nat
  | [] => []
  | y :: r => 40 :: Lo y r
def Ly : List (Nat × Option Bool × Option Bool) → List Bool
  | [] => []
  | y :: r => Lt y r
theorem Lo_e (x : Nat × Option Bool × Option Bool) (r : List (Nat × Option Bool × Option Bool)) : Lo x r = lv_o x ++ Lx r ∧ Lt x r = lv_t x ++ Ly r ∧ tl_ok (Lx r) := by
  cases r with
  | nil => exact ⟨by simp [Lo, Lx], by simp [Lt, Ly], Or.inl rfl⟩
  | cons y r => exact ⟨rfl, rfl, Or.inr ⟨_, rfl⟩⟩
