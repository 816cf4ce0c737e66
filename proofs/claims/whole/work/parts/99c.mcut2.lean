/-! the cut in math (2): where the least piece goes -/
/-- the boards gr 0 .. gr (k - 1) filled up from T, the rest cut anew, numbered from K on -/
def Cq (q : Nat → Option Nat) (gr : Nat → Nat) (K : Nat) : Nat → Nat → Nat → Nat → Nat → Prop
  | 0, T, P, n, z => Pt q K T P n z
  | k + 1, T, P, n, z => ∃ x p P2 n2 z2, sb_ x T ∧ q (gr k ||| x) = some p ∧ Cq q gr K k (xdf T x) P2 n2 z2 ∧ P = p + P2 ∧ n = n2 + 1 ∧ z = k * o_ x + z2
theorem Cq_cg {q : Nat → Option Nat} {gr g2 : Nat → Nat} {K : Nat} : ∀ k T P n z, (∀ g, g < k → g2 g = gr g) → Cq q gr K k T P n z → Cq q g2 K k T P n z
  | 0, T, P, n, z, _, h => h
  | k + 1, T, P, n, z, e, ⟨x, p, P2, n2, z2, h1, h2, h3, h4⟩ => ⟨x, p, P2, n2, z2, h1, by rw [e k (Nat.lt_succ_self _)]; exact h2, Cq_cg k _ _ _ _ (fun g hg => e g (by omega)) h3, h4⟩
theorem xd_in {T x i : Nat} (h4 : T < 4096) (h : ls_ T i) (hx : sb_ x T) (hi : x.testBit i = true) : x = 2 ^ i ||| xdf x (2 ^ i) ∧ sb_ (xdf x (2 ^ i)) (rs_ T) ∧ xdf T x = xdf (rs_ T) (xdf x (2 ^ i)) := by
  rw [rs_x h4 h]
  refine ⟨?_, fun j hj => ?_, ?_⟩
  · apply Nat.eq_of_testBit_eq
    intro j
    rw [Nat.testBit_or, xdf_bit, b2]
    by_cases e : i = j
    · subst e; rw [hi]; simp
    · simp [e]
  · rw [xdf_bit] at hj ⊢
    simp only [Bool.and_eq_true] at hj ⊢
    exact ⟨hx j hj.1, hj.2⟩
  · apply Nat.eq_of_testBit_eq
    intro j
    rw [xdf_bit, xdf_bit, xdf_bit, xdf_bit, b2]
    by_cases e : i = j
    · subst e; rw [hi]; simp
    · simp [e]
theorem xd_out {T x i : Nat} (h4 : T < 4096) (h : ls_ T i) (hx : sb_ x T) (hi : x.testBit i = false) : ls_ (xdf T x) i ∧ rs_ (xdf T x) = xdf (rs_ T) x ∧ sb_ x (rs_ T) := by
  have hl : ls_ (xdf T x) i := ⟨by rw [xdf_bit, h.1, hi]; rfl, fun j hj => by rw [xdf_bit, h.2 j hj]; rfl⟩
  refine ⟨hl, ?_, fun j hj => ?_⟩
  · rw [rs_x (Nat.lt_of_le_of_lt (xdf_le _ _) h4) hl, rs_x h4 h]
    apply Nat.eq_of_testBit_eq
    intro j
    rw [xdf_bit, xdf_bit, xdf_bit, xdf_bit]
    cases T.testBit j <;> cases x.testBit j <;> cases (2 ^ i).testBit j <;> rfl
  · rw [rs_x h4 h, xdf_bit, hx j hj, b2]
    by_cases e : i = j
    · subst e; rw [hi] at hj; cases hj
    · simp [e]
theorem xd_com {R x y : Nat} (hx : sb_ x R) (hy : sb_ y (xdf R x)) : sb_ y R ∧ sb_ x (xdf R y) ∧ xdf (xdf R y) x = xdf (xdf R x) y := by
  refine ⟨fun j hj => ?_, fun j hj => ?_, ?_⟩
  · have z := hy j hj
    rw [xdf_bit] at z
    simp only [Bool.and_eq_true] at z
    exact z.1
  · rw [xdf_bit, hx j hj]
    cases e : y.testBit j with
    | true =>
      have z := hy j e
      rw [xdf_bit, hj] at z
      simp at z
    | false => rfl
  · apply Nat.eq_of_testBit_eq
    intro j
    rw [xdf_bit, xdf_bit, xdf_bit, xdf_bit]
    cases R.testBit j <;> cases x.testBit j <;> cases y.testBit j <;> rfl
theorem o_in {i y : Nat} (h : y.testBit i = false) : o_ (2 ^ i ||| y) = o_ (2 ^ i) + o_ y := o_or (fun j hj => by
  rw [b2] at hj
  have e : i = j := of_decide_eq_true hj
  rw [← e]; exact h)
theorem xd_i (x i : Nat) : (xdf x (2 ^ i)).testBit i = false := by rw [xdf_bit, b2]; simp
/-- the least piece upon an old board j, or upon a new one -/
theorem Cq_1 {q : Nat → Option Nat} {gr : Nat → Nat} {K i : Nat} : ∀ k T P n z, T < 4096 → ls_ T i → (Cq q gr K k T P n z ↔ (∃ j z2, j < k ∧ Cq q (fun g => if g = j then gr j ||| 2 ^ i else gr g) K k (rs_ T) P n z2 ∧ z = j * o_ (2 ^ i) + z2) ∨ (∃ y p P2 n2 z2, sb_ y (rs_ T) ∧ q (2 ^ i ||| y) = some p ∧ Cq q gr (K + 1) k (xdf (rs_ T) y) P2 n2 z2 ∧ P = p + P2 ∧ n = n2 + 1 ∧ z = K * o_ (2 ^ i ||| y) + z2))
  | 0, T, P, n, z, h4, h => by
    have h0 : T ≠ 0 := fun e => by
      have := h.1
      rw [e, Nat.zero_testBit] at this
      cases this
    show Pt q K T P n z ↔ _
    rw [Pt_s h0, ls_lw h4 h]
    constructor
    · intro g; exact Or.inr g
    · rintro (⟨j, z2, g, _⟩ | g)
      · exact absurd g (Nat.not_lt_zero _)
      · exact g
  | k + 1, T, P, n, z, h4, h => by
    constructor
    · rintro ⟨x, p, P2, n2, z2, g1, g2, g3, g4, g5, g6⟩
      cases hi : x.testBit i with
      | true =>
        obtain ⟨e1, e2, e3⟩ := xd_in h4 h g1 hi
        refine Or.inl ⟨k, k * o_ (xdf x (2 ^ i)) + z2, Nat.lt_succ_self _, ⟨xdf x (2 ^ i), p, P2, n2, z2, e2, ?_, ?_, g4, g5, rfl⟩, ?_⟩
        · dsimp only; rw [if_pos rfl, Nat.or_assoc, ← e1]; exact g2
        · rw [← e3]
          exact Cq_cg k _ _ _ _ (fun g hg => if_neg (by omega)) g3
        · have ox : o_ x = o_ (2 ^ i) + o_ (xdf x (2 ^ i)) := (congrArg o_ e1).trans (o_in (xd_i _ _))
          rw [g6, ox, Nat.mul_add, Nat.add_assoc]
      | false =>
        obtain ⟨e1, e2, e3⟩ := xd_out h4 h g1 hi
        rcases (Cq_1 k (xdf T x) P2 n2 z2 (Nat.lt_of_le_of_lt (xdf_le _ _) h4) e1).mp g3 with ⟨j, z3, c1, c2, c3⟩ | ⟨y, p2, P3, n3, z3, c1, c2, c3, c4, c5, c6⟩
        · rw [e2] at c2
          refine Or.inl ⟨j, k * o_ x + z3, by omega, ⟨x, p, P2, n2, z3, e3, ?_, c2, g4, g5, rfl⟩, by omega⟩
          dsimp only; rw [if_neg (by omega)]; exact g2
        · rw [e2] at c1 c3
          obtain ⟨d1, d2, d3⟩ := xd_com e3 c1
          refine Or.inr ⟨y, p2, p + P3, n3 + 1, k * o_ x + z3, d1, c2, ⟨x, p, P3, n3, z3, d2, g2, ?_, rfl, rfl, rfl⟩, by omega, by omega, by omega⟩
          rw [d3]; exact c3
    · rintro (⟨j, z2, c1, ⟨x, p, P2, n2, z3, g1, g2, g3, g4, g5, g6⟩, c3⟩ | ⟨y, p2, P2, n2, z2, c1, c2, ⟨x, p, P3, n3, z3, g1, g2, g3, g4, g5, g6⟩, c4, c5, c6⟩)
      · by_cases e : j = k
        · subst e
          dsimp only at g2
          rw [if_pos rfl] at g2
          have xi : x.testBit i = false := by
            cases e : x.testBit i with
            | false => rfl
            | true =>
              have z := g1 i e
              rw [rs_x h4 h, xd_i] at z
              cases z
          have hx : sb_ (2 ^ i ||| x) T := fun m hm => by
            rw [Nat.testBit_or, Bool.or_eq_true] at hm
            rcases hm with hm | hm
            · rw [b2] at hm
              rw [← of_decide_eq_true hm]; exact h.1
            · exact rs_sb T m (g1 m hm)
          have ei : (2 ^ i ||| x).testBit i = true := by rw [Nat.testBit_or, b2]; simp
          obtain ⟨e1, e2, e3⟩ := xd_in h4 h hx ei
          have ex : xdf (2 ^ i ||| x) (2 ^ i) = x := by
            apply Nat.eq_of_testBit_eq
            intro m
            rw [xdf_bit, Nat.testBit_or, b2]
            by_cases e : i = m
            · subst e; rw [xi]; simp
            · simp [e]
          rw [ex] at e3
          refine ⟨2 ^ i ||| x, p, P2, n2, z3, hx, by rw [← Nat.or_assoc]; exact g2, ?_, g4, g5, ?_⟩
          · rw [e3]
            exact Cq_cg j _ _ _ _ (fun g hg => (if_neg (by omega)).symm) g3
          · rw [c3, g6, o_in xi, Nat.mul_add]; omega
        · dsimp only at g2
          rw [if_neg (fun z => e z.symm)] at g2
          have hx : sb_ x T := fun m hm => rs_sb T m (g1 m hm)
          have xi : x.testBit i = false := by
            cases e : x.testBit i with
            | false => rfl
            | true =>
              have z := g1 i e
              rw [rs_x h4 h, xd_i] at z
              cases z
          obtain ⟨e1, e2, e3⟩ := xd_out h4 h hx xi
          refine ⟨x, p, P2, n2, j * o_ (2 ^ i) + z3, hx, g2, (Cq_1 k _ _ _ _ (Nat.lt_of_le_of_lt (xdf_le _ _) h4) e1).mpr (Or.inl ⟨j, z3, by omega, ?_, rfl⟩), g4, g5, by omega⟩
          rw [e2]; exact g3
      · obtain ⟨d1, d2, d3⟩ := xd_com c1 g1
        have hx : sb_ x T := fun m hm => rs_sb T m (d1 m hm)
        have xi : x.testBit i = false := by
          cases e : x.testBit i with
          | false => rfl
          | true =>
            have z := d1 i e
            rw [rs_x h4 h, xd_i] at z
            cases z
        obtain ⟨e1, e2, e3⟩ := xd_out h4 h hx xi
        refine ⟨x, p, p2 + P3, n3 + 1, K * o_ (2 ^ i ||| y) + z3, hx, g2, (Cq_1 k _ _ _ _ (Nat.lt_of_le_of_lt (xdf_le _ _) h4) e1).mpr (Or.inr ⟨y, p2, P3, n3, z3, ?_, c2, ?_, rfl, rfl, rfl⟩), by omega, by omega, by omega⟩
        · rw [e2]; exact d2
        · rw [e2, d3]; exact g3
