/-! two cars: the search in the class and the walk over all sets in the model find the same set -/
/-- a comes before b: at the lowest bit where they differ a has none -/
def bef (a b : Nat) : Prop := ∃ i, (∀ j, j < i → a.testBit j = b.testBit j) ∧ a.testBit i = false ∧ b.testBit i = true
theorem bef_ne {a b : Nat} (h : ¬ a = b) : ∃ i, (∀ j, j < i → a.testBit j = b.testBit j) ∧ ¬ a.testBit i = b.testBit i := by
  apply Classical.byContradiction
  intro q
  apply h
  apply Nat.eq_of_testBit_eq
  intro i
  induction i using Nat.strongRecOn with
  | ind i ih =>
    apply Classical.byContradiction
    intro z
    exact q ⟨i, ih, z⟩
theorem bef_to {a b : Nat} (h : ¬ a = b) : bef a b ∨ bef b a := by
  obtain ⟨i, h1, h2⟩ := bef_ne h
  cases ea : a.testBit i with
  | false =>
    cases eb : b.testBit i with
    | false => rw [ea, eb] at h2; exact absurd rfl h2
    | true => exact Or.inl ⟨i, h1, ea, eb⟩
  | true =>
    cases eb : b.testBit i with
    | true => rw [ea, eb] at h2; exact absurd rfl h2
    | false => exact Or.inr ⟨i, fun j hj => (h1 j hj).symm, eb, ea⟩
theorem bef_as {a b : Nat} (h : bef a b) (g : bef b a) : False := by
  obtain ⟨i, h1, h2, h3⟩ := h
  obtain ⟨j, g1, g2, g3⟩ := g
  rcases Nat.lt_trichotomy i j with q | q | q
  · have := g1 i q; rw [h2, h3] at this; cases this
  · subst q; rw [h2] at g3; cases g3
  · have := h1 j q; rw [g2, g3] at this; cases this
theorem bef_ir {a : Nat} (h : bef a a) : False := bef_as h h
theorem bef_tr {a b c : Nat} (h : bef a b) (g : bef b c) : bef a c := by
  obtain ⟨i, h1, h2, h3⟩ := h
  obtain ⟨j, g1, g2, g3⟩ := g
  rcases Nat.lt_trichotomy i j with q | q | q
  · exact ⟨i, fun k hk => (h1 k hk).trans (g1 k (by omega)), h2, by rw [← g1 i q]; exact h3⟩
  · subst q; rw [h3] at g2; cases g2
  · exact ⟨j, fun k hk => (h1 k (by omega)).trans (g1 k hk), by rw [h1 j q]; exact g2, g3⟩
theorem low_b : ∀ (u : Nat), u ≠ 0 → ∀ j, (u.testBit j = true ∧ (u - 1).testBit j = false) ↔ (u.testBit j = true ∧ ∀ k, k < j → u.testBit k = false) := by
  intro u
  induction u using Nat.strongRecOn with
  | ind u ih =>
    intro h0 j
    by_cases e : u % 2 = 1
    · have e0 : u.testBit 0 = true := by rw [Nat.testBit_zero]; simp [e]
      cases j with
      | zero =>
        have e1 : (u - 1).testBit 0 = false := by
          rw [Nat.testBit_zero]
          have : (u - 1) % 2 = 0 := by omega
          simp [this]
        exact ⟨fun _ => ⟨e0, fun k hk => absurd hk (by omega)⟩, fun _ => ⟨e0, e1⟩⟩
      | succ j =>
        have q : (u - 1) / 2 = u / 2 := by omega
        constructor
        · rintro ⟨a, b⟩
          rw [← Nat.testBit_div_two] at a b
          rw [q, a] at b
          cases b
        · rintro ⟨a, b⟩
          have := b 0 (by omega)
          rw [e0] at this
          cases this
    · have e0 : u.testBit 0 = false := by
        rw [Nat.testBit_zero]
        have : u % 2 = 0 := by omega
        simp [this]
      cases j with
      | zero => exact ⟨fun a => (by rw [e0] at a; exact absurd a.1 (by decide)), fun a => (by rw [e0] at a; exact absurd a.1 (by decide))⟩
      | succ j =>
        have q : (u - 1) / 2 = u / 2 - 1 := by omega
        have g := ih (u / 2) (by omega) (by omega) j
        rw [← Nat.testBit_div_two, ← Nat.testBit_div_two, q, g]
        refine and_congr_right fun _ => ⟨fun a k hk => ?_, fun a k hk => ?_⟩
        · cases k with
          | zero => exact e0
          | succ k => rw [← Nat.testBit_div_two]; exact a k (by omega)
        · rw [Nat.testBit_div_two]; exact a (k + 1) (by omega)
theorem nI_ng {u : Nat} (h : u < 2 ^ 32) : -(nI u) = nI (2 ^ 32 - u) := xi_inj (by
  show -(BitVec.ofNat 32 u) = BitVec.ofNat 32 (2 ^ 32 - u)
  apply BitVec.eq_of_toNat_eq
  rw [BitVec.toNat_neg, BitVec.toNat_ofNat, BitVec.toNat_ofNat, Nat.mod_eq_of_lt h])
theorem il_bef {a b : Nat} (ha : a < 2 ^ 31) (hb : b < 2 ^ 31) (hne : ¬ a = b) : il_ a b ↔ bef a b := by
  have hu : a ^^^ b < 2 ^ 31 := Nat.xor_lt_two_pow ha hb
  have hu0 : a ^^^ b ≠ 0 := fun z => hne (by
    apply Nat.eq_of_testBit_eq
    intro i
    have := Nat.testBit_xor a b i
    rw [z, Nat.zero_testBit] at this
    cases ea : a.testBit i <;> cases eb : b.testBit i <;> rw [ea, eb] at this <;> first | rfl | cases this)
  have key : ∀ j, (a &&& (a ^^^ b) &&& (2 ^ 32 - (a ^^^ b))).testBit j = (a.testBit j && ((a ^^^ b).testBit j && (decide (j < 32) && !((a ^^^ b) - 1).testBit j))) := fun j => by
    rw [Nat.testBit_and, Nat.testBit_and]
    have e : 2 ^ 32 - (a ^^^ b) = 2 ^ 32 - (((a ^^^ b) - 1) + 1) := by omega
    rw [e, Nat.testBit_two_pow_sub_succ (by omega), Bool.and_assoc]
  unfold il_
  rw [xi_xor, nI_ng (by omega), xi_and, xi_and, xi_0 (Nat.lt_of_le_of_lt Nat.and_le_left (Nat.lt_of_le_of_lt Nat.and_le_left (by omega)))]
  constructor
  · intro z
    obtain ⟨i, h1, h2⟩ := bef_ne hne
    refine ⟨i, h1, ?_⟩
    have hx : (a ^^^ b).testBit i = true := by
      rw [Nat.testBit_xor]
      cases ea : a.testBit i <;> cases eb : b.testBit i <;> rw [ea, eb] at h2 <;> first | rfl | exact absurd rfl h2
    have hl := (low_b (a ^^^ b) hu0 i).mpr ⟨hx, fun k hk => by rw [Nat.testBit_xor, h1 k hk, Bool.xor_self]⟩
    have g := key i
    rw [z, Nat.zero_testBit, hx, hl.2] at g
    have hi := tb_lt hu hx
    rw [decide_eq_true (show i < 32 by omega)] at g
    cases ea : a.testBit i with
    | true => rw [ea] at g; cases g
    | false =>
      refine ⟨rfl, ?_⟩
      rw [Nat.testBit_xor, ea] at hx
      cases eb : b.testBit i with
      | true => rfl
      | false => rw [eb] at hx; cases hx
  · rintro ⟨i, h1, h2, h3⟩
    apply Nat.eq_of_testBit_eq
    intro j
    rw [key, Nat.zero_testBit]
    cases ea : a.testBit j with
    | false => rfl
    | true =>
      cases ex : (a ^^^ b).testBit j with
      | false => rfl
      | true =>
        have hji : i < j := by
          rcases Nat.lt_trichotomy i j with q | q | q
          · exact q
          · subst q; rw [h2] at ea; cases ea
          · rw [Nat.testBit_xor, h1 j q, Bool.xor_self] at ex; cases ex
        cases el : ((a ^^^ b) - 1).testBit j with
        | true => simp
        | false =>
          have := ((low_b (a ^^^ b) hu0 j).mp ⟨ex, el⟩).2 i hji
          rw [Nat.testBit_xor, h2, h3] at this
          cases this
/-- the best of the first k sets -/
def bsK (F : Nat → Prop) (v : Nat → Nat) (k : Nat) (r : Option Nat) : Prop := (r = none ∧ ∀ T, T < k → ¬ F T) ∨ ∃ S, r = some S ∧ S < k ∧ F S ∧ ∀ T, T < k → F T → v S < v T ∨ (v S = v T ∧ (S = T ∨ bef S T))
theorem bst_car {sz rm od : Nat → Nat} {np : Nat} (hnp : np ≤ 12) : ∀ k, k ≤ 2 ^ np → bsK (tfit sz rm np) (fun S => ts_ od S np) k (bst (cb_C sz rm od np) k)
  | 0, _ => Or.inl ⟨rfl, fun T h => absurd h (by omega)⟩
  | k + 1, hk => by
    have ih := bst_car (sz := sz) (rm := rm) (od := od) hnp k (by omega)
    have h12 : 2 ^ np ≤ 2 ^ 12 := Nat.pow_le_pow_right (by decide) hnp
    by_cases hc : cb_C sz rm od np k (bst (cb_C sz rm od np) k)
    · rw [bst_y hc]
      refine Or.inr ⟨k, rfl, by omega, hc.1, fun T h1 h2 => ?_⟩
      by_cases e : T = k
      · subst e; exact Or.inr ⟨rfl, Or.inl rfl⟩
      · rcases ih with ⟨h3, h4⟩ | ⟨S, h3, h4, h5, h6⟩
        · exact absurd h2 (h4 T (by omega))
        · have g := h6 T (by omega) h2
          rcases hc.2 S h3 with c | ⟨c1, c2⟩
          · rcases g with g | ⟨g, -⟩
            · exact Or.inl (by show ts_ od k np < _; exact Nat.lt_trans c g)
            · exact Or.inl (by show ts_ od k np < ts_ od T np; have g' : ts_ od S np = ts_ od T np := g; omega)
          · have c2 := (il_bef (by omega) (by omega) (by omega)).mp c2
            rcases g with g | ⟨g, g2⟩
            · exact Or.inl (by show ts_ od k np < ts_ od T np; have g' : ts_ od S np < ts_ od T np := g; omega)
            · refine Or.inr ⟨by show ts_ od k np = ts_ od T np; have g' : ts_ od S np = ts_ od T np := g; omega, Or.inr ?_⟩
              rcases g2 with e2 | e2
              · rw [← e2]; exact c2
              · exact bef_tr c2 e2
    · rw [bst_n hc]
      rcases ih with ⟨h3, h4⟩ | ⟨S, h3, h4, h5, h6⟩
      · refine Or.inl ⟨h3, fun T h1 h2 => ?_⟩
        by_cases e : T = k
        · subst e
          exact hc ⟨h2, fun q hq => by rw [h3] at hq; cases hq⟩
        · exact h4 T (by omega) h2
      · refine Or.inr ⟨S, h3, by omega, h5, fun T h1 h2 => ?_⟩
        by_cases e : T = k
        · subst e
          have hn : ¬ (ts_ od T np < ts_ od S np ∨ (ts_ od T np = ts_ od S np ∧ il_ T S)) := fun z => hc ⟨h2, fun q hq => by rw [h3] at hq; cases hq; exact z⟩
          rcases Nat.lt_trichotomy (ts_ od S np) (ts_ od T np) with q | q | q
          · exact Or.inl q
          · refine Or.inr ⟨q, ?_⟩
            have hST : ¬ S = T := by omega
            rcases bef_to hST with z | z
            · exact Or.inr z
            · exact absurd (Or.inr ⟨q.symm, (il_bef (by omega) (by omega) (by omega)).mpr z⟩) hn
          · exact absurd (Or.inl q) hn
        · exact h6 T (by omega) h2
theorem bsK_un {F : Nat → Prop} {v : Nat → Nat} {k : Nat} {r r2 : Option Nat} (h : bsK F v k r) (g : bsK F v k r2) : r = r2 := by
  rcases h with ⟨h1, h2⟩ | ⟨S, h1, h2, h3, h4⟩
  · rcases g with ⟨g1, -⟩ | ⟨T, g1, g2, g3, g4⟩
    · rw [h1, g1]
    · exact absurd g3 (h2 T g2)
  · rcases g with ⟨g1, g2⟩ | ⟨T, g1, g2, g3, g4⟩
    · exact absurd h3 (g2 S h2)
    · rw [h1, g1]
      congr 1
      rcases h4 T g2 g3 with a | ⟨a, b⟩
      · rcases g4 S h2 h3 with c | ⟨c, -⟩ <;> omega
      · rcases g4 S h2 h3 with c | ⟨c, e⟩
        · omega
        · rcases b with b | b
          · exact b
          · rcases e with e | e
            · exact e.symm
            · exact absurd (bef_as b e) id
