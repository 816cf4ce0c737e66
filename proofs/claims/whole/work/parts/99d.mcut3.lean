/-! the cut in math (3): one choice; the capped least -/
theorem Cq_st {q : Nat → Option Nat} {gr : Nat → Nat} {k i T P n z : Nat} (h4 : T < 4096) (h : ls_ T i) : Cq q gr k k T P n z ↔ ∃ g z2, g ≤ k ∧ Cq q (gu_ gr g i k) (gk_ k g) (gk_ k g) (rs_ T) P n z2 ∧ z = g * o_ (2 ^ i) + z2 := by
  have eo : ∀ j, j < k → ∀ g, gu_ gr j i k g = if g = j then gr j ||| 2 ^ i else gr g := fun j hj g => by
    rw [gu_]
    by_cases e : g = j
    · rw [if_pos e, if_pos e, if_pos hj]
    · rw [if_neg e, if_neg e]
  have en : ∀ g, gu_ gr k i k g = if g = k then 2 ^ i else gr g := fun g => by
    rw [gu_]
    by_cases e : g = k
    · rw [if_pos e, if_pos e, if_neg (Nat.lt_irrefl _), Nat.zero_or]
    · rw [if_neg e, if_neg e]
  have kj : ∀ j, j < k → gk_ k j = k := fun j hj => if_neg (by omega)
  have kk : gk_ k k = k + 1 := if_pos rfl
  rw [Cq_1 k T P n z h4 h]
  constructor
  · rintro (⟨j, z2, h1, h2, h3⟩ | ⟨y, p, P2, n2, z2, h1, h2, h3, h5, h6, h7⟩)
    · refine ⟨j, z2, Nat.le_of_lt h1, ?_, h3⟩
      rw [kj j h1]
      exact Cq_cg k _ _ _ _ (fun g _ => eo j h1 g) h2
    · refine ⟨k, k * o_ y + z2, Nat.le_refl _, ?_, ?_⟩
      · rw [kk]
        refine ⟨y, p, P2, n2, z2, h1, ?_, Cq_cg k _ _ _ _ (fun g hg => (en g).trans (if_neg (by omega))) h3, h5, h6, rfl⟩
        rw [en, if_pos rfl]; exact h2
      · have yi : y.testBit i = false := by
          cases e : y.testBit i with
          | false => rfl
          | true =>
            have z := h1 i e
            rw [rs_x h4 h, xd_i] at z
            cases z
        rw [h7, o_in yi, Nat.mul_add]; omega
  · rintro ⟨g, z2, h1, h2, h3⟩
    by_cases e : g = k
    · subst e
      rw [kk] at h2
      obtain ⟨y, p, P2, n2, z3, g1, g2, g3, g4, g5, g6⟩ := h2
      rw [en, if_pos rfl] at g2
      have yi : y.testBit i = false := by
        cases e : y.testBit i with
        | false => rfl
        | true =>
          have z := g1 i e
          rw [rs_x h4 h, xd_i] at z
          cases z
      refine Or.inr ⟨y, p, P2, n2, z3, g1, g2, Cq_cg g _ _ _ _ (fun j hj => ((en j).trans (if_neg (by omega))).symm) g3, g4, g5, ?_⟩
      rw [h3, g6, o_in yi, Nat.mul_add]; omega
    · have hg : g < k := by omega
      rw [kj g hg] at h2
      exact Or.inl ⟨g, z2, hg, Cq_cg k _ _ _ _ (fun j _ => (eo g hg j).symm) h2, h3⟩
theorem Mn_ex (P : Nat → Prop) : ∃ v, Mn P v := by
  have key : ∀ m, (∃ v, (v = m ∨ P v) ∧ v ≤ m ∧ ∀ w, P w → w < m → v ≤ w) := fun m => by
    induction m with
    | zero => exact ⟨0, Or.inl rfl, Nat.le_refl _, fun w _ h => absurd h (Nat.not_lt_zero _)⟩
    | succ m ih =>
      obtain ⟨v, h1, h2, h3⟩ := ih
      by_cases e : P v
      · refine ⟨v, Or.inr e, by omega, fun w hw hl => ?_⟩
        by_cases e2 : w = m
        · omega
        · exact h3 w hw (by omega)
      · have ev : v = m := by
          rcases h1 with h1 | h1
          · exact h1
          · exact absurd h1 e
        refine ⟨m + 1, Or.inl rfl, Nat.le_refl _, fun w hw hl => ?_⟩
        by_cases e2 : w = m
        · exact absurd (by rw [ev, ← e2]; exact hw) e
        · have := h3 w hw (by omega)
          omega
  obtain ⟨v, h1, h2, h3⟩ := key 100000000
  refine ⟨v, h1, h2, fun w hw => ?_⟩
  by_cases e : w < 100000000
  · exact h3 w hw e
  · omega
theorem mnv_Mn (P : Nat → Prop) : Mn P (mnv P) := by
  rw [mnv, dif_pos (Mn_ex P)]
  exact Classical.choose_spec (Mn_ex P)
/-- what a board costs the model -/
def f16 (q : Nat → Option Nat) (S : Nat) : Nat := match q S with
  | none => 100000000
  | some p => 16 * p + 1
theorem f16_lt {q : Nat → Option Nat} {S : Nat} (h : f16 q S < 100000000) : ∃ p, q S = some p ∧ f16 q S = 16 * p + 1 := by
  unfold f16 at h ⊢
  cases e : q S with
  | none => rw [e] at h; exact absurd h (by decide)
  | some p => exact ⟨p, rfl, rfl⟩
theorem f16_s {q : Nat → Option Nat} {S p : Nat} (h : q S = some p) : f16 q S = 16 * p + 1 := by
  unfold f16; rw [h]
/-- a step of the capped least -/
theorem Mn_step {q : Nat → Option Nat} {f c g : Nat → Nat} {r : Nat} {A : Nat → Nat → Nat → Prop} {B : Nat → Nat → Prop} {v : Nat} (hf : ∀ x, sb_ x r → f x = f16 q (g x)) (hA : ∀ x, sb_ x r → Mn (fun w => ∃ P n, A x P n ∧ w = 16 * P + n) (c x)) (hB : ∀ P n, B P n ↔ ∃ x p P2 n2, sb_ x r ∧ q (g x) = some p ∧ A x P2 n2 ∧ P = p + P2 ∧ n = n2 + 1) (hv : Mn (Vm (fun x => f x + c x) r) v) : Mn (fun w => ∃ P n, B P n ∧ w = 16 * P + n) v := by
  refine ⟨?_, hv.2.1, ?_⟩
  · rcases hv.1 with h | ⟨x, h1, h2⟩
    · exact Or.inl h
    · dsimp only at h2
      by_cases e : v < 100000000
      · right
        have e1 : f16 q (g x) < 100000000 := by rw [← hf x h1]; omega
        obtain ⟨p, k1, k2⟩ := f16_lt e1
        rcases (hA x h1).1 with h | ⟨P, n, a1, a2⟩
        · omega
        · exact ⟨p + P, n + 1, (hB _ _).mpr ⟨x, p, P, n, h1, k1, a1, rfl, rfl⟩, by rw [h2, hf x h1, k2, a2]; omega⟩
      · left; have := hv.2.1; omega
  · rintro w ⟨P, n, h1, h2⟩
    obtain ⟨x, p, P2, n2, k1, k2, k3, k4, k5⟩ := (hB P n).mp h1
    have z := hv.2.2 _ ⟨x, k1, rfl⟩
    have z2 := (hA x k1).2.2 _ ⟨P2, n2, k3, rfl⟩
    dsimp only at z
    rw [hf x k1, f16_s k2] at z
    omega
