/-! boards (class): leastNumber, the walk over the submasks -/
theorem xl_i {p : Nat} (h : p < 2 ^ 31) : (nI p).toInt64 = lN p := Int64.toInt_inj.mp (by rw [Int32.toInt_toInt64, nI_toInt h, pf_lI (by omega)])
def rs_ (S : Nat) : Nat := S ^^^ lw_ S
def Lc (pv : Nat → Option Nat) (bh : Nat → Nat) (S v : Nat) : Prop := ∃ x p, sb_ x (rs_ S) ∧ pv (lw_ S ||| x) = some p ∧ v = p * 743008370688 + bh (rs_ S ^^^ x)
theorem sb_xor {a b : Nat} (h : sb_ a b) : sb_ (b ^^^ a) b := fun i hi => by
  rw [Nat.testBit_xor] at hi
  cases e : b.testBit i with
  | true => rfl
  | false =>
    rw [e] at hi
    cases e2 : a.testBit i with
    | true => rw [h i e2] at e; cases e
    | false => rw [e2] at hi; cases hi
theorem cmp_ge {a b : Nat} (ha : a < 2 ^ 62) (hb : b < 2 ^ 62) : lg_cmp (lN a) (lN b) ≥ 0 ↔ b ≤ a := by
  have h1 := pf_lI (a := a) (by omega)
  have h2 := pf_lI (a := b) (by omega)
  unfold lg_cmp
  split
  · rename_i q
    rw [Int64.lt_iff_toInt_lt, h1, h2] at q
    exact ⟨fun z => absurd z (by decide), fun z => by omega⟩
  · rename_i q
    rw [Int64.lt_iff_toInt_lt, h1, h2] at q
    split
    · exact ⟨fun _ => by omega, fun _ => by decide⟩
    · exact ⟨fun _ => by omega, fun _ => by decide⟩