/-! boards (class): leastNumber -/
theorem sb_half {a b : Nat} (h : sb_ a b) : sb_ (a / 2) (b / 2) := fun i hi => by
  rw [Nat.testBit_div_two] at hi ⊢
  exact h (i + 1) hi
theorem sb_par {a b : Nat} (h : sb_ a b) : a % 2 ≤ b % 2 := by
  have q := h 0
  rw [Nat.testBit_zero, Nat.testBit_zero] at q
  by_cases e : a % 2 = 1
  · have := q (by simp [e])
    simp at this
    omega
  · omega
theorem sb_and {a b : Nat} : sb_ (a &&& b) b := fun i hi => by
  rw [Nat.testBit_and, Bool.and_eq_true] at hi
  exact hi.2
theorem sb_le {a b : Nat} (h : sb_ a b) : a ≤ b := by
  have e : a &&& b = a := Nat.eq_of_testBit_eq fun i => by
    rw [Nat.testBit_and]
    cases q : a.testBit i with
    | true => rw [h i q]; rfl
    | false => rfl
  rw [← e]; exact Nat.and_le_right
theorem and_half (a b : Nat) : (a &&& b) / 2 = (a / 2) &&& (b / 2) := by
  apply Nat.eq_of_testBit_eq
  intro i
  rw [Nat.testBit_div_two, Nat.testBit_and, Nat.testBit_and, Nat.testBit_div_two, Nat.testBit_div_two]
theorem sm_next : ∀ (m r x : Nat), sb_ m r → 0 < m → sb_ x r → x < m → x ≤ (m - 1) &&& r := by
  intro m
  induction m using Nat.strongRecOn with
  | ind m ih =>
    intro r x hm h0 hx hl
    by_cases e : m % 2 = 1
    · have s1 : sb_ (m - 1) r := by
        intro i hi
        refine hm i ?_
        cases i with
        | zero => rw [Nat.testBit_zero] at hi; simp at hi; omega
        | succ i =>
          rw [← Nat.testBit_div_two] at hi ⊢
          have q : (m - 1) / 2 = m / 2 := by omega
          rw [q] at hi; exact hi
      have e2 : (m - 1) &&& r = m - 1 := sb_as (fun i hi => by rw [Nat.testBit_and, Bool.and_eq_true] at hi; exact hi.1) (fun i hi => by rw [Nat.testBit_and, hi, s1 i hi]; rfl)
      omega
    · have h1 := ih (m / 2) (by omega) (r / 2) (x / 2) (sb_half hm) (by omega) (sb_half hx) (by omega)
      have h2 : ((m - 1) &&& r) / 2 = (m / 2 - 1) &&& (r / 2) := by
        rw [and_half]
        congr 1
        omega
      have h3 : ((m - 1) &&& r) % 2 = r % 2 := by
        have q : (m - 1) % 2 = 1 := by omega
        have q1 : (m - 1).testBit 0 = true := by rw [Nat.testBit_zero]; simp [q]
        have t := Nat.testBit_and (m - 1) r 0
        rw [q1, Bool.true_and, Nat.testBit_zero, Nat.testBit_zero] at t
        have t2 := decide_eq_decide.mp t
        have a1 := Nat.mod_two_eq_zero_or_one ((m - 1) &&& r)
        have a2 := Nat.mod_two_eq_zero_or_one r
        by_cases z : r % 2 = 1
        · have := t2.mpr z
          omega
        · have : ¬ ((m - 1) &&& r) % 2 = 1 := fun y => z (t2.mp y)
          omega
      have h4 := sb_par hx
      omega
def lw_ (S : Nat) : Nat := S &&& (4096 - S)
theorem lw_o2 : ∀ a, a < 64 → ∀ b, b < 64 → nI (64 * a + b) &&& -(nI (64 * a + b)) = nI (lw_ (64 * a + b)) := by decide +kernel
theorem lw_ok (n : Nat) (h : n < 4096) : nI n &&& -(nI n) = nI (lw_ n) := by
  have h1 := lw_o2 (n / 64) (by omega) (n % 64) (by omega)
  rw [Nat.div_add_mod] at h1
  exact h1
theorem lw_sb (S : Nat) : sb_ (lw_ S) S := fun i hi => by
  rw [lw_, Nat.testBit_and, Bool.and_eq_true] at hi
  exact hi.1