/-! leaning: both closures are the least closed set; a rank; the order of building -/
theorem tb_lt {s i n : Nat} (hs : s < 2 ^ n) (h : s.testBit i = true) : i < n := by
  rcases Nat.lt_or_ge i n with q | q
  · exact q
  · have e := Nat.testBit_lt_two_pow (Nat.lt_of_lt_of_le hs (Nat.pow_le_pow_right (by decide) q))
    rw [e] at h
    cases h
theorem xpc_s (s k : Nat) : xpc s (k + 1) = xpc s k + if s.testBit k then 1 else 0 := by rw [xpc, xt_b]
theorem xpc_mo {a b : Nat} (h : sb_ a b) : ∀ n, xpc a n ≤ xpc b n
  | 0 => Nat.le_refl _
  | n + 1 => by
    have ih := xpc_mo h n
    rw [xpc_s, xpc_s]
    cases e : a.testBit n with
    | true => rw [h n e]; simp only [if_true]; omega
    | false => simp only [Bool.false_eq_true, if_false]; omega
theorem xpc_st {a b i : Nat} (h : sb_ a b) (h1 : b.testBit i = true) (h2 : a.testBit i = false) : ∀ n, i < n → xpc a n < xpc b n
  | 0, hn => by omega
  | n + 1, hn => by
    rw [xpc_s, xpc_s]
    by_cases e : i = n
    · subst e
      have := xpc_mo h i
      rw [h1, h2]
      simp only [if_true, Bool.false_eq_true, if_false]
      omega
    · have ih := xpc_st h h1 h2 n (by omega)
      cases e2 : a.testBit n with
      | true => rw [h n e2]; simp only [if_true]; omega
      | false => simp only [Bool.false_eq_true, if_false]; omega
theorem xpc_or {s p : Nat} (h : s.testBit p = false) : ∀ n, xpc (s ||| 2 ^ p) n = xpc s n + if p < n then 1 else 0
  | 0 => rfl
  | n + 1 => by
    have ih := xpc_or h n
    rw [xpc_s, xpc_s, ih, Nat.testBit_or, Nat.testBit_two_pow]
    by_cases e : p = n
    · subst e
      rw [h]
      simp
    · by_cases q : p < n
      · have q2 : p < n + 1 := by omega
        simp [e, q, q2]; omega
      · have q2 : ¬ p < n + 1 := by omega
        simp [e, q, q2]
theorem xpc_fu {s n : Nat} (h : xpc s n = n) {i : Nat} (hi : i < n) : s.testBit i = true := by
  cases e : s.testBit i with
  | true => rfl
  | false =>
    have h1 := xpc_or e n
    rw [if_pos hi, h] at h1
    have h2 := xpc_le (s ||| 2 ^ i) n
    omega
theorem xpc_po {s n : Nat} (h : s ≠ 0) (hs : s < 2 ^ n) : 1 ≤ xpc s n := by
  have ⟨i, hi⟩ : ∃ i, s.testBit i = true := by
    apply Classical.byContradiction
    intro q
    apply h
    apply Nat.eq_of_testBit_eq
    intro i
    rw [Nat.zero_testBit]
    cases e : s.testBit i with
    | true => exact absurd ⟨i, e⟩ q
    | false => rfl
  have := xpc_st (sb_z s) hi (Nat.zero_testBit i) n (tb_lt hs hi)
  omega
theorem sb_ex {a b : Nat} (h : sb_ a b) (hne : ¬ b = a) : ∃ i, b.testBit i = true ∧ a.testBit i = false := by
  apply Classical.byContradiction
  intro q
  apply hne
  refine sb_as (fun i hi => ?_) h
  cases e : a.testBit i with
  | true => rfl
  | false => exact absurd ⟨i, hi, e⟩ q
theorem sb_o1 {a b : Nat} : sb_ a (a ||| b) := fun i hi => by rw [Nat.testBit_or, hi, Bool.true_or]
theorem sb_o2 {a b : Nat} : sb_ b (a ||| b) := fun i hi => by rw [Nat.testBit_or, hi, Bool.or_true]
def clo (on : Nat → Nat) (s : Nat) : Prop := ∀ p, s.testBit p = true → sb_ (on p) s
theorem ls_m_sb {on : Nat → Nat} {s : Nat} : ∀ i, sb_ s (ls_m on s i)
  | 0 => fun _ h => h
  | i + 1 => by
    rw [ls_m]
    split
    · exact sb_tr (ls_m_sb i) sb_o1
    · exact ls_m_sb i
theorem ls_m_on {on : Nat → Nat} {s p : Nat} (h : s.testBit p = true) : ∀ i, p < i → sb_ (on p) (ls_m on s i)
  | 0, hi => by omega
  | i + 1, hi => by
    rw [ls_m]
    by_cases e : p = i
    · subst e
      rw [if_pos h]
      exact sb_o2
    · have ih := ls_m_on (on := on) h i (by omega)
      split
      · exact sb_tr ih sb_o1
      · exact ih
theorem ls_m_mi {on : Nat → Nat} {s T : Nat} (hT : clo on T) (h : sb_ s T) : ∀ i, sb_ (ls_m on s i) T
  | 0 => h
  | i + 1 => by
    rw [ls_m]
    split
    · rename_i q
      exact sb_or (ls_m_mi hT h i) (hT i (h i q))
    · exact ls_m_mi hT h i
theorem ls_it_sb {on : Nat → Nat} : ∀ k s, sb_ s (ls_it on k s)
  | 0, s => fun _ h => h
  | k + 1, s => by
    rw [ls_it]
    split
    · exact fun _ h => h
    · exact sb_tr (ls_m_sb 12) (ls_it_sb k _)
theorem ls_it_mi {on : Nat → Nat} {T : Nat} (hT : clo on T) : ∀ k s, sb_ s T → sb_ (ls_it on k s) T
  | 0, s, h => h
  | k + 1, s, h => by
    rw [ls_it]
    split
    · exact h
    · exact ls_it_mi hT k _ (ls_m_mi hT h 12)
theorem ls_it_cl {on : Nat → Nat} (ho : ∀ p, p < 12 → on p < 2 ^ 12) : ∀ k s, s < 2 ^ 12 → 12 ≤ xpc s 12 + k → clo on (ls_it on k s)
  | 0, s, hs, h => by
    have hf : xpc s 12 = 12 := by have := xpc_le s 12; omega
    intro p hp i hi
    have hp2 := tb_lt (ls_it_lt (k := 12) ho 0 s hs) hp
    exact xpc_fu hf (tb_lt (ho p hp2) hi)
  | k + 1, s, hs, h => by
    rw [ls_it]
    split
    · rename_i q
      intro p hp
      rw [← q]
      exact ls_m_on hp 12 (tb_lt hs hp)
    · rename_i q
      have hm := ls_m_lt (k := 12) ho hs 12 (Nat.le_refl _)
      obtain ⟨i, h1, h2⟩ := sb_ex (ls_m_sb 12) q
      have := xpc_st (ls_m_sb 12) h1 h2 12 (tb_lt hm h1)
      exact ls_it_cl ho k _ hm (by omega)
theorem ls_0 {on : Nat → Nat} : ∀ i, ls_m on 0 i = 0
  | 0 => rfl
  | i + 1 => by rw [ls_m, ls_0 i, Nat.zero_testBit]; rfl
theorem clo_0 (on : Nat → Nat) : clo on 0 := fun p hp => by rw [Nat.zero_testBit] at hp; cases hp
/-- all on which p leans -/
def C_ (on : Nat → Nat) (p : Nat) : Nat := ls_it on 11 (on p)
theorem C_cl {on : Nat → Nat} (ho : ∀ p, p < 12 → on p < 2 ^ 12) {p : Nat} (hp : on p < 2 ^ 12) : clo on (C_ on p) := by
  unfold C_
  by_cases e : on p = 0
  · rw [e, ls_it, if_pos (ls_0 12)]
    exact clo_0 on
  · have := xpc_po e hp
    exact ls_it_cl ho 11 _ hp (by omega)
theorem C_sb {on : Nat → Nat} {p : Nat} : sb_ (on p) (C_ on p) := ls_it_sb 11 _
theorem C_mi {on : Nat → Nat} {T p : Nat} (hT : clo on T) (h : sb_ (on p) T) : sb_ (C_ on p) T := ls_it_mi hT 11 _ h
theorem lm_i_sb {on : Nat → Nat} {s : Nat} : ∀ i, sb_ s (lm_i on s i)
  | 0 => fun _ h => h
  | i + 1 => by
    rw [lm_i]
    split
    · exact sb_tr (lm_i_sb i) sb_o1
    · exact lm_i_sb i
theorem lm_i_on {on : Nat → Nat} {s p : Nat} (h : s.testBit p = true) : ∀ i, p < i → sb_ (on p) (lm_i on s i)
  | 0, hi => by omega
  | i + 1, hi => by
    rw [lm_i]
    by_cases e : p = i
    · subst e
      rw [if_pos (lm_i_sb p p h)]
      exact sb_o2
    · have ih := lm_i_on (on := on) h i (by omega)
      split
      · exact sb_tr ih sb_o1
      · exact ih
theorem lm_i_mi {on : Nat → Nat} {s T : Nat} (hT : clo on T) (h : sb_ s T) : ∀ i, sb_ (lm_i on s i) T
  | 0 => h
  | i + 1 => by
    rw [lm_i]
    have ih := lm_i_mi hT h i
    split
    · rename_i q
      exact sb_or ih (hT i (ih i q))
    · exact ih
theorem lm_it_sb {on : Nat → Nat} {np : Nat} : ∀ k s, sb_ s (lm_it on np k s)
  | 0, s => fun _ h => h
  | k + 1, s => by
    rw [lm_it]
    exact sb_tr (lm_i_sb np) (lm_it_sb k _)
theorem lm_it_mi {on : Nat → Nat} {np T : Nat} (hT : clo on T) : ∀ k s, sb_ s T → sb_ (lm_it on np k s) T
  | 0, s, h => h
  | k + 1, s, h => by
    rw [lm_it]
    exact lm_it_mi hT k _ (lm_i_mi hT h np)
theorem lm_i_l2 {on : Nat → Nat} {np : Nat} (ho : ∀ p, p < np → on p < 2 ^ np) {s : Nat} (hs : s < 2 ^ np) : ∀ i, i ≤ np → lm_i on s i < 2 ^ np
  | 0, _ => hs
  | i + 1, hi => by
    have ih := lm_i_l2 ho hs i (by omega)
    rw [lm_i]
    split
    · exact xor_lt ih (ho i (by omega))
    · exact ih
theorem lm_fix {on : Nat → Nat} {np s : Nat} (h : lm_i on s np = s) : ∀ k, lm_it on np k s = s
  | 0 => rfl
  | k + 1 => by rw [lm_it, h]; exact lm_fix h k
theorem lm_it_cl {on : Nat → Nat} {np : Nat} (ho : ∀ p, p < np → on p < 2 ^ np) : ∀ k s, s < 2 ^ np → np ≤ xpc s np + k → clo on (lm_it on np k s)
  | 0, s, hs, h => by
    have hf : xpc s np = np := by have := xpc_le s np; omega
    intro p hp i hi
    exact xpc_fu hf (tb_lt (ho p (tb_lt hs hp)) hi)
  | k + 1, s, hs, h => by
    by_cases q : lm_i on s np = s
    · rw [lm_fix q]
      intro p hp
      rw [← q]
      exact lm_i_on hp np (tb_lt hs hp)
    · rw [lm_it]
      have hm := lm_i_l2 ho hs np (Nat.le_refl _)
      obtain ⟨i, h1, h2⟩ := sb_ex (lm_i_sb np) q
      have := xpc_st (lm_i_sb np) h1 h2 np (tb_lt hm h1)
      exact lm_it_cl ho k _ hm (by omega)
theorem lm_0 {on : Nat → Nat} : ∀ i, lm_i on 0 i = 0
  | 0 => rfl
  | i + 1 => by rw [lm_i, lm_0 i, Nat.zero_testBit]; rfl
theorem C_eq {on : Nat → Nat} {np : Nat} (hnp : np ≤ 12) (ho : ∀ p, p < np → on p < 2 ^ np) (ho2 : ∀ p, p < 12 → on p < 2 ^ 12) {p : Nat} (hp : p < np) : lm_it on np np (on p) = C_ on p := by
  have hb := ho p hp
  have h12 : on p < 2 ^ 12 := ho2 p (by omega)
  have hc : clo on (lm_it on np np (on p)) := by
    by_cases e : on p = 0
    · rw [e, lm_fix (lm_0 np)]
      exact clo_0 on
    · exact lm_it_cl ho np _ hb (by omega)
  exact sb_as (lm_it_mi (C_cl ho2 h12) np _ C_sb) (C_mi hc (lm_it_sb np _))
/-- a new leaning keeps a rank -/
theorem rk_up {on : Nat → Nat} (ho : ∀ p, on p < 2 ^ 12) {rk : Nat → Nat} (h : ∀ p q, (on p).testBit q = true → rk q < rk p) {a b : Nat} (hab : ¬ a = b) (hn : ¬ (C_ on b).testBit a = true) : ∃ rk2 : Nat → Nat, ∀ p q, ((if p = a then on a ||| 2 ^ b else on p)).testBit q = true → rk2 q < rk2 p := by
  have ho2 : ∀ p, p < 12 → on p < 2 ^ 12 := fun p _ => ho p
  refine ⟨fun p => @ite Nat (p = a ∨ (C_ on p).testBit a = true) (Classical.propDecidable _) (rk p + rk b + 1) (rk p), fun p q hq => ?_⟩
  have key : ∀ p q, (on p).testBit q = true → (q = a ∨ (C_ on q).testBit a = true) → (C_ on p).testBit a = true := fun p q h1 h2 => by
    have hq := C_sb (on := on) (p := p) q h1
    rcases h2 with e | e
    · rw [← e]; exact hq
    · exact C_mi (C_cl ho2 (ho p)) (C_cl ho2 (ho p) q hq) a e
  have old : (on p).testBit q = true → (@ite Nat (q = a ∨ (C_ on q).testBit a = true) (Classical.propDecidable _) (rk q + rk b + 1) (rk q)) < (@ite Nat (p = a ∨ (C_ on p).testBit a = true) (Classical.propDecidable _) (rk p + rk b + 1) (rk p)) := fun h1 => by
    have h2 := h p q h1
    by_cases e : q = a ∨ (C_ on q).testBit a = true
    · rw [if_pos e, if_pos (Or.inr (key p q h1 e))]; omega
    · rw [if_neg e]
      split <;> omega
  by_cases e : p = a
  · rw [if_pos e, Nat.testBit_or, Bool.or_eq_true] at hq
    rcases hq with hq | hq
    · subst e; exact old hq
    · rw [Nat.testBit_two_pow] at hq
      have eq : b = q := of_decide_eq_true hq
      subst eq
      have nb : ¬ (b = a ∨ (C_ on b).testBit a = true) := fun z => z.elim (fun y => hab y.symm) hn
      show (@ite Nat (b = a ∨ (C_ on b).testBit a = true) (Classical.propDecidable _) (rk b + rk b + 1) (rk b)) < (@ite Nat (p = a ∨ (C_ on p).testBit a = true) (Classical.propDecidable _) (rk p + rk b + 1) (rk p))
      rw [if_neg nb, if_pos (Or.inl e)]
      omega
  · rw [if_neg e] at hq
    exact old hq
/-- with a rank there is always one that comes next -/
theorem lo_rd {on : Nat → Nat} {np bu : Nat} (ho : ∀ p, p < np → on p < 2 ^ np) {rk : Nat → Nat} (h : ∀ p q, (on p).testBit q = true → rk q < rk p) : ∀ r p, rk p ≤ r → p < np → bu.testBit p = false → ∃ q, q < np ∧ lo_r on bu q := by
  intro r
  induction r using Nat.strongRecOn with
  | ind r ih =>
    intro p hr hp hb
    by_cases e : xdf (on p) bu = 0
    · exact ⟨p, hp, hb, e⟩
    · obtain ⟨q, h1, -⟩ := sb_ex (sb_z (xdf (on p) bu)) e
      rw [xdf_bit, Bool.and_eq_true] at h1
      have hq := h p q h1.1
      refine ih (rk q) (by omega) q (Nat.le_refl _) (tb_lt (ho p hp) h1.1) ?_
      have := h1.2
      cases e2 : bu.testBit q with
      | false => rfl
      | true => rw [e2] at this; cases this
def lo_A (on : Nat → Nat) (np : Nat) : Prop := (∀ p, p < np → on p < 2 ^ np) ∧ ∃ rk : Nat → Nat, ∀ p q, (on p).testBit q = true → rk q < rk p
theorem lo_nx {on : Nat → Nat} {np bu : Nat} (hA : lo_A on np) (h : xpc bu np < np) : lo_r on bu (lo_n on np bu) ∧ lo_n on np bu < np := by
  obtain ⟨ho, rk, hr⟩ := hA
  have ⟨p, hp, hb⟩ : ∃ p, p < np ∧ bu.testBit p = false := by
    apply Classical.byContradiction
    intro q
    have : ∀ n, n ≤ np → xpc bu n = n := by
      intro n
      induction n with
      | zero => intro _; rfl
      | succ n ih =>
        intro hn
        rw [xpc_s, ih (by omega)]
        cases e : bu.testBit n with
        | true => rfl
        | false => exact absurd ⟨n, by omega, e⟩ q
    have := this np (Nat.le_refl _)
    omega
  obtain ⟨q, h1, h2⟩ := lo_rd ho hr (rk p) p (Nat.le_refl _) hp hb
  have sp := xfst_sp (P := lo_r on bu) np 0 ⟨q, by omega, by omega, h2⟩
  exact ⟨sp.1, by have := sp.2.1; show xfst _ _ _ _ _ < _; omega⟩
theorem lo_cn {on : Nat → Nat} {np : Nat} (hA : lo_A on np) : ∀ i, i ≤ np → xpc (lo_b on np i) np = i
  | 0, _ => by
    have : ∀ n, xpc 0 n = 0 := fun n => by
      induction n with
      | zero => rfl
      | succ n ih => rw [xpc_s, ih, Nat.zero_testBit]; rfl
    exact this np
  | i + 1, hi => by
    have ih := lo_cn hA i (by omega)
    have h := lo_nx hA (bu := lo_b on np i) (by omega)
    rw [lo_b, xpc_or h.1.1, if_pos h.2, ih]
theorem lo_hex {on : Nat → Nat} {np : Nat} (hA : lo_A on np) : ∀ i, i < np → ∃ p, p < np ∧ lo_r on (lo_b on np i) p := fun i hi => by
  have h := lo_nx hA (bu := lo_b on np i) (by rw [lo_cn hA i (by omega)]; exact hi)
  exact ⟨_, h.2, h.1⟩
theorem od_lt {on : Nat → Nat} {np : Nat} (hA : lo_A on np) (i : Nat) (hi : i < np) : od_ on np i < np := (lo_nx hA (bu := lo_b on np i) (by rw [lo_cn hA i (by omega)]; exact hi)).2
theorem lo_bm {on : Nat → Nat} {np i : Nat} : ∀ j, i ≤ j → sb_ (lo_b on np i) (lo_b on np j)
  | 0, h => by
    have e : i = 0 := by omega
    subst e
    exact fun _ h => h
  | j + 1, h => by
    by_cases e : i = j + 1
    · subst e; exact fun _ h => h
    · rw [lo_b]
      exact sb_tr (lo_bm j (by omega)) sb_o1
theorem od_in {on : Nat → Nat} {np i j : Nat} (h : i < j) : (lo_b on np j).testBit (od_ on np i) = true := by
  refine lo_bm (i := i + 1) j (by omega) _ ?_
  rw [lo_b, Nat.testBit_or, Nat.testBit_two_pow]
  show (_ || decide (lo_n on np (lo_b on np i) = od_ on np i)) = true
  rw [show lo_n on np (lo_b on np i) = od_ on np i from rfl]
  simp
theorem od_inj {on : Nat → Nat} {np : Nat} (hA : lo_A on np) : ∀ i j, i < np → j < np → od_ on np i = od_ on np j → i = j := by
  have key : ∀ i j, i < j → j < np → ¬ od_ on np i = od_ on np j := fun i j h1 h2 e => by
    have a := od_in (on := on) (np := np) h1
    have b := (lo_nx hA (bu := lo_b on np j) (by rw [lo_cn hA j (by omega)]; exact h2)).1.1
    rw [e] at a
    rw [show od_ on np j = lo_n on np (lo_b on np j) from rfl, b] at a
    cases a
  intro i j hi hj e
  rcases Nat.lt_trichotomy i j with q | q | q
  · exact absurd e (key i j q hj)
  · exact q
  · exact absurd e.symm (key j i q hi)
theorem od_sur {on : Nat → Nat} {np : Nat} (hA : lo_A on np) : ∀ p, p < np → ∃ i, i < np ∧ od_ on np i = p := fun p hp => by
  have h : ∀ k, (lo_b on np k).testBit p = true → ∃ i, i < k ∧ od_ on np i = p := fun k => by
    induction k with
    | zero => intro h; rw [lo_b, Nat.zero_testBit] at h; cases h
    | succ k ih =>
      intro h
      rw [lo_b, Nat.testBit_or, Bool.or_eq_true, Nat.testBit_two_pow] at h
      rcases h with h | h
      · obtain ⟨i, h1, h2⟩ := ih h
        exact ⟨i, by omega, h2⟩
      · exact ⟨k, by omega, of_decide_eq_true h⟩
  exact h np (xpc_fu (lo_cn hA np (Nat.le_refl _)) hp)
theorem od_ot {on : Nat → Nat} {np : Nat} (hA : lo_A on np) : ∀ i, i < np → ot_ on np (od_ on np i) = xdf (2 ^ od_ on np i - 1) (dn_f (od_ on np) i) := fun i hi => by
  have sp := xfst_sp (P := fun k => od_ on np k = od_ on np i) np 0 ⟨i, by omega, by omega, rfl⟩
  have e := od_inj hA _ i (by have := sp.2.1; omega) hi sp.1
  unfold ot_
  rw [e]
