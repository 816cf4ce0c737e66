/-! two cars: what the class's search finds -/
def agr (p T S : Nat) : Prop := ∀ j, j < p → T.testBit j = S.testBit j
theorem tf_ag {p T S o c : Nat} (h : agr p T S) (ho : o < 2 ^ p) : tf_ o c T = tf_ o c S := by
  have e1 : o &&& T = o &&& S := Nat.eq_of_testBit_eq fun i => by
    rw [Nat.testBit_and, Nat.testBit_and]
    cases e : o.testBit i with
    | false => rfl
    | true => rw [h i (tb_lt ho e)]
  have e2 : xdf o T = xdf o S := Nat.eq_of_testBit_eq fun i => by
    rw [xdf_bit, xdf_bit]
    cases e : o.testBit i with
    | false => rfl
    | true => rw [h i (tb_lt ho e)]
  unfold tf_
  rw [e1, e2]
theorem tc_ag {p T S q : Nat} (h : agr p T S) (hq : q < p) : tb_c T q = tb_c S q := by
  unfold tb_c
  rw [xt_b, xt_b, h q hq]
theorem ts_ag {ot : Nat → Nat} {p T S : Nat} (h : agr p T S) (ho : ∀ q, q < p → ot q < 2 ^ q) : ∀ i, i ≤ p → tb_s ot T i = tb_s ot S i
  | 0, _ => rfl
  | i + 1, hi => by
    rw [tb_s, tb_s, ts_ag h ho i (by omega), tc_ag h (show i < p by omega), tf_ag (p := i) (fun j hj => h j (by omega)) (ho i (by omega))]
theorem tl_ag {sz : Nat → Nat} {p T S c : Nat} (h : agr p T S) : ∀ i, i ≤ p → tb_l sz T c i = tb_l sz S c i
  | 0, _ => rfl
  | i + 1, hi => by rw [tb_l, tb_l, tl_ag h i (by omega), tc_ag h (show i < p by omega)]
theorem ts_mo {ot : Nat → Nat} {T i : Nat} : ∀ j, i ≤ j → tb_s ot T i ≤ tb_s ot T j
  | 0, h => by
    have e : i = 0 := by omega
    subst e; exact Nat.le_refl _
  | j + 1, h => by
    by_cases e : i = j + 1
    · subst e; exact Nat.le_refl _
    · have := ts_mo (ot := ot) (T := T) j (show i ≤ j by omega)
      rw [tb_s]; omega
theorem tl_mo {sz : Nat → Nat} {T c i : Nat} : ∀ j, i ≤ j → tb_l sz T c i ≤ tb_l sz T c j
  | 0, h => by
    have e : i = 0 := by omega
    subst e; exact Nat.le_refl _
  | j + 1, h => by
    by_cases e : i = j + 1
    · subst e; exact Nat.le_refl _
    · have := tl_mo (sz := sz) (T := T) (c := c) j (show i ≤ j by omega)
      rw [tb_l]; omega
/-- the result r of a search over X that begins with b -/
def srch (X : Nat → Prop) (v : Nat → Nat) (b r : Option (Nat × Nat)) : Prop := (r = b ∨ ∃ T, X T ∧ r = some (v T, T) ∧ (∀ q, b = some q → v T < q.1) ∧ ∀ T2, X T2 → v T2 = v T → T = T2 ∨ bef T T2) ∧ (∀ T, X T → ∃ q, r = some q ∧ q.1 ≤ v T) ∧ ∀ q, b = some q → ∃ q2, r = some q2 ∧ q2.1 ≤ q.1
theorem srch_cg {X Y : Nat → Prop} {v : Nat → Nat} {b r : Option (Nat × Nat)} (h : ∀ T, X T ↔ Y T) (g : srch X v b r) : srch Y v b r := by
  have e : X = Y := funext fun T => propext (h T)
  rw [← e]; exact g
theorem srch_0 {X : Nat → Prop} {v : Nat → Nat} {b : Option (Nat × Nat)} (h : ∀ T, ¬ X T) : srch X v b b := ⟨Or.inl rfl, fun T hT => absurd hT (h T), fun q hq => ⟨q, hq, Nat.le_refl _⟩⟩
theorem srch_2 {X Y : Nat → Prop} {v : Nat → Nat} {b r r2 : Option (Nat × Nat)} (h : srch X v b r) (g : srch Y v r r2) (hb : ∀ S T, X S → Y T → bef S T) : srch (fun T => X T ∨ Y T) v b r2 := by
  obtain ⟨h1, h2, h3⟩ := h
  obtain ⟨g1, g2, g3⟩ := g
  refine ⟨?_, ?_, fun q hq => ?_⟩
  · rcases g1 with e | ⟨T, t1, t2, t3, t4⟩
    · rcases h1 with e1 | ⟨T, t1, t2, t3, t4⟩
      · exact Or.inl (e.trans e1)
      · refine Or.inr ⟨T, Or.inl t1, e.trans t2, t3, fun T2 hT2 hv => ?_⟩
        rcases hT2 with q | q
        · exact t4 T2 q hv
        · exact Or.inr (hb T T2 t1 q)
    · refine Or.inr ⟨T, Or.inr t1, t2, fun q hq => ?_, fun T2 hT2 hv => ?_⟩
      · obtain ⟨q2, k1, k2⟩ := h3 q hq
        have := t3 q2 k1
        omega
      · rcases hT2 with q | q
        · obtain ⟨q2, k1, k2⟩ := h2 T2 q
          have := t3 q2 k1
          omega
        · exact t4 T2 q hv
  · intro T hT
    rcases hT with q | q
    · obtain ⟨q2, k1, k2⟩ := h2 T q
      obtain ⟨q3, k3, k4⟩ := g3 q2 k1
      exact ⟨q3, k3, by omega⟩
    · exact g2 T q
  · obtain ⟨q2, k1, k2⟩ := h3 q hq
    obtain ⟨q3, k3, k4⟩ := g3 q2 k1
    exact ⟨q3, k3, by omega⟩
def cX (sz rm : Nat → Nat) (np p S T : Nat) : Prop := T < 2 ^ np ∧ agr p T S ∧ tfit sz rm np T
theorem agr_s {p T S c : Nat} (hS : S < 2 ^ p) (hc : c < 2) : agr (p + 1) T (S ||| c * 2 ^ p) ↔ agr p T S ∧ tb_c T p = c := by
  have hbit : ∀ j, j < p → (S ||| c * 2 ^ p).testBit j = S.testBit j := fun j hj => by
    rw [Nat.testBit_or]
    rcases (show c = 0 ∨ c = 1 by omega) with e | e
    · subst e; rw [Nat.zero_mul, Nat.zero_testBit, Bool.or_false]
    · subst e; rw [Nat.one_mul, Nat.testBit_two_pow, decide_eq_false (by omega), Bool.or_false]
  have hSp : S.testBit p = false := Nat.testBit_lt_two_pow hS
  have hp : (S ||| c * 2 ^ p).testBit p = decide (c = 1) := by
    rw [Nat.testBit_or, hSp, Bool.false_or]
    rcases (show c = 0 ∨ c = 1 by omega) with e | e
    · subst e; rw [Nat.zero_mul, Nat.zero_testBit]; rfl
    · subst e; rw [Nat.one_mul, Nat.testBit_two_pow]; simp
  have hcb : tb_c T p = c ↔ T.testBit p = decide (c = 1) := by
    unfold tb_c
    rw [xt_b]
    rcases (show c = 0 ∨ c = 1 by omega) with e | e <;> subst e <;> cases T.testBit p <;> decide
  rw [hcb]
  constructor
  · intro h
    exact ⟨fun j hj => (h j (by omega)).trans (hbit j hj), (h p (by omega)).trans hp⟩
  · rintro ⟨h1, h2⟩ j hj
    by_cases e : j = p
    · subst e; exact h2.trans hp.symm
    · exact (h1 j (by omega)).trans (hbit j (by omega)).symm
theorem pf_srch {sz ot rm : Nat → Nat} {np : Nat} (ho : ∀ q, q < np → ot q < 2 ^ q) : ∀ (n p S : Nat) (ld : Nat → Nat) (b : Option (Nat × Nat)), p + n = np → S < 2 ^ p → (∀ c, c < 2 → ld c = tb_l sz S c p ∧ ld c ≤ rm c) → srch (cX sz rm np p S) (fun T => tb_s ot T np) b (pf sz ot rm n p S (tb_s ot S p) ld b)
  | 0, p, S, ld, b, hp, hS, hl => by
    have e : p = np := by omega
    subst e
    have hX : ∀ T, cX sz rm p p S T ↔ T = S := fun T => by
      constructor
      · rintro ⟨h1, h2, -⟩
        apply Nat.eq_of_testBit_eq
        intro i
        by_cases q : i < p
        · exact h2 i q
        · have a : T.testBit i = false := Nat.testBit_lt_two_pow (Nat.lt_of_lt_of_le h1 (Nat.pow_le_pow_right (by decide) (by omega)))
          have c : S.testBit i = false := Nat.testBit_lt_two_pow (Nat.lt_of_lt_of_le hS (Nat.pow_le_pow_right (by decide) (by omega)))
          rw [a, c]
      · intro e
        subst e
        refine ⟨hS, fun _ _ => rfl, ?_, ?_⟩
        · have := hl 0 (by decide); rw [← this.1]; exact this.2
        · have := hl 1 (by decide); rw [← this.1]; exact this.2
    by_cases hB : pfB b (tb_s ot S p)
    · rw [pf_z hB]
      refine ⟨Or.inr ⟨S, (hX S).mpr rfl, rfl, hB, fun T2 h2 _ => Or.inl ((hX T2).mp h2).symm⟩, fun T hT => ⟨_, rfl, ?_⟩, fun q hq => ⟨_, rfl, ?_⟩⟩
      · rw [(hX T).mp hT]; exact Nat.le_refl _
      · have := hB q hq; show tb_s ot S p ≤ q.1; omega
    · rw [pf_n hB]
      obtain ⟨q, h1, h2⟩ : ∃ q, b = some q ∧ q.1 ≤ tb_s ot S p := by
        apply Classical.byContradiction
        intro z
        exact hB (fun q hq => by
          apply Classical.byContradiction
          intro y
          exact z ⟨q, hq, by omega⟩)
      exact ⟨Or.inl rfl, fun T hT => ⟨q, h1, by rw [(hX T).mp hT]; exact h2⟩, fun q2 hq2 => ⟨q2, hq2, Nat.le_refl _⟩⟩
  | n + 1, p, S, ld, b, hp, hS, hl => by
    by_cases hB : pfB b (tb_s ot S p)
    · rw [pf_y hB]
      have step : ∀ c, c < 2 → ∀ b, srch (cX sz rm np (p + 1) (S ||| c * 2 ^ p)) (fun T => tb_s ot T np) b (ps_ sz ot rm n p S (tb_s ot S p) ld c b) := fun c hc b => by
        have hag : agr p (S ||| c * 2 ^ p) S := ((agr_s hS hc).mp (fun _ _ => rfl)).1
        have hcb : tb_c (S ||| c * 2 ^ p) p = c := ((agr_s hS hc).mp (fun _ _ => rfl)).2
        have hS2 : S ||| c * 2 ^ p < 2 ^ (p + 1) := by
          have h2 : S < 2 ^ (p + 1) := Nat.lt_of_lt_of_le hS (Nat.pow_le_pow_right (by decide) (by omega))
          refine Nat.or_lt_two_pow h2 ?_
          have h3 : 2 ^ p < 2 ^ (p + 1) := Nat.pow_lt_pow_right (by decide) (by omega)
          rcases (show c = 0 ∨ c = 1 by omega) with e | e <;> subst e
          · rw [Nat.zero_mul]; exact Nat.two_pow_pos _
          · rw [Nat.one_mul]; exact h3
        have hop : ot p < 2 ^ p := ho p (by omega)
        have hso : tb_s ot S p + tf_ (ot p) c S = tb_s ot (S ||| c * 2 ^ p) (p + 1) := by
          rw [tb_s, hcb, ts_ag hag (fun q hq => ho q (by omega)) p (Nat.le_refl _), tf_ag hag hop]
        have hld : ∀ d, tb_l sz (S ||| c * 2 ^ p) d (p + 1) = tb_l sz S d p + if c = d then sz p else 0 := fun d => by
          rw [tb_l, hcb, tl_ag hag p (Nat.le_refl _)]
        unfold ps_
        by_cases hf : ld c + sz p ≤ rm c
        · rw [if_pos hf, hso]
          refine pf_srch ho n (p + 1) _ _ b (by omega) hS2 (fun d hd => ?_)
          have := hl d hd
          rw [hld d]
          unfold ld_u
          by_cases e : d = c
          · subst e; rw [if_pos rfl, if_pos rfl, this.1]; exact ⟨rfl, by omega⟩
          · rw [if_neg e, if_neg (fun z => e z.symm)]; exact ⟨this.1, this.2⟩
        · rw [if_neg hf]
          refine srch_0 (fun T hT => hf ?_)
          obtain ⟨-, h2, h3, h4⟩ := hT
          have h5 := tl_ag (sz := sz) (c := c) h2 (p + 1) (Nat.le_refl _)
          rw [hld c, if_pos rfl, ← (hl c hc).1] at h5
          have h6 := tl_mo (sz := sz) (T := T) (c := c) np (show p + 1 ≤ np by omega)
          rcases (show c = 0 ∨ c = 1 by omega) with e | e <;> subst e <;> omega
      have h0 := step 0 (by decide) b
      have h1 := step 1 (by decide) (ps_ sz ot rm n p S (tb_s ot S p) ld 0 b)
      refine srch_cg (fun T => ?_) (srch_2 h0 h1 (fun S1 T1 hS1 hT1 => ?_))
      · constructor
        · rintro (⟨a1, a2, a3⟩ | ⟨a1, a2, a3⟩)
          · exact ⟨a1, ((agr_s hS (by decide)).mp a2).1, a3⟩
          · exact ⟨a1, ((agr_s hS (by decide)).mp a2).1, a3⟩
        · rintro ⟨a1, a2, a3⟩
          have hm : tb_c T p < 2 := Nat.mod_lt _ (by decide)
          rcases (show tb_c T p = 0 ∨ tb_c T p = 1 by omega) with e | e
          · exact Or.inl ⟨a1, (agr_s hS (by decide)).mpr ⟨a2, e⟩, a3⟩
          · exact Or.inr ⟨a1, (agr_s hS (by decide)).mpr ⟨a2, e⟩, a3⟩
      · have a := (agr_s hS (by decide)).mp hS1.2.1
        have c := (agr_s hS (by decide)).mp hT1.2.1
        refine ⟨p, fun j hj => (a.1 j hj).trans (c.1 j hj).symm, (xt_iff0 _ _).mp a.2, (xt_iff _ _).mp c.2⟩
    · rw [pf_n hB]
      obtain ⟨q, h1, h2⟩ : ∃ q, b = some q ∧ q.1 ≤ tb_s ot S p := by
        apply Classical.byContradiction
        intro z
        exact hB (fun q hq => by
          apply Classical.byContradiction
          intro y
          exact z ⟨q, hq, by omega⟩)
      refine ⟨Or.inl rfl, fun T hT => ⟨q, h1, ?_⟩, fun q2 hq2 => ⟨q2, hq2, Nat.le_refl _⟩⟩
      have e := ts_ag hT.2.1 (fun q hq => ho q (by omega)) p (Nat.le_refl _)
      have := ts_mo (ot := ot) (T := T) np (show p ≤ np by omega)
      show q.1 ≤ tb_s ot T np
      omega
/-- what the class's search gives, over all sets -/
theorem pf_bsK {sz ot rm : Nat → Nat} {np : Nat} (ho : ∀ q, q < np → ot q < 2 ^ q) : ∃ r, pf sz ot rm np 0 0 0 (fun _ => 0) none = r.map (fun S => (tb_s ot S np, S)) ∧ bsK (tfit sz rm np) (fun S => tb_s ot S np) (2 ^ np) r := by
  have h := pf_srch (sz := sz) (ot := ot) (rm := rm) (np := np) ho np 0 0 (fun _ => 0) none (by omega) (by decide) (fun c _ => ⟨rfl, Nat.zero_le _⟩)
  have hX : ∀ T, cX sz rm np 0 0 T ↔ T < 2 ^ np ∧ tfit sz rm np T := fun T => ⟨fun ⟨a, _, b⟩ => ⟨a, b⟩, fun ⟨a, b⟩ => ⟨a, fun j hj => absurd hj (by omega), b⟩⟩
  obtain ⟨h1, h2, -⟩ := h
  rcases h1 with e | ⟨T, t1, t2, -, t4⟩
  · refine ⟨none, e, Or.inl ⟨rfl, fun T hT hf => ?_⟩⟩
    obtain ⟨q, k1, -⟩ := h2 T ((hX T).mpr ⟨hT, hf⟩)
    have e2 : (none : Option (Nat × Nat)) = some q := e.symm.trans k1
    cases e2
  · refine ⟨some T, t2, Or.inr ⟨T, rfl, ((hX T).mp t1).1, ((hX T).mp t1).2, fun U hU hf => ?_⟩⟩
    have hu := (hX U).mpr ⟨hU, hf⟩
    obtain ⟨q, k1, k2⟩ := h2 U hu
    have e2 : some (tb_s ot T np, T) = some q := t2.symm.trans k1
    cases e2
    rcases Nat.lt_or_ge (tb_s ot T np) (tb_s ot U np) with z | z
    · exact Or.inl z
    · have k2 : tb_s ot T np ≤ tb_s ot U np := k2
      exact Or.inr ⟨by show tb_s ot T np = tb_s ot U np; omega, t4 U hu (by show tb_s ot U np = tb_s ot T np; omega)⟩
/-- the sum over an order is the sum over the pieces -/
def su_m (g : Nat → Nat) (S : Nat) : Nat → Nat
  | 0 => 0
  | p + 1 => su_m g S p + if S.testBit p then g p else 0
theorem su_or {g : Nat → Nat} {S q : Nat} (h : S.testBit q = false) : ∀ n, su_m g (S ||| 2 ^ q) n = su_m g S n + if q < n then g q else 0
  | 0 => rfl
  | n + 1 => by
    rw [su_m, su_m, su_or h n, Nat.testBit_or, Nat.testBit_two_pow]
    by_cases e : q = n
    · subst e
      rw [h]
      simp
    · by_cases z : q < n
      · have z2 : q < n + 1 := by omega
        simp [e, z, z2]; omega
      · have z2 : ¬ q < n + 1 := by omega
        simp [e, z, z2]
theorem dn_bit {od : Nat → Nat} {q : Nat} : ∀ i, (dn_f od i).testBit q = true → ∃ j, j < i ∧ od j = q
  | 0, h => by rw [dn_f, Nat.zero_testBit] at h; cases h
  | i + 1, h => by
    rw [dn_f, Nat.testBit_or, Bool.or_eq_true, Nat.testBit_two_pow] at h
    rcases h with h | h
    · obtain ⟨j, h1, h2⟩ := dn_bit i h
      exact ⟨j, by omega, h2⟩
    · exact ⟨i, by omega, of_decide_eq_true h⟩
theorem dn_in {od : Nat → Nat} {i j : Nat} (h : j < i) : (dn_f od i).testBit (od j) = true := by
  induction i with
  | zero => omega
  | succ i ih =>
    rw [dn_f, Nat.testBit_or, Bool.or_eq_true, Nat.testBit_two_pow]
    by_cases e : j = i
    · subst e; right; simp
    · left; exact ih (by omega)
theorem ts_perm {on : Nat → Nat} {np : Nat} (hA : lo_A on np) (S : Nat) : ts_ (od_ on np) S np = tb_s (ot_ on np) S np := by
  have h1 : ∀ i, i ≤ np → ts_ (od_ on np) S i = su_m (fun p => tf_ (ot_ on np p) (tb_c S p) S) (dn_f (od_ on np) i) np := fun i => by
    induction i with
    | zero =>
      intro _
      have : ∀ n, su_m (fun p => tf_ (ot_ on np p) (tb_c S p) S) 0 n = 0 := fun n => by
        induction n with
        | zero => rfl
        | succ n ih => rw [su_m, ih, Nat.zero_testBit]; rfl
      exact (this np).symm
    | succ i ih =>
      intro hi
      have hn : (dn_f (od_ on np) i).testBit (od_ on np i) = false := by
        cases e : (dn_f (od_ on np) i).testBit (od_ on np i) with
        | false => rfl
        | true =>
          obtain ⟨j, h1, h2⟩ := dn_bit i e
          have := od_inj hA j i (by omega) (by omega) h2
          omega
      rw [ts_, ih (by omega), dn_f, su_or hn, if_pos (od_lt hA i (by omega)), od_ot hA i (by omega)]
  have h2 : ∀ n, n ≤ np → su_m (fun p => tf_ (ot_ on np p) (tb_c S p) S) (dn_f (od_ on np) np) n = tb_s (ot_ on np) S n := fun n => by
    induction n with
    | zero => intro _; rfl
    | succ n ih =>
      intro hn
      obtain ⟨j, k1, k2⟩ := od_sur hA n (by omega)
      have e := dn_in (od := od_ on np) k1
      rw [k2] at e
      rw [su_m, ih (by omega), e, tb_s]
      rfl
  rw [h1 np (Nat.le_refl _), h2 np (Nat.le_refl _)]
theorem ot_lt (on : Nat → Nat) (np q : Nat) : ot_ on np q < 2 ^ q := by
  unfold ot_
  have := xdf_le (2 ^ q - 1) (dn_f (od_ on np) (xfst (fun i => od_ on np i = q) (fun i => i) 0 np 0))
  have h2 : 1 ≤ 2 ^ q := Nat.one_le_two_pow
  omega
theorem car_eq {on sz rm : Nat → Nat} {np : Nat} (hnp : np ≤ 12) (hA : lo_A on np) : pf sz (ot_ on np) rm np 0 0 0 (fun _ => 0) none = (bst (cb_C sz rm (od_ on np) np) (2 ^ np)).map (fun S => (ts_ (od_ on np) S np, S)) := by
  obtain ⟨r, h1, h2⟩ := pf_bsK (sz := sz) (ot := ot_ on np) (rm := rm) (np := np) (fun q _ => ot_lt on np q)
  have h3 := bst_car (sz := sz) (rm := rm) (od := od_ on np) hnp (2 ^ np) (Nat.le_refl _)
  have e : (fun S => ts_ (od_ on np) S np) = (fun S => tb_s (ot_ on np) S np) := funext fun S => ts_perm hA S
  rw [e] at h3
  rw [h1, bsK_un h2 h3]
  congr 1
  funext S
  rw [ts_perm hA S]
