/-! reports: counts; the fewest causes -/
theorem rr_lt {s n : Nat} {P : Nat → Prop} (h : ∀ r, s.testBit r = true ↔ (r < n ∧ P r)) (hn : n ≤ 40) : s < 2 ^ 40 := Nat.lt_pow_two_of_testBit s (fun i hi => by
  cases e : s.testBit i with
  | false => rfl
  | true => have := ((h i).mp e).1; omega)
theorem rr_cn {s n : Nat} {P : Nat → Prop} (h : ∀ r, s.testBit r = true ↔ (r < n ∧ P r)) (hn : n ≤ 64) : xpc s 64 = xcn P n := by
  have h1 : ∀ k, k ≤ n → xpc s k = xcn P k := fun k => by
    induction k with
    | zero => intro _; rfl
    | succ k ih =>
      intro hk
      rw [xpc_s, ih (by omega)]
      by_cases e : P k
      · rw [xcn_y e, (h k).mpr ⟨by omega, e⟩]; rfl
      · have q : s.testBit k = false := by
          cases z : s.testBit k with
          | false => rfl
          | true => exact absurd ((h k).mp z).2 e
        rw [xcn_n e, q]; rfl
  have h2 : ∀ d, xpc s (n + d) = xpc s n := fun d => by
    induction d with
    | zero => rfl
    | succ d ih =>
      rw [← Nat.add_assoc, xpc_s, ih]
      have q : s.testBit (n + d) = false := by
        cases z : s.testBit (n + d) with
        | false => rfl
        | true => have := ((h _).mp z).1; omega
      rw [q]; rfl
  have e : n + (64 - n) = 64 := by omega
  rw [← h1 n (Nat.le_refl _), ← h2 (64 - n), e]
def orc (cv : Nat → Nat) (T : Nat) : Nat → Nat
  | 0 => 0
  | k + 1 => orc cv T k ||| if T.testBit k then cv k else 0
theorem orc_b {cv : Nat → Nat} {T r : Nat} : ∀ k, (orc cv T k).testBit r = true ↔ ∃ i, i < k ∧ T.testBit i = true ∧ (cv i).testBit r = true
  | 0 => ⟨fun h => (by rw [orc, Nat.zero_testBit] at h; cases h), fun ⟨i, h, _⟩ => by omega⟩
  | k + 1 => by
    rw [orc, Nat.testBit_or, Bool.or_eq_true, orc_b k]
    constructor
    · rintro (⟨i, h1, h2, h3⟩ | h)
      · exact ⟨i, by omega, h2, h3⟩
      · cases e : T.testBit k with
        | true => rw [e] at h; exact ⟨k, by omega, e, h⟩
        | false =>
          rw [e] at h
          have h : (0 : Nat).testBit r = true := h
          rw [Nat.zero_testBit] at h
          cases h
    · rintro ⟨i, h1, h2, h3⟩
      by_cases e : i = k
      · subst e; right; rw [h2]; exact h3
      · left; exact ⟨i, by omega, h2, h3⟩
theorem orc_or {cv : Nat → Nat} {S t : Nat} (ht : t < 16) : orc cv (S ||| 2 ^ t) 16 = cv t ||| orc cv S 16 := by
  apply Nat.eq_of_testBit_eq
  intro r
  rw [Bool.eq_iff_iff, Nat.testBit_or, Bool.or_eq_true, orc_b, orc_b]
  constructor
  · rintro ⟨i, h1, h2, h3⟩
    rw [Nat.testBit_or, Bool.or_eq_true, Nat.testBit_two_pow] at h2
    rcases h2 with h2 | h2
    · exact Or.inr ⟨i, h1, h2, h3⟩
    · have e : t = i := of_decide_eq_true h2
      subst e; exact Or.inl h3
  · rintro (h | ⟨i, h1, h2, h3⟩)
    · exact ⟨t, ht, by rw [Nat.testBit_or, Nat.testBit_two_pow]; simp, h⟩
    · exact ⟨i, h1, by rw [Nat.testBit_or, h2, Bool.true_or], h3⟩
/-- sets of m causes from c on that cover, with cov, bd -/
def cvr (cv : Nat → Nat) (bd m c cov T : Nat) : Prop := T < 65536 ∧ (∀ i, i < c → T.testBit i = false) ∧ xpc T 16 = m ∧ cov ||| orc cv T 16 = bd
def els (S : Nat) (w : List Nat) : Prop := ∀ c, S.testBit c = true → w[xpc S c]? = some c
theorem cvr_lo {cv : Nat → Nat} {bd m c cov T : Nat} (h : cvr cv bd (m + 1) c cov T) : ∃ t T2, c ≤ t ∧ t < 16 ∧ T = T2 ||| 2 ^ t ∧ (∀ k, k < t → T.testBit k = false) ∧ T2.testBit t = false ∧ cvr cv bd m (t + 1) (cov ||| cv t) T2 := by
  obtain ⟨h1, h2, h3, h4⟩ := h
  have hne : ¬ T = 0 := fun e => by
    subst e
    have : ∀ n, xpc 0 n = 0 := fun n => by
      induction n with
      | zero => rfl
      | succ n ih => rw [xpc_s, ih, Nat.zero_testBit]; rfl
    rw [this] at h3
    omega
  obtain ⟨t, k1, k2⟩ := bef_ne hne
  rw [Nat.zero_testBit] at k2
  have kt : T.testBit t = true := by
    cases e : T.testBit t with
    | true => rfl
    | false => exact absurd e k2
  have kl : ∀ k, k < t → T.testBit k = false := fun k hk => by rw [k1 k hk, Nat.zero_testBit]
  have ht : t < 16 := tb_lt (n := 16) h1 kt
  have hc : c ≤ t := by
    rcases Nat.lt_or_ge t c with q | q
    · rw [h2 t q] at kt; cases kt
    · exact q
  have hn : (xdf T (2 ^ t)).testBit t = false := by rw [xdf_bit, Nat.testBit_two_pow]; simp
  have hT : T = xdf T (2 ^ t) ||| 2 ^ t := Nat.eq_of_testBit_eq fun i => by
    rw [Nat.testBit_or, xdf_bit, Nat.testBit_two_pow]
    by_cases e : t = i
    · subst e; rw [kt]; simp
    · simp [e]
  refine ⟨t, xdf T (2 ^ t), hc, ht, hT, kl, hn, Nat.lt_of_le_of_lt (xdf_le _ _) h1, fun i hi => ?_, ?_, ?_⟩
  · rw [xdf_bit, Nat.testBit_two_pow]
    by_cases e : t = i
    · simp [e]
    · rw [kl i (by omega)]; rfl
  · have q := xpc_or hn 16
    rw [← hT, if_pos ht, h3] at q
    omega
  · rw [← h4]
    conv => rhs; rw [hT]
    rw [orc_or ht, Nat.or_assoc]
theorem fs_sp {cv : Nat → Nat} {bd : Nat} : ∀ (m c cov : Nat), (fs cv bd m c cov = none → ∀ T, ¬ cvr cv bd m c cov T) ∧ ∀ w, fs cv bd m c cov = some w → w.length = m ∧ ∃ S, cvr cv bd m c cov S ∧ els S w ∧ ∀ T, cvr cv bd m c cov T → T = S ∨ bef T S
  | 0, c, cov => by
    have z : ∀ T, cvr cv bd 0 c cov T → T = 0 := fun T hT => by
      apply Classical.byContradiction
      intro e
      have := xpc_po e (n := 16) hT.1
      have := hT.2.2.1
      omega
    have o0 : orc cv 0 16 = 0 := Nat.eq_of_testBit_eq fun r => by
      rw [Nat.zero_testBit]
      cases e : (orc cv 0 16).testBit r with
      | false => rfl
      | true =>
        obtain ⟨i, -, h2, -⟩ := (orc_b 16).mp e
        rw [Nat.zero_testBit] at h2
        cases h2
    refine ⟨fun h T hT => ?_, fun w hw => ?_⟩
    · have e := z T hT
      subst e
      have := hT.2.2.2
      rw [o0, Nat.or_zero] at this
      rw [fs, if_pos this] at h
      cases h
    · rw [fs] at hw
      by_cases e : cov = bd
      · rw [if_pos e] at hw
        cases hw
        refine ⟨rfl, 0, ⟨by decide, fun i _ => Nat.zero_testBit i, by decide, by rw [o0, Nat.or_zero]; exact e⟩, fun c hc => (by rw [Nat.zero_testBit] at hc; cases hc), fun T hT => Or.inl (z T hT)⟩
      · rw [if_neg e] at hw
        cases hw
  | m + 1, c, cov => by
    have hcm : ∀ t, c ≤ t → t < 16 → c + (16 - c) = 16 := fun t h1 h2 => by omega
    refine ⟨fun h T hT => ?_, fun w hw => ?_⟩
    · obtain ⟨t, T2, h1, h2, h3, h4, h5, h6⟩ := cvr_lo hT
      rw [fs, fsi_none] at h
      have q := h t h1 (by have := hcm t h1 h2; omega)
      rw [Option.map_eq_none_iff] at q
      exact (fs_sp m (t + 1) (cov ||| cv t)).1 q T2 h6
    · rw [fs] at hw
      obtain ⟨j, j1, j2, j3, j4⟩ := fsi_some hw
      have j16 : j < 16 := by omega
      obtain ⟨w2, k1, k2⟩ := Option.map_eq_some_iff.mp j3
      obtain ⟨l1, S2, l2, l3, l4⟩ := (fs_sp m (j + 1) (cov ||| cv j)).2 w2 k1
      subst k2
      have hn : S2.testBit j = false := l2.2.1 j (by omega)
      have hlow : ∀ i, i < j → (S2 ||| 2 ^ j).testBit i = false := fun i hi => by
        rw [Nat.testBit_or, l2.2.1 i (by omega), Nat.testBit_two_pow, decide_eq_false (by omega)]; rfl
      have hj : (S2 ||| 2 ^ j).testBit j = true := by rw [Nat.testBit_or, Nat.testBit_two_pow]; simp
      refine ⟨by simp [l1], S2 ||| 2 ^ j, ⟨?_, fun i hi => hlow i (by omega), ?_, ?_⟩, fun c2 hc2 => ?_, fun T hT => ?_⟩
      · exact Nat.or_lt_two_pow (n := 16) l2.1 (Nat.pow_lt_pow_right (by decide) j16)
      · rw [xpc_or hn, if_pos j16, l2.2.2.1]
      · rw [orc_or j16, ← Nat.or_assoc]; exact l2.2.2.2
      · rw [xpc_or hn]
        rw [Nat.testBit_or, Bool.or_eq_true, Nat.testBit_two_pow] at hc2
        have x0 : ∀ k, k ≤ j → xpc S2 k = 0 := fun k => by
          induction k with
          | zero => intro _; rfl
          | succ k ih => intro hk; rw [xpc_s, ih (by omega), l2.2.1 k (by omega)]; rfl
        rcases hc2 with q | q
        · have hjc : j < c2 := by
            rcases Nat.lt_or_ge j c2 with y | y
            · exact y
            · rw [l2.2.1 c2 (by omega)] at q; cases q
          rw [if_pos hjc]
          exact l3 c2 q
        · have e : j = c2 := of_decide_eq_true q
          subst e
          rw [x0 j (Nat.le_refl _), if_neg (by omega)]
          rfl
      · obtain ⟨t, T2, h1, h2, h3, h4, h5, h6⟩ := cvr_lo hT
        have htj : j ≤ t := by
          rcases Nat.lt_or_ge t j with y | y
          · have q := j4 t h1 y
            rw [Option.map_eq_none_iff] at q
            exact absurd h6 ((fs_sp m (t + 1) (cov ||| cv t)).1 q T2)
          · exact y
        by_cases e : t = j
        · subst e
          rcases l4 T2 h6 with y | ⟨i, i1, i2, i3⟩
          · left; rw [h3, y]
          · right
            have hit : ¬ t = i := fun e => by subst e; rw [hn] at i3; cases i3
            refine ⟨i, fun k hk => ?_, ?_, ?_⟩
            · rw [h3, Nat.testBit_or, Nat.testBit_or, i1 k hk]
            · rw [h3, Nat.testBit_or, i2, Nat.testBit_two_pow, decide_eq_false hit]; rfl
            · rw [Nat.testBit_or, i3]; rfl
        · right
          exact ⟨j, fun k hk => by rw [hlow k hk]; exact h4 k (by omega), h4 j (by omega), hj⟩
def bsR (F : Nat → Prop) (v : Nat → Nat) (k : Nat) (r : Option Nat) : Prop := (r = none ∧ ∀ T, T < k → ¬ F T) ∨ ∃ S, r = some S ∧ S < k ∧ F S ∧ ∀ T, T < k → F T → v S < v T ∨ (v S = v T ∧ (S = T ∨ bef T S))
theorem bst_rep {I : xv_I} {hs : Nat → Nat} {n mm : Nat} : ∀ k, k ≤ 65536 → bsR (fun T => xdf T mm = 0 ∧ ea_P I hs T n) (fun T => xpc T 16) k (bst (bc_C I hs n mm) k)
  | 0, _ => Or.inl ⟨rfl, fun T h => absurd h (by omega)⟩
  | k + 1, hk => by
    have ih := bst_rep (I := I) (hs := hs) (n := n) (mm := mm) k (by omega)
    by_cases hc : bc_C I hs n mm k (bst (bc_C I hs n mm) k)
    · rw [bst_y hc]
      refine Or.inr ⟨k, rfl, by omega, ⟨hc.1, hc.2.2⟩, fun T h1 h2 => ?_⟩
      by_cases e : T = k
      · subst e; exact Or.inr ⟨rfl, Or.inl rfl⟩
      · rcases ih with ⟨h3, h4⟩ | ⟨S, h3, h4, h5, h6⟩
        · exact absurd h2 (h4 T (by omega))
        · have g := h6 T (by omega) h2
          dsimp only at g ⊢
          rcases hc.2.1 S h3 with c | ⟨c1, c2⟩
          · rcases g with g | ⟨g, -⟩ <;> exact Or.inl (by omega)
          · have c3 : bef S k := by
              rcases bef_to (show ¬ S = k by omega) with z | z
              · exact z
              · exact absurd ((il_bef (by omega) (by omega) (by omega)).mpr z) c2
            rcases g with g | ⟨g, g2⟩
            · exact Or.inl (by omega)
            · refine Or.inr ⟨by omega, Or.inr ?_⟩
              rcases g2 with e2 | e2
              · rw [← e2]; exact c3
              · exact bef_tr e2 c3
    · rw [bst_n hc]
      rcases ih with ⟨h3, h4⟩ | ⟨S, h3, h4, h5, h6⟩
      · refine Or.inl ⟨h3, fun T h1 h2 => ?_⟩
        by_cases e : T = k
        · subst e
          exact hc ⟨h2.1, fun q hq => (by rw [h3] at hq; cases hq), h2.2⟩
        · exact h4 T (by omega) h2
      · refine Or.inr ⟨S, h3, by omega, h5, fun T h1 h2 => ?_⟩
        by_cases e : T = k
        · subst e
          have hn : ¬ (xpc T 16 < xpc S 16 ∨ (xpc T 16 = xpc S 16 ∧ ¬ il_ T S)) := fun z => hc ⟨h2.1, fun q hq => (by rw [h3] at hq; cases hq; exact z), h2.2⟩
          dsimp only
          rcases Nat.lt_trichotomy (xpc S 16) (xpc T 16) with q | q | q
          · exact Or.inl q
          · refine Or.inr ⟨q, Or.inr ?_⟩
            have z : il_ T S := by
              apply Classical.byContradiction
              intro z
              exact hn (Or.inr ⟨q.symm, z⟩)
            exact (il_bef (by omega) (by omega) (by omega)).mp z
          · exact absurd (Or.inl q) hn
        · exact h6 T (by omega) h2
theorem bsR_un {F : Nat → Prop} {v : Nat → Nat} {k : Nat} {r r2 : Option Nat} (h : bsR F v k r) (g : bsR F v k r2) : r = r2 := by
  rcases h with ⟨h1, h2⟩ | ⟨S, h1, h2, h3, h4⟩
  · rcases g with ⟨g1, -⟩ | ⟨T, g1, g2, g3, g4⟩
    · rw [h1, g1]
    · exact absurd g3 (h2 T g2)
  · rcases g with ⟨g1, g2⟩ | ⟨T, g1, g2, g3, g4⟩
    · exact absurd h3 (g2 S h2)
    · rw [h1, g1]
      congr 1
      rcases h4 T g2 g3 with a | ⟨a, b⟩
      · rcases g4 S h2 h3 with c | ⟨c, -⟩ <;> omega
      · rcases g4 S h2 h3 with c | ⟨c, e⟩
        · omega
        · rcases b with b | b
          · exact b
          · rcases e with e | e
            · exact e.symm
            · exact absurd (bef_as b e) id
theorem ml_b {P : Nat → Prop} {c : Nat} : ∀ k, (ml_ P k).testBit c = true ↔ (c < k ∧ P c)
  | 0 => ⟨fun h => (by rw [ml_, Nat.zero_testBit] at h; cases h), fun h => by omega⟩
  | k + 1 => by
    have ih := ml_b (P := P) (c := c) k
    by_cases e : P k
    · rw [ml_y e, Nat.testBit_or, Bool.or_eq_true, ih, Nat.testBit_two_pow]
      constructor
      · rintro (h | h)
        · exact ⟨by omega, h.2⟩
        · have := of_decide_eq_true h
          subst this
          exact ⟨by omega, e⟩
      · rintro ⟨h1, h2⟩
        by_cases q : k = c
        · right; simp [q]
        · left; exact ⟨by omega, h2⟩
    · rw [ml_n e, Nat.or_zero, ih]
      constructor
      · rintro ⟨h1, h2⟩; exact ⟨by omega, h2⟩
      · rintro ⟨h1, h2⟩
        have : ¬ c = k := fun q => e (q ▸ h2)
        exact ⟨by omega, h2⟩
