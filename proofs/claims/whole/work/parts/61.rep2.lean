/-! the fewest causes (class) -/
def fsi {α : Type} (f : Nat → Option α) : Nat → Nat → Option α
  | 0, _ => none
  | n + 1, i => match f i with
    | some w => some w
    | none => fsi f n (i + 1)
theorem fsi_none {α : Type} {f : Nat → Option α} : ∀ {n i : Nat}, fsi f n i = none ↔ ∀ j, i ≤ j → j < i + n → f j = none
  | 0, i => ⟨fun _ j h1 h2 => by omega, fun _ => rfl⟩
  | n + 1, i => by
    rw [fsi]
    cases h : f i with
    | some w => exact ⟨fun z => (by cases z), fun z => absurd (z i (by omega) (by omega)) (by rw [h]; exact fun y => by cases y)⟩
    | none =>
      rw [fsi_none]
      refine ⟨fun z j h1 h2 => ?_, fun z j h1 h2 => z j (by omega) (by omega)⟩
      by_cases e : j = i
      · rw [e]; exact h
      · exact z j (by omega) (by omega)
theorem fsi_some {α : Type} {f : Nat → Option α} {w : α} : ∀ {n i : Nat}, fsi f n i = some w → ∃ j, i ≤ j ∧ j < i + n ∧ f j = some w ∧ ∀ q, i ≤ q → q < j → f q = none
  | 0, i, h => by cases h
  | n + 1, i, h => by
    rw [fsi] at h
    cases e : f i with
    | some v =>
      rw [e] at h
      exact ⟨i, by omega, by omega, e.trans h, fun q h1 h2 => by omega⟩
    | none =>
      rw [e] at h
      obtain ⟨j, h1, h2, h3, h4⟩ := fsi_some h
      refine ⟨j, by omega, by omega, h3, fun q g1 g2 => ?_⟩
      by_cases eq : q = i
      · rw [eq]; exact e
      · exact h4 q (by omega) g2
theorem fsi_at {α : Type} {f : Nat → Option α} {w : α} {j : Nat} : ∀ {n i : Nat}, i ≤ j → j < i + n → f j = some w → (∀ q, i ≤ q → q < j → f q = none) → fsi f n i = some w
  | 0, i, h1, h2, h3, h4 => by omega
  | n + 1, i, h1, h2, h3, h4 => by
    rw [fsi]
    by_cases e : i = j
    · subst e; rw [h3]
    · rw [h4 i (by omega) (by omega)]
      exact fsi_at (by omega) (by omega) h3 (fun q g1 g2 => h4 q (by omega) g2)
/-- the first m of 16 from c on that cover, with cov, bd -/
def fs (cv : Nat → Nat) (bd : Nat) : Nat → Nat → Nat → Option (List Nat)
  | 0, _, cov => if cov = bd then some [] else none
  | m + 1, c, cov => fsi (fun i => (fs cv bd m (i + 1) (cov ||| cv i)).map (fun w => i :: w)) (16 - c) c
theorem fs_mono {cv : Nat → Nat} {bd : Nat} : ∀ {m c e cov : Nat}, c ≤ e → fs cv bd m c cov = none → fs cv bd m e cov = none
  | 0, c, e, cov, h, hn => hn
  | m + 1, c, e, cov, h, hn => by
    rw [fs, fsi_none] at hn ⊢
    exact fun j h1 h2 => hn j (by omega) (by omega)
def sb_ (a b : Nat) : Prop := ∀ i, a.testBit i = true → b.testBit i = true
theorem sb_or {a b c : Nat} (h : sb_ a c) (h2 : sb_ b c) : sb_ (a ||| b) c := fun i hi => by
  rw [Nat.testBit_or, Bool.or_eq_true] at hi
  rcases hi with q | q
  · exact h i q
  · exact h2 i q
theorem sb_l {a b c : Nat} (h : sb_ (a ||| b) c) : sb_ a c := fun i hi => h i (by rw [Nat.testBit_or, hi, Bool.true_or])
theorem sb_r {a b c : Nat} (h : sb_ (a ||| b) c) : sb_ b c := fun i hi => h i (by rw [Nat.testBit_or, hi, Bool.or_true])
theorem sb_ol {a b c : Nat} (h : sb_ a b) : sb_ a (b ||| c) := fun i hi => by rw [Nat.testBit_or, h i hi, Bool.true_or]
theorem sb_or2 {a b c : Nat} (h : sb_ a c) : sb_ a (b ||| c) := fun i hi => by rw [Nat.testBit_or, h i hi, Bool.or_true]
theorem sb_re (a : Nat) : sb_ a a := fun _ h => h
theorem sb_tr {a b c : Nat} (h : sb_ a b) (h2 : sb_ b c) : sb_ a c := fun i hi => h2 i (h i hi)
theorem sb_as {a b : Nat} (h : sb_ a b) (h2 : sb_ b a) : a = b := Nat.eq_of_testBit_eq fun i => by
  cases e : a.testBit i with
  | true => exact (h i e).symm
  | false =>
    cases e2 : b.testBit i with
    | true => exact absurd (h2 i e2) (by rw [e]; exact fun z => by cases z)
    | false => rfl
theorem sb_df {a b : Nat} (h : xdf a b = 0) : sb_ a b := fun i hi => by
  have q := xdf_bit a b i
  rw [h, Nat.zero_testBit, hi, Bool.true_and] at q
  cases e : b.testBit i with
  | true => rfl
  | false => rw [e] at q; cases q
theorem sb_lt {a b n : Nat} (h : sb_ a b) (hb : b < 2 ^ n) : a < 2 ^ n := Nat.lt_pow_two_of_testBit a (fun i hi => by
  cases e : a.testBit i with
  | true => exact absurd (h i e) (by rw [Nat.testBit_lt_two_pow (Nat.lt_of_lt_of_le hb (Nat.pow_le_pow_right (by decide) hi))]; exact fun z => by cases z)
  | false => rfl)
theorem fs_on {cv on : Nat → Nat} {bd : Nat} (hos : ∀ i, i < 16 → on i = cv i ||| on (i + 1)) : ∀ {m c cov : Nat} {w : List Nat}, fs cv bd m c cov = some w → sb_ bd (cov ||| on c)
  | 0, c, cov, w, h => by
    rw [fs] at h
    by_cases e : cov = bd
    · rw [e]; exact sb_ol (sb_re _)
    · rw [if_neg e] at h; cases h
  | m + 1, c, cov, w, h => by
    rw [fs] at h
    obtain ⟨j, h1, h2, h3, h4⟩ := fsi_some h
    obtain ⟨v, hv, e⟩ := Option.map_eq_some_iff.mp h3
    have ih := fs_on hos hv
    have up : ∀ n i, i + n = j → sb_ (cv j ||| on (j + 1)) (on i) := by
      intro n
      induction n with
      | zero => intro i hi; have e : i = j := by omega
                subst e; rw [hos i (by omega)]; exact sb_re _
      | succ n ihn => intro i hi; rw [hos i (by omega)]; exact sb_or2 (ihn (i + 1) (by omega))
    have u := up (j - c) c (by omega)
    exact sb_tr ih (sb_or (sb_or (sb_ol (sb_re _)) (sb_or2 (sb_l u))) (sb_or2 (sb_r u)))
theorem lN_inj {a b : Nat} (ha : a < 2 ^ 40) (hb : b < 2 ^ 40) : lN a = lN b ↔ a = b := ⟨fun h => by
  have := congrArg Int64.toInt h
  rw [pf_lI (by omega), pf_lI (by omega)] at this
  omega, fun h => by rw [h]⟩
def ch_f (I I3 : xv_I) (k : Nat) : Prop := (∀ b, b ≠ 164 → I3 b = I b) ∧ ∀ j, j < k → I3 164 j = I 164 j
theorem ch_re (I : xv_I) (k : Nat) : ch_f I I k := ⟨fun _ _ => rfl, fun _ _ => rfl⟩
theorem s6_cov_l {l : Launch} {D : va_G} {d : Nat} {G : xv_Gr} {J : xv_J} (hG : xg_ok G) {cv on : Nat → Nat} {bd mx : Nat} (hcv : ∀ i, i < 16 → J 167 i = lN (cv i) ∧ sb_ (cv i) bd) (hon : ∀ i, i ≤ 16 → J 168 i = lN (on i)) (hos : ∀ i, i < 16 → on i = cv i ||| on (i + 1)) (ho16 : on 16 = 0) (hbd : J 5 5 = lN bd) (hb4 : bd < 2 ^ 40) (hmx : mx ≤ 16) {m : Nat} (IH : ∀ (c k cov : Nat) (I : xv_I) (Q : xv_Po), c ≤ 16 → k + m = mx → sb_ cov bd → (∀ m2, m2 < m → fs cv bd m2 c cov = none) → (∀ I3, ch_f I I3 k → fs cv bd m c cov = none → Q (some (.int 0)) G I3 J) → (∀ I3 w, ch_f I I3 k → fs cv bd m c cov = some w → (∀ j, j < m → I3 164 (k + j) = nI (w.getD j 0)) → Q (some (.int 1)) G I3 J) → xv_Ev l D (d + m) mX6_isCoveredFrom none 0 [some (.ref 5), some (.int (nI c)), some (.int (nI k)), some (.int (nI mx)), some (.long (lN cov)), none, none] [] G I J 0 0 Q) {c k cov : Nat} {I : xv_I} {Q : xv_Po} (hcl : cov < 2 ^ 40) (hc : c ≤ 16) (hk : k + (m + 1) = mx) (hcb : sb_ cov bd) (hmin : ∀ m2, m2 < m + 1 → fs cv bd m2 c cov = none) (h1 : (∀ I3, ch_f I I3 k → fs cv bd (m + 1) c cov = none → Q (some (.int 0)) G I3 J)) (h2 : (∀ I3 w, ch_f I I3 k → fs cv bd (m + 1) c cov = some w → (∀ j, j < (m + 1) → I3 164 (k + j) = nI (w.getD j 0)) → Q (some (.int 1)) G I3 J)) : ∀ (n i : Nat) (I2 : xv_I), i + n = 16 → c ≤ i → ch_f I I2 k → (∀ j, c ≤ j → j < i → fs cv bd m (j + 1) (cov ||| cv j) = none) → xv_Ev l D (d + (m + 1)) mX6_isCoveredFrom none 39 [some (.ref 5), some (.int (nI c)), some (.int (nI k)), some (.int (nI mx)), some (.long (lN cov)), none, some (.int (nI i))] [] G I2 J 0 0 Q := by
  intro n
  induction n with
  | zero =>
    intro i I2 hi hci hch hno
    refine xv_iload dX6_isCoveredFrom_39 rfl ?_
    refine xv_bipush (v := nI 16) dX6_isCoveredFrom_41 rfl ?_
    refine xv_icmp_geN (tgt := 106) dX6_isCoveredFrom_43 rfl (by omega) (by omega) (fun c_43 => ?_) (fun c_43 => absurd c_43 (by omega))
    refine xv_iconst (v := 0) dX6_isCoveredFrom_106 rfl ?_
    refine xv_zret dX6_isCoveredFrom_107 rfl rfl (Nat.zero_le _) (Nat.zero_le _) ?_
    have e : i = 16 := by omega
    subst e
    refine h1 I2 hch ?_
    rw [fs, fsi_none]
    exact fun j g1 g2 => by rw [hno j g1 (by omega)]; rfl
  | succ n ih =>
    intro i I2 hi hci hch hno
    refine xv_iload dX6_isCoveredFrom_39 rfl ?_
    refine xv_bipush (v := nI 16) dX6_isCoveredFrom_41 rfl ?_
    refine xv_icmp_geN (tgt := 106) dX6_isCoveredFrom_43 rfl (by omega) (by omega) (fun c_43 => absurd c_43 (by omega)) (fun c_43 => ?_)
    refine xv_aload_n dX6_isCoveredFrom_46 rfl rfl ?_
    refine xv_getr dX6_isCoveredFrom_47 fl_X6_37 (go_5 hG) rfl (gr_5_7 hG) ?_
    refine xv_iload dX6_isCoveredFrom_50 rfl ?_
    refine xv_laload dX6_isCoveredFrom_52 (go_167 hG) (xv_ixn (by omega) (by decide)) ?_
    refine xv_nmJ (hcv i (by omega)).1 ?_
    refine xv_lload dX6_isCoveredFrom_53 rfl ?_
    refine xv_ldc2 dX6_isCoveredFrom_55 ld_X6_68 ?_
    refine xv_lxor dX6_isCoveredFrom_58 ?_
    refine xv_land dX6_isCoveredFrom_59 ?_
    refine xv_nmJ (xl_andn _ _) ?_
    refine xv_lconst (v := 0) dX6_isCoveredFrom_60 rfl ?_
    refine xv_lcmp dX6_isCoveredFrom_61 ?_
    refine xv_if_eq (tgt := 100) dX6_isCoveredFrom_62 rfl (fun c_62 => ?_) (fun c_62 => ?_)
    · refine xv_iinc dX6_isCoveredFrom_100 rfl (xv_inc _) (Nat.le_of_ble_eq_true rfl) rfl ?_
      refine xv_goto (tgt := 39) dX6_isCoveredFrom_103 rfl ?_
      have z : xdf (cv i) cov = 0 := (xl_0 (Nat.lt_of_le_of_lt (xdf_le _ _) (Nat.lt_trans (sb_lt (hcv i (by omega)).2 hb4) (by decide)))).mp ((xn_cmp_eq _ _).mp c_62)
      have e : cov ||| cv i = cov := sb_as (sb_or (sb_re _) (sb_df z)) (sb_ol (sb_re _))
      refine ih (i + 1) I2 (by omega) (by omega) hch (fun j g1 g2 => ?_)
      by_cases ej : j = i
      · rw [ej, e]; exact fs_mono (by omega) (hmin m (by omega))
      · exact hno j g1 (by omega)
    · refine xv_aload_n dX6_isCoveredFrom_65 rfl rfl ?_
      refine xv_getr dX6_isCoveredFrom_66 fl_X6_25 (go_5 hG) rfl (gr_5_4 hG) ?_
      refine xv_iload_n dX6_isCoveredFrom_69 rfl rfl ?_
      refine xv_iload dX6_isCoveredFrom_70 rfl ?_
      refine xv_iastore dX6_isCoveredFrom_72 (go_164 hG) (xv_ixn (by omega) (by decide)) ?_
      refine xv_aload_n dX6_isCoveredFrom_73 rfl rfl ?_
      refine xv_iload dX6_isCoveredFrom_74 rfl ?_
      refine xv_iconst (v := nI 1) dX6_isCoveredFrom_76 rfl ?_
      refine xv_iadd dX6_isCoveredFrom_77 ?_
      refine xv_nmI (nI_add _ _) ?_
      refine xv_iload_n dX6_isCoveredFrom_78 rfl rfl ?_
      refine xv_iconst (v := nI 1) dX6_isCoveredFrom_79 rfl ?_
      refine xv_iadd dX6_isCoveredFrom_80 ?_
      refine xv_nmI (nI_add _ _) ?_
      refine xv_iload_n dX6_isCoveredFrom_81 rfl rfl ?_
      refine xv_lload dX6_isCoveredFrom_82 rfl ?_
      refine xv_aload_n dX6_isCoveredFrom_84 rfl rfl ?_
      refine xv_getr dX6_isCoveredFrom_85 fl_X6_37 (go_5 hG) rfl (gr_5_7 hG) ?_
      refine xv_iload dX6_isCoveredFrom_88 rfl ?_
      refine xv_laload dX6_isCoveredFrom_90 (go_167 hG) (xv_ixn (by omega) (by decide)) ?_
      refine xv_nmJ (hcv i (by omega)).1 ?_
      refine xv_lor dX6_isCoveredFrom_91 ?_
      refine xv_nmJ (xl_or _ _) ?_
      refine xv_callV0 (As := [_, _, _, _]) dX6_isCoveredFrom_92 cl_X6_64 rfl rfl rfl rfl (go_5 hG) rfl rfl (Nat.le_of_ble_eq_true rfl) (Nat.le_of_ble_eq_true rfl) (Nat.zero_le _) (Nat.zero_le _) ?_
      have hm2 : ∀ m2, m2 < m → fs cv bd m2 (i + 1) (cov ||| cv i) = none := fun m2 hm2 => by
        have q := hmin (m2 + 1) (by omega)
        rw [fs, fsi_none] at q
        exact Option.map_eq_none_iff.mp (q i (by omega) (by omega))
      refine IH (i + 1) (k + 1) (cov ||| cv i) (xv_ui I2 164 k (nI i)) _ (by omega) (by omega) (sb_or hcb (hcv i (by omega)).2) hm2 (fun I3 g gn => ?_) (fun I3 w g gw gj => ?_)
      · refine xv_if_eq (tgt := 100) dX6_isCoveredFrom_95 rfl (fun c_95 => ?_) (fun c_95 => absurd (by decide) c_95)
        refine xv_iinc dX6_isCoveredFrom_100 rfl (xv_inc _) (Nat.le_of_ble_eq_true rfl) rfl ?_
        refine xv_goto (tgt := 39) dX6_isCoveredFrom_103 rfl ?_
        refine ih (i + 1) I3 (by omega) (by omega) ⟨fun b hb => ?_, fun j hj => ?_⟩ (fun j g1 g2 => ?_)
        · rw [g.1 b hb, xv_ui_ne hb]; exact hch.1 b hb
        · rw [g.2 j (by omega), xv_ui_o (by omega)]; exact hch.2 j hj
        by_cases ej : j = i
        · rw [ej]; exact gn
        · exact hno j g1 (by omega)
      · refine xv_if_eq (tgt := 100) dX6_isCoveredFrom_95 rfl (fun c_95 => absurd c_95 (by decide)) (fun c_95 => ?_)
        refine xv_iconst (v := 1) dX6_isCoveredFrom_98 rfl ?_
        refine xv_zret dX6_isCoveredFrom_99 rfl rfl (Nat.zero_le _) (Nat.zero_le _) ?_
        refine h2 I3 (i :: w) ⟨fun b hb => ?_, fun j hj => ?_⟩ ?_ ?_
        · rw [g.1 b hb, xv_ui_ne hb]; exact hch.1 b hb
        · rw [g.2 j (by omega), xv_ui_o (by omega)]; exact hch.2 j hj
        · rw [fs]; exact fsi_at (j := i) (by omega) (by omega) (by rw [gw]; rfl) (fun q g1 g2 => by rw [hno q g1 g2]; rfl)
        · intro j hj
          cases j with
          | zero => rw [g.2 (k + 0) (by omega)]; exact xv_ui_s
          | succ j => rw [show k + (j + 1) = k + 1 + j by omega]; exact gj j (by omega)

theorem s6_cov {l : Launch} {D : va_G} {d : Nat} {G : xv_Gr} {J : xv_J} (hG : xg_ok G) {cv on : Nat → Nat} {bd mx : Nat} (hcv : ∀ i, i < 16 → J 167 i = lN (cv i) ∧ sb_ (cv i) bd) (hon : ∀ i, i ≤ 16 → J 168 i = lN (on i)) (hos : ∀ i, i < 16 → on i = cv i ||| on (i + 1)) (ho16 : on 16 = 0) (hbd : J 5 5 = lN bd) (hb4 : bd < 2 ^ 40) (hmx : mx ≤ 16) : ∀ m : Nat, ∀ (c k cov : Nat) (I : xv_I) (Q : xv_Po), c ≤ 16 → k + m = mx → sb_ cov bd → (∀ m2, m2 < m → fs cv bd m2 c cov = none) → (∀ I3, ch_f I I3 k → fs cv bd m c cov = none → Q (some (.int 0)) G I3 J) → (∀ I3 w, ch_f I I3 k → fs cv bd m c cov = some w → (∀ j, j < m → I3 164 (k + j) = nI (w.getD j 0)) → Q (some (.int 1)) G I3 J) → xv_Ev l D (d + m) mX6_isCoveredFrom none 0 [some (.ref 5), some (.int (nI c)), some (.int (nI k)), some (.int (nI mx)), some (.long (lN cov)), none, none] [] G I J 0 0 Q := by
  intro m
  induction m with
  | zero =>
    intro c k cov I Q hc hk hcb hmin h1 h2
    have hcl : cov < 2 ^ 40 := sb_lt hcb hb4
    refine xv_lload dX6_isCoveredFrom_0 rfl ?_
    refine xv_aload_n dX6_isCoveredFrom_2 rfl rfl ?_
    refine xv_getj dX6_isCoveredFrom_3 fl_X6_29 (go_5 hG) rfl ?_
    refine xv_nmJ hbd ?_
    refine xv_lcmp dX6_isCoveredFrom_6 ?_
    refine xv_if_ne (tgt := 12) dX6_isCoveredFrom_7 rfl (fun c_7 => ?_) (fun c_7 => ?_)
    · refine xv_iload_n dX6_isCoveredFrom_12 rfl rfl ?_
      refine xv_iload_n dX6_isCoveredFrom_13 rfl rfl ?_
      refine xv_icmp_geN (tgt := 34) dX6_isCoveredFrom_14 rfl (by omega) (by omega) (fun c_14 => ?_) (fun c_14 => absurd c_14 (by omega))
      refine xv_iconst (v := 0) dX6_isCoveredFrom_34 rfl ?_
      refine xv_zret dX6_isCoveredFrom_35 rfl rfl (Nat.zero_le _) (Nat.zero_le _) ?_
      have e : ¬ cov = bd := fun z => c_7 ((xn_cmp_eq _ _).mpr (by rw [z]))
      exact h1 I (ch_re I k) (by rw [fs, if_neg e])
    · refine xv_iconst (v := 1) dX6_isCoveredFrom_10 rfl ?_
      refine xv_zret dX6_isCoveredFrom_11 rfl rfl (Nat.zero_le _) (Nat.zero_le _) ?_
      have e : cov = bd := (lN_inj hcl hb4).mp ((xn_cmp_eq _ _).mp c_7)
      exact h2 I [] (ch_re I k) (by rw [fs, if_pos e]) (fun j hj => absurd hj (by omega))
  | succ m ih =>
    intro c k cov I Q hc hk hcb hmin h1 h2
    have hcl : cov < 2 ^ 40 := sb_lt hcb hb4
    refine xv_lload dX6_isCoveredFrom_0 rfl ?_
    refine xv_aload_n dX6_isCoveredFrom_2 rfl rfl ?_
    refine xv_getj dX6_isCoveredFrom_3 fl_X6_29 (go_5 hG) rfl ?_
    refine xv_nmJ hbd ?_
    refine xv_lcmp dX6_isCoveredFrom_6 ?_
    refine xv_if_ne (tgt := 12) dX6_isCoveredFrom_7 rfl (fun c_7 => ?_) (fun c_7 => absurd (hmin 0 (by omega)) (by rw [fs, if_pos ((lN_inj hcl hb4).mp ((xn_cmp_eq _ _).mp c_7))]; exact fun z => by cases z))
    refine xv_iload_n dX6_isCoveredFrom_12 rfl rfl ?_
    refine xv_iload_n dX6_isCoveredFrom_13 rfl rfl ?_
    refine xv_icmp_geN (tgt := 34) dX6_isCoveredFrom_14 rfl (by omega) (by omega) (fun c_14 => absurd c_14 (by omega)) (fun c_14 => ?_)
    have hle : sb_ (on c) bd := by
      have up : ∀ n i, i + n = 16 → sb_ (on i) bd := by
        intro n
        induction n with
        | zero => intro i hi; have e : i = 16 := by omega
                  subst e; rw [ho16]; exact fun j hj => by rw [Nat.zero_testBit] at hj; cases hj
        | succ n ihn => intro i hi; rw [hos i (by omega)]; exact sb_or (hcv i (by omega)).2 (ihn (i + 1) (by omega))
      exact up (16 - c) c (by omega)
    refine xv_lload dX6_isCoveredFrom_17 rfl ?_
    refine xv_aload_n dX6_isCoveredFrom_19 rfl rfl ?_
    refine xv_getr dX6_isCoveredFrom_20 fl_X6_40 (go_5 hG) rfl (gr_5_8 hG) ?_
    refine xv_iload_n dX6_isCoveredFrom_23 rfl rfl ?_
    refine xv_laload dX6_isCoveredFrom_24 (go_168 hG) (xv_ixn (by omega) (by decide)) ?_
    refine xv_nmJ (hon c hc) ?_
    refine xv_lor dX6_isCoveredFrom_25 ?_
    refine xv_nmJ (xl_or _ _) ?_
    refine xv_aload_n dX6_isCoveredFrom_26 rfl rfl ?_
    refine xv_getj dX6_isCoveredFrom_27 fl_X6_29 (go_5 hG) rfl ?_
    refine xv_nmJ hbd ?_
    refine xv_lcmp dX6_isCoveredFrom_30 ?_
    refine xv_if_eq (tgt := 36) dX6_isCoveredFrom_31 rfl (fun c_31 => ?_) (fun c_31 => ?_)
    · refine xv_iload_n dX6_isCoveredFrom_36 rfl rfl ?_
      refine xv_istore dX6_isCoveredFrom_37 (Nat.le_of_ble_eq_true rfl) rfl ?_
      exact s6_cov_l hG hcv hon hos ho16 hbd hb4 hmx ih hcl hc hk hcb hmin h1 h2 (16 - c) c I (by omega) (Nat.le_refl _) (ch_re I k) (fun j g1 g2 => absurd g1 (by omega))
    · refine xv_iconst (v := 0) dX6_isCoveredFrom_34 rfl ?_
      refine xv_zret dX6_isCoveredFrom_35 rfl rfl (Nat.zero_le _) (Nat.zero_le _) ?_
      refine h1 I (ch_re I k) ?_
      cases e : fs cv bd (m + 1) c cov with
      | none => rfl
      | some w => exact absurd ((xn_cmp_eq _ _).mpr (by rw [sb_as (sb_or hcb hle) (fs_on hos e)])) c_31
