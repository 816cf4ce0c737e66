/-! terms (model): readTerm -/
theorem sp_ns {b : Nat → Nat} {n : Nat} : ∀ (f i : Nat), n - i = f → ¬ (sp_ b n i < n ∧ b (sp_ b n i) = 32)
  | 0, i, h => by
    rw [sp_n (by omega)]
    exact fun z => by omega
  | f + 1, i, h => by
    by_cases q : i < n ∧ b i = 32
    · rw [sp_y q.1 q.2]
      exact sp_ns f (i + 1) (by omega)
    · rw [sp_n q]
      exact q
theorem sp_id (b : Nat → Nat) (n i : Nat) : sp_ b n (sp_ b n i) = sp_ b n i := sp_n (sp_ns _ i rfl)
def rd_ (b : Nat → Nat) (n : Nat) (val : Nat → Int64) : Nat → Nat → List Nat → List Bool → Nat → Bool → Option (Option Nat × List Bool)
  | 0, _, _, _, _, _ => none
  | f + 1, a, ops, trs, dep, w =>
    let p := sp_ b n a
    let s := pc_ b n p
    if w = true then
      if s = 33 ∨ s = 40 then rd_ b n val f (p + 1) (s :: ops) trs (if s = 40 then dep + 1 else dep) true
      else match tk_ b n val p with
        | (none, q) => some (some q, trs)
        | (some v, q) => rd_ b n val f q ops (v :: trs) dep false
    else if s = 0 then
      if 0 < dep then some (some p, trs) else (match cl_o 1 ops trs with
        | none => none
        | some r => some (none, r.2))
    else if s = 41 ∧ 0 < dep then (match cl_o 1 ops trs with
        | none => none
        | some ([], _) => none
        | some (_ :: os, ts) => rd_ b n val f (p + 1) os ts (dep - 1) false)
    else if s = 38 ∨ s = 124 then (match cl_o (bi_ s) ops trs with
        | none => none
        | some r => rd_ b n val f (p + 1) (s :: r.1) r.2 dep true)
    else some (some p, trs)
theorem cl_len {k : Nat} : ∀ (ops : List Nat) (trs : List Bool) (r : List Nat × List Bool), cl_o k ops trs = some r → r.1.length ≤ ops.length ∧ r.2.length ≤ trs.length ∧ ∀ x ∈ r.1, x ∈ ops
  | [], trs, r, h => by
    rw [cl_o] at h
    cases h
    exact ⟨Nat.le_refl _, Nat.le_refl _, fun x hx => hx⟩
  | o :: os, trs, r, h => by
    rw [cl_o.eq_def] at h
    dsimp only at h
    by_cases hk : k ≤ bi_ o
    · rw [if_pos hk] at h
      cases trs with
      | nil => cases h
      | cons t ts =>
        by_cases h33 : o = 33
        · have h := (if_pos h33).symm.trans h
          have := cl_len os _ r h
          simp only [List.length_cons] at this ⊢
          exact ⟨by omega, by omega, fun x hx => List.mem_cons_of_mem _ (this.2.2 x hx)⟩
        · have h := (if_neg h33).symm.trans h
          cases ts with
          | nil => cases h
          | cons t2 ts =>
            have := cl_len os _ r h
            simp only [List.length_cons] at this ⊢
            exact ⟨by omega, by omega, fun x hx => List.mem_cons_of_mem _ (this.2.2 x hx)⟩
    · rw [if_neg hk] at h
      cases h
      exact ⟨Nat.le_refl _, Nat.le_refl _, fun x hx => hx⟩
theorem tk_b {b : Nat → Nat} {n : Nat} {val : Nat → Int64} {p : Nat} (hp : p ≤ n) : (tk_ b n val p).2 ≤ n ∧ p ≤ (tk_ b n val p).2 ∧ ∀ v, (tk_ b n val p).1 = some v → p < (tk_ b n val p).2 := by
  unfold tk_
  split
  · exact ⟨hp, Nat.le_refl _, fun v hv => by cases hv⟩
  · rename_i v hl
    have hin := pc_in (lt_n hl).1
    have h1 := sp_gi b n (p + 1)
    have h2 := sp_le (b := b) (n := n) (i := p + 1) (by omega)
    dsimp only
    split
    · rename_i hs
      have hin1 := pc_in (b := b) (n := n) (i := sp_ b n (p + 1)) (by omega)
      have h3 := sp_gi b n (sp_ b n (p + 1) + 1)
      have h4 := sp_le (b := b) (n := n) (i := sp_ b n (p + 1) + 1) (by omega)
      split
      · have h5 := dg_b (b := b) (n := n) 5 0 _ h4
        exact ⟨h5.1, by omega, fun v hv => by omega⟩
      · exact ⟨h4, by omega, fun v hv => by cases hv⟩
    · exact ⟨h2, by omega, fun v hv => by cases hv⟩
theorem s11_rd_l {l : Launch} {D : va_G} {d : Nat} {G : xv_Gr} {I : xv_I} {J : xv_J} {Q : xv_Po} (hG : xg_ok G) {t n : Nat} {b : Nat → Nat} (ht4 : t < 4) (hn6 : n ≤ 60) (hln : I 91 t = nI n) (hby : ∀ i, i < n → I 92 (60 * t + i) = nI (b i) ∧ b i < 256 ∧ b i ≠ 0) {val : Nat → Int64} (hval : ∀ v, v < 5 → J 98 v = val v) {r : Option Nat} {ts : List Bool} (hQ : ∀ I3 a2 os2, rq I I3 a2 os2 ts → Q (some (.int (ob_ (-900009) r))) G I3 J) : ∀ (f a : Nat) (ops : List Nat) (trs : List Bool) (dep : Nat) (w : Bool) (I2 : xv_I), rd_ b n val f a ops trs dep w = some (r, ts) → a ≤ n → ops.length ≤ a → trs.length ≤ a → (∀ x ∈ ops, x < 256) → dep ≤ a → rq I I2 a ops trs → xv_Ev l D (d + 2) mX11_readTerm none 19 [some (.ref 40), some (.int (nI t)), some (.int (nI dep)), some (.int (xb w)), none] [] G I2 J 0 0 Q := by
  intro f
  induction f with
  | zero =>
    intro a ops trs dep w I2 hr
    rw [rd_] at hr
    cases hr
  | succ f ih =>
    intro a ops trs dep w I2 hr ha ho6 ht6 hops hde hq
    rw [rd_.eq_def] at hr
    dsimp only at hr
    have hb8 : ∀ i, i < n → b i < 256 := fun i hi => (hby i hi).2.1
    have hs6 := pc_lt (i := (sp_ b n a)) hb8
    have hpl : (sp_ b n a) ≤ n := sp_le ha
    have hpg := sp_gi b n a
    cases w with
    | true =>
      rw [if_pos rfl] at hr
      by_cases h33 : (pc_ b n (sp_ b n a)) = 33
      · have hk := h33
        have hn40 : ¬ (pc_ b n (sp_ b n a)) = 40 := by omega
        have hr := (if_pos (Or.inl h33)).symm.trans hr
        rw [if_neg hn40] at hr
        refine xv_iload_n dX11_readTerm_19 rfl rfl ?_
        refine xv_if_ne (tgt := 31) dX11_readTerm_20 rfl (fun c_20 => ?_) (fun c_20 => absurd c_20 (by decide))
        refine xv_aload_n dX11_readTerm_31 rfl rfl ?_
        refine xv_iload_n dX11_readTerm_32 rfl rfl ?_
        refine xv_callV0 (As := [_]) dX11_readTerm_33 cl_X11_289 rfl rfl rfl rfl (go_40 hG) rfl rfl (Nat.le_of_ble_eq_true rfl) (Nat.le_of_ble_eq_true rfl) (Nat.zero_le _) (Nat.zero_le _) ?_
        refine s11_peek (d := d + 1) hG ht4 hn6 hln hby (at_ := a) hq (by omega) (fun I3 hq3 => ?_)
        · refine xv_istore dX11_readTerm_36 (Nat.le_of_ble_eq_true rfl) rfl ?_
          refine xv_iload_n dX11_readTerm_38 rfl rfl ?_
          refine xv_if_eq (tgt := 98) dX11_readTerm_39 rfl (fun c_39 => absurd c_39 (by decide)) (fun c_39 => ?_)
          refine xv_iload dX11_readTerm_42 rfl ?_
          refine xv_bipush (v := nI 33) dX11_readTerm_44 rfl ?_
          refine xv_icmp_eqN (tgt := 56) dX11_readTerm_46 rfl (by omega) (by omega) (fun c_46 => ?_) (fun c_46 => absurd hk c_46)
          refine xv_iload_n dX11_readTerm_56 rfl rfl ?_
          refine xv_iload dX11_readTerm_57 rfl ?_
          refine xv_bipush (v := nI 40) dX11_readTerm_59 rfl ?_
          refine xv_icmp_neN (tgt := 68) dX11_readTerm_61 rfl (by omega) (by omega) (fun c_61 => ?_) (fun c_61 => absurd c_61 hn40)
          refine xv_iconst (v := nI 0) dX11_readTerm_68 rfl ?_
          refine xv_iadd dX11_readTerm_69 ?_
          refine xv_nmI (nI_add _ _) ?_
          refine xv_istore_n dX11_readTerm_70 rfl (Nat.le_of_ble_eq_true rfl) rfl ?_
          refine xv_aload_n dX11_readTerm_71 rfl rfl ?_
          refine xv_iload dX11_readTerm_72 rfl ?_
          refine xv_callV0 (As := [_]) dX11_readTerm_74 cl_X11_310 rfl rfl rfl rfl (go_40 hG) rfl rfl (Nat.le_of_ble_eq_true rfl) (Nat.le_of_ble_eq_true rfl) (Nat.zero_le _) (Nat.zero_le _) ?_
          refine s11_push (d := d + 1) hG (s := (pc_ b n (sp_ b n a))) hq3 (by omega) (fun I4 hq4 => ?_)
          · refine xv_goto (tgt := 179) dX11_readTerm_77 rfl ?_
            refine xv_goto (tgt := 19) dX11_readTerm_179 rfl ?_
            have hin := pc_in (b := b) (n := n) (i := (sp_ b n a)) (by omega)
            refine xv_fg [true, true, true, true, false] ?_
            refine ih ((sp_ b n a) + 1) ((pc_ b n (sp_ b n a)) :: ops) trs (dep + 0) true _ hr (by omega) (by simp only [List.length_cons]; omega) (by omega) (fun x hx => ?_) (by omega) hq4
            rcases List.mem_cons.mp hx with e | e
            · rw [e]; omega
            · exact hops x e
      · have hn33 := h33
        by_cases h40 : (pc_ b n (sp_ b n a)) = 40
        · have hk := h40
          have hr := (if_pos (Or.inr h40)).symm.trans hr
          rw [if_pos h40] at hr
          refine xv_iload_n dX11_readTerm_19 rfl rfl ?_
          refine xv_if_ne (tgt := 31) dX11_readTerm_20 rfl (fun c_20 => ?_) (fun c_20 => absurd c_20 (by decide))
          refine xv_aload_n dX11_readTerm_31 rfl rfl ?_
          refine xv_iload_n dX11_readTerm_32 rfl rfl ?_
          refine xv_callV0 (As := [_]) dX11_readTerm_33 cl_X11_289 rfl rfl rfl rfl (go_40 hG) rfl rfl (Nat.le_of_ble_eq_true rfl) (Nat.le_of_ble_eq_true rfl) (Nat.zero_le _) (Nat.zero_le _) ?_
          refine s11_peek (d := d + 1) hG ht4 hn6 hln hby (at_ := a) hq (by omega) (fun I3 hq3 => ?_)
          · refine xv_istore dX11_readTerm_36 (Nat.le_of_ble_eq_true rfl) rfl ?_
            refine xv_iload_n dX11_readTerm_38 rfl rfl ?_
            refine xv_if_eq (tgt := 98) dX11_readTerm_39 rfl (fun c_39 => absurd c_39 (by decide)) (fun c_39 => ?_)
            refine xv_iload dX11_readTerm_42 rfl ?_
            refine xv_bipush (v := nI 33) dX11_readTerm_44 rfl ?_
            refine xv_icmp_eqN (tgt := 56) dX11_readTerm_46 rfl (by omega) (by omega) (fun c_46 => absurd c_46 hn33) (fun c_46 => ?_)
            refine xv_iload dX11_readTerm_49 rfl ?_
            refine xv_bipush (v := nI 40) dX11_readTerm_51 rfl ?_
            refine xv_icmp_neN (tgt := 80) dX11_readTerm_53 rfl (by omega) (by omega) (fun c_53 => absurd hk c_53) (fun c_53 => ?_)
            refine xv_iload_n dX11_readTerm_56 rfl rfl ?_
            refine xv_iload dX11_readTerm_57 rfl ?_
            refine xv_bipush (v := nI 40) dX11_readTerm_59 rfl ?_
            refine xv_icmp_neN (tgt := 68) dX11_readTerm_61 rfl (by omega) (by omega) (fun c_61 => absurd hk c_61) (fun c_61 => ?_)
            refine xv_iconst (v := nI 1) dX11_readTerm_64 rfl ?_
            refine xv_goto (tgt := 69) dX11_readTerm_65 rfl ?_
            refine xv_iadd dX11_readTerm_69 ?_
            refine xv_nmI (nI_add _ _) ?_
            refine xv_istore_n dX11_readTerm_70 rfl (Nat.le_of_ble_eq_true rfl) rfl ?_
            refine xv_aload_n dX11_readTerm_71 rfl rfl ?_
            refine xv_iload dX11_readTerm_72 rfl ?_
            refine xv_callV0 (As := [_]) dX11_readTerm_74 cl_X11_310 rfl rfl rfl rfl (go_40 hG) rfl rfl (Nat.le_of_ble_eq_true rfl) (Nat.le_of_ble_eq_true rfl) (Nat.zero_le _) (Nat.zero_le _) ?_
            refine s11_push (d := d + 1) hG (s := (pc_ b n (sp_ b n a))) hq3 (by omega) (fun I4 hq4 => ?_)
            · refine xv_goto (tgt := 179) dX11_readTerm_77 rfl ?_
              refine xv_goto (tgt := 19) dX11_readTerm_179 rfl ?_
              have hin := pc_in (b := b) (n := n) (i := (sp_ b n a)) (by omega)
              refine xv_fg [true, true, true, true, false] ?_
              refine ih ((sp_ b n a) + 1) ((pc_ b n (sp_ b n a)) :: ops) trs (dep + 1) true _ hr (by omega) (by simp only [List.length_cons]; omega) (by omega) (fun x hx => ?_) (by omega) hq4
              rcases List.mem_cons.mp hx with e | e
              · rw [e]; omega
              · exact hops x e
        · have hn40 := h40
          have hr := (if_neg (fun z => z.elim h33 h40)).symm.trans hr
          refine xv_iload_n dX11_readTerm_19 rfl rfl ?_
          refine xv_if_ne (tgt := 31) dX11_readTerm_20 rfl (fun c_20 => ?_) (fun c_20 => absurd c_20 (by decide))
          refine xv_aload_n dX11_readTerm_31 rfl rfl ?_
          refine xv_iload_n dX11_readTerm_32 rfl rfl ?_
          refine xv_callV0 (As := [_]) dX11_readTerm_33 cl_X11_289 rfl rfl rfl rfl (go_40 hG) rfl rfl (Nat.le_of_ble_eq_true rfl) (Nat.le_of_ble_eq_true rfl) (Nat.zero_le _) (Nat.zero_le _) ?_
          refine s11_peek (d := d + 1) hG ht4 hn6 hln hby (at_ := a) hq (by omega) (fun I3 hq3 => ?_)
          · refine xv_istore dX11_readTerm_36 (Nat.le_of_ble_eq_true rfl) rfl ?_
            refine xv_iload_n dX11_readTerm_38 rfl rfl ?_
            refine xv_if_eq (tgt := 98) dX11_readTerm_39 rfl (fun c_39 => absurd c_39 (by decide)) (fun c_39 => ?_)
            refine xv_iload dX11_readTerm_42 rfl ?_
            refine xv_bipush (v := nI 33) dX11_readTerm_44 rfl ?_
            refine xv_icmp_eqN (tgt := 56) dX11_readTerm_46 rfl (by omega) (by omega) (fun c_46 => absurd c_46 hn33) (fun c_46 => ?_)
            refine xv_iload dX11_readTerm_49 rfl ?_
            refine xv_bipush (v := nI 40) dX11_readTerm_51 rfl ?_
            refine xv_icmp_neN (tgt := 80) dX11_readTerm_53 rfl (by omega) (by omega) (fun c_53 => ?_) (fun c_53 => absurd c_53 hn40)
            refine xv_aload_n dX11_readTerm_80 rfl rfl ?_
            refine xv_iload_n dX11_readTerm_81 rfl rfl ?_
            refine xv_callV0 (As := [_]) dX11_readTerm_82 cl_X11_313 rfl rfl rfl rfl (go_40 hG) rfl rfl (Nat.le_of_ble_eq_true rfl) (Nat.le_of_ble_eq_true rfl) (Nat.zero_le _) (Nat.zero_le _) ?_
            refine s11_takeAsking (d := d) hG ht4 hn6 hln hby hval hpl hq3 (by omega) (sp_id b n a) (fun I4 hq4 hT => ?_) (fun I4 w hq4 hT => ?_)
            · refine xv_if_eq (tgt := 93) dX11_readTerm_85 rfl (fun c_85 => ?_) (fun c_85 => absurd (by decide) c_85)
              refine xv_aload_n dX11_readTerm_93 rfl rfl ?_
              refine xv_geti dX11_readTerm_94 fl_X11_286 (go_40 hG) rfl ?_
              refine xv_nmI hq4.2.2.1 ?_
              refine xv_iret dX11_readTerm_97 rfl (Nat.zero_le _) (Nat.zero_le _) ?_
              rcases htk : tk_ b n val (sp_ b n a) with ⟨q1, q2⟩
              rw [htk] at hT hq4 hr
              cases hT
              dsimp only at hr hq4
              cases hr
              exact hQ I4 _ _ hq4
            · refine xv_if_eq (tgt := 93) dX11_readTerm_85 rfl (fun c_85 => absurd c_85 (by decide)) (fun c_85 => ?_)
              refine xv_iconst (v := 0) dX11_readTerm_88 rfl ?_
              refine xv_istore_n dX11_readTerm_89 rfl (Nat.le_of_ble_eq_true rfl) rfl ?_
              refine xv_goto (tgt := 179) dX11_readTerm_90 rfl ?_
              refine xv_goto (tgt := 19) dX11_readTerm_179 rfl ?_
              have htb := tk_b (b := b) (n := n) (val := val) hpl
              rcases htk : tk_ b n val (sp_ b n a) with ⟨q1, q2⟩
              rw [htk] at hT hq4 htb hr
              cases hT
              have htb3 := htb.2.2 w rfl
              have htb1 := htb.1
              dsimp only at hr hq4 htb3 htb1
              refine xv_fg [true, true, true, true, false] ?_
              exact ih q2 ops (w :: trs) dep false _ hr (by omega) (by omega) (by simp only [List.length_cons]; omega) hops (by omega) hq4
    | false =>
      have hr := (if_neg (show ¬ false = true by decide)).symm.trans hr
      by_cases hs0 : (pc_ b n (sp_ b n a)) = 0
      · have hr := (if_pos hs0).symm.trans hr
        by_cases hdp : 0 < dep
        · have hr := (if_pos hdp).symm.trans hr
          refine xv_iload_n dX11_readTerm_19 rfl rfl ?_
          refine xv_if_ne (tgt := 31) dX11_readTerm_20 rfl (fun c_20 => absurd c_20 (by decide)) (fun c_20 => ?_)
          refine xv_aload_n dX11_readTerm_23 rfl rfl ?_
          refine xv_iload_n dX11_readTerm_24 rfl rfl ?_
          refine xv_callV0 (As := [_]) dX11_readTerm_25 cl_X11_289 rfl rfl rfl rfl (go_40 hG) rfl rfl (Nat.le_of_ble_eq_true rfl) (Nat.le_of_ble_eq_true rfl) (Nat.zero_le _) (Nat.zero_le _) ?_
          refine s11_peek (d := d + 1) hG ht4 hn6 hln hby (at_ := a) hq (by omega) (fun I3 hq3 => ?_)
          · refine xv_if_eq (tgt := 182) dX11_readTerm_28 rfl (fun c_28 => ?_) (fun c_28 => absurd (by rw [hs0]; rfl) c_28)
            refine xv_iload_n dX11_readTerm_182 rfl rfl ?_
            refine xv_if_le (tgt := 191) dX11_readTerm_183 rfl (fun c_183 => absurd c_183 (nI_nle hdp (by omega))) (fun c_183 => ?_)
            refine xv_aload_n dX11_readTerm_186 rfl rfl ?_
            refine xv_geti dX11_readTerm_187 fl_X11_286 (go_40 hG) rfl ?_
            refine xv_nmI hq3.2.2.1 ?_
            refine xv_iret dX11_readTerm_190 rfl (Nat.zero_le _) (Nat.zero_le _) ?_
            cases hr
            exact hQ I3 _ _ hq3
        · have hr := (if_neg hdp).symm.trans hr
          have hdp : dep = 0 := by omega
          cases hcl : cl_o 1 ops trs with
          | none => rw [hcl] at hr; cases hr
          | some rr =>
            rw [hcl] at hr
            obtain ⟨os2, ts2⟩ := rr
            dsimp only at hr
            refine xv_iload_n dX11_readTerm_19 rfl rfl ?_
            refine xv_if_ne (tgt := 31) dX11_readTerm_20 rfl (fun c_20 => absurd c_20 (by decide)) (fun c_20 => ?_)
            refine xv_aload_n dX11_readTerm_23 rfl rfl ?_
            refine xv_iload_n dX11_readTerm_24 rfl rfl ?_
            refine xv_callV0 (As := [_]) dX11_readTerm_25 cl_X11_289 rfl rfl rfl rfl (go_40 hG) rfl rfl (Nat.le_of_ble_eq_true rfl) (Nat.le_of_ble_eq_true rfl) (Nat.zero_le _) (Nat.zero_le _) ?_
            refine s11_peek (d := d + 1) hG ht4 hn6 hln hby (at_ := a) hq (by omega) (fun I3 hq3 => ?_)
            · refine xv_if_eq (tgt := 182) dX11_readTerm_28 rfl (fun c_28 => ?_) (fun c_28 => absurd (by rw [hs0]; rfl) c_28)
              refine xv_iload_n dX11_readTerm_182 rfl rfl ?_
              refine xv_if_le (tgt := 191) dX11_readTerm_183 rfl (fun c_183 => ?_) (fun c_183 => absurd (by rw [hdp]; decide) c_183)
              refine xv_aload_n dX11_readTerm_191 rfl rfl ?_
              refine xv_iconst (v := nI 1) dX11_readTerm_192 rfl ?_
              refine xv_callV0 (As := [_]) dX11_readTerm_193 cl_X11_316 rfl rfl rfl rfl (go_40 hG) rfl rfl (Nat.le_of_ble_eq_true rfl) (Nat.le_of_ble_eq_true rfl) (Nat.zero_le _) (Nat.zero_le _) ?_
              refine s11_closeTo (d := d) hG (I := I) (k := 1) (by decide) (at_ := (sp_ b n a)) (fun I5 hq5 => ?_) ops trs I3 ⟨hops, by omega⟩ (by omega) hq3 hcl
              · refine xv_ldc dX11_readTerm_196 ld_X11_152 ?_
                refine xv_iret dX11_readTerm_198 rfl (Nat.zero_le _) (Nat.zero_le _) ?_
                cases hr
                exact hQ I5 _ _ hq5
      · have hr := (if_neg hs0).symm.trans hr
        by_cases h41 : (pc_ b n (sp_ b n a)) = 41 ∧ 0 < dep
        · have hk := h41.1
          have hdp := h41.2
          have hr := (if_pos h41).symm.trans hr
          cases hcl : cl_o 1 ops trs with
          | none => rw [hcl] at hr; cases hr
          | some rr =>
            rw [hcl] at hr
            have hlen := cl_len ops trs rr hcl
            obtain ⟨os3, ts2⟩ := rr
            cases os3 with
            | nil => cases hr
            | cons o2 os2 =>
              dsimp only at hr
              simp only [List.length_cons] at hlen
              refine xv_iload_n dX11_readTerm_19 rfl rfl ?_
              refine xv_if_ne (tgt := 31) dX11_readTerm_20 rfl (fun c_20 => absurd c_20 (by decide)) (fun c_20 => ?_)
              refine xv_aload_n dX11_readTerm_23 rfl rfl ?_
              refine xv_iload_n dX11_readTerm_24 rfl rfl ?_
              refine xv_callV0 (As := [_]) dX11_readTerm_25 cl_X11_289 rfl rfl rfl rfl (go_40 hG) rfl rfl (Nat.le_of_ble_eq_true rfl) (Nat.le_of_ble_eq_true rfl) (Nat.zero_le _) (Nat.zero_le _) ?_
              refine s11_peek (d := d + 1) hG ht4 hn6 hln hby (at_ := a) hq (by omega) (fun I3 hq3 => ?_)
              · refine xv_if_eq (tgt := 182) dX11_readTerm_28 rfl (fun c_28 => absurd c_28 (nI_ne0 (by omega) (by omega))) (fun c_28 => ?_)
                refine xv_aload_n dX11_readTerm_31 rfl rfl ?_
                refine xv_iload_n dX11_readTerm_32 rfl rfl ?_
                refine xv_callV0 (As := [_]) dX11_readTerm_33 cl_X11_289 rfl rfl rfl rfl (go_40 hG) rfl rfl (Nat.le_of_ble_eq_true rfl) (Nat.le_of_ble_eq_true rfl) (Nat.zero_le _) (Nat.zero_le _) ?_
                refine s11_peek (d := d + 1) hG ht4 hn6 hln hby (at_ := (sp_ b n a)) hq3 (by omega) (fun I4 hq4 => ?_)
                · rw [sp_id] at hq4 ⊢
                  refine xv_istore dX11_readTerm_36 (Nat.le_of_ble_eq_true rfl) rfl ?_
                  refine xv_iload_n dX11_readTerm_38 rfl rfl ?_
                  refine xv_if_eq (tgt := 98) dX11_readTerm_39 rfl (fun c_39 => ?_) (fun c_39 => absurd (by decide) c_39)
                  refine xv_iload dX11_readTerm_98 rfl ?_
                  refine xv_bipush (v := nI 41) dX11_readTerm_100 rfl ?_
                  refine xv_icmp_neN (tgt := 140) dX11_readTerm_102 rfl (by omega) (by omega) (fun c_102 => absurd hk c_102) (fun c_102 => ?_)
                  refine xv_iload_n dX11_readTerm_105 rfl rfl ?_
                  refine xv_if_le (tgt := 140) dX11_readTerm_106 rfl (fun c_106 => absurd c_106 (nI_nle hdp (by omega))) (fun c_106 => ?_)
                  refine xv_aload_n dX11_readTerm_109 rfl rfl ?_
                  refine xv_iconst (v := nI 1) dX11_readTerm_110 rfl ?_
                  refine xv_callV0 (As := [_]) dX11_readTerm_111 cl_X11_316 rfl rfl rfl rfl (go_40 hG) rfl rfl (Nat.le_of_ble_eq_true rfl) (Nat.le_of_ble_eq_true rfl) (Nat.zero_le _) (Nat.zero_le _) ?_
                  refine s11_closeTo (d := d) hG (I := I) (k := 1) (by decide) (at_ := (sp_ b n a)) (fun I5 hq5 => ?_) ops trs I4 ⟨hops, by omega⟩ (by omega) hq4 hcl
                  · refine xv_aload_n dX11_readTerm_114 rfl rfl ?_
                    refine xv_dup dX11_readTerm_115 rfl ?_
                    refine xv_geti dX11_readTerm_116 fl_X11_304 (go_40 hG) rfl ?_
                    refine xv_nmI hq5.2.2.2.1 ?_
                    refine xv_iconst (v := nI 1) dX11_readTerm_119 rfl ?_
                    refine xv_isub dX11_readTerm_120 ?_
                    refine xv_nmI (pk_sub (by simp)) ?_
                    refine xv_nmI (show nI ((o2 :: os2).length - 1) = nI os2.length from by simp) ?_
                    refine xv_puti dX11_readTerm_121 fl_X11_304 (go_40 hG) rfl rfl rfl ?_
                    refine xv_iinc dX11_readTerm_124 rfl (nI_dec1 (by omega)) (Nat.le_of_ble_eq_true rfl) rfl ?_
                    refine xv_aload_n dX11_readTerm_127 rfl rfl ?_
                    refine xv_dup dX11_readTerm_128 rfl ?_
                    refine xv_geti dX11_readTerm_129 fl_X11_286 (go_40 hG) rfl ?_
                    refine xv_nmI ((xv_ui_o (by decide)).trans hq5.2.2.1) ?_
                    refine xv_iconst (v := nI 1) dX11_readTerm_132 rfl ?_
                    refine xv_iadd dX11_readTerm_133 ?_
                    refine xv_nmI (nI_add _ _) ?_
                    refine xv_puti dX11_readTerm_134 fl_X11_286 (go_40 hG) rfl rfl rfl ?_
                    refine xv_goto (tgt := 179) dX11_readTerm_137 rfl ?_
                    refine xv_goto (tgt := 19) dX11_readTerm_179 rfl ?_
                    have hin := pc_in (b := b) (n := n) (i := (sp_ b n a)) (by omega)
                    refine xv_fg [true, true, true, true, false] ?_
                    exact ih ((sp_ b n a) + 1) os2 ts2 (dep - 1) false _ hr (by omega) (by omega) (by omega) (fun x hx => hops x (hlen.2.2 x (List.mem_cons_of_mem _ hx))) (by omega) (rq_at (rq_po hq5))
        · have hr := (if_neg h41).symm.trans hr
          by_cases hj : (pc_ b n (sp_ b n a)) = 38 ∨ (pc_ b n (sp_ b n a)) = 124
          · have hr := (if_pos hj).symm.trans hr
            have hn41 : ¬ (pc_ b n (sp_ b n a)) = 41 := by omega
            cases hcl : cl_o (bi_ (pc_ b n (sp_ b n a))) ops trs with
            | none => rw [hcl] at hr; cases hr
            | some rr =>
              rw [hcl] at hr
              have hlen := cl_len ops trs rr hcl
              obtain ⟨os2, ts2⟩ := rr
              dsimp only at hr hlen
              rcases hj with hk | hk
              · have hn38 := hk
                refine xv_iload_n dX11_readTerm_19 rfl rfl ?_
                refine xv_if_ne (tgt := 31) dX11_readTerm_20 rfl (fun c_20 => absurd c_20 (by decide)) (fun c_20 => ?_)
                refine xv_aload_n dX11_readTerm_23 rfl rfl ?_
                refine xv_iload_n dX11_readTerm_24 rfl rfl ?_
                refine xv_callV0 (As := [_]) dX11_readTerm_25 cl_X11_289 rfl rfl rfl rfl (go_40 hG) rfl rfl (Nat.le_of_ble_eq_true rfl) (Nat.le_of_ble_eq_true rfl) (Nat.zero_le _) (Nat.zero_le _) ?_
                refine s11_peek (d := d + 1) hG ht4 hn6 hln hby (at_ := a) hq (by omega) (fun I3 hq3 => ?_)
                · refine xv_if_eq (tgt := 182) dX11_readTerm_28 rfl (fun c_28 => absurd c_28 (nI_ne0 (by omega) (by omega))) (fun c_28 => ?_)
                  refine xv_aload_n dX11_readTerm_31 rfl rfl ?_
                  refine xv_iload_n dX11_readTerm_32 rfl rfl ?_
                  refine xv_callV0 (As := [_]) dX11_readTerm_33 cl_X11_289 rfl rfl rfl rfl (go_40 hG) rfl rfl (Nat.le_of_ble_eq_true rfl) (Nat.le_of_ble_eq_true rfl) (Nat.zero_le _) (Nat.zero_le _) ?_
                  refine s11_peek (d := d + 1) hG ht4 hn6 hln hby (at_ := (sp_ b n a)) hq3 (by omega) (fun I4 hq4 => ?_)
                  · rw [sp_id] at hq4 ⊢
                    refine xv_istore dX11_readTerm_36 (Nat.le_of_ble_eq_true rfl) rfl ?_
                    refine xv_iload_n dX11_readTerm_38 rfl rfl ?_
                    refine xv_if_eq (tgt := 98) dX11_readTerm_39 rfl (fun c_39 => ?_) (fun c_39 => absurd (by decide) c_39)
                    refine xv_iload dX11_readTerm_98 rfl ?_
                    refine xv_bipush (v := nI 41) dX11_readTerm_100 rfl ?_
                    refine xv_icmp_neN (tgt := 140) dX11_readTerm_102 rfl (by omega) (by omega) (fun c_102 => ?_) (fun c_102 => absurd c_102 hn41)
                    refine xv_iload dX11_readTerm_140 rfl ?_
                    refine xv_bipush (v := nI 38) dX11_readTerm_142 rfl ?_
                    refine xv_icmp_eqN (tgt := 154) dX11_readTerm_144 rfl (by omega) (by omega) (fun c_144 => ?_) (fun c_144 => absurd hk c_144)
                    refine xv_aload_n dX11_readTerm_154 rfl rfl ?_
                    refine xv_iload dX11_readTerm_155 rfl ?_
                    refine xv_callS0 (As := [_]) dX11_readTerm_157 cl_X11_307 rfl rfl rfl rfl (Nat.le_of_ble_eq_true rfl) (Nat.le_of_ble_eq_true rfl) (Nat.zero_le _) (Nat.zero_le _) ?_
                    refine s11_binds hs6 ?_
                    refine xv_callV0 (As := [_]) dX11_readTerm_160 cl_X11_316 rfl rfl rfl rfl (go_40 hG) rfl rfl (Nat.le_of_ble_eq_true rfl) (Nat.le_of_ble_eq_true rfl) (Nat.zero_le _) (Nat.zero_le _) ?_
                    refine s11_closeTo (d := d) hG (I := I) (k := bi_ (pc_ b n (sp_ b n a))) (bi_le _) (at_ := (sp_ b n a)) (fun I5 hq5 => ?_) ops trs I4 ⟨hops, by omega⟩ (by omega) hq4 hcl
                    · refine xv_aload_n dX11_readTerm_163 rfl rfl ?_
                      refine xv_iload dX11_readTerm_164 rfl ?_
                      refine xv_callV0 (As := [_]) dX11_readTerm_166 cl_X11_310 rfl rfl rfl rfl (go_40 hG) rfl rfl (Nat.le_of_ble_eq_true rfl) (Nat.le_of_ble_eq_true rfl) (Nat.zero_le _) (Nat.zero_le _) ?_
                      refine s11_push (d := d + 1) hG (s := (pc_ b n (sp_ b n a))) hq5 (by omega) (fun I6 hq6 => ?_)
                      · refine xv_iconst (v := 1) dX11_readTerm_169 rfl ?_
                        refine xv_istore_n dX11_readTerm_170 rfl (Nat.le_of_ble_eq_true rfl) rfl ?_
                        refine xv_goto (tgt := 179) dX11_readTerm_171 rfl ?_
                        refine xv_goto (tgt := 19) dX11_readTerm_179 rfl ?_
                        have hin := pc_in (b := b) (n := n) (i := (sp_ b n a)) (by omega)
                        refine xv_fg [true, true, true, true, false] ?_
                        refine ih ((sp_ b n a) + 1) ((pc_ b n (sp_ b n a)) :: os2) ts2 dep true _ hr (by omega) (by simp only [List.length_cons]; omega) (by omega) (fun x hx => ?_) (by omega) hq6
                        rcases List.mem_cons.mp hx with e | e
                        · rw [e]; omega
                        · exact hops x (hlen.2.2 x e)
              · have hn38 : ¬ (pc_ b n (sp_ b n a)) = 38 := by omega
                refine xv_iload_n dX11_readTerm_19 rfl rfl ?_
                refine xv_if_ne (tgt := 31) dX11_readTerm_20 rfl (fun c_20 => absurd c_20 (by decide)) (fun c_20 => ?_)
                refine xv_aload_n dX11_readTerm_23 rfl rfl ?_
                refine xv_iload_n dX11_readTerm_24 rfl rfl ?_
                refine xv_callV0 (As := [_]) dX11_readTerm_25 cl_X11_289 rfl rfl rfl rfl (go_40 hG) rfl rfl (Nat.le_of_ble_eq_true rfl) (Nat.le_of_ble_eq_true rfl) (Nat.zero_le _) (Nat.zero_le _) ?_
                refine s11_peek (d := d + 1) hG ht4 hn6 hln hby (at_ := a) hq (by omega) (fun I3 hq3 => ?_)
                · refine xv_if_eq (tgt := 182) dX11_readTerm_28 rfl (fun c_28 => absurd c_28 (nI_ne0 (by omega) (by omega))) (fun c_28 => ?_)
                  refine xv_aload_n dX11_readTerm_31 rfl rfl ?_
                  refine xv_iload_n dX11_readTerm_32 rfl rfl ?_
                  refine xv_callV0 (As := [_]) dX11_readTerm_33 cl_X11_289 rfl rfl rfl rfl (go_40 hG) rfl rfl (Nat.le_of_ble_eq_true rfl) (Nat.le_of_ble_eq_true rfl) (Nat.zero_le _) (Nat.zero_le _) ?_
                  refine s11_peek (d := d + 1) hG ht4 hn6 hln hby (at_ := (sp_ b n a)) hq3 (by omega) (fun I4 hq4 => ?_)
                  · rw [sp_id] at hq4 ⊢
                    refine xv_istore dX11_readTerm_36 (Nat.le_of_ble_eq_true rfl) rfl ?_
                    refine xv_iload_n dX11_readTerm_38 rfl rfl ?_
                    refine xv_if_eq (tgt := 98) dX11_readTerm_39 rfl (fun c_39 => ?_) (fun c_39 => absurd (by decide) c_39)
                    refine xv_iload dX11_readTerm_98 rfl ?_
                    refine xv_bipush (v := nI 41) dX11_readTerm_100 rfl ?_
                    refine xv_icmp_neN (tgt := 140) dX11_readTerm_102 rfl (by omega) (by omega) (fun c_102 => ?_) (fun c_102 => absurd c_102 hn41)
                    refine xv_iload dX11_readTerm_140 rfl ?_
                    refine xv_bipush (v := nI 38) dX11_readTerm_142 rfl ?_
                    refine xv_icmp_eqN (tgt := 154) dX11_readTerm_144 rfl (by omega) (by omega) (fun c_144 => absurd c_144 hn38) (fun c_144 => ?_)
                    refine xv_iload dX11_readTerm_147 rfl ?_
                    refine xv_bipush (v := nI 124) dX11_readTerm_149 rfl ?_
                    refine xv_icmp_neN (tgt := 174) dX11_readTerm_151 rfl (by omega) (by omega) (fun c_151 => absurd hk c_151) (fun c_151 => ?_)
                    refine xv_aload_n dX11_readTerm_154 rfl rfl ?_
                    refine xv_iload dX11_readTerm_155 rfl ?_
                    refine xv_callS0 (As := [_]) dX11_readTerm_157 cl_X11_307 rfl rfl rfl rfl (Nat.le_of_ble_eq_true rfl) (Nat.le_of_ble_eq_true rfl) (Nat.zero_le _) (Nat.zero_le _) ?_
                    refine s11_binds hs6 ?_
                    refine xv_callV0 (As := [_]) dX11_readTerm_160 cl_X11_316 rfl rfl rfl rfl (go_40 hG) rfl rfl (Nat.le_of_ble_eq_true rfl) (Nat.le_of_ble_eq_true rfl) (Nat.zero_le _) (Nat.zero_le _) ?_
                    refine s11_closeTo (d := d) hG (I := I) (k := bi_ (pc_ b n (sp_ b n a))) (bi_le _) (at_ := (sp_ b n a)) (fun I5 hq5 => ?_) ops trs I4 ⟨hops, by omega⟩ (by omega) hq4 hcl
                    · refine xv_aload_n dX11_readTerm_163 rfl rfl ?_
                      refine xv_iload dX11_readTerm_164 rfl ?_
                      refine xv_callV0 (As := [_]) dX11_readTerm_166 cl_X11_310 rfl rfl rfl rfl (go_40 hG) rfl rfl (Nat.le_of_ble_eq_true rfl) (Nat.le_of_ble_eq_true rfl) (Nat.zero_le _) (Nat.zero_le _) ?_
                      refine s11_push (d := d + 1) hG (s := (pc_ b n (sp_ b n a))) hq5 (by omega) (fun I6 hq6 => ?_)
                      · refine xv_iconst (v := 1) dX11_readTerm_169 rfl ?_
                        refine xv_istore_n dX11_readTerm_170 rfl (Nat.le_of_ble_eq_true rfl) rfl ?_
                        refine xv_goto (tgt := 179) dX11_readTerm_171 rfl ?_
                        refine xv_goto (tgt := 19) dX11_readTerm_179 rfl ?_
                        have hin := pc_in (b := b) (n := n) (i := (sp_ b n a)) (by omega)
                        refine xv_fg [true, true, true, true, false] ?_
                        refine ih ((sp_ b n a) + 1) ((pc_ b n (sp_ b n a)) :: os2) ts2 dep true _ hr (by omega) (by simp only [List.length_cons]; omega) (by omega) (fun x hx => ?_) (by omega) hq6
                        rcases List.mem_cons.mp hx with e | e
                        · rw [e]; omega
                        · exact hops x (hlen.2.2 x e)
          · have hr := (if_neg hj).symm.trans hr
            have hn38 : ¬ (pc_ b n (sp_ b n a)) = 38 := fun z => hj (Or.inl z)
            have hn124 : ¬ (pc_ b n (sp_ b n a)) = 124 := fun z => hj (Or.inr z)
            by_cases hk : (pc_ b n (sp_ b n a)) = 41
            · have hdp : dep = 0 := by
                have : ¬ 0 < dep := fun z => h41 ⟨hk, z⟩
                omega
              refine xv_iload_n dX11_readTerm_19 rfl rfl ?_
              refine xv_if_ne (tgt := 31) dX11_readTerm_20 rfl (fun c_20 => absurd c_20 (by decide)) (fun c_20 => ?_)
              refine xv_aload_n dX11_readTerm_23 rfl rfl ?_
              refine xv_iload_n dX11_readTerm_24 rfl rfl ?_
              refine xv_callV0 (As := [_]) dX11_readTerm_25 cl_X11_289 rfl rfl rfl rfl (go_40 hG) rfl rfl (Nat.le_of_ble_eq_true rfl) (Nat.le_of_ble_eq_true rfl) (Nat.zero_le _) (Nat.zero_le _) ?_
              refine s11_peek (d := d + 1) hG ht4 hn6 hln hby (at_ := a) hq (by omega) (fun I3 hq3 => ?_)
              · refine xv_if_eq (tgt := 182) dX11_readTerm_28 rfl (fun c_28 => absurd c_28 (nI_ne0 (by omega) (by omega))) (fun c_28 => ?_)
                refine xv_aload_n dX11_readTerm_31 rfl rfl ?_
                refine xv_iload_n dX11_readTerm_32 rfl rfl ?_
                refine xv_callV0 (As := [_]) dX11_readTerm_33 cl_X11_289 rfl rfl rfl rfl (go_40 hG) rfl rfl (Nat.le_of_ble_eq_true rfl) (Nat.le_of_ble_eq_true rfl) (Nat.zero_le _) (Nat.zero_le _) ?_
                refine s11_peek (d := d + 1) hG ht4 hn6 hln hby (at_ := (sp_ b n a)) hq3 (by omega) (fun I4 hq4 => ?_)
                · rw [sp_id] at hq4 ⊢
                  refine xv_istore dX11_readTerm_36 (Nat.le_of_ble_eq_true rfl) rfl ?_
                  refine xv_iload_n dX11_readTerm_38 rfl rfl ?_
                  refine xv_if_eq (tgt := 98) dX11_readTerm_39 rfl (fun c_39 => ?_) (fun c_39 => absurd (by decide) c_39)
                  refine xv_iload dX11_readTerm_98 rfl ?_
                  refine xv_bipush (v := nI 41) dX11_readTerm_100 rfl ?_
                  refine xv_icmp_neN (tgt := 140) dX11_readTerm_102 rfl (by omega) (by omega) (fun c_102 => absurd hk c_102) (fun c_102 => ?_)
                  refine xv_iload_n dX11_readTerm_105 rfl rfl ?_
                  refine xv_if_le (tgt := 140) dX11_readTerm_106 rfl (fun c_106 => ?_) (fun c_106 => absurd (by rw [hdp]; decide) c_106)
                  refine xv_iload dX11_readTerm_140 rfl ?_
                  refine xv_bipush (v := nI 38) dX11_readTerm_142 rfl ?_
                  refine xv_icmp_eqN (tgt := 154) dX11_readTerm_144 rfl (by omega) (by omega) (fun c_144 => absurd c_144 hn38) (fun c_144 => ?_)
                  refine xv_iload dX11_readTerm_147 rfl ?_
                  refine xv_bipush (v := nI 124) dX11_readTerm_149 rfl ?_
                  refine xv_icmp_neN (tgt := 174) dX11_readTerm_151 rfl (by omega) (by omega) (fun c_151 => ?_) (fun c_151 => absurd c_151 hn124)
                  refine xv_aload_n dX11_readTerm_174 rfl rfl ?_
                  refine xv_geti dX11_readTerm_175 fl_X11_286 (go_40 hG) rfl ?_
                  refine xv_nmI hq4.2.2.1 ?_
                  refine xv_iret dX11_readTerm_178 rfl (Nat.zero_le _) (Nat.zero_le _) ?_
                  cases hr
                  exact hQ I4 _ _ hq4
            · have hn41 := hk
              refine xv_iload_n dX11_readTerm_19 rfl rfl ?_
              refine xv_if_ne (tgt := 31) dX11_readTerm_20 rfl (fun c_20 => absurd c_20 (by decide)) (fun c_20 => ?_)
              refine xv_aload_n dX11_readTerm_23 rfl rfl ?_
              refine xv_iload_n dX11_readTerm_24 rfl rfl ?_
              refine xv_callV0 (As := [_]) dX11_readTerm_25 cl_X11_289 rfl rfl rfl rfl (go_40 hG) rfl rfl (Nat.le_of_ble_eq_true rfl) (Nat.le_of_ble_eq_true rfl) (Nat.zero_le _) (Nat.zero_le _) ?_
              refine s11_peek (d := d + 1) hG ht4 hn6 hln hby (at_ := a) hq (by omega) (fun I3 hq3 => ?_)
              · refine xv_if_eq (tgt := 182) dX11_readTerm_28 rfl (fun c_28 => absurd c_28 (nI_ne0 (by omega) (by omega))) (fun c_28 => ?_)
                refine xv_aload_n dX11_readTerm_31 rfl rfl ?_
                refine xv_iload_n dX11_readTerm_32 rfl rfl ?_
                refine xv_callV0 (As := [_]) dX11_readTerm_33 cl_X11_289 rfl rfl rfl rfl (go_40 hG) rfl rfl (Nat.le_of_ble_eq_true rfl) (Nat.le_of_ble_eq_true rfl) (Nat.zero_le _) (Nat.zero_le _) ?_
                refine s11_peek (d := d + 1) hG ht4 hn6 hln hby (at_ := (sp_ b n a)) hq3 (by omega) (fun I4 hq4 => ?_)
                · rw [sp_id] at hq4 ⊢
                  refine xv_istore dX11_readTerm_36 (Nat.le_of_ble_eq_true rfl) rfl ?_
                  refine xv_iload_n dX11_readTerm_38 rfl rfl ?_
                  refine xv_if_eq (tgt := 98) dX11_readTerm_39 rfl (fun c_39 => ?_) (fun c_39 => absurd (by decide) c_39)
                  refine xv_iload dX11_readTerm_98 rfl ?_
                  refine xv_bipush (v := nI 41) dX11_readTerm_100 rfl ?_
                  refine xv_icmp_neN (tgt := 140) dX11_readTerm_102 rfl (by omega) (by omega) (fun c_102 => ?_) (fun c_102 => absurd c_102 hn41)
                  refine xv_iload dX11_readTerm_140 rfl ?_
                  refine xv_bipush (v := nI 38) dX11_readTerm_142 rfl ?_
                  refine xv_icmp_eqN (tgt := 154) dX11_readTerm_144 rfl (by omega) (by omega) (fun c_144 => absurd c_144 hn38) (fun c_144 => ?_)
                  refine xv_iload dX11_readTerm_147 rfl ?_
                  refine xv_bipush (v := nI 124) dX11_readTerm_149 rfl ?_
                  refine xv_icmp_neN (tgt := 174) dX11_readTerm_151 rfl (by omega) (by omega) (fun c_151 => ?_) (fun c_151 => absurd c_151 hn124)
                  refine xv_aload_n dX11_readTerm_174 rfl rfl ?_
                  refine xv_geti dX11_readTerm_175 fl_X11_286 (go_40 hG) rfl ?_
                  refine xv_nmI hq4.2.2.1 ?_
                  refine xv_iret dX11_readTerm_178 rfl (Nat.zero_le _) (Nat.zero_le _) ?_
                  cases hr
                  exact hQ I4 _ _ hq4

theorem s11_readTerm {l : Launch} {D : va_G} {d : Nat} {G : xv_Gr} {I : xv_I} {J : xv_J} {Q : xv_Po} (hG : xg_ok G) {t n : Nat} {b : Nat → Nat} (ht4 : t < 4) (hn6 : n ≤ 60) (hln : I 91 t = nI n) (hby : ∀ i, i < n → I 92 (60 * t + i) = nI (b i) ∧ b i < 256 ∧ b i ≠ 0) {val : Nat → Int64} (hval : ∀ v, v < 5 → J 98 v = val v) {r : Option Nat} {ts : List Bool} (hr : rd_ b n val 62 0 [] [] 0 true = some (r, ts)) (hQ : ∀ I3 a2 os2, rq I I3 a2 os2 ts → Q (some (.int (ob_ (-900009) r))) G I3 J) : xv_Ev l D (d + 2) mX11_readTerm none 0 [some (.ref 40), some (.int (nI t)), none, none, none] [] G I J 0 0 Q := by
  refine xv_aload_n dX11_readTerm_0 rfl rfl ?_
  refine xv_iconst (v := nI 0) dX11_readTerm_1 rfl ?_
  refine xv_puti dX11_readTerm_2 fl_X11_286 (go_40 hG) rfl rfl rfl ?_
  refine xv_aload_n dX11_readTerm_5 rfl rfl ?_
  refine xv_iconst (v := nI 0) dX11_readTerm_6 rfl ?_
  refine xv_puti dX11_readTerm_7 fl_X11_304 (go_40 hG) rfl rfl rfl ?_
  refine xv_aload_n dX11_readTerm_10 rfl rfl ?_
  refine xv_iconst (v := nI 0) dX11_readTerm_11 rfl ?_
  refine xv_puti dX11_readTerm_12 fl_X11_301 (go_40 hG) rfl rfl rfl ?_
  refine xv_iconst (v := nI 0) dX11_readTerm_15 rfl ?_
  refine xv_istore_n dX11_readTerm_16 rfl (Nat.le_of_ble_eq_true rfl) rfl ?_
  refine xv_iconst (v := 1) dX11_readTerm_17 rfl ?_
  refine xv_istore_n dX11_readTerm_18 rfl (Nat.le_of_ble_eq_true rfl) rfl ?_
  refine s11_rd_l (d := d) hG ht4 hn6 hln hby hval hQ 62 0 [] [] 0 true _ hr (Nat.zero_le _) (Nat.le_refl _) (Nat.le_refl _) (fun x hx => by cases hx) (Nat.le_refl _) ⟨fun b h1 h2 h3 => ?_, fun j h1 h2 h3 => ?_, ?_, ?_, ?_, True.intro, True.intro⟩
  · rw [xv_ui_ne h1, xv_ui_ne h1, xv_ui_ne h1]
  · rw [xv_ui_o h3, xv_ui_o h2, xv_ui_o h1]
  · rw [xv_ui_o (by decide), xv_ui_o (by decide), xv_ui_s]
  · rw [xv_ui_o (by decide), xv_ui_s]; rfl
  · rw [xv_ui_s]; rfl
