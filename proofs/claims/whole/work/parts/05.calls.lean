/-! new cells, ends, calls -/
section XV3
variable {D : va_G} {s : State} {A : Nat → Prop} {H H1 : Heap} {L : List Nat} {ad : Nat → Nat} {ca : Nat → ClassId} {G G' : xv_Gr} {I I' : xv_I} {J J' : xv_J}
theorem xv_Cn.moved {t : State} (hvm : s.vm.Alike t.vm) (h : xv_Cn D s A H L ad ca G I J) : xv_Cn D t A H L ad ca G I J :=
  ⟨fun c q hq => u_Kn_moved hvm (h.1 c q hq), fun a t n ha => ⟨arrOfT_moved hvm (h.2.1 a t n ha).1, (h.2.1 a t n ha).2.moved hvm⟩, h.2.2⟩
theorem xv_Cn.weak {B : Nat → Prop} (h : xv_Cn D s A H L ad ca G I J) (hB : ∀ q, A q → B q) : xv_Cn D s B H L ad ca G I J :=
  ⟨h.1, h.2.1, h.2.2.1, h.2.2.2.1.weaken (fun _ _ _ z => hB _ z), h.2.2.2.2⟩
/-- values keep what they are when cells come -/
def xv_mv (ad : Nat → Nat) (G : xv_Gr) (ad' : Nat → Nat) (G' : xv_Gr) : Prop := ∀ v, xv_ok G v → xv_c ad' v = xv_c ad v ∧ xv_ok G' v
theorem xv_mv.lv {ad' : Nat → Nat} (h : xv_mv ad G ad' G') {la : Array Slot} {n : Nat} {ls : List (Option Value)} (hl : xv_lv ad G la n ls) : xv_lv ad' G' la n ls :=
  ⟨hl.1, hl.2.1, fun i v hv => ⟨by rw [(h v (hl.2.2 i v hv).2).1]; exact (hl.2.2 i v hv).1, (h v (hl.2.2 i v hv).2).2⟩⟩
theorem xv_mv.oks {ad' : Nat → Nat} (h : xv_mv ad G ad' G') {st : List Value} (hs : xv_oks G st) : xv_oks G' st := fun v hv => (h v (hs v hv)).2
theorem xv_mv.map {ad' : Nat → Nat} (h : xv_mv ad G ad' G') {st : List Value} (hs : xv_oks G st) : st.map (xv_c ad') = st.map (xv_c ad) := List.map_congr_left (fun v hv => (h v (hs v hv)).1)
theorem xv_mv_new {a q : Nat} {sh : Nat ⊕ (Nat × Nat)} (ha : G.1 a = none) (hsc : a ≠ xv_SC) : xv_mv ad G (va_up ad a q) (xv_gn G a sh) := by
  intro v hv
  cases v with
  | ref b =>
    have hb : b ≠ a := by
      rcases hv b rfl with h | h
      · intro e; subst e; exact h ha
      · intro e; exact hsc (e.symm.trans h)
    refine ⟨by simp [xv_c, va_up, hb], fun x hx => ?_⟩
    cases hx
    rcases hv b rfl with h | h
    · left
      simpa [xv_gn, va_up, hb] using h
    · exact Or.inr h
  | _ => exact ⟨rfl, fun x hx => by cases hx⟩
theorem xv_ws_push {a q : Nat} {cA : ClassId} {sh : Nat ⊕ (Nat × Nat)} {f : Nat → Int32} {g : Nat → Int64} (h : xv_Cn D s A H L ad ca G I J) (ha : G.1 a = none) :
    xv_ws (L ++ [a]) (va_up ad a q) (va_up ca a cA) (xv_gn G a sh) (va_up I a f) (va_up J a g) = xv_ws L ad ca G I J ++ [(q, xv_cell (va_up ad a q) (va_up ca a cA) (xv_gn G a sh) (va_up I a f) (va_up J a g) a)] := by
  have hna : a ∉ L := fun z => (h.2.2.2.2.2.1 a).mp z ha
  simp only [xv_ws, List.map_append, List.map_cons, List.map_nil]
  congr 1
  · apply List.map_congr_left
    intro b hb
    have hba : b ≠ a := fun e => hna (e ▸ hb)
    have hcl : ∀ k, (G.2 b k).map (va_up ad a q) = (G.2 b k).map ad := by
      intro k
      cases hx : G.2 b k with
      | none => rfl
      | some x =>
        have := h.2.2.2.2.2.2.1 b k x ((h.2.2.2.2.2.1 b).mp hb) hx
        have hxa : x ≠ a := fun e => this (e ▸ ha)
        simp [va_up, hxa]
    simp only [xv_cell, xv_fs, xv_fv, xv_ar, xv_gn, va_up, hba, if_false]
    simp only [hcl]
  · simp [va_up]
theorem xv_Cn.new {a q : Nat} {cA : ClassId} {sh : Nat ⊕ (Nat × Nat)} {f : Nat → Int32} {g : Nat → Int64} {e : va_E} (h : xv_Cn D s A H L ad ca G I J) (ha : G.1 a = none) (hsc : a ≠ xv_SC)
    (he : e = xv_cell (va_up ad a q) (va_up ca a cA) (xv_gn G a sh) (va_up I a f) (va_up J a g) a) (hT : ∀ t n, sh = .inr (t, n) → ArrOfT s cA (xv_ty t) ∧ va_RA s cA (xv_ty t))
    (hP : va_P D vwCl (xv_ws L ad ca G I J ++ [(q, e)]) H1) (hD : va_D A (xv_ws L ad ca G I J ++ [(q, e)])) : xv_Cn D s A H1 (L ++ [a]) (va_up ad a q) (va_up ca a cA) (xv_gn G a sh) (va_up I a f) (va_up J a g) := by
  have hna : a ∉ L := fun z => (h.2.2.2.2.2.1 a).mp z ha
  subst he
  rw [← xv_ws_push h ha] at hP hD
  refine ⟨h.1, ?_, hP, hD, ?_, ?_, ?_, ?_⟩
  · intro b t n hb
    by_cases e : b = a
    · subst e
      simp only [xv_gn, va_up, if_true, Option.some.injEq] at hb ⊢
      exact hT t n hb
    · simp only [xv_gn, va_up, e, if_false] at hb ⊢
      exact h.2.1 b t n hb
  · refine List.nodup_append.mpr ⟨h.2.2.2.2.1, by simp, ?_⟩
    intro x hx y hy e
    simp only [List.mem_singleton] at hy
    exact hna (hy ▸ e ▸ hx)
  · intro b
    by_cases e : b = a
    · subst e
      simp [xv_gn, va_up]
    · simp only [List.mem_append, List.mem_singleton, e, or_false, xv_gn, va_up, if_false]
      exact h.2.2.2.2.2.1 b
  · intro b k x hb hx
    by_cases e : b = a
    · subst e
      simp [xv_gn, va_up] at hx
    · simp only [xv_gn, va_up, e, if_false] at hb hx ⊢
      by_cases e2 : x = a
      · simp [e2]
      · simp only [e2, if_false]
        exact h.2.2.2.2.2.2.1 b k x hb hx
  · simp only [xv_gn, va_up, hsc.symm, if_false]
    exact h.2.2.2.2.2.2.2
theorem xv_Ext.new {L0 : List Nat} {ad0 : Nat → Nat} {a q : Nat} (h : xv_Cn D s A H L ad ca G I J) (hE : xv_Ext L0 ad0 L ad) (ha : G.1 a = none) (hsc : a ≠ xv_SC) : xv_Ext L0 ad0 (L ++ [a]) (va_up ad a q) := by
  have hna : a ∉ L := fun z => (h.2.2.2.2.2.1 a).mp z ha
  refine ⟨fun b hb => ?_, ?_⟩
  · have h1 := hE.1 b hb
    have hba : b ≠ a := fun e => hna (e ▸ h1.1)
    exact ⟨List.mem_append_left _ h1.1, by simp only [va_up, hba, if_false]; exact h1.2⟩
  · simp only [va_up, hsc.symm, if_false]
    exact hE.2
end XV3
section XV4
variable {l : Launch} {D : va_G} {d : Nat} {mt : xv_MT} {sx : xv_Sc} {pc : Nat} {ls : List (Option Value)} {st : List Value} {G : xv_Gr} {I : xv_I} {J : xv_J} {uc us : Nat} {Q : xv_Po}
/-- a class that can be made from here -/
def xv_NL (own : String) (idx ci : Nat) : Prop := xv_CI ci ∧ Cond.classLink own idx (xv_cls ci).1 ∈ xv_tb ∧ Cond.instantiable (xv_cls ci).1 (xv_cls ci).2.2 ∈ xv_tb ∧ Cond.initialized (xv_cls ci).1 ∈ xv_tb
theorem xv_dv {ad : Nat → Nat} {G : xv_Gr} {a : Nat} (hG : G.2 a = fun _ => none) {I : xv_I} (hI : I a = fun _ => 0) {J : xv_J} (hJ : J a = fun _ => 0) (ty : FieldType) (k : Nat) (hd : xv_dk ty = true) : defaultValue ty = xv_fv ad G I J a ty k := by
  cases ty <;> first | (cases hd; done) | (simp only [xv_fv, xv_kind, hG, hI, hJ]; rfl)
theorem xv_new {idx ci a : Nat} (h : decode mt.2.1 pc = .ok (.new idx, 3)) (hl : xv_NL mt.1.cls idx ci) (ha : G.1 a = none) (hsc : a ≠ xv_SC) (hu : uc + 1 ≤ mt.2.2.2.2.1) (hu2 : us + (xv_cls ci).2.2 ≤ mt.2.2.2.2.2)
    (kk : xv_Ev l D d mt sx (pc + 3) ls (.ref a :: st) (xv_gn G a (.inl ci)) (va_up I a (fun _ => 0)) (va_up J a (fun _ => 0)) (uc + 1) (us + (xv_cls ci).2.2) Q) : xv_Ev l D d mt sx pc ls st G I J uc us Q := by
  intro p e R s m args below meth c A L0 ad0 C X H locs L ad ca la hC hS hE hL hst
  obtain ⟨⟨hc, hin, hty, hnm, hdk⟩, h1, h2, h3⟩ := hl
  have hts := C.2.2.2.2.2.1
  have hR := C.2.2.2.2.2.2.2.2.2
  refine va_new (fs := xv_fs (va_up ad a 0) (xv_gn G a (.inl ci)) (va_up I a (fun _ => 0)) (va_up J a (fun _ => 0)) a ci) C.1 C.2.1 hts hin (xv_fty ci) hty C.2.2.2.2.1 (hts _ h1) (hts _ h2) (hts _ h3) hC.K hC.2.2.1 hC.2.2.2.1 hS C.2.2.2.2.2.2.2.2.1 hc (fun j hj => ?_) (Nat.le_trans hu hR.2.2.1) (Nat.le_trans hu2 hR.2.2.2) h (fun q H1 hP hD hS1 => ?_)
  · rw [vp_V, List.getD_eq_getElem?_getD, xv_fs_get hj]
    exact xv_dv (by simp [xv_gn, va_up]) (by simp [va_up]) (by simp [va_up]) _ _ (hdk j hj)
  · have hm := xv_mv_new (ad := ad) (q := q) (sh := .inl ci) ha hsc
    have e0 : (.ref q :: st.map (xv_c ad) : List Value) = (.ref a :: st).map (xv_c (va_up ad a q)) := by
      rw [List.map_cons, hm.map hst]
      simp [xv_c, va_up]
    rw [e0]
    refine kk p e R s m args below meth c A L0 ad0 C X H1 locs (L ++ [a]) (va_up ad a q) (va_up ca a (ca a)) la (hC.new ha hsc ?_ (fun t n z => by cases z) hP hD) hS1 (xv_Ext.new hC hE ha hsc) (hm.lv hL) ((hm.oks hst).co (xv_ok_ref (by simp [xv_gn, va_up])))
    have h4 : (xv_gn G a (.inl ci)).1 a = some (.inl ci) := by simp [xv_gn, va_up]
    have h5 : (xv_gn G a (.inl ci)).2 a = fun _ => none := by simp [xv_gn, va_up]
    simp only [xv_cell, h4, xv_fs, xv_fv, h5, Option.map_none]
theorem xv_newa {at_ : ArrayType} {ty : FieldType} {t a N : Nat} {n : Int32} (h : decode mt.2.1 pc = .ok (.newarray at_, 2)) (hw : Cond.arrayClass (newarray.typeOf at_) ∈ xv_tb) (hty : newarray.typeOf at_ = ty) (ht : ty = xv_ty t) (ht4 : t < 4) (hn : ¬ n < 0) (hN : n.toNatClampNeg = N) (hb : N * componentBytes ty ≤ 536870912) (ha : G.1 a = none) (hsc : a ≠ xv_SC) (hu : uc + 1 ≤ mt.2.2.2.2.1) (hu2 : us + N ≤ mt.2.2.2.2.2)
    (kk : xv_Ev l D d mt sx (pc + 2) ls (.ref a :: st) (xv_gn G a (.inr (t, N))) (va_up I a (fun _ => 0)) (va_up J a (fun _ => 0)) (uc + 1) (us + N) Q) : xv_Ev l D d mt sx pc ls (.int n :: st) G I J uc us Q := by
  intro p e R s m args below meth c A L0 ad0 C X H locs L ad ca la hC hS hE hL hst
  have hts := C.2.2.2.2.2.1
  have hR := C.2.2.2.2.2.2.2.2.2
  have hst := hst.tl
  refine va_newa (a0 := (N, xv_ar (va_up ad a 0) (xv_gn G a (.inr (t, N))) (va_up I a (fun _ => 0)) (va_up J a (fun _ => 0)) a t)) C.1 C.2.1 (hts _ hw) hty hC.K hC.2.2.1 hC.2.2.2.1 hS C.2.2.2.2.2.2.2.2.1 (fun cA => ?_) hn hN hb (Nat.le_trans hu hR.2.2.1) (Nat.le_trans hu2 hR.2.2.2) h (fun q cA H1 hK hP hD hS1 => ?_)
  · subst ht
    rcases (show t = 0 ∨ t = 1 ∨ t = 2 ∨ t = 3 by omega) with rfl | rfl | rfl | rfl <;> (simp only [vp_cell, xv_ar, va_up, if_true]; rfl)
  · have hm := xv_mv_new (ad := ad) (q := q) (sh := .inr (t, N)) ha hsc
    have e0 : (.ref q :: st.map (xv_c ad) : List Value) = (.ref a :: st).map (xv_c (va_up ad a q)) := by
      rw [List.map_cons, hm.map hst]
      simp [xv_c, va_up]
    rw [e0]
    refine kk p e R s m args below meth c A L0 ad0 C X H1 locs (L ++ [a]) (va_up ad a q) (va_up ca a cA) la (hC.new ha hsc ?_ (fun t2 n2 z => ?_) hP hD) hS1 (xv_Ext.new hC hE ha hsc) (hm.lv hL) ((hm.oks hst).co (xv_ok_ref (by simp [xv_gn, va_up])))
    · have h4 : (xv_gn G a (.inr (t, N))).1 a = some (.inr (t, N)) := by simp [xv_gn, va_up]
      have h6 : va_up ca a cA a = cA := by simp [va_up]
      simp only [xv_cell, h4, h6]
      rcases (show t = 0 ∨ t = 1 ∨ t = 2 ∨ t = 3 by omega) with rfl | rfl | rfl | rfl <;> rfl
    · cases z
      have := hK.2 0 (cA, ty) rfl
      rw [ht] at this
      exact this
theorem xv_newq {idx ci a N : Nat} {n : Int32} (h : decode mt.2.1 pc = .ok (.anewarray idx, 3)) (hw : Cond.classLink mt.1.cls idx (xv_cls ci).1 ∈ xv_tb) (hw2 : Cond.arrayOver (.object (xv_cls ci).1) ∈ lw_tbl) (hn : ¬ n < 0) (hN : n.toNatClampNeg = N) (hb : N * 4 ≤ 536870912) (ha : G.1 a = none) (hsc : a ≠ xv_SC) (hu : uc + 1 ≤ mt.2.2.2.2.1) (hu2 : us + N ≤ mt.2.2.2.2.2)
    (kk : xv_Ev l D d mt sx (pc + 3) ls (.ref a :: st) (xv_gn G a (.inr (ci + 4, N))) (va_up I a (fun _ => 0)) (va_up J a (fun _ => 0)) (uc + 1) (us + N) Q) : xv_Ev l D d mt sx pc ls (.int n :: st) G I J uc us Q := by
  intro p e R s m args below meth c A L0 ad0 C X H locs L ad ca la hC hS hE hL hst
  have hts := C.2.2.2.2.2.1
  have hR := C.2.2.2.2.2.2.2.2.2
  have hst := hst.tl
  refine va_newq C.1 C.2.1 C.2.2.2.2.1 (hts _ hw) (C.2.2.2.2.2.2.2.1.2.2 _ hw2) hC.K hC.2.2.1 hC.2.2.2.1 hS C.2.2.2.2.2.2.2.2.1 hn hN hb (Nat.le_trans hu hR.2.2.1) (Nat.le_trans hu2 hR.2.2.2) h (fun q cA H1 hK hP hD hS1 => ?_)
  have hm := xv_mv_new (ad := ad) (q := q) (sh := .inr (ci + 4, N)) ha hsc
  have e0 : (.ref q :: st.map (xv_c ad) : List Value) = (.ref a :: st).map (xv_c (va_up ad a q)) := by
    rw [List.map_cons, hm.map hst]
    simp [xv_c, va_up]
  rw [e0]
  refine kk p e R s m args below meth c A L0 ad0 C X H1 locs (L ++ [a]) (va_up ad a q) (va_up ca a cA) la (hC.new ha hsc ?_ (fun t2 n2 z => ?_) hP hD) hS1 (xv_Ext.new hC hE ha hsc) (hm.lv hL) ((hm.oks hst).co (xv_ok_ref (by simp [xv_gn, va_up])))
  · have h4 : (xv_gn G a (.inr (ci + 4, N))).1 a = some (.inr (ci + 4, N)) := by simp [xv_gn, va_up]
    have h6 : va_up ca a cA a = cA := by simp [va_up]
    have h5 : (xv_gn G a (.inr (ci + 4, N))).2 a = fun _ => none := by simp [xv_gn, va_up]
    simp only [xv_cell, h4, h6, xv_ar, h5, Option.map_none]
  · cases z
    exact hK.2 0 (cA, .object (xv_cls ci).1) rfl
theorem xv_end {s : State} {A : Nat → Prop} {H : Heap} {locs : List Loc} {L L0 : List Nat} {ad ad0 : Nat → Nat} {ca : Nat → ClassId} {r : Option Value} {aa : Array Value} (hC : xv_Cn D s A H L ad ca G I J) (hS : va_S A s.heap H locs) (hE : xv_Ext L0 ad0 L ad) (hq : Q r G I J) (hr : ∀ v, r = some v → xv_ok G v) (t : State) (ht : t.heap = H) (hW : s.WarmedH t.vm) : xv_Qc D A L0 ad0 Q aa s (.returned (r.map (xv_c ad))) t :=
  ⟨⟨r, L, ad, ca, G, I, J, rfl, hq, hr, by rw [ht]; exact hC.moved hW.alike, hE⟩, hS.F ht⟩
theorem xv_iret {v : Int32} (h : decode mt.2.1 pc = .ok (.ireturn, 1)) (hr : mt.2.2.2.1 = some .int) (hu : uc ≤ mt.2.2.2.2.1) (hu2 : us ≤ mt.2.2.2.2.2) (hq : Q (some (.int v)) G I J) : xv_Ev l D d mt sx pc ls [.int v] G I J uc us Q := by
  intro p e R s m args below meth c A L0 ad0 C X H locs L ad ca la hC hS hE hL hst
  refine W.widen hu hu2 ?_
  exact W.iret (v := v) C.1 C.2.1 (C.2.2.1.trans hr) (fun t ht hW => xv_end (r := some (.int v)) hC hS hE hq (fun w hw => by cases hw; exact xv_ok_int) t ht hW) hS.2.2 h C.2.2.2.2.2.2.1
theorem xv_zret {v : Int32} (h : decode mt.2.1 pc = .ok (.ireturn, 1)) (hr : mt.2.2.2.1 = some .boolean) (hn : narrow .boolean (.int v) = .int v) (hu : uc ≤ mt.2.2.2.2.1) (hu2 : us ≤ mt.2.2.2.2.2) (hq : Q (some (.int v)) G I J) : xv_Ev l D d mt sx pc ls [.int v] G I J uc us Q := by
  intro p e R s m args below meth c A L0 ad0 C X H locs L ad ca la hC hS hE hL hst
  refine W.widen hu hu2 ?_
  exact W.zret (v := v) C.1 C.2.1 (C.2.2.1.trans hr) hn (fun t ht hW => xv_end (r := some (.int v)) hC hS hE hq (fun w hw => by cases hw; exact xv_ok_int) t ht hW) hS.2.2 h C.2.2.2.2.2.2.1
theorem xv_lret {v : Int64} (h : decode mt.2.1 pc = .ok (.lreturn, 1)) (hr : mt.2.2.2.1 = some .long) (hu : uc ≤ mt.2.2.2.2.1) (hu2 : us ≤ mt.2.2.2.2.2) (hq : Q (some (.long v)) G I J) : xv_Ev l D d mt sx pc ls [.long v] G I J uc us Q := by
  intro p e R s m args below meth c A L0 ad0 C X H locs L ad ca la hC hS hE hL hst
  refine W.widen hu hu2 ?_
  exact W.lret (v := v) C.1 C.2.1 (C.2.2.1.trans hr) (fun t ht hW => xv_end (r := some (.long v)) hC hS hE hq (fun w hw => by cases hw; exact xv_ok_long) t ht hW) hS.2.2 h C.2.2.2.2.2.2.1
theorem xv_vret (h : decode mt.2.1 pc = .ok (.return_, 1)) (hr : mt.2.2.2.1 = none) (hu : uc ≤ mt.2.2.2.2.1) (hu2 : us ≤ mt.2.2.2.2.2) (hq : Q none G I J) : xv_Ev l D d mt sx pc ls [] G I J uc us Q := by
  intro p e R s m args below meth c A L0 ad0 C X H locs L ad ca la hC hS hE hL hst
  refine W.widen hu hu2 ?_
  exact W.vret C.1 C.2.1 (C.2.2.1.trans hr) (fun t ht hW => xv_end (r := none) hC hS hE hq (fun w hw => by cases hw) t ht hW) hS.2.2 h C.2.2.2.2.2.2.1
theorem xv_aret {a : Nat} {C0 : String} (h : decode mt.2.1 pc = .ok (.areturn, 1)) (hr : mt.2.2.2.1 = some (.object C0)) (hu : uc ≤ mt.2.2.2.2.1) (hu2 : us ≤ mt.2.2.2.2.2) (hq : Q (some (.ref a)) G I J) : xv_Ev l D d mt sx pc ls [.ref a] G I J uc us Q := by
  intro p e R s m args below meth c A L0 ad0 C X H locs L ad ca la hC hS hE hL hst
  refine W.widen hu hu2 ?_
  exact W.aret (v := .ref (ad a)) C.1 C.2.1 (C.2.2.1.trans hr) (Or.inl ⟨_, rfl⟩) (Or.inr ⟨_, rfl⟩) (fun t ht hW => xv_end (r := some (.ref a)) hC hS hE hq (fun w hw => by cases hw; exact hst.hd) t ht hW) hS.2.2 h C.2.2.2.2.2.2.1
theorem xv_aretN {C0 : String} (h : decode mt.2.1 pc = .ok (.areturn, 1)) (hr : mt.2.2.2.1 = some (.object C0)) (hu : uc ≤ mt.2.2.2.2.1) (hu2 : us ≤ mt.2.2.2.2.2) (hq : Q (some .null) G I J) : xv_Ev l D d mt sx pc ls [.null] G I J uc us Q := by
  intro p e R s m args below meth c A L0 ad0 C X H locs L ad ca la hC hS hE hL hst
  refine W.widen hu hu2 ?_
  exact W.aret (v := .null) C.1 C.2.1 (C.2.2.1.trans hr) (Or.inl ⟨_, rfl⟩) (Or.inl rfl) (fun t ht hW => xv_end (r := some .null) hC hS hE hq (fun w hw => by cases hw; exact xv_ok_null) t ht hW) hS.2.2 h C.2.2.2.2.2.2.1
theorem xv_objI {idx a : Nat} (h : decode mt.2.1 pc = .ok (.invokespecial idx, 3)) (h1 : Cond.methodLink mt.1.cls idx Lib.objectInit ∈ xv_tb) (h2 : Cond.instanceMethod Lib.objectInit ∈ xv_tb) (h3 : Cond.code Lib.objectInit ⟨#[0xb1]⟩ 1 none ∈ xv_tb) (hc : (st.map fun v => v.category).sum ≤ 8)
    (kk : xv_Ev l D d mt sx (pc + 3) ls st G I J uc us Q) : xv_Ev l D d mt sx pc ls (.ref a :: st) G I J uc us Q := by
  intro p e R s m args below meth c A L0 ad0 C X H locs L ad ca la hC hS hE hL hst
  have hts := C.2.2.2.2.2.1
  have hR := C.2.2.2.2.2.2.2.2.2
  have hsum : ((st.map (xv_c ad)).map fun v => v.category).sum ≤ 8 := by
    rw [List.map_map]
    have : ((fun v : Value => v.category) ∘ xv_c ad) = fun v => v.category := funext (fun v => xv_c_cat ad v)
    rw [this]
    exact hc
  refine W.objInit C.1 C.2.1 C.2.2.2.2.1 (hts _ h1) (hts _ h2) (hts _ h3) rfl (hL.1.trans C.2.2.2.1.symm) rfl h (by omega) ?_ ?_
  · have := lv_room (m := m) (pc := pc) (ls := la) (rest := st.map (xv_c ad)) hsum
    have h60 := hR.2.1
    have e1 : (F0 m pc la (List.map (xv_c ad) (Value.ref a :: st))).monitorRoom = (F0 m pc la (st.map (xv_c ad))).monitorRoom := rfl
    rw [e1]
    omega
  · exact kk p e R s m args below meth c A L0 ad0 C X H locs L ad ca la hC hS hE hL hst.tl
end XV4
/-! calls -/
def xv_w (mt : xv_MT) : List Cond := Cond.code mt.1 mt.2.1 mt.2.2.1 mt.2.2.2.1 :: xv_tb
def xv_rm (d : Nat) (mt : xv_MT) : Room := { frames := d + 1, cells := mt.2.2.2.2.1, slots := mt.2.2.2.2.2, locals := 60 * (d + 1) }
theorem xv_en_in (ad : Nat → Nat) : ∀ (As : List Value) (k i : Nat) (v : Value), xv_g (xv_en As) i = some v → (k + i, xv_c ad v) ∈ lv_args k (As.map (xv_c ad)) ∧ v ∈ As
  | [], _, _, _, h => by simp [xv_en, xv_g] at h
  | w :: ws, k, i, v, h => by
    have two : w.category = 2 → xv_en (w :: ws) = some w :: none :: xv_en ws := by
      intro hc
      cases w <;> simp_all [Value.category, xv_en]
    have one : w.category = 1 → xv_en (w :: ws) = some w :: xv_en ws := by
      intro hc
      cases w <;> simp_all [Value.category, xv_en]
    rcases lv_cat w with hc | hc
    · rw [one hc] at h
      have hn : ¬ (xv_c ad w).category = 2 := by rw [xv_c_cat, hc]; omega
      simp only [List.map_cons, lv_args, hn, if_false]
      cases i with
      | zero =>
        simp only [xv_g, Option.some.injEq] at h
        subst h
        exact ⟨List.mem_cons_self, List.mem_cons_self⟩
      | succ i =>
        have := xv_en_in ad ws (k + 1) i v h
        refine ⟨List.mem_cons_of_mem _ ?_, List.mem_cons_of_mem _ this.2⟩
        rw [show k + (i + 1) = k + 1 + i by omega]
        exact this.1
    · rw [two hc] at h
      have hn : (xv_c ad w).category = 2 := by rw [xv_c_cat, hc]
      simp only [List.map_cons, lv_args, hn, if_true]
      cases i with
      | zero =>
        simp only [xv_g, Option.some.injEq] at h
        subst h
        exact ⟨List.mem_cons_self, List.mem_cons_self⟩
      | succ i =>
        cases i with
        | zero => simp [xv_g] at h
        | succ i =>
          have := xv_en_in ad ws (k + 2) i v h
          refine ⟨List.mem_cons_of_mem _ ?_, List.mem_cons_of_mem _ this.2⟩
          rw [show k + (i + 1 + 1) = k + 2 + i by omega]
          exact this.1
theorem xv_en_len (ad : Nat → Nat) : ∀ As : List Value, (lg_sl (As.map (xv_c ad))).length = (xv_en As).length
  | [] => rfl
  | w :: ws => by
    have ih := xv_en_len ad ws
    rcases lv_cat w with hc | hc
    · have one : xv_en (w :: ws) = some w :: xv_en ws := by cases w <;> simp_all [Value.category, xv_en]
      have hn : ¬ (xv_c ad w).category = 2 := by rw [xv_c_cat, hc]; omega
      rw [one]
      simp only [lg_sl, List.map_cons, List.flatMap_cons, hn, if_false, List.length_append, List.length_cons, List.length_nil] at ih ⊢
      omega
    · have two : xv_en (w :: ws) = some w :: none :: xv_en ws := by cases w <;> simp_all [Value.category, xv_en]
      have hn : (xv_c ad w).category = 2 := by rw [xv_c_cat, hc]
      rw [two]
      simp only [lg_sl, List.map_cons, List.flatMap_cons, hn, if_true, List.length_append, List.length_cons, List.length_nil] at ih ⊢
      omega
def xv_Pc (D : va_G) (As : List Value) (sz : Nat) (L : List Nat) (ad : Nat → Nat) (ca : Nat → ClassId) (G : xv_Gr) (I : xv_I) (J : xv_J) : Array Value → State → Prop := va_Pc (As.map (xv_c ad)) (fun U => U.heap.size = sz ∧ xv_Cn D U (fun _ => True) U.heap L ad ca G I J ∧ xv_NW U)
theorem xv_met {l : Launch} {D : va_G} {d : Nat} {mt : xv_MT} {As : List Value} {G : xv_Gr} {I : xv_I} {J : xv_J} {Q : xv_Po} (hp : plainName mt.1.cls = true) (hlen : (xv_en As).length ≤ mt.2.2.1) (hok : xv_oks G As) (k : xv_Ev l D d mt none 0 (xv_pad mt.2.2.1 (xv_en As)) [] G I J 0 0 Q) (L : List Nat) (ad : Nat → Nat) (ca : Nat → ClassId) (sz : Nat) :
    Met l mt.1 (xv_w mt) (xv_rm d mt) (xv_Pc D As sz L ad ca G I J) (xv_Qc D (va_A (xv_ws L ad ca G I J) sz) L ad Q) mt.2.2.2.2.1 mt.2.2.2.2.2 (va_A (xv_ws L ad ca G I J) sz) := by
  refine Met.ofW (cc := mt.2.1) (maxL := mt.2.2.1) (ret := mt.2.2.2.1) hp rfl ?_
  intro p e s m args below meth c s₁ B hml hv
  obtain ⟨rfl, hsz, hC, hNW⟩ := hv
  subst hsz
  have hts := atoms_spec (ws := xv_w mt) B.pre
  have hl := lv_entry (As.map (xv_c ad)) (n := mt.2.2.1) (by rw [xv_en_len]; exact hlen)
  rw [lg_entry_eq]
  refine k p e _ s m _ below meth c (va_A (xv_ws L ad ca G I J) s.heap.size) L ad ⟨B.exec, B.bytes, B.returns, hml, findClass_of_methodNamed B.named, fun w hw => hts w (List.mem_cons_of_mem _ hw), B.notSynchronized, ⟨fun hh => (name_of_methodNamed B.named B.method).1.trans hh, hNW⟩, fun q hq => Or.inr hq, Nat.le_refl _, Nat.le_refl _, Nat.le_refl _, Nat.le_refl _⟩ (fun n xs h => by cases h) s.heap [] L ad ca _ ⟨hC.1, hC.2.1, hC.2.2.1, hC.2.2.2.1.self, hC.2.2.2.2⟩ va_S.rf ⟨fun a ha => ⟨ha, rfl⟩, rfl⟩ ⟨hl.1, hl.2.1, fun i v hv => ?_⟩ (fun v hv => by cases hv)
  have h1 := xv_en_in ad As 0 i v (xv_pad_g _ _ _ _ hv)
  refine ⟨?_, hok v h1.2⟩
  have h2 := hl.2.2 _ h1.1
  rw [Nat.zero_add] at h2
  exact h2
section XV5
variable {l : Launch} {D : va_G} {d : Nat} {mt mt2 : xv_MT} {sx : xv_Sc} {pc : Nat} {ls : List (Option Value)} {rest : List Value} {G : xv_Gr} {I : xv_I} {J : xv_J} {uc us : Nat} {Q Q' : xv_Po}
theorem xv_cnA {s : State} {A : Nat → Prop} {H : Heap} {locs : List Loc} {L : List Nat} {ad : Nat → Nat} {ca : Nat → ClassId} (hC : xv_Cn D s A H L ad ca G I J) (hS : va_S A s.heap H locs) (hA : ∀ q, s.heap.size ≤ q → A q) : ∀ q, va_A (xv_ws L ad ca G I J) H.size q → A q := by
  intro q hq
  rcases hq with ⟨k, e, hk⟩ | hq
  · exact hC.2.2.2.1.2 k _ hk
  · exact hA q (Nat.le_trans hS.1 hq)
theorem xv_back {p : Program} {e : Env} {R : Room} {s : State} {m : MethodId} {args : Array Value} {below : List Frame} {meth : Method} {c : Code} {A : Nat → Prop} {L0 : List Nat} {ad0 : Nat → Nat} (C : xv_Cx p R d mt s m args meth c A) (X : xv_Sx sx s A (ad0 xv_SC))
    {H : Heap} {locs : List Loc} {L : List Nat} {ad : Nat → Nat} {ca : Nat → ClassId} {la : Array Slot} (hC : xv_Cn D s A H L ad ca G I J) (hS : va_S A s.heap H locs) (hE : xv_Ext L0 ad0 L ad) (hL : xv_lv ad G la mt.2.2.1 ls) (hst : xv_oks G rest) {st0 : List Value} {aa : Array Value}
    (hr : va_Run p l e R s m args below meth c H locs uc us mt2.2.2.2.2.1 mt2.2.2.2.2.2 (F0 m pc la st0) (rest.map (xv_c ad)) (xv_Qc D (va_A (xv_ws L ad ca G I J) H.size) L ad Q' aa) (va_A (xv_ws L ad ca G I J) H.size))
    (kk : ∀ r G' I' J', Q' r G' I' J' → xv_Ev l D d mt sx (pc + 3) ls (r.toList ++ rest) G' I' J' (uc + mt2.2.2.2.2.1) (us + mt2.2.2.2.2.2) Q) :
    W p l e R s m args below meth c H locs uc us (MQ below (xv_Qc D A L0 ad0 Q) args s mt.2.2.2.2.1 mt.2.2.2.2.2 A) (F0 m pc la st0) := by
  have hAA := xv_cnA hC hS C.2.2.2.2.2.2.2.2.1
  intro T hT XT
  obtain ⟨v, st₀, t, T', Lc, h0, X', hLc, e1, e2, ⟨⟨r, L', ad', ca', G', I', J', hv, hq, hok, hC', hE'⟩, hz, hk⟩, stp⟩ := hr T hT XT
  cases hv
  rw [h0] at hz hk
  have hal : s.vm.Alike t.vm := by rw [← e2]; exact X'.warmed.alike
  have S1 : va_S A s.heap T'.heap (locs ++ Lc) := ⟨Nat.le_trans hS.1 (by rw [e1]; exact hz), fun q h1 h2 => by
      rw [e1, hk q (Nat.lt_of_lt_of_le h1 hS.1) (fun z => h2 (hAA q z))]
      exact hS.2.1 q h1 h2, fun q hq => by
      rcases List.mem_append.mp hq with h | h
      · exact hS.2.2 q h
      · exact hAA _ (hLc q h)⟩
  have C1 : xv_Cn D s A T'.heap L' ad' ca' G' I' J' := by
    rw [e1]
    exact (hC'.moved hal.symm).weak hAA
  have hm : xv_mv ad G ad' G' := by
    intro w hw
    cases w with
    | ref b =>
      rcases hw b rfl with h | h
      · have hbL := (hC.2.2.2.2.2.1 b).mpr h
        have h2 := hE'.1 b hbL
        exact ⟨by simp only [xv_c, h2.2], xv_ok_ref ((hC'.2.2.2.2.2.1 b).mp h2.1)⟩
      · subst h
        exact ⟨by simp only [xv_c, hE'.2], fun a ha => by cases ha; exact Or.inr rfl⟩
    | _ => exact ⟨rfl, fun a ha => by cases ha⟩
  have hst' : xv_oks G' (r.toList ++ rest) := by
    intro w hw
    rcases List.mem_append.mp hw with h | h
    · exact hok w (by cases r with
        | none => cases h
        | some z => simp at h; rw [h])
    · exact hm.oks hst w h
  obtain ⟨t2, a1, b1⟩ := kk r G' I' J' hq p e R s m args below meth c A L0 ad0 C X T'.heap (locs ++ Lc) L' ad' ca' la C1 S1 ⟨fun a ha => ⟨(hE'.1 a (hE.1 a ha).1).1, (hE'.1 a (hE.1 a ha).1).2.trans (hE.1 a ha).2⟩, hE'.2.trans hE.2⟩ (hm.lv hL) hst' T' rfl X'
  have e3 : (r.toList ++ rest).map (xv_c ad') = (r.map (xv_c ad')).toList ++ rest.map (xv_c ad) := by
    rw [List.map_append, hm.map hst]
    cases r <;> rfl
  rw [e3] at a1
  exact ⟨t2, stp t2 a1, b1⟩
/-- what a call needs of the tables -/
def xv_CB (mt2 : xv_MT) : Prop := plainName mt2.1.cls = true ∧ mt2.2.2.1 ≤ 41 ∧ Cond.code mt2.1 mt2.2.1 mt2.2.2.1 mt2.2.2.2.1 ∈ xv_tb ∧ Cond.initialized mt2.1.cls ∈ xv_tb ∧ mt2.1.cls ≠ "java/lang/invoke/MethodHandle" ∧ mt2.1.cls ≠ "java/lang/invoke/VarHandle"
def xv_CV (own : String) (idx n : Nat) (mt2 : xv_MT) : Prop := xv_CB mt2 ∧ (parseMethodDescriptor mt2.1.desc).map (fun d => d.parameters.length) = some n ∧ Cond.methodLink own idx mt2.1 ∈ xv_tb ∧ Cond.instanceMethod mt2.1 ∈ xv_tb ∧ Cond.selects mt2.1.cls mt2.1 mt2.1 ∈ xv_tb
def xv_CS (own : String) (idx n : Nat) (mt2 : xv_MT) : Prop := xv_CB mt2 ∧ (parseMethodDescriptor mt2.1.desc).map (fun d => d.parameters.length) = some n ∧ Cond.methodLink own idx mt2.1 ∈ xv_tb ∧ Cond.static mt2.1 ∈ xv_tb
def xv_CIn (own : String) (idx n : Nat) (mt2 : xv_MT) : Prop := xv_CB mt2 ∧ (parseMethodDescriptor mt2.1.desc).map (fun d => d.parameters.length) = some n ∧ Cond.methodLink own idx mt2.1 ∈ xv_tb ∧ Cond.instanceMethod mt2.1 ∈ xv_tb ∧ mt2.1.name = "<init>" ∧ mt2.2.2.2.1 = none
def xv_CNn (own : String) (idx n : Nat) (host : String) (mt2 : xv_MT) : Prop := xv_CB mt2 ∧ (parseMethodDescriptor mt2.1.desc).map (fun d => d.parameters.length) = some n ∧ Cond.methodLinkNest own idx mt2.1 host ∈ lw_tbl ∧ Cond.instanceMethod mt2.1 ∈ xv_tb ∧ mt2.1.name = "<init>" ∧ mt2.2.2.2.1 = none
theorem xv_good : xv_tb.all goodWord = true := List.all_eq_true.mpr (fun w hw => (List.mem_filter.mp hw).2)
theorem xv_goodW {mt2 : xv_MT} (h : xv_CB mt2) : GoodIn xv_tb (xv_w mt2) := by
  intro w hw
  rcases List.mem_cons.mp hw with e | e
  · subst e
    exact ⟨h.2.2.1, good_of_word (List.all_eq_true.mp xv_good _ h.2.2.1)⟩
  · exact ⟨e, good_of_word (List.all_eq_true.mp xv_good w e)⟩
theorem xv_goodA {ws ws2 : List Cond} (h1 : ∀ w ∈ ws, w ∈ xv_tb) (h2 : GoodIn xv_tb ws2) : GoodIn xv_tb (ws ++ ws2) := by
  intro w hw
  rcases List.mem_append.mp hw with e | e
  · exact ⟨h1 w e, good_of_word (List.all_eq_true.mp xv_good w (h1 w e))⟩
  · exact h2 w e
theorem xv_cats (ad : Nat → Nat) (st : List Value) : ((st.map (xv_c ad)).map fun v => v.category).sum = (st.map fun v => v.category).sum := by
  rw [List.map_map]
  have : ((fun v : Value => v.category) ∘ xv_c ad) = fun v => v.category := funext (fun v => xv_c_cat ad v)
  rw [this]
theorem xv_blind {As : List Value} {sz : Nat} {L : List Nat} {ad : Nat → Nat} {ca : Nat → ClassId} : FrameBlind (xv_Pc D As sz L ad ca G I J) := by
  intro a U g mk q
  obtain ⟨q0, q1, q2, q3⟩ := q
  exact ⟨q0, q1, xv_Cn.moved (s := U) (t := U.calling g mk a) (Vm.Alike.refl U.vm) q2, ⟨fun _ _ _ _ hm => va_Nw.same rfl rfl (q3.1 _ _ _ _ hm), fun _ hm => va_AO.moved (Vm.Alike.refl U.vm) (q3.2 _ hm)⟩⟩
theorem xv_callV {idx n b ci : Nat} {As : List Value} {st : List Value} (h : decode mt.2.1 pc = .ok (.invokevirtual idx, 3)) (hl : xv_CV mt.1.cls idx n mt2) (hst0 : st = As.reverse ++ .ref b :: rest) (hn : As.length = n) (ho : G.1 b = some (.inl ci)) (hci : vwCl[ci]? = some (xv_cls ci)) (hcl : (xv_cls ci).1 = mt2.1.cls) (hlen : (xv_en (.ref b :: As)).length ≤ mt2.2.2.1) (hc : (rest.map fun v => v.category).sum ≤ 8) (hu : uc + mt2.2.2.2.2.1 ≤ mt.2.2.2.2.1) (hu2 : us + mt2.2.2.2.2.2 ≤ mt.2.2.2.2.2)
    (kk : xv_Ev l D d mt2 none 0 (xv_pad mt2.2.2.1 (xv_en (.ref b :: As))) [] G I J 0 0 (fun r G' I' J' => xv_Ev l D (d + 1) mt sx (pc + 3) ls (r.toList ++ rest) G' I' J' (uc + mt2.2.2.2.2.1) (us + mt2.2.2.2.2.2) Q)) : xv_Ev l D (d + 1) mt sx pc ls st G I J uc us Q := by
  subst hst0
  intro p e R s m args below meth c A L0 ad0 C X H locs L ad ca la hC hS hE hL hst
  have hR := C.2.2.2.2.2.2.2.2.2
  have hts := C.2.2.2.2.2.1
  obtain ⟨hB, hpd, hml, him, hse⟩ := hl
  obtain ⟨hpn, hmx, hco, hin, hy1, hy2⟩ := id hB
  have hoA : xv_oks G (.ref b :: As) := by
    intro w hw
    rcases List.mem_cons.mp hw with e | e
    · subst e; exact hst _ (List.mem_append_right _ List.mem_cons_self)
    · exact hst _ (List.mem_append_left _ (List.mem_reverse.mpr e))
  have hor : xv_oks G rest := fun w hw => hst w (List.mem_append_right _ (List.mem_cons_of_mem _ hw))
  have M := xv_met hpn hlen hoA kk L ad ca H.size
  obtain ⟨q, hq, hw⟩ := hC.ob ho
  have hG : GoodIn xv_tb (wsV mt.1.cls idx mt2.1.cls mt2.1 (xv_w mt2)) := xv_goodA (by
    intro w hw
    simp only [List.mem_cons, List.not_mem_nil, or_false] at hw
    rcases hw with rfl | rfl | rfl | rfl
    · exact hml
    · exact him
    · exact hse
    · exact hin) (xv_goodW hB)
  have cw := cwV (R := R) (own := mt.1.cls) (index := idx) (C := mt2.1.cls) (y := mt2.1) (ws := xv_w mt2) (rm := xv_rm d mt2) n hts hG rfl rfl rfl ⟨rfl, hy1, hy2, hpd⟩ ⟨by simp only [xv_rm]; omega, by simp only [xv_rm]; omega⟩
  refine xv_back (mt2 := mt2) (rest := rest) C X hC hS hE hL hor (va_runV (As := As.map (xv_c ad)) (b := ad b) ⟨C.1, C.2.1, C.2.2.2.1, C.2.2.2.2.1, hts⟩ M cw ⟨xv_blind, ?_, fun U hU hW => ⟨rfl, by rw [hU], ?_, C.2.2.2.2.2.2.2.1.2.warm hW⟩⟩ rfl (by rw [List.length_map]; exact hn) hL.1 (by simp [xv_c]) (lv_room (by rw [xv_cats]; exact hc)) h ⟨Nat.le_trans hu hR.2.2.1, Nat.le_trans hu2 hR.2.2.2⟩) (fun r G' I' J' hq => hq)
  · have := va_recv hC.K hC.2.2.1 hci hw
    rw [hcl] at this
    exact this
  · rw [hU]
    exact (hC.moved hW.alike).weak (fun _ _ => trivial)
theorem xv_callS {idx n : Nat} {As : List Value} {st : List Value} (h : decode mt.2.1 pc = .ok (.invokestatic idx, 3)) (hl : xv_CS mt.1.cls idx n mt2) (hst0 : st = As.reverse ++ rest) (hn : As.length = n) (hlen : (xv_en As).length ≤ mt2.2.2.1) (hc : (rest.map fun v => v.category).sum ≤ 8) (hu : uc + mt2.2.2.2.2.1 ≤ mt.2.2.2.2.1) (hu2 : us + mt2.2.2.2.2.2 ≤ mt.2.2.2.2.2)
    (kk : xv_Ev l D d mt2 none 0 (xv_pad mt2.2.2.1 (xv_en As)) [] G I J 0 0 (fun r G' I' J' => xv_Ev l D (d + 1) mt sx (pc + 3) ls (r.toList ++ rest) G' I' J' (uc + mt2.2.2.2.2.1) (us + mt2.2.2.2.2.2) Q)) : xv_Ev l D (d + 1) mt sx pc ls st G I J uc us Q := by
  subst hst0
  intro p e R s m args below meth c A L0 ad0 C X H locs L ad ca la hC hS hE hL hst
  have hR := C.2.2.2.2.2.2.2.2.2
  have hts := C.2.2.2.2.2.1
  obtain ⟨hB, hpd, hml, hse⟩ := hl
  obtain ⟨hpn, hmx, hco, hin, hy1, hy2⟩ := id hB
  have hoA : xv_oks G As := fun w hw => hst _ (List.mem_append_left _ (List.mem_reverse.mpr hw))
  have hor : xv_oks G rest := fun w hw => hst w (List.mem_append_right _ hw)
  have M := xv_met hpn hlen hoA kk L ad ca H.size
  have hG : GoodIn xv_tb (va_wsS mt.1.cls idx mt2.1 (xv_w mt2)) := xv_goodA (by
    intro w hw
    simp only [List.mem_cons, List.not_mem_nil, or_false] at hw
    rcases hw with rfl | rfl | rfl
    · exact hml
    · exact hse
    · exact hin) (xv_goodW hB)
  have cw := va_cwS (R := R) (own := mt.1.cls) (index := idx) (y := mt2.1) (ws := xv_w mt2) (rm := xv_rm d mt2) n hts hG rfl rfl rfl ⟨hy1, hy2, hpd⟩ ⟨by simp only [xv_rm]; omega, by simp only [xv_rm]; omega⟩
  refine xv_back (mt2 := mt2) (rest := rest) C X hC hS hE hL hor (va_runS (As := As.map (xv_c ad)) ⟨C.1, C.2.1, C.2.2.2.1, C.2.2.2.2.1, hts⟩ M cw ⟨xv_blind, fun U hU hW => ⟨rfl, by rw [hU], ?_, C.2.2.2.2.2.2.2.1.2.warm hW⟩⟩ rfl (by rw [List.length_map]; exact hn) hL.1 (by simp) (lv_room (by rw [xv_cats]; exact hc)) h ⟨Nat.le_trans hu hR.2.2.1, Nat.le_trans hu2 hR.2.2.2⟩) (fun r G' I' J' hq => hq)
  rw [hU]
  exact (hC.moved hW.alike).weak (fun _ _ => trivial)
theorem xv_callI {idx n b : Nat} {As : List Value} {st : List Value} (h : decode mt.2.1 pc = .ok (.invokespecial idx, 3)) (hl : xv_CIn mt.1.cls idx n mt2) (hst0 : st = As.reverse ++ .ref b :: rest) (hn : As.length = n) (hlen : (xv_en (.ref b :: As)).length ≤ mt2.2.2.1) (hc : (rest.map fun v => v.category).sum ≤ 8) (hu : uc + mt2.2.2.2.2.1 ≤ mt.2.2.2.2.1) (hu2 : us + mt2.2.2.2.2.2 ≤ mt.2.2.2.2.2)
    (kk : xv_Ev l D d mt2 none 0 (xv_pad mt2.2.2.1 (xv_en (.ref b :: As))) [] G I J 0 0 (fun r G' I' J' => xv_Ev l D (d + 1) mt sx (pc + 3) ls (r.toList ++ rest) G' I' J' (uc + mt2.2.2.2.2.1) (us + mt2.2.2.2.2.2) Q)) : xv_Ev l D (d + 1) mt sx pc ls st G I J uc us Q := by
  subst hst0
  intro p e R s m args below meth c A L0 ad0 C X H locs L ad ca la hC hS hE hL hst
  have hR := C.2.2.2.2.2.2.2.2.2
  have hts := C.2.2.2.2.2.1
  obtain ⟨hB, hpd, hml, him, hnm, hrn⟩ := hl
  obtain ⟨hpn, hmx, hco, hin, hy1, hy2⟩ := id hB
  have hoA : xv_oks G (.ref b :: As) := by
    intro w hw
    rcases List.mem_cons.mp hw with e | e
    · subst e; exact hst _ (List.mem_append_right _ List.mem_cons_self)
    · exact hst _ (List.mem_append_left _ (List.mem_reverse.mpr e))
  have hor : xv_oks G rest := fun w hw => hst w (List.mem_append_right _ (List.mem_cons_of_mem _ hw))
  have M := xv_met hpn hlen hoA kk L ad ca H.size
  have cw := cwI (R := R) (own := mt.1.cls) (index := idx) (y := mt2.1) (bytes := mt2.2.1) (maxL := mt2.2.2.1) (ws' := xv_tb) (ws := xv_w mt2) (rm := xv_rm d mt2) n hts (xv_goodW hB) (by rw [xv_w, hrn]) rfl rfl (hts _ hin) (hts _ hml) (hts _ him) hnm ⟨hy1, hy2, hpd⟩ ⟨by simp only [xv_rm]; omega, by simp only [xv_rm]; omega⟩
  refine xv_back (mt2 := mt2) (rest := rest) C X hC hS hE hL hor (va_runI (As := As.map (xv_c ad)) (b := ad b) ⟨C.1, C.2.1, C.2.2.2.1, C.2.2.2.2.1, hts⟩ M cw ⟨xv_blind, fun U hU hW => ⟨rfl, by rw [hU], ?_, C.2.2.2.2.2.2.2.1.2.warm hW⟩⟩ rfl (by rw [List.length_map]; exact hn) hL.1 (by simp [xv_c]) (lv_room (by rw [xv_cats]; exact hc)) h ⟨Nat.le_trans hu hR.2.2.1, Nat.le_trans hu2 hR.2.2.2⟩) (fun r G' I' J' hq => hq)
  rw [hU]
  exact (hC.moved hW.alike).weak (fun _ _ => trivial)
theorem xv_callN {idx n b : Nat} {host : String} {As : List Value} {st : List Value} (h : decode mt.2.1 pc = .ok (.invokespecial idx, 3)) (hl : xv_CNn mt.1.cls idx n host mt2) (hst0 : st = As.reverse ++ .ref b :: rest) (hn : As.length = n) (hlen : (xv_en (.ref b :: As)).length ≤ mt2.2.2.1) (hc : (rest.map fun v => v.category).sum ≤ 8) (hu : uc + mt2.2.2.2.2.1 ≤ mt.2.2.2.2.1) (hu2 : us + mt2.2.2.2.2.2 ≤ mt.2.2.2.2.2)
    (kk : xv_Ev l D d mt2 none 0 (xv_pad mt2.2.2.1 (xv_en (.ref b :: As))) [] G I J 0 0 (fun r G' I' J' => xv_Ev l D (d + 1) mt sx (pc + 3) ls (r.toList ++ rest) G' I' J' (uc + mt2.2.2.2.2.1) (us + mt2.2.2.2.2.2) Q)) : xv_Ev l D (d + 1) mt sx pc ls st G I J uc us Q := by
  subst hst0
  intro p e R s m args below meth c A L0 ad0 C X H locs L ad ca la hC hS hE hL hst
  have hR := C.2.2.2.2.2.2.2.2.2
  have hts := C.2.2.2.2.2.1
  obtain ⟨hB, hpd, hml, him, hnm, hrn⟩ := hl
  obtain ⟨hpn, hmx, hco, hin, hy1, hy2⟩ := id hB
  have hoA : xv_oks G (.ref b :: As) := by
    intro w hw
    rcases List.mem_cons.mp hw with e | e
    · subst e; exact hst _ (List.mem_append_right _ List.mem_cons_self)
    · exact hst _ (List.mem_append_left _ (List.mem_reverse.mpr e))
  have hor : xv_oks G rest := fun w hw => hst w (List.mem_append_right _ (List.mem_cons_of_mem _ hw))
  have M := xv_met hpn hlen hoA kk L ad ca H.size
  have cw := va_cnB (R := R) (s := s) (args := args) (own := mt.1.cls) (index := idx) (host := host) (y := mt2.1) (bytes := mt2.2.1) (maxL := mt2.2.2.1) (ret := none) (ws' := xv_tb) (ws := xv_w mt2) (rm := xv_rm d mt2) n hts (xv_goodW hB) (by rw [xv_w, hrn]) rfl rfl (C.2.2.2.2.2.2.2.1.2.1 _ _ _ _ hml) (hts _ hin) ⟨hy1, hy2, hpd⟩ ⟨by simp only [xv_rm]; omega, by simp only [xv_rm]; omega⟩
  refine xv_back (mt2 := mt2) (rest := rest) C X hC hS hE hL hor (va_runIN (As := As.map (xv_c ad)) (b := ad b) ⟨C.1, C.2.1, C.2.2.2.1, C.2.2.2.2.1, hts⟩ M ⟨cw, hnm, hts _ him⟩ ⟨xv_blind, fun U hU hW => ⟨rfl, by rw [hU], ?_, C.2.2.2.2.2.2.2.1.2.warm hW⟩⟩ rfl (by rw [List.length_map]; exact hn) hL.1 (by simp [xv_c]) (lv_room (by rw [xv_cats]; exact hc)) h ⟨Nat.le_trans hu hR.2.2.1, Nat.le_trans hu2 hR.2.2.2⟩) (fun r G' I' J' hq => hq)
  rw [hU]
  exact (hC.moved hW.alike).weak (fun _ _ => trivial)
end XV5
