/-! from the judgement of the law's body to the claim's walk -/
def mL_law : xv_MT := (x, code, 4, ret, 600000, 7302250)
def xv_G0 : xv_Gr := (fun _ => none, fun _ _ => none)
def xv_top (l : Launch) (D : va_G) : Prop := ∀ (L : Nat) (xs : Nat → Int32), L ≤ 3072 → xv_Ev l D 100 mL_law (some (L, xs)) 0 [some (.ref xv_SC), none, none, none] [] xv_G0 (fun _ _ => 0) (fun _ _ => 0) 0 0 (fun r _ _ _ => r = some (.int 1))
theorem xv_framed {s t : State} {o : Outcome} {L : List Loc} {k n : Nat} (h : FrameEnd s o t L k n) (hL : ∀ q ∈ L, s.heap.size ≤ q.base) : Framed s o t [] k n := by
  obtain ⟨h1, h2, h3, h4, h5, h6, h7, h8⟩ := h
  refine ⟨h1, h2, h3, h4, h5, h6, h7, fun a c hc => ?_⟩
  obtain ⟨c', e1, e2, e3, e4⟩ := h8 a c hc
  refine ⟨c', e1, e2, e3, fun i _ => e4 i (fun hm => ?_)⟩
  have h9 := hL _ hm
  have h10 : a < s.heap.size := (Array.getElem?_eq_some_iff.mp hc).1
  exact absurd h10 (Nat.not_lt.mpr h9)
def R_law : String := "BoxcarHousesLaw"
def lw_P (b : Addr) (xs : List Int32) (args : Array Value) (s : State) : Prop := args = #[.ref b] ∧ s.IntsAt b xs ∧ xs.length ≤ 3072 ∧ (Jvm.Cond.and given_1 narrow_1).before args s = true
def lw_Q (_ : Array Value) (s : State) (o : Outcome) (t : State) : Prop := o = .returned (some (.int 1)) ∧ Framed s o t [] 600000 7302250
def lw_Z (below : List Frame) (a : Array Value) (s : State) : State → Prop := fun t => ∃ o, t.status = .running ∧ Ended t below o ∧ lw_Q a s o t
def lw_At (p : Program) (s : State) (m : MethodId) (meth : Method) (c : Code) (b L : Nat) (xs : Nat → Int32) : Prop :=
  p.tables.exec = Jvm.exec ∧ c.code = code ∧ meth.sig.returnType = ret ∧ c.maxLocals = 4 ∧ s.vm.findClass R_law = some m.cls ∧ (∀ w ∈ lw_tbl, w.before #[Value.ref b] s = true) ∧ va_X b L xs s s.heap ∧ b < s.heap.size ∧ meth.locks = false ∧ (Jvm.Cond.and given_1 narrow_1).before #[Value.ref b] s = true
set_option maxHeartbeats 4000000 in
theorem xv_start {p : Program} {e : Env} {s : State} {m : MethodId} {below : List Frame} {meth : Method} {c : Code} (l : Launch) {b L : Nat} {xs : Nat → Int32} (hT : ∀ D, xv_top l D) (hL : L ≤ 3072) (C0 : lw_At p s m meth c b L xs) : W p l e room_1 s m #[Value.ref b] below meth c s.heap [] 0 0 (lw_Z below #[Value.ref b] s) (entryFrame m ([Value.ref b] : List Value).toArray 4) := by
  obtain ⟨hx, hb, hr, hml, hown, hts, hX, hbl, hlocks, hgv⟩ := C0
  have hk : ∀ ci : Nat, xv_CI ci → Cond.instantiable (xv_cls ci).1 (xv_cls ci).2.2 ∈ lw_tbl → ∃ (cC : ClassId) (iS : Nat → Nat), u_Kn s (xv_cls ci).1 (xv_cls ci).2.1 (xv_cls ci).2.2 cC iS := fun ci h hi => u_known (fun w hw => xv_tbh hts w hw) h.2.1 (hts _ hi)
  obtain ⟨c0, i0, k0⟩ := hk 0 xv_ci0 (by decide +kernel)
  obtain ⟨c1, i1, k1⟩ := hk 1 xv_ci1 (by decide +kernel)
  obtain ⟨c2, i2, k2⟩ := hk 2 xv_ci2 (by decide +kernel)
  obtain ⟨c3, i3, k3⟩ := hk 3 xv_ci3 (by decide +kernel)
  obtain ⟨c4, i4, k4⟩ := hk 4 xv_ci4 (by decide +kernel)
  obtain ⟨c5, i5, k5⟩ := hk 5 xv_ci5 (by decide +kernel)
  obtain ⟨c6, i6, k6⟩ := hk 6 xv_ci6 (by decide +kernel)
  obtain ⟨c7, i7, k7⟩ := hk 7 xv_ci7 (by decide +kernel)
  obtain ⟨c8, i8, k8⟩ := hk 8 xv_ci8 (by decide +kernel)
  obtain ⟨c9, i9, k9⟩ := hk 9 xv_ci9 (by decide +kernel)
  obtain ⟨c10, i10, k10⟩ := hk 10 xv_ci10 (by decide +kernel)
  obtain ⟨c11, i11, k11⟩ := hk 11 xv_ci11 (by decide +kernel)
  obtain ⟨D, hD⟩ : ∃ D : va_G, ∀ (c : Nat) (q : vw_C), vwCl[c]? = some q → u_Kn s q.1 q.2.1 q.2.2 (D.1 c) (D.2 c) := by
    refine ⟨(fun k => match k with
      | 0 => c0
      | 1 => c1
      | 2 => c2
      | 3 => c3
      | 4 => c4
      | 5 => c5
      | 6 => c6
      | 7 => c7
      | 8 => c8
      | 9 => c9
      | 10 => c10
      | _ => c11, fun k => match k with
      | 0 => i0
      | 1 => i1
      | 2 => i2
      | 3 => i3
      | 4 => i4
      | 5 => i5
      | 6 => i6
      | 7 => i7
      | 8 => i8
      | 9 => i9
      | 10 => i10
      | _ => i11), ?_⟩
    intro k q hq
    match k, hq with
    | 0, hq => cases hq; exact k0
    | 1, hq => cases hq; exact k1
    | 2, hq => cases hq; exact k2
    | 3, hq => cases hq; exact k3
    | 4, hq => cases hq; exact k4
    | 5, hq => cases hq; exact k5
    | 6, hq => cases hq; exact k6
    | 7, hq => cases hq; exact k7
    | 8, hq => cases hq; exact k8
    | 9, hq => cases hq; exact k9
    | 10, hq => cases hq; exact k10
    | 11, hq => cases hq; exact k11
    | k + 12, hq => simp [vwCl] at hq
  have hnil : va_P D vwCl [] s.heap := fun k q h => by simp at h
  have hnD : va_D (fun q : Nat => s.heap.size ≤ q) [] := ⟨fun i j p q h => by simp at h, fun k q h => by simp at h⟩
  have hl := lv_entry ([.ref b]) (n := 4) (Nat.le_of_ble_eq_true rfl)
  rw [lg_entry_eq]
  have K := hT D L xs hL p e room_1 s m #[Value.ref b] below meth c (fun q : Nat => s.heap.size ≤ q) [] (fun _ => b) ⟨hx, hb, hr, hml, hown, xv_tbh hts, hlocks, ⟨?_, fun _ _ _ _ hm => va_Nw.of rfl (hts _ hm), fun _ hm => va_AO.of (hts _ hm)⟩, fun _ h => h, by decide, by decide, by decide, by decide⟩ (fun n xs2 h2 => by cases h2; exact ⟨hX, hbl, Nat.not_le.mpr hbl⟩) s.heap [] [] (fun _ => b) (fun _ => default) _ ⟨hD, (fun a t n h => by cases h), hnil, hnD, List.nodup_nil, (fun a => by simp [xv_G0]), fun b k a h => absurd rfl h, rfl⟩ va_S.rf ⟨fun a ha => (by cases ha), rfl⟩ ⟨hl.1, hl.2.1, fun i v hv => ?_⟩ (fun v hv => by cases hv)
  · intro T hT2 X2
    obtain ⟨t, h1, o, h2, h3, ⟨⟨r, L9, ad9, ca9, G9, I9, J9, h4, h5, -⟩, -⟩, L8, h6, h7⟩ := K T hT2 X2
    subst h5
    exact ⟨t, h1, o, h2, h3, h4, xv_framed h6 h7⟩
  · intro hh
    exact absurd hh (by decide +kernel)
  · match i, hv with
    | 0, hv =>
      cases hv
      exact ⟨hl.2.2 (0, .ref b) List.mem_cons_self, fun a ha => by cases ha; exact Or.inr rfl⟩
    | 1, hv => cases hv
    | 2, hv => cases hv
    | 3, hv => cases hv
    | k + 4, hv => cases hv
