/-! A CLEAN MACHINE OVER THE KIT'S ROWS. The state of all objects is three plain functions: G (shapes of cells, references), I (numbers of 32 bits), J (longs), by ABSTRACT addresses that the proof may choose; xv_Ev is the kit's W in every context that bears such a state. -/
/-- the tables' words that stay true behind a call -/
def xv_tb : List Cond := lw_tbl.filter goodWord
theorem xv_tbi {w : Cond} (h : w ∈ lw_tbl) (hg : goodWord w = true) : w ∈ xv_tb := List.mem_filter.mpr ⟨h, hg⟩
theorem xv_tbs {ws : List Cond} (h : ∀ w ∈ ws, w ∈ lw_tbl) (hg : ws.all goodWord = true) : ∀ w ∈ ws, w ∈ xv_tb := fun w hw => xv_tbi (h w hw) (List.all_eq_true.mp hg w hw)
theorem xv_tbh {args : Array Value} {s : State} (h : ∀ w ∈ lw_tbl, w.before args s = true) : ∀ w ∈ xv_tb, w.before args s = true := fun w hw => h w (List.mem_filter.mp hw).1
abbrev xv_Gr : Type := (Nat → Option (Nat ⊕ (Nat × Nat))) × (Nat → Nat → Option Nat)
abbrev xv_I : Type := Nat → Nat → Int32
abbrev xv_J : Type := Nat → Nat → Int64
/-- the abstract address of the law's script -/
def xv_SC : Nat := 1000000
def xv_c (ad : Nat → Nat) (v : Value) : Value := match v with
  | .ref a => .ref (ad a)
  | w => w
/-- the element types of arrays by number: 0 int, 1 byte, 2 boolean, 3 long, k + 4 references to objects of class k -/
def xv_ty (t : Nat) : FieldType := match t with
  | 0 => .int
  | 1 => .byte
  | 2 => .boolean
  | 3 => .long
  | k + 4 => .object ((vwCl.getD k ("", TX0, 0)).1)
def xv_kind (ty : FieldType) : Nat := match ty with
  | .long => 1
  | .object _ => 2
  | .array _ => 2
  | _ => 0
def xv_fty (ci : Nat) : Nat → FieldType := match ci with
  | 0 => tyX0
  | 1 => tyX1
  | 2 => tyX2
  | 3 => tyX3
  | 4 => tyX4
  | 5 => tyX5
  | 6 => tyX6
  | 7 => tyX7
  | 8 => tyX8
  | 9 => tyX9
  | 10 => tyX10
  | _ => tyX11
def xv_nf (ci : Nat) : Nat := (vwCl.getD ci ("", TX0, 0)).2.2
def xv_fv (ad : Nat → Nat) (G : xv_Gr) (I : xv_I) (J : xv_J) (a : Nat) (ty : FieldType) (k : Nat) : Value := match xv_kind ty with
  | 0 => .int (I a k)
  | 1 => .long (J a k)
  | _ => va_rf ((G.2 a k).map ad)
def xv_fs (ad : Nat → Nat) (G : xv_Gr) (I : xv_I) (J : xv_J) (a ci : Nat) : List Value := (List.range (xv_nf ci)).map (fun k => xv_fv ad G I J a (xv_fty ci k) k)
def xv_ar (ad : Nat → Nat) (G : xv_Gr) (I : xv_I) (J : xv_J) (a t : Nat) : (Nat → Int32) ⊕ (Nat → Int64) ⊕ (Nat → UInt32) ⊕ (Nat → UInt64) ⊕ (Nat → Option Nat) := match t with
  | 0 => .inl (I a)
  | 1 => .inl (I a)
  | 2 => .inl (I a)
  | 3 => .inr (.inl (J a))
  | _ => .inr (.inr (.inr (.inr (fun i => (G.2 a i).map ad))))
def xv_cell (ad : Nat → Nat) (ca : Nat → ClassId) (G : xv_Gr) (I : xv_I) (J : xv_J) (a : Nat) : va_E := match G.1 a with
  | some (.inl ci) => .inr (ci, xv_fs ad G I J a ci)
  | some (.inr q) => .inl (ca a, q.2, xv_ar ad G I J a q.1)
  | none => .inr (0, [])
def xv_ws (L : List Nat) (ad : Nat → Nat) (ca : Nat → ClassId) (G : xv_Gr) (I : xv_I) (J : xv_J) : va_W := L.map (fun a => (ad a, xv_cell ad ca G I J a))
/-- writes -/
def xv_ui (I : xv_I) (a k : Nat) (v : Int32) : xv_I := fun b => if b = a then upd (I a) k v else I b
def xv_uj (J : xv_J) (a k : Nat) (v : Int64) : xv_J := fun b => if b = a then vp_updL (J a) k v else J b
def xv_ur (G : xv_Gr) (a k : Nat) (r : Option Nat) : xv_Gr := (G.1, fun b => if b = a then va_up (G.2 a) k r else G.2 b)
def xv_gn (G : xv_Gr) (a : Nat) (q : Nat ⊕ (Nat × Nat)) : xv_Gr := (va_up G.1 a (some q), va_up G.2 a (fun _ => none))
/-- locals by places; none: nothing is known -/
def xv_g : List (Option Value) → Nat → Option Value
  | [], _ => none
  | h :: _, 0 => h
  | _ :: t, i + 1 => xv_g t i
def xv_s : List (Option Value) → Nat → Option Value → List (Option Value)
  | [], _, _ => []
  | _ :: t, 0, v => v :: t
  | h :: t, i + 1, v => h :: xv_s t i v
theorem xv_g_s : ∀ (l : List (Option Value)) (i j : Nat) (v w : Value), xv_g (xv_s l i (some v)) j = some w → (j = i ∧ w = v) ∨ (j ≠ i ∧ xv_g l j = some w)
  | [], _, _, _, _, h => by simp [xv_s, xv_g] at h
  | a :: t, 0, 0, v, w, h => by
    left
    simp only [xv_s, xv_g, Option.some.injEq] at h
    exact ⟨rfl, h.symm⟩
  | a :: t, 0, j + 1, v, w, h => by
    right
    exact ⟨by omega, h⟩
  | a :: t, i + 1, 0, v, w, h => by
    right
    exact ⟨by omega, h⟩
  | a :: t, i + 1, j + 1, v, w, h => by
    rcases xv_g_s t i j v w h with h | h
    · exact Or.inl ⟨by omega, h.2⟩
    · exact Or.inr ⟨by omega, h.2⟩
theorem xv_g_n : ∀ (l : List (Option Value)) (i j : Nat) (w : Value), xv_g (xv_s l i none) j = some w → j ≠ i ∧ xv_g l j = some w
  | [], _, _, _, h => by simp [xv_s, xv_g] at h
  | a :: t, 0, 0, w, h => by simp [xv_s, xv_g] at h
  | a :: t, 0, j + 1, w, h => ⟨by omega, h⟩
  | a :: t, i + 1, 0, w, h => ⟨by omega, h⟩
  | a :: t, i + 1, j + 1, w, h => by
    have := xv_g_n t i j w h
    exact ⟨by omega, this.2⟩
/-- the place ahead bears no long -/
def xv_np (ls : List (Option Value)) (i : Nat) : Bool := match i with
  | 0 => true
  | j + 1 => match xv_g ls j with
    | some (.long _) => false
    | some (.double _) => false
    | _ => true
theorem xv_np_cat {ls : List (Option Value)} {i j : Nat} {v : Value} (h : xv_np ls i = true) (hj : j + 1 = i) (hv : xv_g ls j = some v) : v.category = 1 := by
  subst hj
  simp only [xv_np, hv] at h
  cases v <;> simp_all [Value.category]
/-- the locals at a call's begin -/
def xv_en : List Value → List (Option Value)
  | [] => []
  | .long x :: vs => some (.long x) :: none :: xv_en vs
  | .double x :: vs => some (.double x) :: none :: xv_en vs
  | v :: vs => some v :: xv_en vs
/-- the locals' places up to their number -/
def xv_pad : Nat → List (Option Value) → List (Option Value)
  | 0, l => l
  | n + 1, [] => none :: xv_pad n []
  | n + 1, h :: t => h :: xv_pad n t
theorem xv_pad_g : ∀ (n : Nat) (l : List (Option Value)) (i : Nat) (v : Value), xv_g (xv_pad n l) i = some v → xv_g l i = some v
  | 0, _, _, _, h => h
  | n + 1, [], 0, v, h => by simp [xv_pad, xv_g] at h
  | n + 1, [], i + 1, v, h => by
    have := xv_pad_g n [] i v h
    simp [xv_g] at this
  | n + 1, h0 :: t, 0, v, h => h
  | n + 1, h0 :: t, i + 1, v, h => xv_pad_g n t i v h
/-- a method: its name, code, number of locals, type of its answer, how many cells and slots it may make -/
abbrev xv_MT : Type := MethodName × ByteArray × Nat × Option FieldType × Nat × Nat
/-- words of nest mates: they go from a caller to its callee -/
def xv_NW (U : State) : Prop := (∀ (own : String) (idx : Nat) (y : MethodName) (host : String), Cond.methodLinkNest own idx y host ∈ lw_tbl → va_Nw (.methodLinkNest own idx y host) U) ∧ ∀ C : String, Cond.arrayOver (.object C) ∈ lw_tbl → va_AO C U
theorem xv_NW.warm {s U : State} (h : xv_NW s) (hW : s.WarmedH U.vm) : xv_NW U := ⟨fun _ _ _ _ hm => va_Nw.warmM hW (h.1 _ _ _ _ hm), fun _ hm => va_AO.moved hW.alike (h.2 _ hm)⟩
def xv_Cx (p : Program) (R : Room) (d : Nat) (mt : xv_MT) (s : State) (m : MethodId) (args : Array Value) (meth : Method) (c : Code) (A : Nat → Prop) : Prop :=
  p.tables.exec = Jvm.exec ∧ c.code = mt.2.1 ∧ meth.sig.returnType = mt.2.2.2.1 ∧ c.maxLocals = mt.2.2.1 ∧ s.vm.findClass mt.1.cls = some m.cls ∧ (∀ w ∈ xv_tb, w.before args s = true) ∧ meth.locks = false ∧ ((mt.1.name = "<init>" → meth.name = "<init>") ∧ xv_NW s) ∧ (∀ q, s.heap.size ≤ q → A q) ∧ d + 1 ≤ R.frames ∧ 60 * (d + 1) ≤ R.locals ∧ mt.2.2.2.2.1 ≤ R.cells ∧ mt.2.2.2.2.2 ≤ R.slots
def xv_Cn (D : va_G) (s : State) (A : Nat → Prop) (H : Heap) (L : List Nat) (ad : Nat → Nat) (ca : Nat → ClassId) (G : xv_Gr) (I : xv_I) (J : xv_J) : Prop :=
  (∀ (c : Nat) (q : vw_C), vwCl[c]? = some q → u_Kn s q.1 q.2.1 q.2.2 (D.1 c) (D.2 c)) ∧ (∀ a t n, G.1 a = some (.inr (t, n)) → ArrOfT s (ca a) (xv_ty t) ∧ va_RA s (ca a) (xv_ty t)) ∧ va_P D vwCl (xv_ws L ad ca G I J) H ∧ va_D A (xv_ws L ad ca G I J) ∧ L.Nodup ∧ (∀ a, a ∈ L ↔ G.1 a ≠ none) ∧ (∀ b k a, G.1 b ≠ none → G.2 b k = some a → G.1 a ≠ none) ∧ G.1 xv_SC = none
def xv_ok (G : xv_Gr) (v : Value) : Prop := ∀ a, v = .ref a → G.1 a ≠ none ∨ a = xv_SC
def xv_oks (G : xv_Gr) (st : List Value) : Prop := ∀ v ∈ st, xv_ok G v
def xv_lv (ad : Nat → Nat) (G : xv_Gr) (la : Array Slot) (n : Nat) (ls : List (Option Value)) : Prop := la.size = n ∧ lv_wf la ∧ ∀ i v, xv_g ls i = some v → la[i]? = some (.val (xv_c ad v)) ∧ xv_ok G v
def xv_Ext (L0 : List Nat) (ad0 : Nat → Nat) (L : List Nat) (ad : Nat → Nat) : Prop := (∀ a ∈ L0, a ∈ L ∧ ad a = ad0 a) ∧ ad xv_SC = ad0 xv_SC
abbrev xv_Po : Type := Option Value → xv_Gr → xv_I → xv_J → Prop
def xv_Qc (D : va_G) (A : Nat → Prop) (L0 : List Nat) (ad0 : Nat → Nat) (Q : xv_Po) : Array Value → State → Outcome → State → Prop := fun _ st oc t =>
  (∃ (r : Option Value) (L : List Nat) (ad : Nat → Nat) (ca : Nat → ClassId) (G : xv_Gr) (I : xv_I) (J : xv_J), oc = .returned (r.map (xv_c ad)) ∧ Q r G I J ∧ (∀ v, r = some v → xv_ok G v) ∧ xv_Cn D t A t.heap L ad ca G I J ∧ xv_Ext L0 ad0 L ad) ∧ va_F A st t
/-- the law's script, where there is one -/
abbrev xv_Sc : Type := Option (Nat × (Nat → Int32))
def xv_Sx (sx : xv_Sc) (s : State) (A : Nat → Prop) (b : Nat) : Prop := ∀ n xs, sx = some (n, xs) → va_X b n xs s s.heap ∧ b < s.heap.size ∧ ¬ A b
/-- THE JUDGEMENT: from pc with these locals, this stack and this state the method comes to its end, with Q -/
def xv_Ev (l : Launch) (D : va_G) (d : Nat) (mt : xv_MT) (sx : xv_Sc) (pc : Nat) (ls : List (Option Value)) (st : List Value) (G : xv_Gr) (I : xv_I) (J : xv_J) (uc us : Nat) (Q : xv_Po) : Prop :=
  ∀ (p : Program) (e : Env) (R : Room) (s : State) (m : MethodId) (args : Array Value) (below : List Frame) (meth : Method) (c : Code) (A : Nat → Prop) (L0 : List Nat) (ad0 : Nat → Nat), xv_Cx p R d mt s m args meth c A → xv_Sx sx s A (ad0 xv_SC) →
  ∀ (H : Heap) (locs : List Loc) (L : List Nat) (ad : Nat → Nat) (ca : Nat → ClassId) (la : Array Slot), xv_Cn D s A H L ad ca G I J → va_S A s.heap H locs → xv_Ext L0 ad0 L ad → xv_lv ad G la mt.2.2.1 ls → xv_oks G st →
  W p l e R s m args below meth c H locs uc us (MQ below (xv_Qc D A L0 ad0 Q) args s mt.2.2.2.2.1 mt.2.2.2.2.2 A) (F0 m pc la (st.map (xv_c ad)))
theorem xv_ok_int {G : xv_Gr} {x : Int32} : xv_ok G (.int x) := fun a h => by cases h
theorem xv_ok_long {G : xv_Gr} {x : Int64} : xv_ok G (.long x) := fun a h => by cases h
theorem xv_ok_null {G : xv_Gr} : xv_ok G .null := fun a h => by cases h
theorem xv_ok_ref {G : xv_Gr} {a : Nat} (h : G.1 a ≠ none) : xv_ok G (.ref a) := fun b e => by cases e; exact Or.inl h
theorem xv_oks.tl {G : xv_Gr} {v : Value} {st : List Value} (h : xv_oks G (v :: st)) : xv_oks G st := fun w hw => h w (List.mem_cons_of_mem _ hw)
theorem xv_oks.hd {G : xv_Gr} {v : Value} {st : List Value} (h : xv_oks G (v :: st)) : xv_ok G v := h v List.mem_cons_self
theorem xv_oks.co {G : xv_Gr} {v : Value} {st : List Value} (h : xv_oks G st) (hv : xv_ok G v) : xv_oks G (v :: st) := fun w hw => by
  rcases List.mem_cons.mp hw with e | e
  · rw [e]; exact hv
  · exact h w e
theorem xv_oks.i {G : xv_Gr} {x : Int32} {st : List Value} (h : xv_oks G st) : xv_oks G (.int x :: st) := h.co xv_ok_int
theorem xv_oks.l {G : xv_Gr} {x : Int64} {st : List Value} (h : xv_oks G st) : xv_oks G (.long x :: st) := h.co xv_ok_long
theorem xv_nd_inj {L : List Nat} (h : L.Nodup) {i j a : Nat} (hi : L[i]? = some a) (hj : L[j]? = some a) : i = j := by
  obtain ⟨h1, e1⟩ := List.getElem?_eq_some_iff.mp hi
  obtain ⟨h2, e2⟩ := List.getElem?_eq_some_iff.mp hj
  have hp := List.pairwise_iff_getElem.mp h
  rcases Nat.lt_trichotomy i j with q | q | q
  · exact absurd (e1.trans e2.symm) (hp i j h1 h2 q)
  · exact q
  · exact absurd (e2.trans e1.symm) (hp j i h2 h1 q)
theorem xv_map_set {α : Type} (L : List Nat) (f f' : Nat → α) (q a : Nat) (hn : L.Nodup) (hq : L[q]? = some a) (h : ∀ b, b ≠ a → f' b = f b) : (L.map f).set q (f' a) = L.map f' := by
  apply List.ext_getElem?
  intro j
  by_cases hj : j = q
  · subst hj
    have hlt : j < L.length := (List.getElem?_eq_some_iff.mp hq).1
    rw [List.getElem?_set_self (by simpa using hlt), List.getElem?_map, hq]
    rfl
  · rw [List.getElem?_set_ne (fun e => hj e.symm), List.getElem?_map, List.getElem?_map]
    cases hb : L[j]? with
    | none => rfl
    | some b =>
      have hne : b ≠ a := by
        intro e
        subst e
        exact hj (xv_nd_inj hn hb hq)
      simp only [Option.map_some, h b hne]
theorem xv_range_set {α : Type} (n : Nat) (f f' : Nat → α) (k : Nat) (hk : k < n) (v : α) (hv : f' k = v) (h : ∀ j, j ≠ k → f' j = f j) : ((List.range n).map f).set k v = (List.range n).map f' := by
  rw [← hv]
  exact xv_map_set (List.range n) f f' k k List.nodup_range (by simp [hk]) h
theorem xv_fs_get {ad : Nat → Nat} {G : xv_Gr} {I : xv_I} {J : xv_J} {a ci k : Nat} (hk : k < xv_nf ci) : (xv_fs ad G I J a ci)[k]? = some (xv_fv ad G I J a (xv_fty ci k) k) := by
  simp [xv_fs, hk]
theorem xv_ui_ne {I : xv_I} {a k b : Nat} {v : Int32} (h : b ≠ a) : xv_ui I a k v b = I b := by simp [xv_ui, h]
theorem xv_ui_eq {I : xv_I} {a k : Nat} {v : Int32} : xv_ui I a k v a = upd (I a) k v := by simp [xv_ui]
theorem xv_uj_ne {J : xv_J} {a k b : Nat} {v : Int64} (h : b ≠ a) : xv_uj J a k v b = J b := by simp [xv_uj, h]
theorem xv_uj_eq {J : xv_J} {a k : Nat} {v : Int64} : xv_uj J a k v a = vp_updL (J a) k v := by simp [xv_uj]
theorem xv_ur_ne {G : xv_Gr} {a k b : Nat} {r : Option Nat} (h : b ≠ a) : (xv_ur G a k r).2 b = G.2 b := by simp [xv_ur, h]
theorem xv_ur_eq {G : xv_Gr} {a k : Nat} {r : Option Nat} : (xv_ur G a k r).2 a = va_up (G.2 a) k r := by simp [xv_ur]
/-- a cell's value hangs on its own rows alone -/
theorem xv_cell_cong {ad : Nat → Nat} {ca : Nat → ClassId} {G G' : xv_Gr} {I I' : xv_I} {J J' : xv_J} {b : Nat} (h1 : G'.1 b = G.1 b) (h2 : G'.2 b = G.2 b) (h3 : I' b = I b) (h4 : J' b = J b) : xv_cell ad ca G' I' J' b = xv_cell ad ca G I J b := by
  simp only [xv_cell, xv_fs, xv_fv, xv_ar, h1, h2, h3, h4]
theorem xv_c_cat (ad : Nat → Nat) (v : Value) : (xv_c ad v).category = v.category := by cases v <;> rfl
def xv_al (ad : Nat → Nat) (n : Nat) (ls : List (Option Value)) : List (Nat × Value) := (List.range n).filterMap (fun j => (xv_g ls j).map (fun v => (j, xv_c ad v)))
theorem xv_al_in {ad : Nat → Nat} {n j : Nat} {ls : List (Option Value)} {v : Value} (hj : j < n) (hv : xv_g ls j = some v) : (j, xv_c ad v) ∈ xv_al ad n ls :=
  List.mem_filterMap.mpr ⟨j, List.mem_range.mpr hj, by simp [hv]⟩
theorem xv_lv.lt {ad : Nat → Nat} {G : xv_Gr} {la : Array Slot} {n : Nat} {ls : List (Option Value)} (h : xv_lv ad G la n ls) {j : Nat} {v : Value} (hv : xv_g ls j = some v) : j < n := by
  rw [← h.1]
  exact lv_lt (h.2.2 j v hv).1
theorem xv_lv.has {ad : Nat → Nat} {G : xv_Gr} {la : Array Slot} {n : Nat} {ls : List (Option Value)} (h : xv_lv ad G la n ls) : lv_has la n (xv_al ad n ls) := by
  refine ⟨h.1, h.2.1, fun q hq => ?_⟩
  obtain ⟨j, hj, hq⟩ := List.mem_filterMap.mp hq
  cases hv : xv_g ls j with
  | none => rw [hv] at hq; cases hq
  | some v =>
    rw [hv] at hq
    cases hq
    exact (h.2.2 j v hv).1
theorem xv_lv.pl {ad : Nat → Nat} {G : xv_Gr} {la : Array Slot} {n : Nat} {ls : List (Option Value)} (h : xv_lv ad G la n ls) {j : Nat} {v : Value} (hv : xv_g ls j = some v) : ∃ q : Nat, (xv_al ad n ls)[q]? = some (j, xv_c ad v) :=
  List.mem_iff_getElem?.mp (xv_al_in (h.lt hv) hv)
theorem xv_lv.st1 {ad : Nat → Nat} {G : xv_Gr} {la la2 : Array Slot} {n i : Nat} {ls : List (Option Value)} {v : Value} (h : xv_lv ad G la n ls) (hp : xv_np ls i = true) (h2 : lv_has la2 n ((i, xv_c ad v) :: (xv_al ad n ls).filter (fun q => !(q.1 == i) && !(q.1 + 1 == i && q.2.category == 2)))) (hv : xv_ok G v) : xv_lv ad G la2 n (xv_s ls i (some v)) := by
  refine ⟨h2.1, h2.2.1, fun j w hj => ?_⟩
  rcases xv_g_s _ _ _ _ _ hj with ⟨rfl, rfl⟩ | ⟨hne, hj⟩
  · exact ⟨h2.2.2 _ List.mem_cons_self, hv⟩
  · refine ⟨h2.2.2 (j, xv_c ad w) (List.mem_cons_of_mem _ (List.mem_filter.mpr ⟨xv_al_in (h.lt hj) hj, ?_⟩)), (h.2.2 j w hj).2⟩
    have hc : j + 1 = i → w.category = 1 := fun q => xv_np_cat hp q hj
    by_cases q : j + 1 = i
    · simp [hne, xv_c_cat, hc q]
    · simp [hne, q]
theorem xv_lv.st1K {ad : Nat → Nat} {G : xv_Gr} {la la2 : Array Slot} {n i : Nat} {ls : List (Option Value)} {v : Value} (h : xv_lv ad G la n ls) (h0 : i ≠ 0) (h2 : lv_has la2 n ((i, xv_c ad v) :: (xv_al ad n ls).filter (fun q => !(q.1 == i) && !(q.1 + 1 == i && q.2.category == 2)))) (hv : xv_ok G v) : xv_lv ad G la2 n (xv_s (xv_s ls i (some v)) (i - 1) none) := by
  refine ⟨h2.1, h2.2.1, fun j w hj => ?_⟩
  obtain ⟨hn1, hj⟩ := xv_g_n _ _ _ _ hj
  rcases xv_g_s _ _ _ _ _ hj with ⟨rfl, rfl⟩ | ⟨hne, hj⟩
  · exact ⟨h2.2.2 _ List.mem_cons_self, hv⟩
  · refine ⟨h2.2.2 (j, xv_c ad w) (List.mem_cons_of_mem _ (List.mem_filter.mpr ⟨xv_al_in (h.lt hj) hj, ?_⟩)), (h.2.2 j w hj).2⟩
    have q : ¬ j + 1 = i := by omega
    simp [hne, q]
theorem xv_lv.st2 {ad : Nat → Nat} {G : xv_Gr} {la la2 : Array Slot} {n i : Nat} {ls : List (Option Value)} {v : Value} (h : xv_lv ad G la n ls) (hp : xv_np ls i = true) (h2 : lv_has la2 n ((i, xv_c ad v) :: (xv_al ad n ls).filter (fun q => !(q.1 == i) && (!(q.1 == i + 1) && !(q.1 + 1 == i && q.2.category == 2))))) (hv : xv_ok G v) : xv_lv ad G la2 n (xv_s (xv_s ls i (some v)) (i + 1) none) := by
  refine ⟨h2.1, h2.2.1, fun j w hj => ?_⟩
  obtain ⟨hn1, hj⟩ := xv_g_n _ _ _ _ hj
  rcases xv_g_s _ _ _ _ _ hj with ⟨rfl, rfl⟩ | ⟨hne, hj⟩
  · exact ⟨h2.2.2 _ List.mem_cons_self, hv⟩
  · refine ⟨h2.2.2 (j, xv_c ad w) (List.mem_cons_of_mem _ (List.mem_filter.mpr ⟨xv_al_in (h.lt hj) hj, ?_⟩)), (h.2.2 j w hj).2⟩
    have hc : j + 1 = i → w.category = 1 := fun q => xv_np_cat hp q hj
    by_cases q : j + 1 = i
    · simp [hne, hn1, xv_c_cat, hc q]
    · simp [hne, hn1, q]
theorem xv_lv.st2K {ad : Nat → Nat} {G : xv_Gr} {la la2 : Array Slot} {n i : Nat} {ls : List (Option Value)} {v : Value} (h : xv_lv ad G la n ls) (h0 : i ≠ 0) (h2 : lv_has la2 n ((i, xv_c ad v) :: (xv_al ad n ls).filter (fun q => !(q.1 == i) && (!(q.1 == i + 1) && !(q.1 + 1 == i && q.2.category == 2))))) (hv : xv_ok G v) : xv_lv ad G la2 n (xv_s (xv_s (xv_s ls i (some v)) (i + 1) none) (i - 1) none) := by
  refine ⟨h2.1, h2.2.1, fun j w hj => ?_⟩
  obtain ⟨hn0, hj⟩ := xv_g_n _ _ _ _ hj
  obtain ⟨hn1, hj⟩ := xv_g_n _ _ _ _ hj
  rcases xv_g_s _ _ _ _ _ hj with ⟨rfl, rfl⟩ | ⟨hne, hj⟩
  · exact ⟨h2.2.2 _ List.mem_cons_self, hv⟩
  · refine ⟨h2.2.2 (j, xv_c ad w) (List.mem_cons_of_mem _ (List.mem_filter.mpr ⟨xv_al_in (h.lt hj) hj, ?_⟩)), (h.2.2 j w hj).2⟩
    have q : ¬ j + 1 = i := by omega
    simp [hne, hn1, q]
section XV0
variable {D : va_G} {s : State} {A : Nat → Prop} {H H1 : Heap} {L : List Nat} {ad : Nat → Nat} {ca : Nat → ClassId} {G G' : xv_Gr} {I I' : xv_I} {J J' : xv_J}
theorem xv_Cn.pl (h : xv_Cn D s A H L ad ca G I J) {a : Nat} (ha : G.1 a ≠ none) : ∃ q : Nat, L[q]? = some a ∧ (xv_ws L ad ca G I J)[q]? = some (ad a, xv_cell ad ca G I J a) := by
  obtain ⟨q, hq⟩ := List.mem_iff_getElem?.mp ((h.2.2.2.2.2.1 a).mpr ha)
  exact ⟨q, hq, by simp [xv_ws, hq]⟩
theorem xv_Cn.ob (h : xv_Cn D s A H L ad ca G I J) {a ci : Nat} (ha : G.1 a = some (.inl ci)) : ∃ q : Nat, L[q]? = some a ∧ (xv_ws L ad ca G I J)[q]? = some (ad a, .inr (ci, xv_fs ad G I J a ci)) := by
  obtain ⟨q, h1, h2⟩ := h.pl (a := a) (by rw [ha]; exact fun q => by cases q)
  refine ⟨q, h1, ?_⟩
  rw [h2]
  simp only [xv_cell, ha]
theorem xv_Cn.arr (h : xv_Cn D s A H L ad ca G I J) {a t n : Nat} (ha : G.1 a = some (.inr (t, n))) : ∃ q : Nat, L[q]? = some a ∧ (xv_ws L ad ca G I J)[q]? = some (ad a, .inl (ca a, n, xv_ar ad G I J a t)) := by
  obtain ⟨q, h1, h2⟩ := h.pl (a := a) (by rw [ha]; exact fun q => by cases q)
  refine ⟨q, h1, ?_⟩
  rw [h2]
  simp only [xv_cell, ha]
theorem xv_Cn.K (h : xv_Cn D s A H L ad ca G I J) : va_K D vwCl [] s := ⟨h.1, fun k q hk => by simp at hk⟩
theorem xv_Cn.Ka (h : xv_Cn D s A H L ad ca G I J) {a t n : Nat} (ha : G.1 a = some (.inr (t, n))) : va_K D vwCl [(ca a, xv_ty t)] s := ⟨h.1, fun k q hk => by
  cases k with
  | zero => cases hk; exact h.2.1 a t n ha
  | succ k => simp at hk⟩
/-- a write into the cell a -/
theorem xv_Cn.wr (h : xv_Cn D s A H L ad ca G I J) {q a : Nat} (hq : L[q]? = some a) (h1 : G'.1 = G.1) (h2 : ∀ b, b ≠ a → G'.2 b = G.2 b) (h3 : ∀ b, b ≠ a → I' b = I b) (h4 : ∀ b, b ≠ a → J' b = J b) (h5 : ∀ k x, G'.2 a k = some x → G.1 x ≠ none)
    (hP : va_P D vwCl ((xv_ws L ad ca G I J).set q (ad a, xv_cell ad ca G' I' J' a)) H1) (hD : va_D A ((xv_ws L ad ca G I J).set q (ad a, xv_cell ad ca G' I' J' a))) : xv_Cn D s A H1 L ad ca G' I' J' := by
  have e : (xv_ws L ad ca G I J).set q (ad a, xv_cell ad ca G' I' J' a) = xv_ws L ad ca G' I' J' := by
    refine xv_map_set L (fun b => (ad b, xv_cell ad ca G I J b)) (fun b => (ad b, xv_cell ad ca G' I' J' b)) q a h.2.2.2.2.1 hq (fun b hb => ?_)
    rw [xv_cell_cong (by rw [h1]) (h2 b hb) (h3 b hb) (h4 b hb)]
  rw [e] at hP hD
  refine ⟨h.1, by rw [h1]; exact h.2.1, hP, hD, h.2.2.2.2.1, by rw [h1]; exact h.2.2.2.2.2.1, ?_, by rw [h1]; exact h.2.2.2.2.2.2.2⟩
  intro b k x hb hx
  rw [h1] at hb ⊢
  by_cases e : b = a
  · subst e
    exact h5 k x hx
  · rw [h2 b e] at hx
    exact h.2.2.2.2.2.2.1 b k x hb hx
theorem xv_Cn.refs (h : xv_Cn D s A H L ad ca G I J) {a k x : Nat} (ha : G.1 a ≠ none) (hx : G.2 a k = some x) : G.1 x ≠ none := h.2.2.2.2.2.2.1 a k x ha hx
end XV0
