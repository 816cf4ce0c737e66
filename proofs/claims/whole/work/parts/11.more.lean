/-! more rules: calls that make nothing, locals forgotten, booleans, Math -/
def xb (b : Bool) : Int32 := match b with
  | true => 1
  | false => 0
theorem xb_0 {b : Bool} : xb b = 0 ↔ b = false := by cases b <;> decide
theorem xb_n0 {b : Bool} : ¬ xb b = 0 ↔ b = true := by cases b <;> decide
theorem xb_nar (b : Bool) : narrow .boolean (.int (xb b)) = .int (xb b) := by cases b <;> rfl
theorem xb_fit (b : Bool) : fits .boolean (.int (xb b)) = true := by cases b <;> rfl
theorem xb_vp (b : Bool) : vp_nar .boolean (xb b) = xb b := by cases b <;> rfl
theorem xv_inc (i : Nat) : nI i + Int32.ofInt 1 = nI (i + 1) := nI_1 i
theorem xv_ui_ap (I : xv_I) (a k : Nat) (v : Int32) (b j : Nat) : xv_ui I a k v b j = if b = a then (if j = k then v else I b j) else I b j := by
  by_cases h : b = a
  · subst h; simp [xv_ui, upd]
  · simp [xv_ui, h]
theorem xv_uj_ap (J : xv_J) (a k : Nat) (v : Int64) (b j : Nat) : xv_uj J a k v b j = if b = a then (if j = k then v else J b j) else J b j := by
  by_cases h : b = a
  · subst h; simp [xv_uj, vp_updL]
  · simp [xv_uj, h]
def xv_mask : List Bool → List (Option Value) → List (Option Value)
  | [], _ => []
  | _ :: _, [] => []
  | true :: t, v :: l => v :: xv_mask t l
  | false :: t, _ :: l => none :: xv_mask t l
theorem xv_mask_g : ∀ (bs : List Bool) (ls : List (Option Value)) (i : Nat) (v : Value), xv_g (xv_mask bs ls) i = some v → xv_g ls i = some v
  | [], _, _, _, h => by simp [xv_mask, xv_g] at h
  | _ :: _, [], _, _, h => by simp [xv_mask, xv_g] at h
  | true :: t, w :: l, 0, v, h => h
  | true :: t, w :: l, i + 1, v, h => xv_mask_g t l i v h
  | false :: t, w :: l, 0, v, h => by simp [xv_mask, xv_g] at h
  | false :: t, w :: l, i + 1, v, h => xv_mask_g t l i v h
section XV6
variable {l : Launch} {D : va_G} {d : Nat} {mt mt2 : xv_MT} {sx : xv_Sc} {pc : Nat} {ls : List (Option Value)} {st rest : List Value} {G : xv_Gr} {I : xv_I} {J : xv_J} {uc us : Nat} {Q : xv_Po}
theorem xv_fg (bs : List Bool) (k : xv_Ev l D d mt sx pc (xv_mask bs ls) st G I J uc us Q) : xv_Ev l D d mt sx pc ls st G I J uc us Q := by
  intro p e R s m args below meth c A L0 ad0 C X H locs L ad ca la hC hS hE hL hst
  exact k p e R s m args below meth c A L0 ad0 C X H locs L ad ca la hC hS hE ⟨hL.1, hL.2.1, fun i v hv => hL.2.2 i v (xv_mask_g bs ls i v hv)⟩ hst
/-- a weaker end -/
theorem xv_mono {Q2 : xv_Po} (k : xv_Ev l D d mt sx pc ls st G I J uc us Q2) (h : ∀ r G I J, Q2 r G I J → Q r G I J) : xv_Ev l D d mt sx pc ls st G I J uc us Q := by
  intro p e R s m args below meth c A L0 ad0 C X H locs L ad ca la hC hS hE hL hst T hT XT
  obtain ⟨t, h1, o, h2, h3, ⟨⟨r, L', ad', ca', G', I', J', h4, h5, h6⟩, h7⟩, h8⟩ := k p e R s m args below meth c A L0 ad0 C X H locs L ad ca la hC hS hE hL hst T hT XT
  exact ⟨t, h1, o, h2, h3, ⟨⟨r, L', ad', ca', G', I', J', h4, h r G' I' J' h5, h6⟩, h7⟩, h8⟩
theorem xv_callV0 {idx n b ci : Nat} {As : List Value} {st : List Value} (h : decode mt.2.1 pc = .ok (.invokevirtual idx, 3)) (hl : xv_CV mt.1.cls idx n mt2) (h0 : mt2.2.2.2.2.1 = 0) (h1 : mt2.2.2.2.2.2 = 0) (hst0 : st = As.reverse ++ .ref b :: rest) (hn : As.length = n) (ho : G.1 b = some (.inl ci)) (hci : vwCl[ci]? = some (xv_cls ci)) (hcl : (xv_cls ci).1 = mt2.1.cls) (hlen : (xv_en (.ref b :: As)).length ≤ mt2.2.2.1) (hc : (rest.map fun v => v.category).sum ≤ 8) (hu : uc ≤ mt.2.2.2.2.1) (hu2 : us ≤ mt.2.2.2.2.2)
    (kk : xv_Ev l D d mt2 none 0 (xv_pad mt2.2.2.1 (xv_en (.ref b :: As))) [] G I J 0 0 (fun r G' I' J' => xv_Ev l D (d + 1) mt sx (pc + 3) ls (r.toList ++ rest) G' I' J' uc us Q)) : xv_Ev l D (d + 1) mt sx pc ls st G I J uc us Q := by
  refine xv_callV h hl hst0 hn ho hci hcl hlen hc (by rw [h0]; exact hu) (by rw [h1]; exact hu2) ?_
  rw [h0, h1]
  exact kk
theorem xv_callS0 {idx n : Nat} {As : List Value} {st : List Value} (h : decode mt.2.1 pc = .ok (.invokestatic idx, 3)) (hl : xv_CS mt.1.cls idx n mt2) (h0 : mt2.2.2.2.2.1 = 0) (h1 : mt2.2.2.2.2.2 = 0) (hst0 : st = As.reverse ++ rest) (hn : As.length = n) (hlen : (xv_en As).length ≤ mt2.2.2.1) (hc : (rest.map fun v => v.category).sum ≤ 8) (hu : uc ≤ mt.2.2.2.2.1) (hu2 : us ≤ mt.2.2.2.2.2)
    (kk : xv_Ev l D d mt2 none 0 (xv_pad mt2.2.2.1 (xv_en As)) [] G I J 0 0 (fun r G' I' J' => xv_Ev l D (d + 1) mt sx (pc + 3) ls (r.toList ++ rest) G' I' J' uc us Q)) : xv_Ev l D (d + 1) mt sx pc ls st G I J uc us Q := by
  refine xv_callS h hl hst0 hn hlen hc (by rw [h0]; exact hu) (by rw [h1]; exact hu2) ?_
  rw [h0, h1]
  exact kk
theorem xv_if_eqB {b : Bool} {off : Int} {tgt : Nat} (h : decode mt.2.1 pc = .ok (.ifCond .eq off, 3)) (ht : (pc : Int) + off = (tgt : Int))
    (kt : b = false → xv_Ev l D d mt sx tgt ls st G I J uc us Q) (kf : b = true → xv_Ev l D d mt sx (pc + 3) ls st G I J uc us Q) : xv_Ev l D d mt sx pc ls (.int (xb b) :: st) G I J uc us Q :=
  xv_if_eq h ht (fun c => kt (xb_0.mp c)) (fun c => kf (xb_n0.mp c))
theorem xv_if_neB {b : Bool} {off : Int} {tgt : Nat} (h : decode mt.2.1 pc = .ok (.ifCond .ne off, 3)) (ht : (pc : Int) + off = (tgt : Int))
    (kt : b = true → xv_Ev l D d mt sx tgt ls st G I J uc us Q) (kf : b = false → xv_Ev l D d mt sx (pc + 3) ls st G I J uc us Q) : xv_Ev l D d mt sx pc ls (.int (xb b) :: st) G I J uc us Q :=
  xv_if_ne h ht (fun c => kt (xb_n0.mp c)) (fun c => kf (xb_0.mp c))
/-- a value under another name -/
theorem xv_nmI {x y : Int32} (e : x = y) (k : xv_Ev l D d mt sx pc ls (.int y :: st) G I J uc us Q) : xv_Ev l D d mt sx pc ls (.int x :: st) G I J uc us Q := e ▸ k
theorem xv_nmJ {x y : Int64} (e : x = y) (k : xv_Ev l D d mt sx pc ls (.long y :: st) G I J uc us Q) : xv_Ev l D d mt sx pc ls (.long x :: st) G I J uc us Q := e ▸ k
theorem xv_nmM {I2 : xv_I} (e : I = I2) (k : xv_Ev l D d mt sx pc ls st G I2 J uc us Q) : xv_Ev l D d mt sx pc ls st G I J uc us Q := e ▸ k
theorem xv_zretB {b : Bool} (h : decode mt.2.1 pc = .ok (.ireturn, 1)) (hr : mt.2.2.2.1 = some .boolean) (hu : uc ≤ mt.2.2.2.2.1) (hu2 : us ≤ mt.2.2.2.2.2) (hq : Q (some (.int (xb b))) G I J) : xv_Ev l D d mt sx pc ls [.int (xb b)] G I J uc us Q := xv_zret h hr (xb_nar b) hu hu2 hq
theorem xv_maxI {idx : Nat} {x y : Int32} (h : decode mt.2.1 pc = .ok (.invokestatic idx, 3)) (hl : Cond.methodLink mt.1.cls idx Lib.Math.max.name ∈ xv_tb) (hs : Cond.static Lib.Math.max.name ∈ xv_tb) (hc0 : Cond.code Lib.Math.max.name Lib.Math.max.code 2 (some .int) ∈ xv_tb) (hi : Cond.initialized "java/lang/Math" ∈ xv_tb) (hc : (st.map fun v => v.category).sum ≤ 8) (hu : uc ≤ mt.2.2.2.2.1) (hu2 : us ≤ mt.2.2.2.2.2)
    (k : xv_Ev l D d mt sx (pc + 3) ls (.int (if x < y then y else x) :: st) G I J uc us Q) : xv_Ev l D d mt sx pc ls (.int y :: .int x :: st) G I J uc us Q := by
  intro p e R s m args below meth c A L0 ad0 C X H locs L ad ca la hC hS hE hL hst
  have hts := C.2.2.2.2.2.1
  have hR := C.2.2.2.2.2.2.2.2.2
  exact va_mmax C.1 C.2.1 (C.2.2.2.1.trans hL.1.symm) C.2.2.2.2.1 (hts _ hl) (hts _ hs) (hts _ hi) (hts _ hc0) (by omega) (by rw [xv_cats]; omega) (Nat.le_trans hu hR.2.2.1) (Nat.le_trans hu2 hR.2.2.2) h (k p e R s m args below meth c A L0 ad0 C X H locs L ad ca la hC hS hE hL hst.tl.tl.i)
theorem xv_minI {idx : Nat} {x y : Int32} (h : decode mt.2.1 pc = .ok (.invokestatic idx, 3)) (hl : Cond.methodLink mt.1.cls idx Lib.Math.min.name ∈ xv_tb) (hs : Cond.static Lib.Math.min.name ∈ xv_tb) (hc0 : Cond.code Lib.Math.min.name Lib.Math.min.code 2 (some .int) ∈ xv_tb) (hi : Cond.initialized "java/lang/Math" ∈ xv_tb) (hc : (st.map fun v => v.category).sum ≤ 8) (hu : uc ≤ mt.2.2.2.2.1) (hu2 : us ≤ mt.2.2.2.2.2)
    (k : xv_Ev l D d mt sx (pc + 3) ls (.int (if y < x then y else x) :: st) G I J uc us Q) : xv_Ev l D d mt sx pc ls (.int y :: .int x :: st) G I J uc us Q := by
  intro p e R s m args below meth c A L0 ad0 C X H locs L ad ca la hC hS hE hL hst
  have hts := C.2.2.2.2.2.1
  have hR := C.2.2.2.2.2.2.2.2.2
  exact va_mmin C.1 C.2.1 (C.2.2.2.1.trans hL.1.symm) C.2.2.2.2.1 (hts _ hl) (hts _ hs) (hts _ hi) (hts _ hc0) (by omega) (by rw [xv_cats]; omega) (Nat.le_trans hu hR.2.2.1) (Nat.le_trans hu2 hR.2.2.2) h (k p e R s m args below meth c A L0 ad0 C X H locs L ad ca la hC hS hE hL hst.tl.tl.i)
theorem xv_maxJ {idx : Nat} {x y : Int64} (h : decode mt.2.1 pc = .ok (.invokestatic idx, 3)) (hl : Cond.methodLink mt.1.cls idx Lib.MathLoose.max_long.x ∈ xv_tb) (hs : Cond.static Lib.MathLoose.max_long.x ∈ xv_tb) (hc0 : Cond.code Lib.MathLoose.max_long.x Lib.MathLoose.max_long.code 4 (some .long) ∈ xv_tb) (hi : Cond.initialized "java/lang/Math" ∈ xv_tb) (hc : (st.map fun v => v.category).sum ≤ 8) (hu : uc ≤ mt.2.2.2.2.1) (hu2 : us ≤ mt.2.2.2.2.2)
    (k : xv_Ev l D d mt sx (pc + 3) ls (.long (if y < x then x else y) :: st) G I J uc us Q) : xv_Ev l D d mt sx pc ls (.long y :: .long x :: st) G I J uc us Q := by
  intro p e R s m args below meth c A L0 ad0 C X H locs L ad ca la hC hS hE hL hst
  have hts := C.2.2.2.2.2.1
  have hR := C.2.2.2.2.2.2.2.2.2
  exact va_mmax_long C.1 C.2.1 (C.2.2.2.1.trans hL.1.symm) C.2.2.2.2.1 (hts _ hl) (hts _ hs) (hts _ hi) (hts _ hc0) (by omega) (by rw [xv_cats]; omega) (Nat.le_trans hu hR.2.2.1) (Nat.le_trans hu2 hR.2.2.2) h (k p e R s m args below meth c A L0 ad0 C X H locs L ad ca la hC hS hE hL hst.tl.tl.l)
theorem xv_minJ {idx : Nat} {x y : Int64} (h : decode mt.2.1 pc = .ok (.invokestatic idx, 3)) (hl : Cond.methodLink mt.1.cls idx Lib.MathLoose.min_long.x ∈ xv_tb) (hs : Cond.static Lib.MathLoose.min_long.x ∈ xv_tb) (hc0 : Cond.code Lib.MathLoose.min_long.x Lib.MathLoose.min_long.code 4 (some .long) ∈ xv_tb) (hi : Cond.initialized "java/lang/Math" ∈ xv_tb) (hc : (st.map fun v => v.category).sum ≤ 8) (hu : uc ≤ mt.2.2.2.2.1) (hu2 : us ≤ mt.2.2.2.2.2)
    (k : xv_Ev l D d mt sx (pc + 3) ls (.long (if y < x then y else x) :: st) G I J uc us Q) : xv_Ev l D d mt sx pc ls (.long y :: .long x :: st) G I J uc us Q := by
  intro p e R s m args below meth c A L0 ad0 C X H locs L ad ca la hC hS hE hL hst
  have hts := C.2.2.2.2.2.1
  have hR := C.2.2.2.2.2.2.2.2.2
  exact va_mmin_long C.1 C.2.1 (C.2.2.2.1.trans hL.1.symm) C.2.2.2.2.1 (hts _ hl) (hts _ hs) (hts _ hi) (hts _ hc0) (by omega) (by rw [xv_cats]; omega) (Nat.le_trans hu hR.2.2.1) (Nat.le_trans hu2 hR.2.2.2) h (k p e R s m args below meth c A L0 ad0 C X H locs L ad ca la hC hS hE hL hst.tl.tl.l)
end XV6
theorem my_max : Cond.code Lib.Math.max.name Lib.Math.max.code 2 (some .int) ∈ xv_tb := mc_J9_max_7cf53
theorem my_min : Cond.code Lib.Math.min.name Lib.Math.min.code 2 (some .int) ∈ xv_tb := mc_J9_min_7cf53
theorem my_maxL : Cond.code Lib.MathLoose.max_long.x Lib.MathLoose.max_long.code 4 (some .long) ∈ xv_tb := mc_J9_max_f86c9
theorem my_minL : Cond.code Lib.MathLoose.min_long.x Lib.MathLoose.min_long.code 4 (some .long) ∈ xv_tb := mc_J9_min_f86c9
