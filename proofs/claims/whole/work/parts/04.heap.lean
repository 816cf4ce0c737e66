/-! classes, fields, arrays -/
def xv_cls (ci : Nat) : vw_C := vwCl.getD ci ("", TX0, 0)
def xv_dk (ty : FieldType) : Bool := match ty with
  | .float => false
  | .double => false
  | _ => true
def xv_CI (ci : Nat) : Prop := vwCl[ci]? = some (xv_cls ci) ∧ (∀ w ∈ u_ws (xv_cls ci).1 (xv_cls ci).2.1 (xv_cls ci).2.2, w ∈ xv_tb) ∧ (∀ k, k < (xv_cls ci).2.2 → parseFieldDescriptor ((xv_cls ci).2.1 k).2.2.1 = some (xv_fty ci k)) ∧ (∀ a, a < (xv_cls ci).2.2 → ∀ b, b < (xv_cls ci).2.2 → a ≠ b → ((xv_cls ci).2.1 a).2.1 ≠ ((xv_cls ci).2.1 b).2.1) ∧ (∀ k, k < (xv_cls ci).2.2 → xv_dk (xv_fty ci k) = true)
theorem xv_ci0 : xv_CI 0 := ⟨rfl, xv_tbs inX0 (by decide +kernel), tyX0_ok, nmX0, by decide⟩
theorem xv_ci1 : xv_CI 1 := ⟨rfl, xv_tbs inX1 (by decide +kernel), tyX1_ok, nmX1, by decide⟩
theorem xv_ci2 : xv_CI 2 := ⟨rfl, xv_tbs inX2 (by decide +kernel), tyX2_ok, nmX2, by decide⟩
theorem xv_ci3 : xv_CI 3 := ⟨rfl, xv_tbs inX3 (by decide +kernel), tyX3_ok, nmX3, by decide⟩
theorem xv_ci4 : xv_CI 4 := ⟨rfl, xv_tbs inX4 (by decide +kernel), tyX4_ok, nmX4, by decide⟩
theorem xv_ci5 : xv_CI 5 := ⟨rfl, xv_tbs inX5 (by decide +kernel), tyX5_ok, nmX5, by decide⟩
theorem xv_ci6 : xv_CI 6 := ⟨rfl, xv_tbs inX6 (by decide +kernel), tyX6_ok, nmX6, by decide⟩
theorem xv_ci7 : xv_CI 7 := ⟨rfl, xv_tbs inX7 (by decide +kernel), tyX7_ok, nmX7, by decide⟩
theorem xv_ci8 : xv_CI 8 := ⟨rfl, xv_tbs inX8 (by decide +kernel), tyX8_ok, nmX8, by decide⟩
theorem xv_ci9 : xv_CI 9 := ⟨rfl, xv_tbs inX9 (by decide +kernel), tyX9_ok, nmX9, by decide⟩
theorem xv_ci10 : xv_CI 10 := ⟨rfl, xv_tbs inX10 (by decide +kernel), tyX10_ok, nmX10, by decide⟩
theorem xv_ci11 : xv_CI 11 := ⟨rfl, xv_tbs inX11 (by decide +kernel), tyX11_ok, nmX11, by decide +kernel⟩
def xv_FL (own : String) (idx ci k : Nat) (fin : Bool) : Prop := xv_CI ci ∧ k < (xv_cls ci).2.2 ∧ Cond.fieldLink own idx ((xv_cls ci).2.1 k).1 ((xv_cls ci).2.1 k).2.1 ((xv_cls ci).2.1 k).2.2.1 ∈ xv_tb ∧ ((xv_cls ci).2.1 k).2.2.2 = fin
theorem xv_fs_ui {ad : Nat → Nat} {G : xv_Gr} {I : xv_I} {J : xv_J} {a ci k : Nat} {v : Int32} (hk : k < xv_nf ci) (hd : xv_kind (xv_fty ci k) = 0) : (xv_fs ad G I J a ci).set k (.int v) = xv_fs ad G (xv_ui I a k v) J a ci := by
  refine xv_range_set _ _ _ k hk _ ?_ ?_
  · simp only [xv_fv, hd, xv_ui, upd, if_true]
  · intro j hj
    simp only [xv_fv, xv_ui, upd, if_true, hj, if_false]
theorem xv_fs_uj {ad : Nat → Nat} {G : xv_Gr} {I : xv_I} {J : xv_J} {a ci k : Nat} {v : Int64} (hk : k < xv_nf ci) (hd : xv_kind (xv_fty ci k) = 1) : (xv_fs ad G I J a ci).set k (.long v) = xv_fs ad G I (xv_uj J a k v) a ci := by
  refine xv_range_set _ _ _ k hk _ ?_ ?_
  · simp only [xv_fv, hd, xv_uj, vp_updL, if_true]
  · intro j hj
    simp only [xv_fv, xv_uj, vp_updL, if_true, hj, if_false]
theorem xv_fs_ur {ad : Nat → Nat} {G : xv_Gr} {I : xv_I} {J : xv_J} {a ci k : Nat} {r : Option Nat} (hk : k < xv_nf ci) (hd : xv_kind (xv_fty ci k) = 2) : (xv_fs ad G I J a ci).set k (va_rf (r.map ad)) = xv_fs ad (xv_ur G a k r) I J a ci := by
  refine xv_range_set _ _ _ k hk _ ?_ ?_
  · simp only [xv_fv, hd, xv_ur, va_up, if_true]
  · intro j hj
    simp only [xv_fv, xv_ur, va_up, if_true, hj, if_false]
theorem xv_fs_len {ad : Nat → Nat} {G : xv_Gr} {I : xv_I} {J : xv_J} {a ci : Nat} : (xv_fs ad G I J a ci).length = xv_nf ci := by simp [xv_fs]
def xv_ix (i : Int32) (n j : Nat) : Prop := vp_in i n ∧ i.toNatClampNeg = j
theorem xv_ixn {j n : Nat} (h : j < n) (hn : n < 2 ^ 31) : xv_ix (nI j) n j := ⟨vp_in_nI h hn, nI_clamp (Nat.lt_trans h hn)⟩
section XV2
variable {l : Launch} {D : va_G} {d : Nat} {mt : xv_MT} {sx : xv_Sc} {pc : Nat} {ls : List (Option Value)} {st : List Value} {G : xv_Gr} {I : xv_I} {J : xv_J} {uc us : Nat} {Q : xv_Po}
theorem xv_geti {idx ci k a : Nat} {fin : Bool} (h : decode mt.2.1 pc = .ok (.getfield idx, 3)) (hf : xv_FL mt.1.cls idx ci k fin) (ho : G.1 a = some (.inl ci)) (hk : xv_kind (xv_fty ci k) = 0)
    (kk : xv_Ev l D d mt sx (pc + 3) ls (.int (I a k) :: st) G I J uc us Q) : xv_Ev l D d mt sx pc ls (.ref a :: st) G I J uc us Q := by
  intro p e R s m args below meth c A L0 ad0 C X H locs L ad ca la hC hS hE hL hst
  obtain ⟨q, hq, hw⟩ := hC.ob ho
  obtain ⟨⟨hc, hin, hty, hnm, hdk⟩, hkN, hlk, -⟩ := hf
  exact va_get (v := .int (I a k)) C.1 C.2.1 C.2.2.2.2.2.1 hin C.2.2.2.2.1 hC.K hC.2.2.1 q hw hc k hkN (C.2.2.2.2.2.1 _ hlk) (fun _ z => z) (by rw [xv_fs_get hkN]; simp only [xv_fv, hk]) h (kk p e R s m args below meth c A L0 ad0 C X H locs L ad ca la hC hS hE hL hst.tl.i)
theorem xv_getj {idx ci k a : Nat} {fin : Bool} (h : decode mt.2.1 pc = .ok (.getfield idx, 3)) (hf : xv_FL mt.1.cls idx ci k fin) (ho : G.1 a = some (.inl ci)) (hk : xv_kind (xv_fty ci k) = 1)
    (kk : xv_Ev l D d mt sx (pc + 3) ls (.long (J a k) :: st) G I J uc us Q) : xv_Ev l D d mt sx pc ls (.ref a :: st) G I J uc us Q := by
  intro p e R s m args below meth c A L0 ad0 C X H locs L ad ca la hC hS hE hL hst
  obtain ⟨q, hq, hw⟩ := hC.ob ho
  obtain ⟨⟨hc, hin, hty, hnm, hdk⟩, hkN, hlk, -⟩ := hf
  exact va_get (v := .long (J a k)) C.1 C.2.1 C.2.2.2.2.2.1 hin C.2.2.2.2.1 hC.K hC.2.2.1 q hw hc k hkN (C.2.2.2.2.2.1 _ hlk) (fun _ z => z) (by rw [xv_fs_get hkN]; simp only [xv_fv, hk]) h (kk p e R s m args below meth c A L0 ad0 C X H locs L ad ca la hC hS hE hL hst.tl.l)
theorem xv_getr {idx ci k a b : Nat} {fin : Bool} (h : decode mt.2.1 pc = .ok (.getfield idx, 3)) (hf : xv_FL mt.1.cls idx ci k fin) (ho : G.1 a = some (.inl ci)) (hk : xv_kind (xv_fty ci k) = 2) (hb : G.2 a k = some b)
    (kk : xv_Ev l D d mt sx (pc + 3) ls (.ref b :: st) G I J uc us Q) : xv_Ev l D d mt sx pc ls (.ref a :: st) G I J uc us Q := by
  intro p e R s m args below meth c A L0 ad0 C X H locs L ad ca la hC hS hE hL hst
  obtain ⟨q, hq, hw⟩ := hC.ob ho
  obtain ⟨⟨hc, hin, hty, hnm, hdk⟩, hkN, hlk, -⟩ := hf
  exact va_get (v := .ref (ad b)) C.1 C.2.1 C.2.2.2.2.2.1 hin C.2.2.2.2.1 hC.K hC.2.2.1 q hw hc k hkN (C.2.2.2.2.2.1 _ hlk) (fun _ z => z) (by rw [xv_fs_get hkN]; simp only [xv_fv, hk, hb, Option.map_some, va_rf]) h (kk p e R s m args below meth c A L0 ad0 C X H locs L ad ca la hC hS hE hL (hst.tl.co (xv_ok_ref (hC.refs (by rw [ho]; exact fun z => by cases z) hb))))
theorem xv_puti {idx ci k a : Nat} {v : Int32} (h : decode mt.2.1 pc = .ok (.putfield idx, 3)) (hf : xv_FL mt.1.cls idx ci k false) (ho : G.1 a = some (.inl ci)) (hk : xv_kind (xv_fty ci k) = 0) (hn : narrow (xv_fty ci k) (.int v) = .int v) (hfit : fits (xv_fty ci k) (.int v) = true)
    (kk : xv_Ev l D d mt sx (pc + 3) ls st G (xv_ui I a k v) J uc us Q) : xv_Ev l D d mt sx pc ls (.int v :: .ref a :: st) G I J uc us Q := by
  intro p e R s m args below meth c A L0 ad0 C X H locs L ad ca la hC hS hE hL hst
  obtain ⟨q, hq, hw⟩ := hC.ob ho
  obtain ⟨⟨hc, hin, hty, hnm, hdk⟩, hkN, hlk, hfi⟩ := hf
  refine va_put C.1 C.2.1 C.2.2.2.2.2.1 hin (xv_fty ci) hty hnm C.2.2.2.2.1 hC.K hC.2.2.1 hC.2.2.2.1 hS q hw hc k hkN (C.2.2.2.2.2.1 _ hlk) (fun _ z => z) hfi (v := .int v) (hty k hkN) hn hfit (by rw [xv_fs_len]; exact hkN) h (fun H1 locs1 hP hD hS1 => ?_)
  have e0 : xv_cell ad ca G (xv_ui I a k v) J a = .inr (ci, (xv_fs ad G I J a ci).set k (.int v)) := by simp only [xv_cell, ho]; rw [xv_fs_ui hkN hk]
  exact kk p e R s m args below meth c A L0 ad0 C X H1 locs1 L ad ca la (hC.wr hq rfl (fun _ _ => rfl) (fun b hb => xv_ui_ne hb) (fun _ _ => rfl) (fun k x hx => hC.refs (by rw [ho]; exact fun z => by cases z) hx) (by rw [e0]; exact hP) (by rw [e0]; exact hD)) hS1 hE hL hst.tl.tl
theorem xv_putiF {idx ci k a : Nat} {v : Int32} (h : decode mt.2.1 pc = .ok (.putfield idx, 3)) (hf : xv_FL mt.1.cls idx ci k true) (hnm2 : mt.1.name = "<init>") (hd : ((xv_cls ci).2.1 k).1 = mt.1.cls) (ho : G.1 a = some (.inl ci)) (hk : xv_kind (xv_fty ci k) = 0) (hn : narrow (xv_fty ci k) (.int v) = .int v) (hfit : fits (xv_fty ci k) (.int v) = true)
    (kk : xv_Ev l D d mt sx (pc + 3) ls st G (xv_ui I a k v) J uc us Q) : xv_Ev l D d mt sx pc ls (.int v :: .ref a :: st) G I J uc us Q := by
  intro p e R s m args below meth c A L0 ad0 C X H locs L ad ca la hC hS hE hL hst
  obtain ⟨q, hq, hw⟩ := hC.ob ho
  obtain ⟨⟨hc, hin, hty, hnm, hdk⟩, hkN, hlk, hfi⟩ := hf
  refine va_putF C.1 C.2.1 C.2.2.2.2.2.1 hin (xv_fty ci) hty hnm C.2.2.2.2.1 hC.K hC.2.2.1 hC.2.2.2.1 hS q hw hc k hkN (C.2.2.2.2.2.1 _ hlk) (fun _ z => z) hfi (C.2.2.2.2.2.2.2.1.1 hnm2) hd (v := .int v) (hty k hkN) hn hfit (by rw [xv_fs_len]; exact hkN) h (fun H1 locs1 hP hD hS1 => ?_)
  have e0 : xv_cell ad ca G (xv_ui I a k v) J a = .inr (ci, (xv_fs ad G I J a ci).set k (.int v)) := by simp only [xv_cell, ho]; rw [xv_fs_ui hkN hk]
  exact kk p e R s m args below meth c A L0 ad0 C X H1 locs1 L ad ca la (hC.wr hq rfl (fun _ _ => rfl) (fun b hb => xv_ui_ne hb) (fun _ _ => rfl) (fun k x hx => hC.refs (by rw [ho]; exact fun z => by cases z) hx) (by rw [e0]; exact hP) (by rw [e0]; exact hD)) hS1 hE hL hst.tl.tl
theorem xv_putj {idx ci k a : Nat} {v : Int64} (h : decode mt.2.1 pc = .ok (.putfield idx, 3)) (hf : xv_FL mt.1.cls idx ci k false) (ho : G.1 a = some (.inl ci)) (hty0 : xv_fty ci k = .long)
    (kk : xv_Ev l D d mt sx (pc + 3) ls st G I (xv_uj J a k v) uc us Q) : xv_Ev l D d mt sx pc ls (.long v :: .ref a :: st) G I J uc us Q := by
  intro p e R s m args below meth c A L0 ad0 C X H locs L ad ca la hC hS hE hL hst
  obtain ⟨q, hq, hw⟩ := hC.ob ho
  obtain ⟨⟨hc, hin, hty, hnm, hdk⟩, hkN, hlk, hfi⟩ := hf
  refine va_put C.1 C.2.1 C.2.2.2.2.2.1 hin (xv_fty ci) hty hnm C.2.2.2.2.1 hC.K hC.2.2.1 hC.2.2.2.1 hS q hw hc k hkN (C.2.2.2.2.2.1 _ hlk) (fun _ z => z) hfi (v := .long v) (hty k hkN) (by rw [hty0]; rfl) (by rw [hty0]; rfl) (by rw [xv_fs_len]; exact hkN) h (fun H1 locs1 hP hD hS1 => ?_)
  have e0 : xv_cell ad ca G I (xv_uj J a k v) a = .inr (ci, (xv_fs ad G I J a ci).set k (.long v)) := by simp only [xv_cell, ho]; rw [xv_fs_uj hkN (by rw [hty0]; rfl)]
  exact kk p e R s m args below meth c A L0 ad0 C X H1 locs1 L ad ca la (hC.wr hq rfl (fun _ _ => rfl) (fun _ _ => rfl) (fun b hb => xv_uj_ne hb) (fun k x hx => hC.refs (by rw [ho]; exact fun z => by cases z) hx) (by rw [e0]; exact hP) (by rw [e0]; exact hD)) hS1 hE hL hst.tl.tl
theorem xv_putrF {idx ci k a b : Nat} (h : decode mt.2.1 pc = .ok (.putfield idx, 3)) (hf : xv_FL mt.1.cls idx ci k true) (hnm2 : mt.1.name = "<init>") (hd : ((xv_cls ci).2.1 k).1 = mt.1.cls) (ho : G.1 a = some (.inl ci)) (hk : xv_kind (xv_fty ci k) = 2) (hb : G.1 b ≠ none)
    (kk : xv_Ev l D d mt sx (pc + 3) ls st (xv_ur G a k (some b)) I J uc us Q) : xv_Ev l D d mt sx pc ls (.ref b :: .ref a :: st) G I J uc us Q := by
  intro p e R s m args below meth c A L0 ad0 C X H locs L ad ca la hC hS hE hL hst
  obtain ⟨q, hq, hw⟩ := hC.ob ho
  obtain ⟨⟨hc, hin, hty, hnm, hdk⟩, hkN, hlk, hfi⟩ := hf
  refine va_putF C.1 C.2.1 C.2.2.2.2.2.1 hin (xv_fty ci) hty hnm C.2.2.2.2.1 hC.K hC.2.2.1 hC.2.2.2.1 hS q hw hc k hkN (C.2.2.2.2.2.1 _ hlk) (fun _ z => z) hfi (C.2.2.2.2.2.2.2.1.1 hnm2) hd (v := .ref (ad b)) (hty k hkN) ?_ ?_ (by rw [xv_fs_len]; exact hkN) h (fun H1 locs1 hP hD hS1 => ?_)
  · generalize xv_fty ci k = ty at hk
    cases ty <;> first | rfl | cases hk
  · generalize xv_fty ci k = ty at hk
    cases ty <;> first | rfl | cases hk
  have e0 : xv_cell ad ca (xv_ur G a k (some b)) I J a = .inr (ci, (xv_fs ad G I J a ci).set k (.ref (ad b))) := by
    have : (xv_ur G a k (some b)).1 a = some (.inl ci) := ho
    simp only [xv_cell, this]
    rw [← xv_fs_ur hkN hk]
    rfl
  refine kk p e R s m args below meth c A L0 ad0 C X H1 locs1 L ad ca la (hC.wr hq rfl (fun b hb => xv_ur_ne hb) (fun _ _ => rfl) (fun _ _ => rfl) (fun k2 x hx => ?_) (by rw [e0]; exact hP) (by rw [e0]; exact hD)) hS1 hE hL hst.tl.tl
  rw [xv_ur_eq] at hx
  by_cases e : k2 = k
  · rw [e, va_up_self] at hx
    cases hx
    exact hb
  · simp only [va_up, e, if_false] at hx
    exact hC.refs (by rw [ho]; exact fun z => by cases z) hx
theorem xv_iaload {a n j : Nat} {i : Int32} (h : decode mt.2.1 pc = .ok (.iaload, 1)) (ho : G.1 a = some (.inr (0, n))) (hi : xv_ix i n j)
    (kk : xv_Ev l D d mt sx (pc + 1) ls (.int (I a j) :: st) G I J uc us Q) : xv_Ev l D d mt sx pc ls (.int i :: .ref a :: st) G I J uc us Q := by
  intro p e R s m args below meth c A L0 ad0 C X H locs L ad ca la hC hS hE hL hst
  obtain ⟨q, hq, hw⟩ := hC.arr ho
  obtain ⟨hin, rfl⟩ := hi
  exact va_iald C.1 C.2.1 (hC.Ka ho) hC.2.2.1 q 0 hw rfl hin h (kk p e R s m args below meth c A L0 ad0 C X H locs L ad ca la hC hS hE hL hst.tl.tl.i)
theorem xv_baload {a n j : Nat} {i : Int32} (h : decode mt.2.1 pc = .ok (.baload, 1)) (ho : G.1 a = some (.inr (1, n))) (hi : xv_ix i n j)
    (kk : xv_Ev l D d mt sx (pc + 1) ls (.int (I a j) :: st) G I J uc us Q) : xv_Ev l D d mt sx pc ls (.int i :: .ref a :: st) G I J uc us Q := by
  intro p e R s m args below meth c A L0 ad0 C X H locs L ad ca la hC hS hE hL hst
  obtain ⟨q, hq, hw⟩ := hC.arr ho
  obtain ⟨hin, rfl⟩ := hi
  exact va_bald C.1 C.2.1 (hC.Ka ho) hC.2.2.1 q 0 hw rfl hin h (kk p e R s m args below meth c A L0 ad0 C X H locs L ad ca la hC hS hE hL hst.tl.tl.i)
theorem xv_zaload {a n j : Nat} {i : Int32} (h : decode mt.2.1 pc = .ok (.baload, 1)) (ho : G.1 a = some (.inr (2, n))) (hi : xv_ix i n j)
    (kk : xv_Ev l D d mt sx (pc + 1) ls (.int (I a j) :: st) G I J uc us Q) : xv_Ev l D d mt sx pc ls (.int i :: .ref a :: st) G I J uc us Q := by
  intro p e R s m args below meth c A L0 ad0 C X H locs L ad ca la hC hS hE hL hst
  obtain ⟨q, hq, hw⟩ := hC.arr ho
  obtain ⟨hin, rfl⟩ := hi
  exact va_zald C.1 C.2.1 (hC.Ka ho) hC.2.2.1 q 0 hw rfl hin h (kk p e R s m args below meth c A L0 ad0 C X H locs L ad ca la hC hS hE hL hst.tl.tl.i)
theorem xv_laload {a n j : Nat} {i : Int32} (h : decode mt.2.1 pc = .ok (.laload, 1)) (ho : G.1 a = some (.inr (3, n))) (hi : xv_ix i n j)
    (kk : xv_Ev l D d mt sx (pc + 1) ls (.long (J a j) :: st) G I J uc us Q) : xv_Ev l D d mt sx pc ls (.int i :: .ref a :: st) G I J uc us Q := by
  intro p e R s m args below meth c A L0 ad0 C X H locs L ad ca la hC hS hE hL hst
  obtain ⟨q, hq, hw⟩ := hC.arr ho
  obtain ⟨hin, rfl⟩ := hi
  exact va_lald C.1 C.2.1 (hC.Ka ho) hC.2.2.1 q 0 hw rfl hin h (kk p e R s m args below meth c A L0 ad0 C X H locs L ad ca la hC hS hE hL hst.tl.tl.l)
theorem xv_aaload {a n j ci b : Nat} {i : Int32} (h : decode mt.2.1 pc = .ok (.aaload, 1)) (ho : G.1 a = some (.inr (ci + 4, n))) (hi : xv_ix i n j) (hb : G.2 a j = some b)
    (kk : xv_Ev l D d mt sx (pc + 1) ls (.ref b :: st) G I J uc us Q) : xv_Ev l D d mt sx pc ls (.int i :: .ref a :: st) G I J uc us Q := by
  intro p e R s m args below meth c A L0 ad0 C X H locs L ad ca la hC hS hE hL hst
  obtain ⟨q, hq, hw⟩ := hC.arr ho
  obtain ⟨hin, rfl⟩ := hi
  refine va_aldq C.1 C.2.1 (hC.Ka ho) hC.2.2.1 q 0 hw rfl hin h ?_
  rw [hb]
  exact kk p e R s m args below meth c A L0 ad0 C X H locs L ad ca la hC hS hE hL (hst.tl.tl.co (xv_ok_ref (hC.refs (by rw [ho]; exact fun z => by cases z) hb)))
theorem xv_aaloadN {a n j ci : Nat} {i : Int32} (h : decode mt.2.1 pc = .ok (.aaload, 1)) (ho : G.1 a = some (.inr (ci + 4, n))) (hi : xv_ix i n j) (hb : G.2 a j = none)
    (kk : xv_Ev l D d mt sx (pc + 1) ls (.null :: st) G I J uc us Q) : xv_Ev l D d mt sx pc ls (.int i :: .ref a :: st) G I J uc us Q := by
  intro p e R s m args below meth c A L0 ad0 C X H locs L ad ca la hC hS hE hL hst
  obtain ⟨q, hq, hw⟩ := hC.arr ho
  obtain ⟨hin, rfl⟩ := hi
  refine va_aldq C.1 C.2.1 (hC.Ka ho) hC.2.2.1 q 0 hw rfl hin h ?_
  rw [hb]
  exact kk p e R s m args below meth c A L0 ad0 C X H locs L ad ca la hC hS hE hL (hst.tl.tl.co xv_ok_null)
theorem xv_iastore {a n j : Nat} {i x : Int32} (h : decode mt.2.1 pc = .ok (.iastore, 1)) (ho : G.1 a = some (.inr (0, n))) (hi : xv_ix i n j)
    (kk : xv_Ev l D d mt sx (pc + 1) ls st G (xv_ui I a j x) J uc us Q) : xv_Ev l D d mt sx pc ls (.int x :: .int i :: .ref a :: st) G I J uc us Q := by
  intro p e R s m args below meth c A L0 ad0 C X H locs L ad ca la hC hS hE hL hst
  obtain ⟨q, hq, hw⟩ := hC.arr ho
  obtain ⟨hin, rfl⟩ := hi
  refine va_iast C.1 C.2.1 (hC.Ka ho) hC.2.2.1 hC.2.2.2.1 hS q 0 hw rfl hin h (fun H1 locs1 hP hD hS1 => ?_)
  have e0 : xv_cell ad ca G (xv_ui I a i.toNatClampNeg x) J a = .inl (ca a, n, .inl (upd (I a) i.toNatClampNeg x)) := by simp only [xv_cell, ho, xv_ar, xv_ui_eq]
  exact kk p e R s m args below meth c A L0 ad0 C X H1 locs1 L ad ca la (hC.wr hq rfl (fun _ _ => rfl) (fun b hb => xv_ui_ne hb) (fun _ _ => rfl) (fun k x hx => hC.refs (by rw [ho]; exact fun z => by cases z) hx) (by rw [e0]; exact hP) (by rw [e0]; exact hD)) hS1 hE hL hst.tl.tl.tl
theorem xv_bastore {a n j : Nat} {i x v : Int32} (h : decode mt.2.1 pc = .ok (.bastore, 1)) (ho : G.1 a = some (.inr (1, n))) (hi : xv_ix i n j) (hv : vp_nar .byte x = v)
    (kk : xv_Ev l D d mt sx (pc + 1) ls st G (xv_ui I a j v) J uc us Q) : xv_Ev l D d mt sx pc ls (.int x :: .int i :: .ref a :: st) G I J uc us Q := by
  subst hv
  intro p e R s m args below meth c A L0 ad0 C X H locs L ad ca la hC hS hE hL hst
  obtain ⟨q, hq, hw⟩ := hC.arr ho
  obtain ⟨hin, rfl⟩ := hi
  refine va_bast C.1 C.2.1 (hC.Ka ho) hC.2.2.1 hC.2.2.2.1 hS q 0 hw rfl hin h (fun H1 locs1 hP hD hS1 => ?_)
  have e0 : xv_cell ad ca G (xv_ui I a i.toNatClampNeg (vp_nar .byte x)) J a = .inl (ca a, n, .inl (upd (I a) i.toNatClampNeg (vp_nar .byte x))) := by simp only [xv_cell, ho, xv_ar, xv_ui_eq]
  exact kk p e R s m args below meth c A L0 ad0 C X H1 locs1 L ad ca la (hC.wr hq rfl (fun _ _ => rfl) (fun b hb => xv_ui_ne hb) (fun _ _ => rfl) (fun k x hx => hC.refs (by rw [ho]; exact fun z => by cases z) hx) (by rw [e0]; exact hP) (by rw [e0]; exact hD)) hS1 hE hL hst.tl.tl.tl
theorem xv_zastore {a n j : Nat} {i x v : Int32} (h : decode mt.2.1 pc = .ok (.bastore, 1)) (ho : G.1 a = some (.inr (2, n))) (hi : xv_ix i n j) (hv : vp_nar .boolean x = v)
    (kk : xv_Ev l D d mt sx (pc + 1) ls st G (xv_ui I a j v) J uc us Q) : xv_Ev l D d mt sx pc ls (.int x :: .int i :: .ref a :: st) G I J uc us Q := by
  subst hv
  intro p e R s m args below meth c A L0 ad0 C X H locs L ad ca la hC hS hE hL hst
  obtain ⟨q, hq, hw⟩ := hC.arr ho
  obtain ⟨hin, rfl⟩ := hi
  refine va_zast C.1 C.2.1 (hC.Ka ho) hC.2.2.1 hC.2.2.2.1 hS q 0 hw rfl hin h (fun H1 locs1 hP hD hS1 => ?_)
  have e0 : xv_cell ad ca G (xv_ui I a i.toNatClampNeg (vp_nar .boolean x)) J a = .inl (ca a, n, .inl (upd (I a) i.toNatClampNeg (vp_nar .boolean x))) := by simp only [xv_cell, ho, xv_ar, xv_ui_eq]
  exact kk p e R s m args below meth c A L0 ad0 C X H1 locs1 L ad ca la (hC.wr hq rfl (fun _ _ => rfl) (fun b hb => xv_ui_ne hb) (fun _ _ => rfl) (fun k x hx => hC.refs (by rw [ho]; exact fun z => by cases z) hx) (by rw [e0]; exact hP) (by rw [e0]; exact hD)) hS1 hE hL hst.tl.tl.tl
theorem xv_lastore {a n j : Nat} {i : Int32} {x : Int64} (h : decode mt.2.1 pc = .ok (.lastore, 1)) (ho : G.1 a = some (.inr (3, n))) (hi : xv_ix i n j)
    (kk : xv_Ev l D d mt sx (pc + 1) ls st G I (xv_uj J a j x) uc us Q) : xv_Ev l D d mt sx pc ls (.long x :: .int i :: .ref a :: st) G I J uc us Q := by
  intro p e R s m args below meth c A L0 ad0 C X H locs L ad ca la hC hS hE hL hst
  obtain ⟨q, hq, hw⟩ := hC.arr ho
  obtain ⟨hin, rfl⟩ := hi
  refine va_last C.1 C.2.1 (hC.Ka ho) hC.2.2.1 hC.2.2.2.1 hS q 0 hw rfl hin h (fun H1 locs1 hP hD hS1 => ?_)
  have e0 : xv_cell ad ca G I (xv_uj J a i.toNatClampNeg x) a = .inl (ca a, n, .inr (.inl (vp_updL (J a) i.toNatClampNeg x))) := by simp only [xv_cell, ho, xv_ar, xv_uj_eq]
  exact kk p e R s m args below meth c A L0 ad0 C X H1 locs1 L ad ca la (hC.wr hq rfl (fun _ _ => rfl) (fun _ _ => rfl) (fun b hb => xv_uj_ne hb) (fun k x hx => hC.refs (by rw [ho]; exact fun z => by cases z) hx) (by rw [e0]; exact hP) (by rw [e0]; exact hD)) hS1 hE hL hst.tl.tl.tl
theorem xv_aastore {a n j ci b : Nat} {i : Int32} (h : decode mt.2.1 pc = .ok (.aastore, 1)) (ho : G.1 a = some (.inr (ci + 4, n))) (hci : xv_CI ci) (hi : xv_ix i n j) (hb : G.1 b = some (.inl ci))
    (kk : xv_Ev l D d mt sx (pc + 1) ls st (xv_ur G a j (some b)) I J uc us Q) : xv_Ev l D d mt sx pc ls (.ref b :: .int i :: .ref a :: st) G I J uc us Q := by
  intro p e R s m args below meth c A L0 ad0 C X H locs L ad ca la hC hS hE hL hst
  obtain ⟨q, hq, hw⟩ := hC.arr ho
  obtain ⟨q2, hq2, hw2⟩ := hC.ob hb
  obtain ⟨hin, rfl⟩ := hi
  refine va_astq C.1 C.2.1 (hC.Ka ho) hC.2.2.1 hC.2.2.2.1 hS q 0 q2 ci hw rfl hw2 hci.1 hin h (fun H1 locs1 hP hD hS1 => ?_)
  have e0 : xv_cell ad ca (xv_ur G a i.toNatClampNeg (some b)) I J a = .inl (ca a, n, .inr (.inr (.inr (.inr (va_up (fun i => (G.2 a i).map ad) i.toNatClampNeg (some (ad b))))))) := by
    have h1 : (xv_ur G a i.toNatClampNeg (some b)).1 a = some (.inr (ci + 4, n)) := ho
    simp only [xv_cell, h1, xv_ar, xv_ur_eq]
    have h2 : (fun k => Option.map ad (va_up (G.2 a) i.toNatClampNeg (some b) k)) = va_up (fun i => (G.2 a i).map ad) i.toNatClampNeg (some (ad b)) := by
      funext k
      by_cases e : k = i.toNatClampNeg
      · simp [va_up, e]
      · simp [va_up, e]
    rw [h2]
  refine kk p e R s m args below meth c A L0 ad0 C X H1 locs1 L ad ca la (hC.wr hq rfl (fun b hb => xv_ur_ne hb) (fun _ _ => rfl) (fun _ _ => rfl) (fun k2 x hx => ?_) (by rw [e0]; exact hP) (by rw [e0]; exact hD)) hS1 hE hL hst.tl.tl.tl
  rw [xv_ur_eq] at hx
  by_cases e : k2 = i.toNatClampNeg
  · rw [e, va_up_self] at hx
    cases hx
    rw [hb]
    exact fun z => by cases z
  · simp only [va_up, e, if_false] at hx
    exact hC.refs (by rw [ho]; exact fun z => by cases z) hx
/-- the law's script -/
theorem xv_sld {n j : Nat} {xs : Nat → Int32} {i : Int32} (h : decode mt.2.1 pc = .ok (.iaload, 1)) (hi : xv_ix i n j)
    (kk : xv_Ev l D d mt (some (n, xs)) (pc + 1) ls (.int (xs j) :: st) G I J uc us Q) : xv_Ev l D d mt (some (n, xs)) pc ls (.int i :: .ref xv_SC :: st) G I J uc us Q := by
  intro p e R s m args below meth c A L0 ad0 C X H locs L ad ca la hC hS hE hL hst
  obtain ⟨hX, hbl, hbA⟩ := X n xs rfl
  obtain ⟨hin, rfl⟩ := hi
  have e0 : (Value.int i :: Value.ref xv_SC :: st).map (xv_c ad) = .int i :: .ref (ad0 xv_SC) :: st.map (xv_c ad) := by
    rw [← hE.2]
    rfl
  rw [e0]
  exact va_sld C.1 C.2.1 hX hbl hbA hS hin h (kk p e R s m args below meth c A L0 ad0 C X H locs L ad ca la hC hS hE hL hst.tl.tl.i)
theorem xv_slen {n : Nat} {xs : Nat → Int32} (h : decode mt.2.1 pc = .ok (.arraylength, 1))
    (kk : xv_Ev l D d mt (some (n, xs)) (pc + 1) ls (.int (nI n) :: st) G I J uc us Q) : xv_Ev l D d mt (some (n, xs)) pc ls (.ref xv_SC :: st) G I J uc us Q := by
  intro p e R s m args below meth c A L0 ad0 C X H locs L ad ca la hC hS hE hL hst
  obtain ⟨hX, hbl, hbA⟩ := X n xs rfl
  have e0 : (Value.ref xv_SC :: st).map (xv_c ad) = .ref (ad0 xv_SC) :: st.map (xv_c ad) := by
    rw [← hE.2]
    rfl
  rw [e0]
  exact va_slen C.1 C.2.1 hX hbl hbA hS h (kk p e R s m args below meth c A L0 ad0 C X H locs L ad ca la hC hS hE hL hst.tl.i)
end XV2
