section XV1
variable {l : Launch} {D : va_G} {d : Nat} {mt : xv_MT} {sx : xv_Sc} {pc : Nat} {ls : List (Option Value)} {st : List Value} {G : xv_Gr} {I : xv_I} {J : xv_J} {uc us : Nat} {Q : xv_Po}
theorem xv_iconst {n : Int} {v : Int32} (h : decode mt.2.1 pc = .ok (.iconst n, 1)) (hv : Int32.ofInt n = v)
    (k : xv_Ev l D d mt sx (pc + 1) ls (.int v :: st) G I J uc us Q) : xv_Ev l D d mt sx pc ls st G I J uc us Q := by
  intro p e R s m args below meth c A L0 ad0 C X H locs L ad ca la hC hS hE hL hst
  exact lv_iconst C.1 C.2.1 h hv (k p e R s m args below meth c A L0 ad0 C X H locs L ad ca la hC hS hE hL hst.i)
theorem xv_bipush {n : Int} {v : Int32} (h : decode mt.2.1 pc = .ok (.bipush n, 2)) (hv : (Int8.ofInt n).toInt32 = v)
    (k : xv_Ev l D d mt sx (pc + 2) ls (.int v :: st) G I J uc us Q) : xv_Ev l D d mt sx pc ls st G I J uc us Q := by
  intro p e R s m args below meth c A L0 ad0 C X H locs L ad ca la hC hS hE hL hst
  exact lv_bipush C.1 C.2.1 h hv (k p e R s m args below meth c A L0 ad0 C X H locs L ad ca la hC hS hE hL hst.i)
theorem xv_sipush {n : Int} {v : Int32} (h : decode mt.2.1 pc = .ok (.sipush n, 3)) (hv : (Int16.ofInt n).toInt32 = v)
    (k : xv_Ev l D d mt sx (pc + 3) ls (.int v :: st) G I J uc us Q) : xv_Ev l D d mt sx pc ls st G I J uc us Q := by
  intro p e R s m args below meth c A L0 ad0 C X H locs L ad ca la hC hS hE hL hst
  exact lv_sipush C.1 C.2.1 h hv (k p e R s m args below meth c A L0 ad0 C X H locs L ad ca la hC hS hE hL hst.i)
theorem xv_lconst {n : Fin 2} {v : Int64} (h : decode mt.2.1 pc = .ok (.lconst n, 1)) (hv : Int64.ofNat (n : Nat) = v)
    (k : xv_Ev l D d mt sx (pc + 1) ls (.long v :: st) G I J uc us Q) : xv_Ev l D d mt sx pc ls st G I J uc us Q := by
  intro p e R s m args below meth c A L0 ad0 C X H locs L ad ca la hC hS hE hL hst
  exact lv_lconst C.1 C.2.1 h hv (k p e R s m args below meth c A L0 ad0 C X H locs L ad ca la hC hS hE hL hst.l)
theorem xv_null  (h : decode mt.2.1 pc = .ok (.aconst_null, 1)) 
    (k : xv_Ev l D d mt sx (pc + 1) ls (.null :: st) G I J uc us Q) : xv_Ev l D d mt sx pc ls st G I J uc us Q := by
  intro p e R s m args below meth c A L0 ad0 C X H locs L ad ca la hC hS hE hL hst
  exact lv_null C.1 C.2.1 h (k p e R s m args below meth c A L0 ad0 C X H locs L ad ca la hC hS hE hL (hst.co xv_ok_null))
theorem xv_ldc {i : Nat} {v : Int32} (h : decode mt.2.1 pc = .ok (.ldc i, 2)) (hw : Jvm.Cond.constant mt.1.cls i v ∈ xv_tb)
    (k : xv_Ev l D d mt sx (pc + 2) ls (.int v :: st) G I J uc us Q) : xv_Ev l D d mt sx pc ls st G I J uc us Q := by
  intro p e R s m args below meth c A L0 ad0 C X H locs L ad ca la hC hS hE hL hst
  exact lv_ldc C.1 C.2.1 C.2.2.2.2.1 (C.2.2.2.2.2.1 _ hw) h (k p e R s m args below meth c A L0 ad0 C X H locs L ad ca la hC hS hE hL hst.i)
theorem xv_ldcw {i : Nat} {v : Int32} (h : decode mt.2.1 pc = .ok (.ldc_w i, 3)) (hw : Jvm.Cond.constant mt.1.cls i v ∈ xv_tb)
    (k : xv_Ev l D d mt sx (pc + 3) ls (.int v :: st) G I J uc us Q) : xv_Ev l D d mt sx pc ls st G I J uc us Q := by
  intro p e R s m args below meth c A L0 ad0 C X H locs L ad ca la hC hS hE hL hst
  exact lv_ldcw C.1 C.2.1 C.2.2.2.2.1 (C.2.2.2.2.2.1 _ hw) h (k p e R s m args below meth c A L0 ad0 C X H locs L ad ca la hC hS hE hL hst.i)
theorem xv_ldc2 {i : Nat} {v : Int64} (h : decode mt.2.1 pc = .ok (.ldc2_w i, 3)) (hw : Jvm.Cond.constantLong mt.1.cls i v ∈ xv_tb)
    (k : xv_Ev l D d mt sx (pc + 3) ls (.long v :: st) G I J uc us Q) : xv_Ev l D d mt sx pc ls st G I J uc us Q := by
  intro p e R s m args below meth c A L0 ad0 C X H locs L ad ca la hC hS hE hL hst
  exact lv_ldc2 C.1 C.2.1 C.2.2.2.2.1 (C.2.2.2.2.2.1 _ hw) h (k p e R s m args below meth c A L0 ad0 C X H locs L ad ca la hC hS hE hL hst.l)
theorem xv_iload_n {j : Fin 4} {i : Nat} {x : Int32} (h : decode mt.2.1 pc = .ok (.iload_n j, 1)) (hi : (j : Nat) = i) (hl : xv_g ls i = some (.int x))
    (k : xv_Ev l D d mt sx (pc + 1) ls (.int x :: st) G I J uc us Q) : xv_Ev l D d mt sx pc ls st G I J uc us Q := by
  intro p e R s m args below meth c A L0 ad0 C X H locs L ad ca la hC hS hE hL hst
  exact lv_iload_n C.1 C.2.1 h hi (hL.2.2 _ _ hl).1 (k p e R s m args below meth c A L0 ad0 C X H locs L ad ca la hC hS hE hL hst.i)
theorem xv_iload {i : Nat} {x : Int32} (h : decode mt.2.1 pc = .ok (.iload i, 2)) (hl : xv_g ls i = some (.int x))
    (k : xv_Ev l D d mt sx (pc + 2) ls (.int x :: st) G I J uc us Q) : xv_Ev l D d mt sx pc ls st G I J uc us Q := by
  intro p e R s m args below meth c A L0 ad0 C X H locs L ad ca la hC hS hE hL hst
  exact lv_iload C.1 C.2.1 h (hL.2.2 _ _ hl).1 (k p e R s m args below meth c A L0 ad0 C X H locs L ad ca la hC hS hE hL hst.i)
theorem xv_lload_n {j : Fin 4} {i : Nat} {x : Int64} (h : decode mt.2.1 pc = .ok (.lload_n j, 1)) (hi : (j : Nat) = i) (hl : xv_g ls i = some (.long x))
    (k : xv_Ev l D d mt sx (pc + 1) ls (.long x :: st) G I J uc us Q) : xv_Ev l D d mt sx pc ls st G I J uc us Q := by
  intro p e R s m args below meth c A L0 ad0 C X H locs L ad ca la hC hS hE hL hst
  exact lv_lload_n C.1 C.2.1 h hi (hL.2.2 _ _ hl).1 (k p e R s m args below meth c A L0 ad0 C X H locs L ad ca la hC hS hE hL hst.l)
theorem xv_lload {i : Nat} {x : Int64} (h : decode mt.2.1 pc = .ok (.lload i, 2)) (hl : xv_g ls i = some (.long x))
    (k : xv_Ev l D d mt sx (pc + 2) ls (.long x :: st) G I J uc us Q) : xv_Ev l D d mt sx pc ls st G I J uc us Q := by
  intro p e R s m args below meth c A L0 ad0 C X H locs L ad ca la hC hS hE hL hst
  exact lv_lload C.1 C.2.1 h (hL.2.2 _ _ hl).1 (k p e R s m args below meth c A L0 ad0 C X H locs L ad ca la hC hS hE hL hst.l)
theorem xv_aload_n {j : Fin 4} {i : Nat} {x : Nat} (h : decode mt.2.1 pc = .ok (.aload_n j, 1)) (hi : (j : Nat) = i) (hl : xv_g ls i = some (.ref x))
    (k : xv_Ev l D d mt sx (pc + 1) ls (.ref x :: st) G I J uc us Q) : xv_Ev l D d mt sx pc ls st G I J uc us Q := by
  intro p e R s m args below meth c A L0 ad0 C X H locs L ad ca la hC hS hE hL hst
  exact lv_aload_n C.1 C.2.1 h hi (hL.2.2 _ _ hl).1 (k p e R s m args below meth c A L0 ad0 C X H locs L ad ca la hC hS hE hL (hst.co (hL.2.2 _ _ hl).2))
theorem xv_aload {i : Nat} {x : Nat} (h : decode mt.2.1 pc = .ok (.aload i, 2)) (hl : xv_g ls i = some (.ref x))
    (k : xv_Ev l D d mt sx (pc + 2) ls (.ref x :: st) G I J uc us Q) : xv_Ev l D d mt sx pc ls st G I J uc us Q := by
  intro p e R s m args below meth c A L0 ad0 C X H locs L ad ca la hC hS hE hL hst
  exact lv_aload C.1 C.2.1 h (hL.2.2 _ _ hl).1 (k p e R s m args below meth c A L0 ad0 C X H locs L ad ca la hC hS hE hL (hst.co (hL.2.2 _ _ hl).2))
theorem xv_aload_nN {j : Fin 4} {i : Nat} (h : decode mt.2.1 pc = .ok (.aload_n j, 1)) (hi : (j : Nat) = i) (hl : xv_g ls i = some .null)
    (k : xv_Ev l D d mt sx (pc + 1) ls (.null :: st) G I J uc us Q) : xv_Ev l D d mt sx pc ls st G I J uc us Q := by
  intro p e R s m args below meth c A L0 ad0 C X H locs L ad ca la hC hS hE hL hst
  exact lv_aload_nN C.1 C.2.1 h hi (hL.2.2 _ _ hl).1 (k p e R s m args below meth c A L0 ad0 C X H locs L ad ca la hC hS hE hL (hst.co xv_ok_null))
theorem xv_aloadN {i : Nat} (h : decode mt.2.1 pc = .ok (.aload i, 2)) (hl : xv_g ls i = some .null)
    (k : xv_Ev l D d mt sx (pc + 2) ls (.null :: st) G I J uc us Q) : xv_Ev l D d mt sx pc ls st G I J uc us Q := by
  intro p e R s m args below meth c A L0 ad0 C X H locs L ad ca la hC hS hE hL hst
  exact lv_aloadN C.1 C.2.1 h (hL.2.2 _ _ hl).1 (k p e R s m args below meth c A L0 ad0 C X H locs L ad ca la hC hS hE hL (hst.co xv_ok_null))
theorem xv_istore_n {j : Fin 4} {i : Nat} {x : Int32} (h : decode mt.2.1 pc = .ok (.istore_n j, 1)) (hi : (j : Nat) = i) (hn : i < mt.2.2.1) (hp : xv_np ls i = true)
    (k : xv_Ev l D d mt sx (pc + 1) (xv_s ls i (some (.int x))) st G I J uc us Q) : xv_Ev l D d mt sx pc ls (.int x :: st) G I J uc us Q := by
  intro p e R s m args below meth c A L0 ad0 C X H locs L ad ca la hC hS hE hL hst
  exact lv_istore_n C.1 C.2.1 h hi hL.has hn rfl (fun la2 h2 => k p e R s m args below meth c A L0 ad0 C X H locs L ad ca la2 hC hS hE (xv_lv.st1 hL hp h2 xv_ok_int) hst.tl)
theorem xv_istore_nK {j : Fin 4} {i : Nat} {x : Int32} (h : decode mt.2.1 pc = .ok (.istore_n j, 1)) (hi : (j : Nat) = i) (hn : i < mt.2.2.1)
    (k : xv_Ev l D d mt sx (pc + 1) (xv_s (xv_s ls i (some (.int x))) (i - 1) none) st G I J uc us Q) (h0 : i ≠ 0) : xv_Ev l D d mt sx pc ls (.int x :: st) G I J uc us Q := by
  intro p e R s m args below meth c A L0 ad0 C X H locs L ad ca la hC hS hE hL hst
  exact lv_istore_n C.1 C.2.1 h hi hL.has hn rfl (fun la2 h2 => k p e R s m args below meth c A L0 ad0 C X H locs L ad ca la2 hC hS hE (xv_lv.st1K hL h0 h2 xv_ok_int) hst.tl)
theorem xv_istore {i : Nat} {x : Int32} (h : decode mt.2.1 pc = .ok (.istore i, 2)) (hn : i < mt.2.2.1) (hp : xv_np ls i = true)
    (k : xv_Ev l D d mt sx (pc + 2) (xv_s ls i (some (.int x))) st G I J uc us Q) : xv_Ev l D d mt sx pc ls (.int x :: st) G I J uc us Q := by
  intro p e R s m args below meth c A L0 ad0 C X H locs L ad ca la hC hS hE hL hst
  exact lv_istore C.1 C.2.1 h hL.has hn rfl (fun la2 h2 => k p e R s m args below meth c A L0 ad0 C X H locs L ad ca la2 hC hS hE (xv_lv.st1 hL hp h2 xv_ok_int) hst.tl)
theorem xv_istoreK {i : Nat} {x : Int32} (h : decode mt.2.1 pc = .ok (.istore i, 2)) (hn : i < mt.2.2.1)
    (k : xv_Ev l D d mt sx (pc + 2) (xv_s (xv_s ls i (some (.int x))) (i - 1) none) st G I J uc us Q) (h0 : i ≠ 0) : xv_Ev l D d mt sx pc ls (.int x :: st) G I J uc us Q := by
  intro p e R s m args below meth c A L0 ad0 C X H locs L ad ca la hC hS hE hL hst
  exact lv_istore C.1 C.2.1 h hL.has hn rfl (fun la2 h2 => k p e R s m args below meth c A L0 ad0 C X H locs L ad ca la2 hC hS hE (xv_lv.st1K hL h0 h2 xv_ok_int) hst.tl)
theorem xv_lstore_n {j : Fin 4} {i : Nat} {x : Int64} (h : decode mt.2.1 pc = .ok (.lstore_n j, 1)) (hi : (j : Nat) = i) (hn : i + 1 < mt.2.2.1) (hp : xv_np ls i = true)
    (k : xv_Ev l D d mt sx (pc + 1) (xv_s (xv_s ls i (some (.long x))) (i + 1) none) st G I J uc us Q) : xv_Ev l D d mt sx pc ls (.long x :: st) G I J uc us Q := by
  intro p e R s m args below meth c A L0 ad0 C X H locs L ad ca la hC hS hE hL hst
  exact lv_lstore_n C.1 C.2.1 h hi hL.has hn rfl (fun la2 h2 => k p e R s m args below meth c A L0 ad0 C X H locs L ad ca la2 hC hS hE (xv_lv.st2 hL hp h2 xv_ok_long) hst.tl)
theorem xv_lstore_nK {j : Fin 4} {i : Nat} {x : Int64} (h : decode mt.2.1 pc = .ok (.lstore_n j, 1)) (hi : (j : Nat) = i) (hn : i + 1 < mt.2.2.1)
    (k : xv_Ev l D d mt sx (pc + 1) (xv_s (xv_s (xv_s ls i (some (.long x))) (i + 1) none) (i - 1) none) st G I J uc us Q) (h0 : i ≠ 0) : xv_Ev l D d mt sx pc ls (.long x :: st) G I J uc us Q := by
  intro p e R s m args below meth c A L0 ad0 C X H locs L ad ca la hC hS hE hL hst
  exact lv_lstore_n C.1 C.2.1 h hi hL.has hn rfl (fun la2 h2 => k p e R s m args below meth c A L0 ad0 C X H locs L ad ca la2 hC hS hE (xv_lv.st2K hL h0 h2 xv_ok_long) hst.tl)
theorem xv_lstore {i : Nat} {x : Int64} (h : decode mt.2.1 pc = .ok (.lstore i, 2)) (hn : i + 1 < mt.2.2.1) (hp : xv_np ls i = true)
    (k : xv_Ev l D d mt sx (pc + 2) (xv_s (xv_s ls i (some (.long x))) (i + 1) none) st G I J uc us Q) : xv_Ev l D d mt sx pc ls (.long x :: st) G I J uc us Q := by
  intro p e R s m args below meth c A L0 ad0 C X H locs L ad ca la hC hS hE hL hst
  exact lv_lstore C.1 C.2.1 h hL.has hn rfl (fun la2 h2 => k p e R s m args below meth c A L0 ad0 C X H locs L ad ca la2 hC hS hE (xv_lv.st2 hL hp h2 xv_ok_long) hst.tl)
theorem xv_lstoreK {i : Nat} {x : Int64} (h : decode mt.2.1 pc = .ok (.lstore i, 2)) (hn : i + 1 < mt.2.2.1)
    (k : xv_Ev l D d mt sx (pc + 2) (xv_s (xv_s (xv_s ls i (some (.long x))) (i + 1) none) (i - 1) none) st G I J uc us Q) (h0 : i ≠ 0) : xv_Ev l D d mt sx pc ls (.long x :: st) G I J uc us Q := by
  intro p e R s m args below meth c A L0 ad0 C X H locs L ad ca la hC hS hE hL hst
  exact lv_lstore C.1 C.2.1 h hL.has hn rfl (fun la2 h2 => k p e R s m args below meth c A L0 ad0 C X H locs L ad ca la2 hC hS hE (xv_lv.st2K hL h0 h2 xv_ok_long) hst.tl)
theorem xv_astore_n {j : Fin 4} {i : Nat} {x : Nat} (h : decode mt.2.1 pc = .ok (.astore_n j, 1)) (hi : (j : Nat) = i) (hn : i < mt.2.2.1) (hp : xv_np ls i = true)
    (k : xv_Ev l D d mt sx (pc + 1) (xv_s ls i (some (.ref x))) st G I J uc us Q) : xv_Ev l D d mt sx pc ls (.ref x :: st) G I J uc us Q := by
  intro p e R s m args below meth c A L0 ad0 C X H locs L ad ca la hC hS hE hL hst
  exact lv_astore_n C.1 C.2.1 h hi hL.has hn rfl (fun la2 h2 => k p e R s m args below meth c A L0 ad0 C X H locs L ad ca la2 hC hS hE (xv_lv.st1 hL hp h2 hst.hd) hst.tl)
theorem xv_astore_nK {j : Fin 4} {i : Nat} {x : Nat} (h : decode mt.2.1 pc = .ok (.astore_n j, 1)) (hi : (j : Nat) = i) (hn : i < mt.2.2.1)
    (k : xv_Ev l D d mt sx (pc + 1) (xv_s (xv_s ls i (some (.ref x))) (i - 1) none) st G I J uc us Q) (h0 : i ≠ 0) : xv_Ev l D d mt sx pc ls (.ref x :: st) G I J uc us Q := by
  intro p e R s m args below meth c A L0 ad0 C X H locs L ad ca la hC hS hE hL hst
  exact lv_astore_n C.1 C.2.1 h hi hL.has hn rfl (fun la2 h2 => k p e R s m args below meth c A L0 ad0 C X H locs L ad ca la2 hC hS hE (xv_lv.st1K hL h0 h2 hst.hd) hst.tl)
theorem xv_astore {i : Nat} {x : Nat} (h : decode mt.2.1 pc = .ok (.astore i, 2)) (hn : i < mt.2.2.1) (hp : xv_np ls i = true)
    (k : xv_Ev l D d mt sx (pc + 2) (xv_s ls i (some (.ref x))) st G I J uc us Q) : xv_Ev l D d mt sx pc ls (.ref x :: st) G I J uc us Q := by
  intro p e R s m args below meth c A L0 ad0 C X H locs L ad ca la hC hS hE hL hst
  exact lv_astore C.1 C.2.1 h hL.has hn rfl (fun la2 h2 => k p e R s m args below meth c A L0 ad0 C X H locs L ad ca la2 hC hS hE (xv_lv.st1 hL hp h2 hst.hd) hst.tl)
theorem xv_astoreK {i : Nat} {x : Nat} (h : decode mt.2.1 pc = .ok (.astore i, 2)) (hn : i < mt.2.2.1)
    (k : xv_Ev l D d mt sx (pc + 2) (xv_s (xv_s ls i (some (.ref x))) (i - 1) none) st G I J uc us Q) (h0 : i ≠ 0) : xv_Ev l D d mt sx pc ls (.ref x :: st) G I J uc us Q := by
  intro p e R s m args below meth c A L0 ad0 C X H locs L ad ca la hC hS hE hL hst
  exact lv_astore C.1 C.2.1 h hL.has hn rfl (fun la2 h2 => k p e R s m args below meth c A L0 ad0 C X H locs L ad ca la2 hC hS hE (xv_lv.st1K hL h0 h2 hst.hd) hst.tl)
theorem xv_astore_nN {j : Fin 4} {i : Nat}  (h : decode mt.2.1 pc = .ok (.astore_n j, 1)) (hi : (j : Nat) = i) (hn : i < mt.2.2.1) (hp : xv_np ls i = true)
    (k : xv_Ev l D d mt sx (pc + 1) (xv_s ls i (some .null)) st G I J uc us Q) : xv_Ev l D d mt sx pc ls (.null :: st) G I J uc us Q := by
  intro p e R s m args below meth c A L0 ad0 C X H locs L ad ca la hC hS hE hL hst
  exact lv_astore_nN C.1 C.2.1 h hi hL.has hn rfl (fun la2 h2 => k p e R s m args below meth c A L0 ad0 C X H locs L ad ca la2 hC hS hE (xv_lv.st1 hL hp h2 xv_ok_null) hst.tl)
theorem xv_astore_nNK {j : Fin 4} {i : Nat}  (h : decode mt.2.1 pc = .ok (.astore_n j, 1)) (hi : (j : Nat) = i) (hn : i < mt.2.2.1)
    (k : xv_Ev l D d mt sx (pc + 1) (xv_s (xv_s ls i (some .null)) (i - 1) none) st G I J uc us Q) (h0 : i ≠ 0) : xv_Ev l D d mt sx pc ls (.null :: st) G I J uc us Q := by
  intro p e R s m args below meth c A L0 ad0 C X H locs L ad ca la hC hS hE hL hst
  exact lv_astore_nN C.1 C.2.1 h hi hL.has hn rfl (fun la2 h2 => k p e R s m args below meth c A L0 ad0 C X H locs L ad ca la2 hC hS hE (xv_lv.st1K hL h0 h2 xv_ok_null) hst.tl)
theorem xv_astoreN {i : Nat}  (h : decode mt.2.1 pc = .ok (.astore i, 2)) (hn : i < mt.2.2.1) (hp : xv_np ls i = true)
    (k : xv_Ev l D d mt sx (pc + 2) (xv_s ls i (some .null)) st G I J uc us Q) : xv_Ev l D d mt sx pc ls (.null :: st) G I J uc us Q := by
  intro p e R s m args below meth c A L0 ad0 C X H locs L ad ca la hC hS hE hL hst
  exact lv_astoreN C.1 C.2.1 h hL.has hn rfl (fun la2 h2 => k p e R s m args below meth c A L0 ad0 C X H locs L ad ca la2 hC hS hE (xv_lv.st1 hL hp h2 xv_ok_null) hst.tl)
theorem xv_astoreNK {i : Nat}  (h : decode mt.2.1 pc = .ok (.astore i, 2)) (hn : i < mt.2.2.1)
    (k : xv_Ev l D d mt sx (pc + 2) (xv_s (xv_s ls i (some .null)) (i - 1) none) st G I J uc us Q) (h0 : i ≠ 0) : xv_Ev l D d mt sx pc ls (.null :: st) G I J uc us Q := by
  intro p e R s m args below meth c A L0 ad0 C X H locs L ad ca la hC hS hE hL hst
  exact lv_astoreN C.1 C.2.1 h hL.has hn rfl (fun la2 h2 => k p e R s m args below meth c A L0 ad0 C X H locs L ad ca la2 hC hS hE (xv_lv.st1K hL h0 h2 xv_ok_null) hst.tl)
theorem xv_iinc {i : Nat} {n : Int} {x v : Int32} (h : decode mt.2.1 pc = .ok (.iinc i n, 3)) (hl : xv_g ls i = some (.int x)) (hv : x + Int32.ofInt n = v) (hn : i < mt.2.2.1) (hp : xv_np ls i = true)
    (k : xv_Ev l D d mt sx (pc + 3) (xv_s ls i (some (.int v))) st G I J uc us Q) : xv_Ev l D d mt sx pc ls st G I J uc us Q := by
  intro p e R s m args below meth c A L0 ad0 C X H locs L ad ca la hC hS hE hL hst
  obtain ⟨q, hq⟩ := hL.pl hl
  exact lv_iinc C.1 C.2.1 h hL.has hq hv hn rfl (fun la2 h2 => k p e R s m args below meth c A L0 ad0 C X H locs L ad ca la2 hC hS hE (xv_lv.st1 hL hp h2 xv_ok_int) hst)
theorem xv_iincK {i : Nat} {n : Int} {x v : Int32} (h : decode mt.2.1 pc = .ok (.iinc i n, 3)) (hl : xv_g ls i = some (.int x)) (hv : x + Int32.ofInt n = v) (hn : i < mt.2.2.1) (h0 : i ≠ 0)
    (k : xv_Ev l D d mt sx (pc + 3) (xv_s (xv_s ls i (some (.int v))) (i - 1) none) st G I J uc us Q) : xv_Ev l D d mt sx pc ls st G I J uc us Q := by
  intro p e R s m args below meth c A L0 ad0 C X H locs L ad ca la hC hS hE hL hst
  obtain ⟨q, hq⟩ := hL.pl hl
  exact lv_iinc C.1 C.2.1 h hL.has hq hv hn rfl (fun la2 h2 => k p e R s m args below meth c A L0 ad0 C X H locs L ad ca la2 hC hS hE (xv_lv.st1K hL h0 h2 xv_ok_int) hst)
theorem xv_iadd {x y : Int32} (h : decode mt.2.1 pc = .ok (.iadd, 1)) 
    (k : xv_Ev l D d mt sx (pc + 1) ls (.int (x + y) :: st) G I J uc us Q) : xv_Ev l D d mt sx pc ls (.int y :: .int x :: st) G I J uc us Q := by
  intro p e R s m args below meth c A L0 ad0 C X H locs L ad ca la hC hS hE hL hst
  exact lv_iadd C.1 C.2.1 h (k p e R s m args below meth c A L0 ad0 C X H locs L ad ca la hC hS hE hL hst.tl.tl.i)
theorem xv_isub {x y : Int32} (h : decode mt.2.1 pc = .ok (.isub, 1)) 
    (k : xv_Ev l D d mt sx (pc + 1) ls (.int (x - y) :: st) G I J uc us Q) : xv_Ev l D d mt sx pc ls (.int y :: .int x :: st) G I J uc us Q := by
  intro p e R s m args below meth c A L0 ad0 C X H locs L ad ca la hC hS hE hL hst
  exact lv_isub C.1 C.2.1 h (k p e R s m args below meth c A L0 ad0 C X H locs L ad ca la hC hS hE hL hst.tl.tl.i)
theorem xv_imul {x y : Int32} (h : decode mt.2.1 pc = .ok (.imul, 1)) 
    (k : xv_Ev l D d mt sx (pc + 1) ls (.int (x * y) :: st) G I J uc us Q) : xv_Ev l D d mt sx pc ls (.int y :: .int x :: st) G I J uc us Q := by
  intro p e R s m args below meth c A L0 ad0 C X H locs L ad ca la hC hS hE hL hst
  exact lv_imul C.1 C.2.1 h (k p e R s m args below meth c A L0 ad0 C X H locs L ad ca la hC hS hE hL hst.tl.tl.i)
theorem xv_iand {x y : Int32} (h : decode mt.2.1 pc = .ok (.iand, 1)) 
    (k : xv_Ev l D d mt sx (pc + 1) ls (.int (x &&& y) :: st) G I J uc us Q) : xv_Ev l D d mt sx pc ls (.int y :: .int x :: st) G I J uc us Q := by
  intro p e R s m args below meth c A L0 ad0 C X H locs L ad ca la hC hS hE hL hst
  exact lv_iand C.1 C.2.1 h (k p e R s m args below meth c A L0 ad0 C X H locs L ad ca la hC hS hE hL hst.tl.tl.i)
theorem xv_ior {x y : Int32} (h : decode mt.2.1 pc = .ok (.ior, 1)) 
    (k : xv_Ev l D d mt sx (pc + 1) ls (.int (x ||| y) :: st) G I J uc us Q) : xv_Ev l D d mt sx pc ls (.int y :: .int x :: st) G I J uc us Q := by
  intro p e R s m args below meth c A L0 ad0 C X H locs L ad ca la hC hS hE hL hst
  exact lv_ior C.1 C.2.1 h (k p e R s m args below meth c A L0 ad0 C X H locs L ad ca la hC hS hE hL hst.tl.tl.i)
theorem xv_ixor {x y : Int32} (h : decode mt.2.1 pc = .ok (.ixor, 1)) 
    (k : xv_Ev l D d mt sx (pc + 1) ls (.int (x ^^^ y) :: st) G I J uc us Q) : xv_Ev l D d mt sx pc ls (.int y :: .int x :: st) G I J uc us Q := by
  intro p e R s m args below meth c A L0 ad0 C X H locs L ad ca la hC hS hE hL hst
  exact lv_ixor C.1 C.2.1 h (k p e R s m args below meth c A L0 ad0 C X H locs L ad ca la hC hS hE hL hst.tl.tl.i)
theorem xv_ishl {x y : Int32} (h : decode mt.2.1 pc = .ok (.ishl, 1)) 
    (k : xv_Ev l D d mt sx (pc + 1) ls (.int (x <<< (y &&& 31)) :: st) G I J uc us Q) : xv_Ev l D d mt sx pc ls (.int y :: .int x :: st) G I J uc us Q := by
  intro p e R s m args below meth c A L0 ad0 C X H locs L ad ca la hC hS hE hL hst
  exact lv_ishl C.1 C.2.1 h (k p e R s m args below meth c A L0 ad0 C X H locs L ad ca la hC hS hE hL hst.tl.tl.i)
theorem xv_ishr {x y : Int32} (h : decode mt.2.1 pc = .ok (.ishr, 1)) 
    (k : xv_Ev l D d mt sx (pc + 1) ls (.int (x >>> (y &&& 31)) :: st) G I J uc us Q) : xv_Ev l D d mt sx pc ls (.int y :: .int x :: st) G I J uc us Q := by
  intro p e R s m args below meth c A L0 ad0 C X H locs L ad ca la hC hS hE hL hst
  exact lv_ishr C.1 C.2.1 h (k p e R s m args below meth c A L0 ad0 C X H locs L ad ca la hC hS hE hL hst.tl.tl.i)
theorem xv_idiv {x y : Int32} (h : decode mt.2.1 pc = .ok (.idiv, 1)) (hne : ¬ y = 0)
    (k : xv_Ev l D d mt sx (pc + 1) ls (.int (x / y) :: st) G I J uc us Q) : xv_Ev l D d mt sx pc ls (.int y :: .int x :: st) G I J uc us Q := by
  intro p e R s m args below meth c A L0 ad0 C X H locs L ad ca la hC hS hE hL hst
  exact lv_idiv C.1 C.2.1 h hne (k p e R s m args below meth c A L0 ad0 C X H locs L ad ca la hC hS hE hL hst.tl.tl.i)
theorem xv_irem {x y : Int32} (h : decode mt.2.1 pc = .ok (.irem, 1)) (hne : ¬ y = 0)
    (k : xv_Ev l D d mt sx (pc + 1) ls (.int (x - x / y * y) :: st) G I J uc us Q) : xv_Ev l D d mt sx pc ls (.int y :: .int x :: st) G I J uc us Q := by
  intro p e R s m args below meth c A L0 ad0 C X H locs L ad ca la hC hS hE hL hst
  exact lv_irem C.1 C.2.1 h hne (k p e R s m args below meth c A L0 ad0 C X H locs L ad ca la hC hS hE hL hst.tl.tl.i)
theorem xv_iushr {x y : Int32} (h : decode mt.2.1 pc = .ok (.iushr, 1)) 
    (k : xv_Ev l D d mt sx (pc + 1) ls (.int ((x.toUInt32 >>> (y.toUInt32 &&& Int32.toUInt32 31)).toInt32) :: st) G I J uc us Q) : xv_Ev l D d mt sx pc ls (.int y :: .int x :: st) G I J uc us Q := by
  intro p e R s m args below meth c A L0 ad0 C X H locs L ad ca la hC hS hE hL hst
  exact lv_iushr C.1 C.2.1 h rfl (k p e R s m args below meth c A L0 ad0 C X H locs L ad ca la hC hS hE hL hst.tl.tl.i)
theorem xv_ineg {x : Int32} (h : decode mt.2.1 pc = .ok (.ineg, 1)) 
    (k : xv_Ev l D d mt sx (pc + 1) ls (.int (-x) :: st) G I J uc us Q) : xv_Ev l D d mt sx pc ls (.int x :: st) G I J uc us Q := by
  intro p e R s m args below meth c A L0 ad0 C X H locs L ad ca la hC hS hE hL hst
  exact lv_ineg C.1 C.2.1 h (k p e R s m args below meth c A L0 ad0 C X H locs L ad ca la hC hS hE hL hst.tl.i)
theorem xv_ladd {x y : Int64} (h : decode mt.2.1 pc = .ok (.ladd, 1)) 
    (k : xv_Ev l D d mt sx (pc + 1) ls (.long (x + y) :: st) G I J uc us Q) : xv_Ev l D d mt sx pc ls (.long y :: .long x :: st) G I J uc us Q := by
  intro p e R s m args below meth c A L0 ad0 C X H locs L ad ca la hC hS hE hL hst
  exact lv_ladd C.1 C.2.1 h (k p e R s m args below meth c A L0 ad0 C X H locs L ad ca la hC hS hE hL hst.tl.tl.l)
theorem xv_lsub {x y : Int64} (h : decode mt.2.1 pc = .ok (.lsub, 1)) 
    (k : xv_Ev l D d mt sx (pc + 1) ls (.long (x - y) :: st) G I J uc us Q) : xv_Ev l D d mt sx pc ls (.long y :: .long x :: st) G I J uc us Q := by
  intro p e R s m args below meth c A L0 ad0 C X H locs L ad ca la hC hS hE hL hst
  exact lv_lsub C.1 C.2.1 h (k p e R s m args below meth c A L0 ad0 C X H locs L ad ca la hC hS hE hL hst.tl.tl.l)
theorem xv_lmul {x y : Int64} (h : decode mt.2.1 pc = .ok (.lmul, 1)) 
    (k : xv_Ev l D d mt sx (pc + 1) ls (.long (x * y) :: st) G I J uc us Q) : xv_Ev l D d mt sx pc ls (.long y :: .long x :: st) G I J uc us Q := by
  intro p e R s m args below meth c A L0 ad0 C X H locs L ad ca la hC hS hE hL hst
  exact lv_lmul C.1 C.2.1 h (k p e R s m args below meth c A L0 ad0 C X H locs L ad ca la hC hS hE hL hst.tl.tl.l)
theorem xv_land {x y : Int64} (h : decode mt.2.1 pc = .ok (.land, 1)) 
    (k : xv_Ev l D d mt sx (pc + 1) ls (.long (x &&& y) :: st) G I J uc us Q) : xv_Ev l D d mt sx pc ls (.long y :: .long x :: st) G I J uc us Q := by
  intro p e R s m args below meth c A L0 ad0 C X H locs L ad ca la hC hS hE hL hst
  exact lv_land C.1 C.2.1 h (k p e R s m args below meth c A L0 ad0 C X H locs L ad ca la hC hS hE hL hst.tl.tl.l)
theorem xv_lor {x y : Int64} (h : decode mt.2.1 pc = .ok (.lor, 1)) 
    (k : xv_Ev l D d mt sx (pc + 1) ls (.long (x ||| y) :: st) G I J uc us Q) : xv_Ev l D d mt sx pc ls (.long y :: .long x :: st) G I J uc us Q := by
  intro p e R s m args below meth c A L0 ad0 C X H locs L ad ca la hC hS hE hL hst
  exact lv_lor C.1 C.2.1 h (k p e R s m args below meth c A L0 ad0 C X H locs L ad ca la hC hS hE hL hst.tl.tl.l)
theorem xv_lxor {x y : Int64} (h : decode mt.2.1 pc = .ok (.lxor, 1)) 
    (k : xv_Ev l D d mt sx (pc + 1) ls (.long (x ^^^ y) :: st) G I J uc us Q) : xv_Ev l D d mt sx pc ls (.long y :: .long x :: st) G I J uc us Q := by
  intro p e R s m args below meth c A L0 ad0 C X H locs L ad ca la hC hS hE hL hst
  exact lv_lxor C.1 C.2.1 h (k p e R s m args below meth c A L0 ad0 C X H locs L ad ca la hC hS hE hL hst.tl.tl.l)
theorem xv_ldiv {x y : Int64} (h : decode mt.2.1 pc = .ok (.ldiv, 1)) (hne : ¬ y = 0)
    (k : xv_Ev l D d mt sx (pc + 1) ls (.long (x / y) :: st) G I J uc us Q) : xv_Ev l D d mt sx pc ls (.long y :: .long x :: st) G I J uc us Q := by
  intro p e R s m args below meth c A L0 ad0 C X H locs L ad ca la hC hS hE hL hst
  exact lv_ldiv C.1 C.2.1 h hne (k p e R s m args below meth c A L0 ad0 C X H locs L ad ca la hC hS hE hL hst.tl.tl.l)
theorem xv_lrem {x y : Int64} (h : decode mt.2.1 pc = .ok (.lrem, 1)) (hne : ¬ y = 0)
    (k : xv_Ev l D d mt sx (pc + 1) ls (.long (x - x / y * y) :: st) G I J uc us Q) : xv_Ev l D d mt sx pc ls (.long y :: .long x :: st) G I J uc us Q := by
  intro p e R s m args below meth c A L0 ad0 C X H locs L ad ca la hC hS hE hL hst
  exact lv_lrem C.1 C.2.1 h hne (k p e R s m args below meth c A L0 ad0 C X H locs L ad ca la hC hS hE hL hst.tl.tl.l)
theorem xv_lneg {x : Int64} (h : decode mt.2.1 pc = .ok (.lneg, 1)) 
    (k : xv_Ev l D d mt sx (pc + 1) ls (.long (-x) :: st) G I J uc us Q) : xv_Ev l D d mt sx pc ls (.long x :: st) G I J uc us Q := by
  intro p e R s m args below meth c A L0 ad0 C X H locs L ad ca la hC hS hE hL hst
  exact lv_lneg C.1 C.2.1 h (k p e R s m args below meth c A L0 ad0 C X H locs L ad ca la hC hS hE hL hst.tl.l)
theorem xv_lushr {x : Int64} {y : Int32} (h : decode mt.2.1 pc = .ok (.lushr, 1)) 
    (k : xv_Ev l D d mt sx (pc + 1) ls (.long ((x.toUInt64 >>> (y.toInt64.toUInt64 &&& Int64.toUInt64 63)).toInt64) :: st) G I J uc us Q) : xv_Ev l D d mt sx pc ls (.int y :: .long x :: st) G I J uc us Q := by
  intro p e R s m args below meth c A L0 ad0 C X H locs L ad ca la hC hS hE hL hst
  exact lv_lushr C.1 C.2.1 h rfl (k p e R s m args below meth c A L0 ad0 C X H locs L ad ca la hC hS hE hL hst.tl.tl.l)
theorem xv_lshl {x : Int64} {y : Int32} (h : decode mt.2.1 pc = .ok (.lshl, 1)) 
    (k : xv_Ev l D d mt sx (pc + 1) ls (.long (x <<< (y.toInt64 &&& 63)) :: st) G I J uc us Q) : xv_Ev l D d mt sx pc ls (.int y :: .long x :: st) G I J uc us Q := by
  intro p e R s m args below meth c A L0 ad0 C X H locs L ad ca la hC hS hE hL hst
  exact lv_lshl C.1 C.2.1 h rfl (k p e R s m args below meth c A L0 ad0 C X H locs L ad ca la hC hS hE hL hst.tl.tl.l)
theorem xv_lshr {x : Int64} {y : Int32} (h : decode mt.2.1 pc = .ok (.lshr, 1)) 
    (k : xv_Ev l D d mt sx (pc + 1) ls (.long (x >>> (y.toInt64 &&& 63)) :: st) G I J uc us Q) : xv_Ev l D d mt sx pc ls (.int y :: .long x :: st) G I J uc us Q := by
  intro p e R s m args below meth c A L0 ad0 C X H locs L ad ca la hC hS hE hL hst
  exact lv_lshr C.1 C.2.1 h rfl (k p e R s m args below meth c A L0 ad0 C X H locs L ad ca la hC hS hE hL hst.tl.tl.l)
theorem xv_i2l {x : Int32} (h : decode mt.2.1 pc = .ok (.i2l, 1)) 
    (k : xv_Ev l D d mt sx (pc + 1) ls (.long x.toInt64 :: st) G I J uc us Q) : xv_Ev l D d mt sx pc ls (.int x :: st) G I J uc us Q := by
  intro p e R s m args below meth c A L0 ad0 C X H locs L ad ca la hC hS hE hL hst
  exact lv_i2l C.1 C.2.1 h rfl (k p e R s m args below meth c A L0 ad0 C X H locs L ad ca la hC hS hE hL hst.tl.l)
theorem xv_l2i {x : Int64} (h : decode mt.2.1 pc = .ok (.l2i, 1)) 
    (k : xv_Ev l D d mt sx (pc + 1) ls (.int x.toInt32 :: st) G I J uc us Q) : xv_Ev l D d mt sx pc ls (.long x :: st) G I J uc us Q := by
  intro p e R s m args below meth c A L0 ad0 C X H locs L ad ca la hC hS hE hL hst
  exact lv_l2i C.1 C.2.1 h rfl (k p e R s m args below meth c A L0 ad0 C X H locs L ad ca la hC hS hE hL hst.tl.i)
theorem xv_i2b {x : Int32} (h : decode mt.2.1 pc = .ok (.i2b, 1)) 
    (k : xv_Ev l D d mt sx (pc + 1) ls (.int x.toInt8.toInt32 :: st) G I J uc us Q) : xv_Ev l D d mt sx pc ls (.int x :: st) G I J uc us Q := by
  intro p e R s m args below meth c A L0 ad0 C X H locs L ad ca la hC hS hE hL hst
  exact lv_i2b C.1 C.2.1 h rfl (k p e R s m args below meth c A L0 ad0 C X H locs L ad ca la hC hS hE hL hst.tl.i)
theorem xv_lcmp {x y : Int64} (h : decode mt.2.1 pc = .ok (.lcmp, 1)) 
    (k : xv_Ev l D d mt sx (pc + 1) ls (.int (lg_cmp x y) :: st) G I J uc us Q) : xv_Ev l D d mt sx pc ls (.long y :: .long x :: st) G I J uc us Q := by
  intro p e R s m args below meth c A L0 ad0 C X H locs L ad ca la hC hS hE hL hst
  exact W.lcmp C.1 C.2.1 h (k p e R s m args below meth c A L0 ad0 C X H locs L ad ca la hC hS hE hL hst.tl.tl.i)
theorem xv_dup {v : Value} (h : decode mt.2.1 pc = .ok (.dup, 1)) (hc : v.category = 1)
    (k : xv_Ev l D d mt sx (pc + 1) ls (v :: v :: st) G I J uc us Q) : xv_Ev l D d mt sx pc ls (v :: st) G I J uc us Q := by
  intro p e R s m args below meth c A L0 ad0 C X H locs L ad ca la hC hS hE hL hst
  exact lv_dup C.1 C.2.1 h ((xv_c_cat ad v).trans hc) (k p e R s m args below meth c A L0 ad0 C X H locs L ad ca la hC hS hE hL (hst.co hst.hd))
theorem xv_pop {v : Value} (h : decode mt.2.1 pc = .ok (.pop, 1)) (hc : v.category = 1)
    (k : xv_Ev l D d mt sx (pc + 1) ls st G I J uc us Q) : xv_Ev l D d mt sx pc ls (v :: st) G I J uc us Q := by
  intro p e R s m args below meth c A L0 ad0 C X H locs L ad ca la hC hS hE hL hst
  exact lv_pop C.1 C.2.1 h ((xv_c_cat ad v).trans hc) (k p e R s m args below meth c A L0 ad0 C X H locs L ad ca la hC hS hE hL hst.tl)
theorem xv_dup2 {v w : Value} (h : decode mt.2.1 pc = .ok (.dup2, 1)) (hc : v.category = 1) (hc2 : w.category = 1)
    (k : xv_Ev l D d mt sx (pc + 1) ls (v :: w :: v :: w :: st) G I J uc us Q) : xv_Ev l D d mt sx pc ls (v :: w :: st) G I J uc us Q := by
  intro p e R s m args below meth c A L0 ad0 C X H locs L ad ca la hC hS hE hL hst
  exact lv_dup2_11 C.1 C.2.1 h ((xv_c_cat ad v).trans hc) ((xv_c_cat ad w).trans hc2) (k p e R s m args below meth c A L0 ad0 C X H locs L ad ca la hC hS hE hL ((hst.co hst.tl.hd).co hst.hd))
theorem xv_if_eq {x : Int32} {off : Int} {tgt : Nat} (h : decode mt.2.1 pc = .ok (.ifCond .eq off, 3)) (ht : (pc : Int) + off = (tgt : Int))
    (kt : x = 0 → xv_Ev l D d mt sx tgt ls st G I J uc us Q) (kf : ¬ x = 0 → xv_Ev l D d mt sx (pc + 3) ls st G I J uc us Q) : xv_Ev l D d mt sx pc ls (.int x :: st) G I J uc us Q := by
  intro p e R s m args below meth c A L0 ad0 C X H locs L ad ca la hC hS hE hL hst
  exact lv_if_eq C.1 C.2.1 h ht (fun z => kt z p e R s m args below meth c A L0 ad0 C X H locs L ad ca la hC hS hE hL hst.tl) (fun z => kf z p e R s m args below meth c A L0 ad0 C X H locs L ad ca la hC hS hE hL hst.tl)
theorem xv_if_ne {x : Int32} {off : Int} {tgt : Nat} (h : decode mt.2.1 pc = .ok (.ifCond .ne off, 3)) (ht : (pc : Int) + off = (tgt : Int))
    (kt : ¬ x = 0 → xv_Ev l D d mt sx tgt ls st G I J uc us Q) (kf : x = 0 → xv_Ev l D d mt sx (pc + 3) ls st G I J uc us Q) : xv_Ev l D d mt sx pc ls (.int x :: st) G I J uc us Q := by
  intro p e R s m args below meth c A L0 ad0 C X H locs L ad ca la hC hS hE hL hst
  exact lv_if_ne C.1 C.2.1 h ht (fun z => kt z p e R s m args below meth c A L0 ad0 C X H locs L ad ca la hC hS hE hL hst.tl) (fun z => kf z p e R s m args below meth c A L0 ad0 C X H locs L ad ca la hC hS hE hL hst.tl)
theorem xv_if_lt {x : Int32} {off : Int} {tgt : Nat} (h : decode mt.2.1 pc = .ok (.ifCond .lt off, 3)) (ht : (pc : Int) + off = (tgt : Int))
    (kt : x < 0 → xv_Ev l D d mt sx tgt ls st G I J uc us Q) (kf : ¬ x < 0 → xv_Ev l D d mt sx (pc + 3) ls st G I J uc us Q) : xv_Ev l D d mt sx pc ls (.int x :: st) G I J uc us Q := by
  intro p e R s m args below meth c A L0 ad0 C X H locs L ad ca la hC hS hE hL hst
  exact lv_if_lt C.1 C.2.1 h ht (fun z => kt z p e R s m args below meth c A L0 ad0 C X H locs L ad ca la hC hS hE hL hst.tl) (fun z => kf z p e R s m args below meth c A L0 ad0 C X H locs L ad ca la hC hS hE hL hst.tl)
theorem xv_if_ge {x : Int32} {off : Int} {tgt : Nat} (h : decode mt.2.1 pc = .ok (.ifCond .ge off, 3)) (ht : (pc : Int) + off = (tgt : Int))
    (kt : 0 ≤ x → xv_Ev l D d mt sx tgt ls st G I J uc us Q) (kf : ¬ 0 ≤ x → xv_Ev l D d mt sx (pc + 3) ls st G I J uc us Q) : xv_Ev l D d mt sx pc ls (.int x :: st) G I J uc us Q := by
  intro p e R s m args below meth c A L0 ad0 C X H locs L ad ca la hC hS hE hL hst
  exact lv_if_ge C.1 C.2.1 h ht (fun z => kt z p e R s m args below meth c A L0 ad0 C X H locs L ad ca la hC hS hE hL hst.tl) (fun z => kf z p e R s m args below meth c A L0 ad0 C X H locs L ad ca la hC hS hE hL hst.tl)
theorem xv_if_gt {x : Int32} {off : Int} {tgt : Nat} (h : decode mt.2.1 pc = .ok (.ifCond .gt off, 3)) (ht : (pc : Int) + off = (tgt : Int))
    (kt : 0 < x → xv_Ev l D d mt sx tgt ls st G I J uc us Q) (kf : ¬ 0 < x → xv_Ev l D d mt sx (pc + 3) ls st G I J uc us Q) : xv_Ev l D d mt sx pc ls (.int x :: st) G I J uc us Q := by
  intro p e R s m args below meth c A L0 ad0 C X H locs L ad ca la hC hS hE hL hst
  exact lv_if_gt C.1 C.2.1 h ht (fun z => kt z p e R s m args below meth c A L0 ad0 C X H locs L ad ca la hC hS hE hL hst.tl) (fun z => kf z p e R s m args below meth c A L0 ad0 C X H locs L ad ca la hC hS hE hL hst.tl)
theorem xv_if_le {x : Int32} {off : Int} {tgt : Nat} (h : decode mt.2.1 pc = .ok (.ifCond .le off, 3)) (ht : (pc : Int) + off = (tgt : Int))
    (kt : x ≤ 0 → xv_Ev l D d mt sx tgt ls st G I J uc us Q) (kf : ¬ x ≤ 0 → xv_Ev l D d mt sx (pc + 3) ls st G I J uc us Q) : xv_Ev l D d mt sx pc ls (.int x :: st) G I J uc us Q := by
  intro p e R s m args below meth c A L0 ad0 C X H locs L ad ca la hC hS hE hL hst
  exact lv_if_le C.1 C.2.1 h ht (fun z => kt z p e R s m args below meth c A L0 ad0 C X H locs L ad ca la hC hS hE hL hst.tl) (fun z => kf z p e R s m args below meth c A L0 ad0 C X H locs L ad ca la hC hS hE hL hst.tl)
theorem xv_icmp_eq {x y : Int32} {off : Int} {tgt : Nat} (h : decode mt.2.1 pc = .ok (.if_icmp .eq off, 3)) (ht : (pc : Int) + off = (tgt : Int))
    (kt : x = y → xv_Ev l D d mt sx tgt ls st G I J uc us Q) (kf : ¬ x = y → xv_Ev l D d mt sx (pc + 3) ls st G I J uc us Q) : xv_Ev l D d mt sx pc ls (.int y :: .int x :: st) G I J uc us Q := by
  intro p e R s m args below meth c A L0 ad0 C X H locs L ad ca la hC hS hE hL hst
  exact lv_icmp_eq C.1 C.2.1 h ht (fun z => kt z p e R s m args below meth c A L0 ad0 C X H locs L ad ca la hC hS hE hL hst.tl.tl) (fun z => kf z p e R s m args below meth c A L0 ad0 C X H locs L ad ca la hC hS hE hL hst.tl.tl)
theorem xv_icmp_ne {x y : Int32} {off : Int} {tgt : Nat} (h : decode mt.2.1 pc = .ok (.if_icmp .ne off, 3)) (ht : (pc : Int) + off = (tgt : Int))
    (kt : ¬ x = y → xv_Ev l D d mt sx tgt ls st G I J uc us Q) (kf : x = y → xv_Ev l D d mt sx (pc + 3) ls st G I J uc us Q) : xv_Ev l D d mt sx pc ls (.int y :: .int x :: st) G I J uc us Q := by
  intro p e R s m args below meth c A L0 ad0 C X H locs L ad ca la hC hS hE hL hst
  exact lv_icmp_ne C.1 C.2.1 h ht (fun z => kt z p e R s m args below meth c A L0 ad0 C X H locs L ad ca la hC hS hE hL hst.tl.tl) (fun z => kf z p e R s m args below meth c A L0 ad0 C X H locs L ad ca la hC hS hE hL hst.tl.tl)
theorem xv_icmp_lt {x y : Int32} {off : Int} {tgt : Nat} (h : decode mt.2.1 pc = .ok (.if_icmp .lt off, 3)) (ht : (pc : Int) + off = (tgt : Int))
    (kt : x < y → xv_Ev l D d mt sx tgt ls st G I J uc us Q) (kf : ¬ x < y → xv_Ev l D d mt sx (pc + 3) ls st G I J uc us Q) : xv_Ev l D d mt sx pc ls (.int y :: .int x :: st) G I J uc us Q := by
  intro p e R s m args below meth c A L0 ad0 C X H locs L ad ca la hC hS hE hL hst
  exact lv_icmp_lt C.1 C.2.1 h ht (fun z => kt z p e R s m args below meth c A L0 ad0 C X H locs L ad ca la hC hS hE hL hst.tl.tl) (fun z => kf z p e R s m args below meth c A L0 ad0 C X H locs L ad ca la hC hS hE hL hst.tl.tl)
theorem xv_icmp_ge {x y : Int32} {off : Int} {tgt : Nat} (h : decode mt.2.1 pc = .ok (.if_icmp .ge off, 3)) (ht : (pc : Int) + off = (tgt : Int))
    (kt : y ≤ x → xv_Ev l D d mt sx tgt ls st G I J uc us Q) (kf : ¬ y ≤ x → xv_Ev l D d mt sx (pc + 3) ls st G I J uc us Q) : xv_Ev l D d mt sx pc ls (.int y :: .int x :: st) G I J uc us Q := by
  intro p e R s m args below meth c A L0 ad0 C X H locs L ad ca la hC hS hE hL hst
  exact lv_icmp_ge C.1 C.2.1 h ht (fun z => kt z p e R s m args below meth c A L0 ad0 C X H locs L ad ca la hC hS hE hL hst.tl.tl) (fun z => kf z p e R s m args below meth c A L0 ad0 C X H locs L ad ca la hC hS hE hL hst.tl.tl)
theorem xv_icmp_gt {x y : Int32} {off : Int} {tgt : Nat} (h : decode mt.2.1 pc = .ok (.if_icmp .gt off, 3)) (ht : (pc : Int) + off = (tgt : Int))
    (kt : y < x → xv_Ev l D d mt sx tgt ls st G I J uc us Q) (kf : ¬ y < x → xv_Ev l D d mt sx (pc + 3) ls st G I J uc us Q) : xv_Ev l D d mt sx pc ls (.int y :: .int x :: st) G I J uc us Q := by
  intro p e R s m args below meth c A L0 ad0 C X H locs L ad ca la hC hS hE hL hst
  exact lv_icmp_gt C.1 C.2.1 h ht (fun z => kt z p e R s m args below meth c A L0 ad0 C X H locs L ad ca la hC hS hE hL hst.tl.tl) (fun z => kf z p e R s m args below meth c A L0 ad0 C X H locs L ad ca la hC hS hE hL hst.tl.tl)
theorem xv_icmp_le {x y : Int32} {off : Int} {tgt : Nat} (h : decode mt.2.1 pc = .ok (.if_icmp .le off, 3)) (ht : (pc : Int) + off = (tgt : Int))
    (kt : x ≤ y → xv_Ev l D d mt sx tgt ls st G I J uc us Q) (kf : ¬ x ≤ y → xv_Ev l D d mt sx (pc + 3) ls st G I J uc us Q) : xv_Ev l D d mt sx pc ls (.int y :: .int x :: st) G I J uc us Q := by
  intro p e R s m args below meth c A L0 ad0 C X H locs L ad ca la hC hS hE hL hst
  exact lv_icmp_le C.1 C.2.1 h ht (fun z => kt z p e R s m args below meth c A L0 ad0 C X H locs L ad ca la hC hS hE hL hst.tl.tl) (fun z => kf z p e R s m args below meth c A L0 ad0 C X H locs L ad ca la hC hS hE hL hst.tl.tl)
theorem xv_goto {off : Int} {tgt : Nat} (h : decode mt.2.1 pc = .ok (.goto off, 3)) (ht : (pc : Int) + off = (tgt : Int)) (k : xv_Ev l D d mt sx tgt ls st G I J uc us Q) : xv_Ev l D d mt sx pc ls st G I J uc us Q := by
  intro p e R s m args below meth c A L0 ad0 C X H locs L ad ca la hC hS hE hL hst
  exact lv_goto C.1 C.2.1 h ht (k p e R s m args below meth c A L0 ad0 C X H locs L ad ca la hC hS hE hL hst)
theorem xv_ifnonnull {x : Nat} {off : Int} {tgt : Nat} (h : decode mt.2.1 pc = .ok (.ifnonnull off, 3)) (ht : (pc : Int) + off = (tgt : Int)) (k : xv_Ev l D d mt sx tgt ls st G I J uc us Q) : xv_Ev l D d mt sx pc ls (.ref x :: st) G I J uc us Q := by
  intro p e R s m args below meth c A L0 ad0 C X H locs L ad ca la hC hS hE hL hst
  exact lv_ifnonnull C.1 C.2.1 h ht (k p e R s m args below meth c A L0 ad0 C X H locs L ad ca la hC hS hE hL hst.tl)
theorem xv_ifnull {x : Nat} {off : Int} (h : decode mt.2.1 pc = .ok (.ifnull off, 3)) (k : xv_Ev l D d mt sx (pc + 3) ls st G I J uc us Q) : xv_Ev l D d mt sx pc ls (.ref x :: st) G I J uc us Q := by
  intro p e R s m args below meth c A L0 ad0 C X H locs L ad ca la hC hS hE hL hst
  exact lv_ifnull C.1 C.2.1 h (k p e R s m args below meth c A L0 ad0 C X H locs L ad ca la hC hS hE hL hst.tl)
theorem xv_ifnullN  {off : Int} {tgt : Nat} (h : decode mt.2.1 pc = .ok (.ifnull off, 3)) (ht : (pc : Int) + off = (tgt : Int)) (k : xv_Ev l D d mt sx tgt ls st G I J uc us Q) : xv_Ev l D d mt sx pc ls (.null :: st) G I J uc us Q := by
  intro p e R s m args below meth c A L0 ad0 C X H locs L ad ca la hC hS hE hL hst
  exact lv_ifnullN C.1 C.2.1 h ht (k p e R s m args below meth c A L0 ad0 C X H locs L ad ca la hC hS hE hL hst.tl)
theorem xv_ifnonnullN  {off : Int} (h : decode mt.2.1 pc = .ok (.ifnonnull off, 3)) (k : xv_Ev l D d mt sx (pc + 3) ls st G I J uc us Q) : xv_Ev l D d mt sx pc ls (.null :: st) G I J uc us Q := by
  intro p e R s m args below meth c A L0 ad0 C X H locs L ad ca la hC hS hE hL hst
  exact lv_ifnonnullN C.1 C.2.1 h (k p e R s m args below meth c A L0 ad0 C X H locs L ad ca la hC hS hE hL hst.tl)
theorem xv_lookup {dflt : Int} {ps : Array (Int × Int)} {len : Nat} {x : Int32} {off : Int} {tgt : Nat} (h : decode mt.2.1 pc = .ok (.lookupswitch dflt ps, len)) (hp : (ps.toList.zip (ps.toList.drop 1)).all (fun (a, next) => a.1 < next.1) = true) (ho : Op.lookupswitch.offset ps.toList dflt x.toInt = off) (ht : (pc : Int) + off = (tgt : Int)) (k : xv_Ev l D d mt sx tgt ls st G I J uc us Q) : xv_Ev l D d mt sx pc ls (.int x :: st) G I J uc us Q := by
  intro p e R s m args below meth c A L0 ad0 C X H locs L ad ca la hC hS hE hL hst
  exact lv_lookup C.1 C.2.1 h hp ho ht (k p e R s m args below meth c A L0 ad0 C X H locs L ad ca la hC hS hE hL hst.tl)
theorem xv_tabOut {dflt lo hi : Int} {offs : Array Int} {len : Nat} {x : Int32} {tgt : Nat} (h : decode mt.2.1 pc = .ok (.tableswitch dflt lo hi offs, len)) (hx : x.toInt < lo ∨ hi < x.toInt) (ht : (pc : Int) + dflt = (tgt : Int)) (k : xv_Ev l D d mt sx tgt ls st G I J uc us Q) : xv_Ev l D d mt sx pc ls (.int x :: st) G I J uc us Q := by
  intro p e R s m args below meth c A L0 ad0 C X H locs L ad ca la hC hS hE hL hst
  exact lv_tableOut C.1 C.2.1 h hx ht (k p e R s m args below meth c A L0 ad0 C X H locs L ad ca la hC hS hE hL hst.tl)
theorem xv_tabIn {dflt lo hi : Int} {offs : Array Int} {len : Nat} {x : Int32} {off : Int} {tgt : Nat} (h : decode mt.2.1 pc = .ok (.tableswitch dflt lo hi offs, len)) (h1 : ¬ x.toInt < lo) (h2 : ¬ hi < x.toInt) (ho : offs[(x.toInt - lo).toNat]? = some off) (ht : (pc : Int) + off = (tgt : Int)) (k : xv_Ev l D d mt sx tgt ls st G I J uc us Q) : xv_Ev l D d mt sx pc ls (.int x :: st) G I J uc us Q := by
  intro p e R s m args below meth c A L0 ad0 C X H locs L ad ca la hC hS hE hL hst
  exact lv_tableIn C.1 C.2.1 h h1 h2 ho ht (k p e R s m args below meth c A L0 ad0 C X H locs L ad ca la hC hS hE hL hst.tl)
end XV1
