/-! loans and terms: their cells -/
def xg_ln (G : xv_Gr) (a : Nat) : Prop := G.1 a = some (.inl 4) ∧ G.2 a 1 = some (a + 1) ∧ G.1 (a + 1) = some (.inl 7) ∧ G.2 a 4 = some (a + 2) ∧ G.1 (a + 2) = some (.inr (3, 600)) ∧ G.2 a 5 = some (a + 3) ∧ G.1 (a + 3) = some (.inr (3, 600))
def xg_tm (G : xv_Gr) (a : Nat) : Prop := G.1 a = some (.inl 8) ∧ G.2 a 3 = some (a + 1) ∧ G.1 (a + 1) = some (.inr (1, 60))
def xg_dy (G : xv_Gr) (nl nt : Nat) : Prop := (∀ i, i < nl → G.2 173 i = some (200 + 4 * i) ∧ xg_ln G (200 + 4 * i)) ∧ (∀ t, t < nt → G.2 174 t = some (300 + 2 * t) ∧ xg_tm G (300 + 2 * t)) ∧ (∀ a, 200 + 4 * nl ≤ a → a < 232 → G.1 a = none) ∧ (∀ a, 300 + 2 * nt ≤ a → a < 308 → G.1 a = none)
theorem xv_uj_s {J : xv_J} {b k : Nat} {v : Int64} : xv_uj J b k v b k = v := by simp [xv_uj_ap]
theorem xv_uj_o {J : xv_J} {b k j : Nat} {v : Int64} (h : j ≠ k) : xv_uj J b k v b j = J b j := by simp [xv_uj_ap, h]
theorem xv_ui_s {I : xv_I} {b k : Nat} {v : Int32} : xv_ui I b k v b k = v := by simp [xv_ui_ap]
theorem xv_ui_o {I : xv_I} {b k j : Nat} {v : Int32} (h : j ≠ k) : xv_ui I b k v b j = I b j := by simp [xv_ui_ap, h]
theorem xv_uj_a {J : xv_J} {a k b j : Nat} {v : Int64} (h : b ≠ a) : xv_uj J a k v b j = J b j := by rw [xv_uj_ne h]
theorem xv_ui_a {I : xv_I} {a k b j : Nat} {v : Int32} (h : b ≠ a) : xv_ui I a k v b j = I b j := by rw [xv_ui_ne h]
theorem xv_nmK {l : Launch} {D : va_G} {d : Nat} {mt : xv_MT} {sx : xv_Sc} {pc : Nat} {ls : List (Option Value)} {st : List Value} {G : xv_Gr} {I : xv_I} {J J2 : xv_J} {uc us : Nat} {Q : xv_Po} (e : J = J2) (k : xv_Ev l D d mt sx pc ls st G I J2 uc us Q) : xv_Ev l D d mt sx pc ls st G I J uc us Q := e ▸ k
def ln_o (o : Int64) (r : Int32) : Int64 := o + (o / 1000 * r.toInt64 + (o - o / 1000 * 1000) * r.toInt64 / 1000)
def ln_d (d o : Int64) (p : Int32) : Int64 := if o < d + p.toInt64 then o else d + p.toInt64
