/-! loans and terms in the relation; the relation whole -/
/-- of loan i: what class and model bear of it -/
def rN1 (I : xv_I) (J : xv_J) (mo i : Nat) : Prop := ∃ si ci : Nat, (I (200 + 4 * i) 0 = nI si ∧ I 82 i = nI si ∧ si ≤ mo) ∧ (I (200 + 4 * i) 3 = nI ci ∧ ((I (200 + 4 * i) 2 = 1 ∧ ci = 599) ∨ ((I (200 + 4 * i) 2 = 2 ∨ I (200 + 4 * i) 2 = 3) ∧ si ≤ ci ∧ ci ≤ mo))) ∧ (I (200 + 4 * i + 1) 2 = I 80 i ∧ I (200 + 4 * i + 1) 3 = I 81 i ∧ I (200 + 4 * i + 1) 4 = I 83 i ∧ (I 83 i = 0 ∨ I 83 i = 1)) ∧ ((0 ≤ (I 80 i).toInt ∧ (I 80 i).toInt ≤ 50) ∧ (1 ≤ (I 81 i).toInt ∧ (I 81 i).toInt ≤ 10000)) ∧ (J (200 + 4 * i + 1) 0 = J 84 (600 * i + mo) ∧ J (200 + 4 * i + 1) 1 = J 85 (600 * i + mo)) ∧ (0 ≤ (J (200 + 4 * i + 1) 1).toInt ∧ (J (200 + 4 * i + 1) 1).toInt ≤ (J (200 + 4 * i + 1) 0).toInt ∧ (I (200 + 4 * i) 2 = 1 → 0 < (J (200 + 4 * i + 1) 0).toInt) ∧ (J (200 + 4 * i + 1) 0).toInt * 20 ^ mo ≤ 100000 * 21 ^ mo) ∧ ∀ m, m ≤ mo → (m < si → J 84 (600 * i + m) = 0 ∧ J 85 (600 * i + m) = 0 ∧ I 86 (600 * i + m) = 0) ∧ (si ≤ m → J 84 (600 * i + m) = J (200 + 4 * i + 2) (if ci < m then ci else m) ∧ J 85 (600 * i + m) = J (200 + 4 * i + 3) (if ci < m then ci else m) ∧ I 86 (600 * i + m) = if m < ci then 1 else I (200 + 4 * i) 2)
def rN (I : xv_I) (J : xv_J) (nl mo : Nat) : Prop := (nl ≤ 8 ∧ mo ≤ 599) ∧ (I 6 1 = nI nl ∧ I 40 29 = nI nl ∧ I 6 0 = nI mo ∧ I 40 28 = nI mo) ∧ (∀ i, i < nl → rN1 I J mo i) ∧ ∀ i, nl ≤ i → i < 8 → ∀ m, m < 600 → J 84 (600 * i + m) = 0 ∧ J 85 (600 * i + m) = 0 ∧ I 86 (600 * i + m) = 0
theorem rN_fr {I I2 : xv_I} {J J2 : xv_J} {nl mo : Nat} (h : rN I J nl mo) (h6 : ∀ j, j ∈ [0, 1] → I2 6 j = I 6 j) (h4 : ∀ j, j ∈ [28, 29] → I2 40 j = I 40 j) (hr : ∀ b, b ∈ [80, 81, 82, 83, 86] → I2 b = I b) (ha : ∀ b, 200 ≤ b → b < 232 → I2 b = I b) (hj : ∀ b, b ∈ [84, 85] → J2 b = J b) (hja : ∀ b, 200 ≤ b → b < 232 → J2 b = J b) : rN I2 J2 nl mo := by
  obtain ⟨h1, h2, h3, h5⟩ := h
  refine ⟨h1, by rw [h6 0 (by decide), h6 1 (by decide), h4 28 (by decide), h4 29 (by decide)]; exact h2, fun i hi => ?_, by rw [hj 84 (by decide), hj 85 (by decide), hr 86 (by decide)]; exact h5⟩
  have h8 := h1.1
  have g := h3 i hi
  unfold rN1 at g ⊢
  rw [ha (200 + 4 * i) (by omega) (by omega), ha (200 + 4 * i + 1) (by omega) (by omega), hja (200 + 4 * i + 1) (by omega) (by omega), hja (200 + 4 * i + 2) (by omega) (by omega), hja (200 + 4 * i + 3) (by omega) (by omega), hr 80 (by decide), hr 81 (by decide), hr 82 (by decide), hr 83 (by decide), hr 86 (by decide), hj 84 (by decide), hj 85 (by decide)]
  exact g
/-- a byte as the class has it -/
def sb8 (n : Nat) : Int32 := (nI n).toInt8.toInt32
/-- of term t: what class and model bear of it -/
def rT1 (I : xv_I) (t : Nat) : Prop := ∃ (n : Nat) (b : Nat → Nat) (dg : Nat), n ≤ 60 ∧ dg ≤ 6 ∧ (I (300 + 2 * t) 0 = I 90 t ∧ 0 ≤ (I 90 t).toInt ∧ (I 90 t).toInt ≤ 599) ∧ (I (300 + 2 * t) 1 = nI n ∧ I 91 t = nI n) ∧ I (300 + 2 * t) 5 = nI dg ∧ (∀ i, i < n → I 92 (60 * t + i) = nI (b i) ∧ b i < 256 ∧ b i ≠ 0 ∧ I (300 + 2 * t + 1) i = sb8 (b i)) ∧ I (300 + 2 * t) 2 = (tm_wr (fun i => sb8 (b i)) 0 n n 0).1
def rT (I : xv_I) (nt : Nat) : Prop := nt ≤ 4 ∧ (I 6 2 = nI nt ∧ I 40 39 = nI nt) ∧ (∀ t, t < nt → rT1 I t) ∧ ∀ t, nt ≤ t → t < 4 → I 91 t = 0
theorem rT_fr {I I2 : xv_I} {nt : Nat} (h : rT I nt) (h6 : I2 6 2 = I 6 2) (h4 : I2 40 39 = I 40 39) (hr : ∀ b, b ∈ [90, 91, 92] → I2 b = I b) (ha : ∀ b, 300 ≤ b → b < 308 → I2 b = I b) : rT I2 nt := by
  obtain ⟨h1, h2, h3, h5⟩ := h
  refine ⟨h1, by rw [h6, h4]; exact h2, fun t ht => ?_, by rw [hr 91 (by decide)]; exact h5⟩
  have g := h3 t ht
  unfold rT1 at g ⊢
  rw [ha (300 + 2 * t) (by omega) (by omega), ha (300 + 2 * t + 1) (by omega) (by omega), hr 90 (by decide), hr 91 (by decide), hr 92 (by decide)]
  exact g
def R_ (G : xv_Gr) (I : xv_I) (J : xv_J) : Prop := ∃ (np nm nl nt mo : Nat) (on sz : Nat → Nat), xg_ok G ∧ xg_dy G nl nt ∧ rP I np nm sz ∧ rL I np on ∧ rC I J np sz ∧ rK I np on sz ∧ rR I J ∧ rN I J nl mo ∧ rT I nt
theorem R_ok : ∀ G I J, R_ G I J → xg_ok G := fun _ _ _ ⟨_, _, _, _, _, _, _, h, _⟩ => h
