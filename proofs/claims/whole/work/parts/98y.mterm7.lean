/-! terms in math (7): the bytes of a long -/
theorem b255 : ∀ j, j < 64 → (255#64).getLsbD j = decide (j < 8) := by decide
theorem s8a : ∀ k, k < 8 → (((nI (8 * k)).toInt64 &&& 63).toBitVec.smod 64).toNat = 8 * k := by decide
theorem s8b : ∀ k, k < 8 → (((nI (8 * k)).toInt64.toUInt64 &&& Int64.toUInt64 63).toBitVec % 64).toNat = 8 * k := by decide
theorem mb_tm {x : Int64} {k : Nat} (hk : k < 8) : mb_ x k = tm_by x k &&& 255 := by
  unfold mb_ tm_by
  apply Int64.toBitVec_inj.mp
  rw [Int64.toBitVec_and, Int64.toBitVec_and, Int64.toBitVec_shiftRight]
  have e2 : (x.toUInt64 >>> ((nI (8 * k)).toInt64.toUInt64 &&& Int64.toUInt64 63)).toInt64.toBitVec = x.toBitVec >>> (8 * k) := by
    show (x.toUInt64 >>> ((nI (8 * k)).toInt64.toUInt64 &&& Int64.toUInt64 63)).toBitVec = _
    rw [UInt64.toBitVec_shiftRight, BitVec.ushiftRight_eq', s8b k hk]
    rfl
  rw [e2, BitVec.sshiftRight_eq', s8a k hk]
  apply BitVec.eq_of_getLsbD_eq
  intro j hj
  rw [BitVec.getLsbD_and, BitVec.getLsbD_and, show (255 : Int64).toBitVec = 255#64 from rfl, b255 j hj, BitVec.getLsbD_sshiftRight, BitVec.getLsbD_ushiftRight]
  by_cases q : j < 8
  · rw [if_pos (by omega), decide_eq_false (by omega)]; simp
  · rw [decide_eq_false q]; simp
def bN (x : Int64) (k : Nat) : Nat := x.toBitVec.toNat / 2 ^ (8 * k) % 256
theorem tm_by_N {x : Int64} {k : Nat} (hk : k < 8) : tm_by x k = lN (x.toBitVec.toNat / 2 ^ (8 * k)) := by
  have e : x = lN x.toBitVec.toNat := wb_inj (by rw [wb_tb]; simp)
  have z := wb_shr (n := x.toBitVec.toNat) (k := 8 * k) x.toBitVec.isLt (by omega)
  rw [← e] at z
  exact z
theorem mb_N {x : Int64} {k : Nat} (hk : k < 8) : mb_ x k = lN (bN x k) := by
  rw [mb_tm hk, tm_by_N hk, show (255 : Int64) = lN 255 from rfl, wb_and (Nat.lt_of_le_of_lt (Nat.div_le_self _ _) x.toBitVec.isLt) (by decide), show (255 : Nat) = 2 ^ 8 - 1 from rfl, Nat.and_two_pow_sub_one_eq_mod]
  rfl
theorem bN_lt (x : Int64) (k : Nat) : bN x k < 256 := Nat.mod_lt _ (by decide)
theorem sb8_m (M : Nat) : (nI M).toInt8.toInt32 = sb8 (M % 256) := by
  unfold sb8
  congr 1
  apply Int8.toInt_inj.mp
  rw [Int32.toInt_toInt8, Int32.toInt_toInt8]
  have e : ∀ m : Nat, (nI m).toInt = (m : Int).bmod (2 ^ 32) := fun m => by
    show (Int32.ofNat m).toInt = _
    rw [Int32.toInt_ofNat']
  rw [e, e, Int.bmod_bmod_of_dvd (by decide), Int.bmod_bmod_of_dvd (by decide)]
  rw [Int.bmod_def, Int.bmod_def]
  omega
theorem tm_bt_N {x : Int64} {k : Nat} (hk : k < 8) : tm_bt x k = sb8 (bN x k) := by
  rw [tm_bt, tm_by_N hk, lN_ti, sb8_m]
  rfl
theorem mn_eq (x : Int64) : tm_mn x = mb_n x := xfst_cong rfl _ _ (fun k _ hk => ⟨by rw [mb_tm (by omega)], rfl⟩)
theorem fst_b {P : Nat → Prop} : ∀ n i, i + n = 8 → xfst P (fun k => k) 8 n i ≤ 8 ∧ ∀ k, i ≤ k → k < xfst P (fun k => k) 8 n i → ¬ P k
  | 0, i, h => ⟨by rw [xfst_0]; omega, fun k h1 h2 => by rw [xfst_0] at h2; omega⟩
  | n + 1, i, h => by
    by_cases q : P i
    · rw [xfst_y q]
      exact ⟨by omega, fun k h1 h2 => absurd h2 (by omega)⟩
    · rw [xfst_n q]
      obtain ⟨i1, i2⟩ := fst_b (P := P) n (i + 1) (by omega)
      refine ⟨i1, fun k h1 h2 => ?_⟩
      by_cases e : k = i
      · rw [e]; exact q
      · exact i2 k (by omega) h2
theorem mb_n_b (x : Int64) : mb_n x ≤ 8 ∧ ∀ k, k < mb_n x → bN x k ≠ 0 := by
  obtain ⟨h1, h2⟩ := fst_b (P := fun k => mb_ x k = 0) 8 0 rfl
  refine ⟨h1, fun k hk e => h2 k (Nat.zero_le _) hk ?_⟩
  have : k < 8 := Nat.lt_of_lt_of_le hk h1
  show mb_ x k = 0
  rw [mb_N this, e]; rfl
theorem R_tm {G2 : xv_Gr} {I I2 : xv_I} {J J2 : xv_J} {np nm nl nt mo : Nat} {on sz : Nat → Nat} (hP : rP I np nm sz) (hL : rL I np on) (hC : rC I J np sz) (hK : rK I np on sz) (hRr : rR I J) (hN : rN I J nl mo) (hG : xg_ok G2) (hD : xg_dy G2 nl nt) (hT : rT I2 nt) (hI : ∀ b, ¬ (300 ≤ b ∧ b < 308) → b ∉ [6, 40, 90, 91, 92] → I2 b = I b) (h6 : ∀ j, j ∈ [0, 1] → I2 6 j = I 6 j) (h4 : ∀ j, j ≠ 39 → I2 40 j = I 40 j) (hJ : ∀ b, b < 300 → J2 b = J b) : R_ G2 I2 J2 := by
  have hb : ∀ {L : List Nat} {b : Nat}, b ∈ L → (∀ a ∈ L, ¬ (300 ≤ a ∧ a < 308) ∧ a ∉ [6, 40, 90, 91, 92]) → I2 b = I b := fun h g => hI _ (g _ h).1 (g _ h).2
  have hj : ∀ {L : List Nat} {j : Nat}, j ∈ L → (∀ a ∈ L, a ≠ 39) → I2 40 j = I 40 j := fun h g => h4 _ (g _ h)
  have hjj : ∀ {L : List Nat} {b : Nat}, b ∈ L → (∀ a ∈ L, a < 300) → J2 b = J b := fun h g => hJ _ (g _ h)
  exact ⟨np, nm, nl, nt, mo, on, sz, hG, hD, rP_fr hP (fun b h => hb h (by decide)) (fun j h => hj h (by decide)), rL_fr hL (hI _ (by decide) (by decide)) (hI _ (by decide) (by decide)), rC_fr hC (fun b h => hb h (by decide)) (h4 _ (by decide)) (hJ _ (by decide)), rK_fr hK (fun b h => hb h (by decide)), rR_fr hRr (fun b h => hb h (by decide)) (fun j h => hj h (by decide)) (fun b h => hjj h (by decide)), rN_fr hN h6 (fun j h => hj h (by decide)) (fun b h => hb h (by decide)) (fun b h1 h2 => hI b (by omega) (by simp only [List.mem_cons, List.not_mem_nil, or_false]; omega)) (fun b h => hjj h (by decide)) (fun b h1 h2 => hJ b (by omega)), hT⟩
theorem rT1_fr {I I2 : xv_I} {t : Nat} (h : rT1 I t) (h0 : I2 (300 + 2 * t) = I (300 + 2 * t)) (h1 : I2 (300 + 2 * t + 1) = I (300 + 2 * t + 1)) (e90 : I2 90 t = I 90 t) (e91 : I2 91 t = I 91 t) (e92 : ∀ i, i < 60 → I2 92 (60 * t + i) = I 92 (60 * t + i)) : rT1 I2 t := by
  obtain ⟨n, b, dg, a1, a2, a3, a4, a5, a6, a7⟩ := h
  refine ⟨n, b, dg, a1, a2, by rw [h0, e90]; exact a3, by rw [h0, e91]; exact a4, by rw [h0]; exact a5, fun i hi => ?_, by rw [h0]; exact a7⟩
  rw [e92 i (by omega), h1]
  exact a6 i hi
