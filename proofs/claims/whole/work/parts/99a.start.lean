/-! both at the start -/
theorem st_r : ∀ c, c < 2 → st_I 150 c = nI 600 := by decide +kernel
theorem st_r2 : ∀ c, c < 2 → st_I 73 c = st_I 150 c := by decide +kernel
theorem R_st : R_ st_G st_I st_J := by
  refine ⟨0, 0, 0, 0, 0, fun _ => 0, fun _ => 1, st_ok, st_dy, ?_, ?_, ?_, ?_, ?_, ?_, ?_⟩
  · refine ⟨by omega, ⟨by decide +kernel, by decide +kernel, by decide +kernel, by decide +kernel, by decide +kernel⟩, ⟨rfl, rfl, rfl, rfl, rfl, rfl, rfl, rfl⟩, by decide +kernel, fun p hp => absurd hp (by omega), fun k hk => absurd hk (by omega)⟩
  · exact ⟨fun p _ => rfl, fun p _ => rfl, fun p hp => absurd hp (by omega), fun p _ => rfl, fun _ => 0, fun p q h => absurd h (by simp)⟩
  · exact ⟨1, by omega, by decide +kernel, by decide +kernel, rfl, rfl, fun j _ => ⟨0, 0, by omega, by omega, rfl, rfl⟩, by decide +kernel, by decide +kernel, fun q => absurd q (by decide +kernel)⟩
  · exact ⟨fun _ => 600, fun c hc => ⟨st_r c hc, Nat.le_of_ble_eq_true rfl⟩, fun c hc => st_r2 c hc, fun q => absurd q (by decide +kernel)⟩
  · exact ⟨0, 50, 0, fun _ => 0, fun _ => 0, by omega, by omega, by decide +kernel, fun r hr => absurd hr (by omega), fun c _ => ⟨rfl, fun r => by simp⟩, ⟨rfl, fun r => by simp⟩, by decide +kernel, fun q => absurd q (by decide +kernel)⟩
  · exact ⟨by omega, by decide +kernel, fun i hi => absurd hi (by omega), fun i _ _ m _ => ⟨rfl, rfl, rfl⟩⟩
  · exact ⟨by omega, by decide +kernel, fun i hi => absurd hi (by omega), fun t _ _ => rfl⟩
