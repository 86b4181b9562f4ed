/-! SIM behind clearing -/
theorem SIM.clear {b b1 : Mem} (h : SIM b) (g1 : CI b1) (g2 : ∀ j, (1 ≤ j ∧ j < 52 ∨ j = 53 ∨ 69 ≤ j) → b1 j = b j) (g3 : b1 52 3 = 0) (g4 : Ct b b1 0) : b 52 3 = b1 69 11 ∧ SIM (up2 b1 69 11 0) := by
  obtain ⟨-, -, ⟨a3, a4, a5⟩, ⟨a6, a7⟩, -, -⟩ := id h
  obtain ⟨q3, q4, q5⟩ := g4
  rw [bI0 (by decide)] at q3 q4 q5
  have e70 : b1 70 = b 70 := g2 70 (by omega)
  refine ⟨by rw [g2 69 (by omega)]; exact a6, SIM.tx h g1 (fun j hj => g2 j (by omega)) (fun j hj => u2c _ _ (by omega)) (u2k _ _ (by decide)) ⟨?_, ?_, ?_⟩ ⟨?_, fun k hk => ?_⟩⟩
  · rw [u2c _ _ (by decide), u2c _ _ (by decide), q3, e70, a3]
  · rw [u2c _ _ (by decide), u2c _ _ (by decide), q4, e70, a4]
  · rw [u2c _ _ (by decide), u2c _ _ (by decide), q5, e70, a5]
  · rw [u2c _ _ (by decide), u2s]; exact g3
  · unfold tn at hk
    rw [u2c _ _ (by decide), g3] at hk
    exact absurd hk (Nat.not_lt_zero k)
