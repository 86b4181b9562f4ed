/-! SIM behind typing -/
theorem SIM.tx {b b1 b2 : Mem} (h : SIM b) (g1 : CI b1) (g2 : ∀ j, (1 ≤ j ∧ j < 52 ∨ 69 ≤ j) → b1 j = b j) (hm : ∀ j, (j < 69 ∨ j = 71 ∨ j = 72) → b2 j = b1 j) (h3 : b2 69 3 = b1 69 3) (hc : b2 0 8 = b2 70 0 ∧ b2 0 9 = b2 70 1 ∧ b2 0 10 = b2 70 2) (ht : b2 52 3 = b2 69 11 ∧ ∀ k, k < tn b2 → b2 53 k = b2 79 k) : SIM b2 := by
  obtain ⟨a1, a2, -, -, a8, a9⟩ := h
  have e : ∀ j, ((1 ≤ j ∧ j < 52) ∨ j = 71 ∨ j = 72) → b2 j = b j := fun j hj => by rw [hm j (by omega), g2 j (by omega)]
  have ec : cv b2 1 = cv b 1 := cv_same (fun j _ _ => e j (by omega))
  have eh : hd b2 = hd b := by unfold hd; rw [e 50 (by omega)]
  have ek : pk b2 = pk b := by unfold pk; rw [e 50 (by omega)]
  refine ⟨CI_low (fun j hj => hm j (by omega)) g1, ?_, hc, ht, by rw [h3, g2 69 (by omega), eh]; exact a8, fun j hj => ?_⟩
  · rw [ec]
    unfold mv
    rw [e 71 (by omega)]; exact a2
  · rw [eh] at hj ⊢
    unfold pv kw
    rw [ek, e 72 (by omega), cv_same (b := b) (fun i h1 h2 => e i (by omega))]
    exact a9 j hj
