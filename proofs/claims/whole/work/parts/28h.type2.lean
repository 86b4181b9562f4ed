/-! SIM behind typing a byte -/
theorem SIM.type {b b1 : Mem} {c : Int32} (h : SIM b) (hp : tyP b c b1) : tyR b c = mtyR b1 c ∧ SIM (mtyM b1 (tn b) c) := by
  obtain ⟨g1, g2, g3⟩ := hp
  obtain ⟨t1, t2⟩ := h.1.2.2.2.1.n
  obtain ⟨-, -, ⟨a3, a4, a5⟩, ⟨a6, a7⟩, -, -⟩ := id h
  have e69 : b1 69 = b 69 := g2 69 (by omega)
  have e70 : b1 70 = b 70 := g2 70 (by omega)
  have e79 : b1 79 = b 79 := g2 79 (by omega)
  unfold tyR mtyR mtyM
  rw [e69, ← a6]
  by_cases c1 : ¬ c < 0 ∧ ¬ 127 < c
  · rw [if_pos c1] at g3
    rw [if_pos c1, if_pos c1]
    by_cases c2 : b 52 3 < 120
    · rw [if_pos c2] at g3
      rw [if_pos c2, if_pos c2]
      obtain ⟨q1, q2, q3, q4, q5⟩ := g3
      rw [bI0 (by decide)] at q3 q4 q5
      refine ⟨rfl, SIM.tx h g1 g2 (fun j hj => by rw [u2c _ _ (by omega), u2c _ _ (by omega)]) (by rw [u2k _ _ (by decide), u2c _ _ (by decide)]) ⟨?_, ?_, ?_⟩ ⟨?_, fun k hk => ?_⟩⟩
      · rw [u2c _ _ (by decide), u2c _ _ (by decide), u2c _ _ (by decide), u2c _ _ (by decide), q3, e70, a3]
      · rw [u2c _ _ (by decide), u2c _ _ (by decide), u2c _ _ (by decide), u2c _ _ (by decide), q4, e70, a4]
      · rw [u2c _ _ (by decide), u2c _ _ (by decide), u2c _ _ (by decide), u2c _ _ (by decide), q5, e70, a5]
      · rw [u2c _ _ (by decide), u2c _ _ (by decide), u2s]; exact q2
      · have hk2 : k < tn b + 1 := by
          unfold tn at hk
          rw [u2c _ _ (by decide), u2c _ _ (by decide), q2, t1, nI_1, nI_clamp (by omega)] at hk
          exact hk
        rw [u2c _ _ (by decide), u2c _ _ (by decide), u2c _ _ (by decide), q1]
        unfold upd
        by_cases z : k = tn b
        · rw [if_pos z, z, u2s]
        · rw [if_neg z, u2k _ _ z, e79]; exact a7 k (by omega)
    · rw [if_neg c2] at g3
      rw [if_neg c2, if_neg c2]
      obtain ⟨q1, q2, q3, q4, q5⟩ := g3
      rw [bI0 (by decide)] at q3 q4
      refine ⟨rfl, SIM.tx h g1 g2 (fun j hj => u2c _ _ (by omega)) (by rw [u2c _ _ (by decide)]) ⟨?_, ?_, ?_⟩ ⟨?_, fun k hk => ?_⟩⟩
      · rw [u2c _ _ (by decide), u2k _ _ (by decide), q3, e70, a3]
      · rw [u2c _ _ (by decide), u2k _ _ (by decide), q4, e70, a4]
      · rw [u2c _ _ (by decide), u2s, q5, e70, a5]; rfl
      · rw [u2c _ _ (by decide), u2c _ _ (by decide), q2, e69]; exact a6
      · have hk2 : k < tn b := by unfold tn at hk; rw [u2c _ _ (by decide), q2] at hk; exact hk
        rw [u2c _ _ (by decide), u2c _ _ (by decide), q1, e79]; exact a7 k hk2
  · rw [if_neg c1] at g3
    rw [if_neg c1, if_neg c1]
    obtain ⟨q1, q2, q3, q4, q5⟩ := g3
    rw [bI0 (by decide)] at q4 q5
    refine ⟨rfl, SIM.tx h g1 g2 (fun j hj => u2c _ _ (by omega)) (by rw [u2c _ _ (by decide)]) ⟨?_, ?_, ?_⟩ ⟨?_, fun k hk => ?_⟩⟩
    · rw [u2c _ _ (by decide), u2s, q3, e70, a3]; rfl
    · rw [u2c _ _ (by decide), u2k _ _ (by decide), q4, e70, a4]
    · rw [u2c _ _ (by decide), u2k _ _ (by decide), q5, e70, a5]
    · rw [u2c _ _ (by decide), u2c _ _ (by decide), q2, e69]; exact a6
    · have hk2 : k < tn b := by unfold tn at hk; rw [u2c _ _ (by decide), q2] at hk; exact hk
      rw [u2c _ _ (by decide), u2c _ _ (by decide), q1, e79]; exact a7 k hk2
