/-! a refused change leaves the reference alone -/
theorem neg_wide {m : Mem} {p w : Int32} (hV : Val (mv m)) (h : wideR (m 71 1) (m 71 (111 + 2 * p.toNatClampNeg)) p w < 0) : wideN m p w = m := by
  unfold wideR at h
  unfold wideN
  by_cases c : (¬ p < 0 ∧ p < m 71 1) ∧ ¬ w < 1 ∧ ¬ 60 < w
  · rw [if_pos c] at h
    have hl := okP_lt hV (show okP (mv m) p from c.1)
    exact absurd (Int32.lt_trans h (by decide)) (hV.2.2.2.1 _ hl).1.1
  · rw [if_neg c]
theorem neg_touch {m : Mem} {p w : Int32} (hV : Val (mv m)) (h : touchR (m 71 1) (m 71 (111 + 2 * p.toNatClampNeg + 1)) p w < 0) : touchN m p w = m := by
  unfold touchR at h
  unfold touchN
  by_cases c : (¬ p < 0 ∧ p < m 71 1) ∧ ¬ w < 0 ∧ ¬ 63 < w
  · rw [if_pos c] at h
    have hl := okP_lt hV (show okP (mv m) p from c.1)
    exact absurd h (hV.2.2.2.1 _ hl).2.1
  · rw [if_neg c]
theorem neg_set {m : Mem} {k x : Int32} (hV : Val (mv m)) (h : setR (m 71 (2 + k.toNatClampNeg)) k x < 0) : setN m k x = m := by
  unfold setR at h
  unfold setN
  by_cases c : (¬ k < 0 ∧ ¬ 6 < k) ∧ ¬ x < lowF k.toNatClampNeg ∧ ¬ higF k.toNatClampNeg < x
  · rw [if_pos c] at h
    obtain ⟨j, hj, rfl⟩ := in_of6 (n := 6) c.1.1 c.1.2 (by decide)
    rw [nI_clamp (by omega)] at h
    have h1 := (hV.2.2.2.2 j hj).1
    have h0 : ¬ lowF j < 0 := (by decide +kernel : ∀ j, j < 7 → ¬ lowF j < 0) j hj
    exact absurd (Int32.lt_of_lt_of_le h (Int32.not_lt.mp h0)) h1
  · rw [if_neg c]
