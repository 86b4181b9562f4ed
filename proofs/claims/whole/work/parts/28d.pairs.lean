/-! pairs of calls: what both tell -/
theorem to_mt {b : Mem} (h : SIM b) {k : Nat} (hk : k < 5) : toV b (nI k) = mtN b k := by
  obtain ⟨a1, -, ⟨a3, a4, a5⟩, ⟨a6, -⟩, a8, -⟩ := h
  have h5 := a1.hd5
  unfold toV mtN
  rcases (show k = 0 ∨ k = 1 ∨ k = 2 ∨ k = 3 ∨ k = 4 by omega) with rfl | rfl | rfl | rfl | rfl
  · exact a3
  · exact a4
  · exact a5
  · exact a6
  · show b 50 2 = b 69 3
    rw [h5.1, a8]
theorem neg_line {m : Mem} {a : Int32} (hV : Val (mv m)) (h : addLineR (m 71 0) a < 0) : addLineN m a = m := by
  unfold addLineR at h
  unfold addLineN
  by_cases c : ¬ a < 1 ∧ ¬ 60 < a
  · rw [if_pos c] at h ⊢
    by_cases d : m 71 0 < 6
    · rw [if_pos d] at h
      have e : m 71 0 = nI (nl (mv m)) := hV.1.1
      rw [e] at h
      exact absurd h (nI_nlt0 _ (by have := hV.1.2; omega))
    · rw [if_neg d]
  · rw [if_neg c]
theorem neg_run {m : Mem} {l t a : Int32} (hV : Val (mv m)) (h : addRunR (m 71 0) (m 71 (9 + 17 * l.toNatClampNeg)) l t a < 0) : addRunN m l t a = m := by
  unfold addRunR at h
  unfold addRunN
  by_cases c : (¬ l < 0 ∧ l < m 71 0) ∧ (¬ t < 0 ∧ ¬ 1 < t) ∧ ¬ a < 1 ∧ ¬ 60 < a
  · rw [if_pos c] at h ⊢
    by_cases d : m 71 (9 + 17 * l.toNatClampNeg) < 8
    · rw [if_pos d] at h
      have hl := okL_lt hV (show okL (mv m) l from c.1)
      have e : m 71 (9 + 17 * l.toNatClampNeg) = nI (rn (mv m) l.toNatClampNeg) := hV.runs hl
      rw [e, nI_1] at h
      exact absurd h (nI_nlt0 _ (by have := hV.r8 hl; omega))
    · rw [if_neg d]
  · rw [if_neg c]
theorem neg_drop {m : Mem} {l : Int32} (hV : Val (mv m)) (h : dropRunR (m 71 0) (m 71 (9 + 17 * l.toNatClampNeg)) l < 0) : dropRunN m l = m := by
  unfold dropRunR at h
  unfold dropRunN
  by_cases c : ¬ l < 0 ∧ l < m 71 0
  · rw [if_pos c] at h ⊢
    by_cases d : m 71 (9 + 17 * l.toNatClampNeg) - 1 < 1
    · rw [if_pos d]
    · rw [if_neg d] at h
      have hl := okL_lt hV (show okL (mv m) l from c)
      have e : m 71 (9 + 17 * l.toNatClampNeg) = nI (rn (mv m) l.toNatClampNeg) := hV.runs hl
      rw [e, nI_sub1 (by have := hV.r1 hl; omega)] at h
      exact absurd h (nI_nlt0 _ (by have := hV.r8 hl; omega))
  · rw [if_neg c]
theorem neg_pocket {m : Mem} {w t : Int32} (hV : Val (mv m)) (h : addPocketR (m 71 1) w t < 0) : addPocketN m w t = m := by
  unfold addPocketR at h
  unfold addPocketN
  by_cases c : (¬ w < 1 ∧ ¬ 60 < w) ∧ ¬ t < 0 ∧ ¬ 63 < t
  · rw [if_pos c] at h ⊢
    by_cases d : m 71 1 < 6
    · rw [if_pos d] at h
      have e : m 71 1 = nI (np (mv m)) := hV.2.1.1
      rw [e] at h
      exact absurd h (nI_nlt0 _ (by have := hV.2.1.2; omega))
    · rw [if_neg d]
  · rw [if_neg c]
