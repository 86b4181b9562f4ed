/-! one more state on both sides -/
theorem Sim_in {v : View} {f f' : Nat → Int32} (hS : Sim v (mw f)) (hV : Val v) (h : ∀ i, i < 123 → f' i = f i) : Sim v (mw f') := by
  have h6 := hV.1.2
  have h7 := hV.2.1.2
  refine Sim_mk (n := nl v) (m := np v) hV.1.1 h6 ?_ hV.2.1.1 h7 ?_ (fun l hl => ?_) (fun p hp => ?_) (fun k hk => ?_)
  · show f' 0 = _
    rw [h 0 (by omega), ← hV.1.1]; exact hS.1.symm
  · show f' 1 = _
    rw [h 1 (by omega), ← hV.2.1.1]; exact hS.2.1.symm
  · obtain ⟨r, r8, a1, a2, a3, a4⟩ := hS.ls hV hl
    refine ⟨r, r8, a1, ?_, fun i hi => ?_, fun i h0 hi => ?_⟩
    · show f' (9 + 17 * l) = _
      rw [h _ (by omega)]; exact a2
    · show _ = f' (9 + 17 * l + 1 + i)
      rw [h _ (by omega)]; exact a3 i hi
    · show _ = f' (9 + 17 * l + 9 + i)
      rw [h _ (by omega)]; exact a4 i h0 hi
  · refine ⟨?_, ?_⟩
    · show _ = f' (111 + 2 * p)
      rw [h _ (by omega)]; exact (hS.2.2.2.1 p hp).1
    · show _ = f' (111 + 2 * p + 1)
      rw [h _ (by omega)]; exact (hS.2.2.2.1 p hp).2
  · show _ = f' (2 + k)
    rw [h _ (by omega)]; exact hS.2.2.2.2 k hk
theorem lvM_c (b : Mem) (n : Nat) {j : Nat} (h1 : j ≠ 69) (h2 : j ≠ 72) : lvM b n j = b j := by
  unfold lvM
  split
  · rw [u2c _ _ h1, u1c _ _ h2, u2c _ _ h1, u1c _ _ h2]
  · rw [u2c _ _ h1, u1c _ _ h2]
theorem lvM_3 (b : Mem) {n : Nat} (hn : n ≤ 5) : lvM b n 69 3 = nI (min 5 (n + 1)) := by
  unfold lvM
  by_cases c : n = 5
  · rw [if_pos c, u2s, c]; rfl
  · rw [if_neg c, u2s, show min 5 (n + 1) = n + 1 by omega]
theorem lvM_11 (b : Mem) (n : Nat) : lvM b n 69 11 = b 69 11 := by
  unfold lvM
  split
  · rw [u2k _ _ (by decide), u1c _ _ (by decide), u2k _ _ (by decide), u1c _ _ (by decide)]
  · rw [u2k _ _ (by decide), u1c _ _ (by decide)]
/-- the newest kept state is what was put aside -/
theorem lvM_new (b : Mem) {n : Nat} (hn : n ≤ 5) {i : Nat} (hi : i < 123) : lvM b n 72 (123 * (min 5 (n + 1) - 1) + i) = b 72 (615 + i) := by
  unfold lvM
  by_cases c : n = 5
  · rw [if_pos c, u2c _ _ (by decide), u1s, c]
    show lvF (shF (b 72) 492) 4 (123 * 4 + i) = _
    unfold lvF
    rw [cpF_in hi]
    unfold shF
    rw [cpF_out (by omega)]
  · rw [if_neg c, u2c _ _ (by decide), u1s, show min 5 (n + 1) - 1 = n by omega]
    unfold lvF
    rw [cpF_in hi]
/-- the others are as before, one place older -/
theorem lvM_old (b : Mem) {n : Nat} (hn : n ≤ 5) {j i : Nat} (hj : j + 1 < min 5 (n + 1)) (hi : i < 123) : lvM b n 72 (123 * (min 5 (n + 1) - 1 - (j + 1)) + i) = b 72 (123 * (n - 1 - j) + i) := by
  unfold lvM
  by_cases c : n = 5
  · rw [if_pos c, u2c _ _ (by decide), u1s, c]
    show lvF (shF (b 72) 492) 4 (123 * (4 - (j + 1)) + i) = b 72 (123 * (4 - j) + i)
    unfold lvF
    rw [cpF_out (by omega)]
    unfold shF cpF
    rw [if_pos (by omega)]
    show b 72 (123 * (4 - (j + 1)) + i - 0 + 123) = _
    rw [show 123 * (4 - (j + 1)) + i - 0 + 123 = 123 * (4 - j) + i by omega]
  · rw [if_neg c, u2c _ _ (by decide), u1s, show min 5 (n + 1) - 1 - (j + 1) = n - 1 - j by omega]
    unfold lvF
    rw [cpF_out (by omega)]
