/-! SIM behind a change asked of both -/
theorem SIM.chg {b b1 N : Mem} {x : Int32} {op : Mem → Mem} (h : SIM b) (hcl : (x < 0 ∧ RF b x b1) ∨ (¬ x < 0 ∧ ∃ m, Rg (cv m 8) (cv b 1) ∧ Rg (cv b1 1) (cv (op m) 8) ∧ AC b b1)) (hneg : x < 0 → N = ptM b1) (hm : ∀ j, j ≠ 71 → N j = ptM b1 j) (hsim : ∀ m, Sim (cv m 8) (mv (ptM b1)) → Val (cv m 8) → Sim (cv (op m) 8) (mv N)) : SIM (dnM N (hd b) x) := by
  unfold dnM
  rcases hcl with ⟨c, hR⟩ | ⟨c, m, r1, r2, hA⟩
  · rw [if_pos c, hneg c]; exact h.ref hR
  · rw [if_neg c]
    have hvm := r1.sy.vc h.1.1
    have em : mv (ptM b1) = mv b := by unfold mv; rw [ptM_c _ (by decide), hA.2.1.1 71 (by omega)]
    have hs : Sim (cv m 8) (mv (ptM b1)) := by rw [em]; exact (r1.sim hvm.1).tr h.2.1
    exact h.acc hA hm ((r2.sim hA.1.1.1).tr (hsim m hs hvm.1))
