/-! SIM behind doing the text -/
theorem SIM.fail {b b1 b2 : Mem} (h : SIM b) (h1 : DF b b1) (hm : ∀ j, j ≠ 69 → j ≠ 71 → j ≠ 72 → j ≠ 80 → b2 j = b1 j) (h3 : b2 69 3 = b1 69 3) (h11 : b2 69 11 = b1 69 11) (h71 : ∀ i, i < 123 → b2 71 i = b1 71 i) (h72 : ∀ i, i < 615 → b2 72 i = b1 72 i) : SIM b2 := by
  obtain ⟨a1, a2, ⟨a3, a4, a5⟩, ⟨a6, a7⟩, a8, a9⟩ := h
  obtain ⟨g1, ⟨g2, g2'⟩, g3, g4, g5⟩ := h1
  rw [bI0 (by decide)] at g3 g4 g5
  have e : ∀ j, ((1 ≤ j ∧ j ≤ 7) ∨ (15 ≤ j ∧ j ≤ 51) ∨ j = 53 ∨ j = 70 ∨ j = 79) → b2 j = b j := fun j hj => by rw [hm j (by omega) (by omega) (by omega) (by omega), g2 j (by omega)]
  have e0 : b2 0 = b1 0 := hm 0 (by omega) (by omega) (by omega) (by omega)
  have e52 : b2 52 3 = b 52 3 := by rw [hm 52 (by omega) (by omega) (by omega) (by omega)]; exact g2'
  have ec : cv b2 1 = cv b 1 := cv_same (fun j _ _ => e j (by omega))
  have eh : hd b2 = hd b := by unfold hd; rw [e 50 (by omega)]
  have ek : pk b2 = pk b := by unfold pk; rw [e 50 (by omega)]
  have et : tn b2 = tn b := by unfold tn; rw [e52]
  have hd5 := a1.hd5.2
  refine ⟨CI_low (fun j hj => hm j (by omega) (by omega) (by omega) (by omega)) g1, ?_, ⟨?_, ?_, ?_⟩, ⟨by rw [e52, h11, g2 69 (by omega)]; exact a6, fun k hk => ?_⟩, by rw [h3, g2 69 (by omega), eh]; exact a8, fun j hj => ?_⟩
  · rw [ec]
    refine Sim_in (f := b 71) a2 a1.1.1 (fun i hi => ?_)
    rw [h71 i hi, g2 71 (by omega)]
  · rw [e0, g3, e 70 (by omega), a3]
  · rw [e0, g4, e 70 (by omega), a4]
  · rw [e0, g5, e 70 (by omega), a5]
  · rw [et] at hk
    rw [e 53 (by omega), e 79 (by omega)]; exact a7 k hk
  · rw [eh] at hj ⊢
    have hv : pv b2 j = pv b j := by
      unfold pv
      rw [ek]
      exact cv_same (fun i h1 h2 => e i (by omega))
    rw [hv]
    refine Sim_in (a9 j hj) ((PS.st a1.2.2.2.2).2.2.2.2 j hj).1 (fun i hi => ?_)
    rw [h72 _ (by omega), g2 72 (by omega)]
theorem SIM.accD {b b1 m : Mem} (h : SIM b) (h1 : AC b b1) (hm : ∀ j, j ≠ 69 → j ≠ 71 → j ≠ 80 → m j = ptM b1 j) (hm11 : m 69 11 = b1 69 11) (hS : Sim (cv b1 1) (mv m)) : SIM (lvM m (hd b)) := by
  obtain ⟨a1, a2, ⟨a3, a4, a5⟩, ⟨a6, a7⟩, a8, a9⟩ := h
  obtain ⟨g1, ⟨g2, g2'⟩, ⟨g3, g4, g5⟩, g6, g7, g8⟩ := h1
  rw [bI0 (by decide)] at g3 g4 g5
  have hd5 := a1.hd5.2
  have e1 : ∀ j, j ≠ 69 → j ≠ 71 → j ≠ 72 → j ≠ 80 → lvM m (hd b) j = b1 j := fun j q1 q2 q3 q4 => by rw [lvM_c _ _ q1 q3, hm j q1 q2 q4, ptM_c _ q3]
  have e71 : lvM m (hd b) 71 = m 71 := lvM_c _ _ (by decide) (by decide)
  have m72 : m 72 = ptM b1 72 := hm 72 (by decide) (by decide) (by decide)
  have ec : cv (lvM m (hd b)) 1 = cv b1 1 := cv_same (fun j _ _ => e1 j (by omega) (by omega) (by omega) (by omega))
  have eh : hd (lvM m (hd b)) = min 5 (hd b + 1) := by rw [← g6]; show (lvM m (hd b) 50 2).toNatClampNeg = (b1 50 2).toNatClampNeg; rw [e1 50 (by omega) (by omega) (by omega) (by omega)]
  have ek : pk (lvM m (hd b)) = pk b1 := by unfold pk; rw [e1 50 (by omega) (by omega) (by omega) (by omega)]
  have et : tn (lvM m (hd b)) = tn b := by unfold tn; rw [e1 52 (by omega) (by omega) (by omega) (by omega), g2']
  have hv : ∀ j, pv (lvM m (hd b)) j = pv b1 j := fun j => by
    unfold pv
    rw [ek]
    exact cv_same (fun i h1 h2 => e1 i (by omega) (by omega) (by omega) (by omega))
  refine ⟨CI_low (fun j hj => e1 j (by omega) (by omega) (by omega) (by omega)) g1, ?_, ⟨?_, ?_, ?_⟩, ⟨?_, fun k hk => ?_⟩, ?_, fun j hj => ?_⟩
  · rw [ec]
    unfold mv
    rw [e71]; exact hS
  · rw [e1 0 (by omega) (by omega) (by omega) (by omega), e1 70 (by omega) (by omega) (by omega) (by omega), g3, g2 70 (by omega), a3]
  · rw [e1 0 (by omega) (by omega) (by omega) (by omega), e1 70 (by omega) (by omega) (by omega) (by omega), g4, g2 70 (by omega), a4]
  · rw [e1 0 (by omega) (by omega) (by omega) (by omega), e1 70 (by omega) (by omega) (by omega) (by omega), g5, g2 70 (by omega), a5]
  · rw [e1 52 (by omega) (by omega) (by omega) (by omega), lvM_11, hm11, g2', g2 69 (by omega)]; exact a6
  · rw [et] at hk
    rw [e1 53 (by omega) (by omega) (by omega) (by omega), e1 79 (by omega) (by omega) (by omega) (by omega), g2 53 (by omega), g2 79 (by omega)]; exact a7 k hk
  · rw [lvM_3 _ hd5, eh]
  · rw [eh] at hj ⊢
    rw [hv]
    have hvc : VC (pv b1 j) := (PS.st g1.2.2.2.2).2.2.2.2 j (by rw [g6]; exact hj)
    cases j with
    | zero =>
      have h2 : Sim (pv b1 0) (mv b) := (g7.sim hvc.1).tr a2
      refine Sim_in h2 hvc.1 (fun i hi => ?_)
      have := lvM_new m hd5 hi
      rw [Nat.sub_zero, this, m72, ptM_5 _ hi, g2 71 (by omega)]
    | succ j =>
      have h2 := a9 j (by omega)
      have e8 := g8 j (by rw [g6]; exact hj)
      rw [e8] at hvc ⊢
      refine Sim_in h2 hvc.1 (fun i hi => ?_)
      rw [lvM_old m hd5 hj hi, m72, ptM_72 _ (by omega), g2 72 (by omega)]
