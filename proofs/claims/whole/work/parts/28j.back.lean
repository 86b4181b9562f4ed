/-! SIM behind going back -/
def bkM (b : Mem) (n : Nat) : Mem := up1 (up2 b 69 3 (nI (n - 1))) 71 (cpF (fun i => b 72 (123 * (n - 1) + i)) (b 71) 0 123)
theorem SIM.back {b b1 : Mem} (h : SIM b) (h0 : ¬ hd b = 0) (h1 : BK b b1) : SIM (bkM b1 (hd b)) := by
  obtain ⟨a1, a2, ⟨a3, a4, a5⟩, ⟨a6, a7⟩, a8, a9⟩ := h
  obtain ⟨g1, ⟨g2, g2'⟩, ⟨g3, g4, g5⟩, g6, g7, g8⟩ := h1
  rw [bI0 (by decide)] at g3 g4 g5
  have hd5 := a1.hd5.2
  have e1 : ∀ j, j ≠ 69 → j ≠ 71 → bkM b1 (hd b) j = b1 j := fun j q1 q2 => by unfold bkM; rw [u1c _ _ q2, u2c _ _ q1]
  have ec : cv (bkM b1 (hd b)) 1 = cv b1 1 := cv_same (fun j _ _ => e1 j (by omega) (by omega))
  have eh : hd (bkM b1 (hd b)) = hd b - 1 := by rw [← g6]; show (bkM b1 (hd b) 50 2).toNatClampNeg = (b1 50 2).toNatClampNeg; rw [e1 50 (by omega) (by omega)]
  have ek : pk (bkM b1 (hd b)) = pk b1 := by unfold pk; rw [e1 50 (by omega) (by omega)]
  have et : tn (bkM b1 (hd b)) = tn b := by unfold tn; rw [e1 52 (by omega) (by omega), g2']
  have hv : ∀ j, pv (bkM b1 (hd b)) j = pv b1 j := fun j => by
    unfold pv
    rw [ek]
    exact cv_same (fun i h1 h2 => e1 i (by omega) (by omega))
  refine ⟨CI_low (fun j hj => e1 j (by omega) (by omega)) g1, ?_, ⟨?_, ?_, ?_⟩, ⟨?_, fun k hk => ?_⟩, ?_, fun j hj => ?_⟩
  · rw [ec]
    have h2 : Sim (cv b1 1) (kw b (hd b - 1 - 0)) := (g7.sim g1.1.1).tr (a9 0 (by omega))
    refine Sim_in h2 g1.1.1 (fun i hi => ?_)
    unfold bkM
    rw [u1s]
    have := cpF_in (f := fun i => b1 72 (123 * (hd b - 1) + i)) (g := b1 71) (o := 0) hi
    rw [Nat.zero_add] at this
    rw [this, g2 72 (by omega), Nat.sub_zero]
  · rw [e1 0 (by omega) (by omega), e1 70 (by omega) (by omega), g3, g2 70 (by omega), a3]
  · rw [e1 0 (by omega) (by omega), e1 70 (by omega) (by omega), g4, g2 70 (by omega), a4]
  · rw [e1 0 (by omega) (by omega), e1 70 (by omega) (by omega), g5, g2 70 (by omega), a5]
  · rw [e1 52 (by omega) (by omega), g2', a6]
    unfold bkM
    rw [u1c _ _ (by decide), u2k _ _ (by decide), g2 69 (by omega)]
  · rw [et] at hk
    rw [e1 53 (by omega) (by omega), e1 79 (by omega) (by omega), g2 53 (by omega), g2 79 (by omega)]; exact a7 k hk
  · rw [eh]
    unfold bkM
    rw [u1c _ _ (by decide), u2s]
  · rw [eh] at hj ⊢
    rw [hv, g8 j (by rw [g6]; exact hj)]
    have h2 := a9 (j + 1) (by omega)
    unfold kw at h2 ⊢
    rw [e1 72 (by omega) (by omega), g2 72 (by omega), show hd b - 1 - 1 - j = hd b - 1 - (j + 1) by omega]
    exact h2
