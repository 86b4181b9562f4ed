/-! the orders of a text, done on both sides -/
theorem nOf_cases {c : Int32} (h : ¬ nOf c = 0) : c = 103 ∨ c = 107 ∨ c = 108 ∨ c = 115 ∨ c = 119 := by
  rcases sw5 c with q | q | q | q | q | q
  · exact Or.inl q
  · exact Or.inr (Or.inl q)
  · exact Or.inr (Or.inr (Or.inl q))
  · exact Or.inr (Or.inr (Or.inr (Or.inl q)))
  · exact Or.inr (Or.inr (Or.inr (Or.inr q)))
  · exact absurd (sw5_ne q) h
theorem sim_ao {m m' : Mem} {o : Nat} {c x y z x' y' z' : Int32} (hS : Sim (cv m o) (mv m')) (hV : Val (cv m o)) (hc : ¬ nOf c = 0) (hx : x' = x) (hy : 2 ≤ nOf c → y' = y) (hz : nOf c = 3 → z' = z) : aoR m o c x y z = maR m' c x' y' z' ∧ Sim (cv (aoM m o c x y z) o) (mv (maM m' c x' y' z')) := by
  subst hx
  rcases nOf_cases hc with rfl | rfl | rfl | rfl | rfl
  · rw [hy (by decide), hz (by decide)]
    exact sim_addRun x' y z hS hV
  · rw [hy (by decide)]
    exact sim_addPocket x' y hS hV
  · exact sim_addLine x' hS hV
  · rw [hy (by decide)]
    exact sim_set x' y hS hV
  · rw [hy (by decide)]
    exact sim_wide x' y hS hV
theorem sim_ap {m m' : Mem} {W : Nat} (hS : Sim (cv m 8) (mv m')) (hV : VC (cv m 8)) (hR : ∀ i, i < W → m' 80 (4 * i) = m 54 i ∧ ¬ nOf (m 54 i) = 0 ∧ ∀ j, j < nOf (m 54 i) → m' 80 (4 * i + 1 + j) = m 55 (i * 3 + j)) : ∀ k, k ≤ W → Sim (cv (apM m 8 k) 8) (mv (mpM m' k)) ∧ (k < W → apR (apM m 8 k) 8 k = mkR (mpM m' k) k) := by
  have hVk := vc_ap hV
  have step : ∀ k, k < W → Sim (cv (apM m 8 k) 8) (mv (mpM m' k)) → apR (apM m 8 k) 8 k = mkR (mpM m' k) k ∧ Sim (cv (apM m 8 (k + 1)) 8) (mv (mpM m' (k + 1))) := by
    intro k hk h
    obtain ⟨a1, a2, a3⟩ := hR k hk
    have e54 : apM m 8 k 54 = m 54 := apM_c _ _ _ (by omega)
    have e55 : apM m 8 k 55 = m 55 := apM_c _ _ _ (by omega)
    have e80 : mpM m' k 80 = m' 80 := mpM_c _ _ (by decide)
    have := sim_ao (c := m 54 k) (x := m 55 (k * 3 + 0)) (y := m 55 (k * 3 + 1)) (z := m 55 (k * 3 + 2)) (x' := m' 80 (4 * k + 1)) (y' := m' 80 (4 * k + 2)) (z' := m' 80 (4 * k + 3)) h (hVk k).1 a2 (a3 0 (by omega)) (fun q => a3 1 (by omega)) (fun q => a3 2 (by omega))
    simp only [apR, apM, mpM]
    show aoR _ 8 (apM m 8 k 54 k) (apM m 8 k 55 _) (apM m 8 k 55 _) (apM m 8 k 55 _) = maR _ (mpM m' k 80 _) (mpM m' k 80 _) (mpM m' k 80 _) (mpM m' k 80 _) ∧ Sim (cv (aoM _ 8 (apM m 8 k 54 k) (apM m 8 k 55 _) (apM m 8 k 55 _) (apM m 8 k 55 _)) 8) (mv (maM _ (mpM m' k 80 _) (mpM m' k 80 _) (mpM m' k 80 _) (mpM m' k 80 _)))
    rw [e54, e55, e80, a1]
    exact this
  intro k
  induction k with
  | zero => intro _; exact ⟨hS, fun h => (step 0 h hS).1⟩
  | succ k ih =>
    intro hk
    obtain ⟨h1, -⟩ := ih (by omega)
    have h2 := (step k (by omega) h1).2
    exact ⟨h2, fun h => (step (k + 1) h h2).1⟩
