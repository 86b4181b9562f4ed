/-! the same change on both sides keeps them alike -/
theorem Sim_mk {v w : View} {n m : Nat} (h6v : v 6 0 0 = nI n) (hn : n ≤ 6) (h6 : w 6 0 0 = nI n) (h7v : v 7 0 0 = nI m) (hm : m ≤ 6) (h7 : w 7 0 0 = nI m) (hl : ∀ l, l < n → ∃ r, r ≤ 8 ∧ v 0 l 0 = nI r ∧ w 0 l 0 = nI r ∧ (∀ i, i < r → v 1 l i = w 1 l i) ∧ ∀ i, 0 < i → i < r → v 2 l i = w 2 l i) (hp : ∀ p, p < m → v 3 p 0 = w 3 p 0 ∧ v 4 p 0 = w 4 p 0) (hs : ∀ k, k < 7 → v 5 k 0 = w 5 k 0) : Sim v w := by
  have en : nl v = n := by unfold nl; rw [h6v, nI_clamp (by omega)]
  have em : np v = m := by unfold np; rw [h7v, nI_clamp (by omega)]
  refine ⟨by rw [h6v, h6], by rw [h7v, h7], fun l h => ?_, fun p h => hp p (by omega), hs⟩
  obtain ⟨r, r8, a1, a2, a3, a4⟩ := hl l (by omega)
  have er : rn v l = r := by unfold rn; rw [a1, nI_clamp (by omega)]
  rw [er]
  exact ⟨by rw [a1, a2], a3, a4⟩
theorem Sim.ls {v w : View} (h : Sim v w) (hV : Val v) {l : Nat} (hl : l < nl v) : ∃ r, r ≤ 8 ∧ v 0 l 0 = nI r ∧ w 0 l 0 = nI r ∧ (∀ i, i < r → v 1 l i = w 1 l i) ∧ ∀ i, 0 < i → i < r → v 2 l i = w 2 l i := by
  obtain ⟨a1, a2, a3⟩ := h.2.2.1 l hl
  exact ⟨rn v l, hV.r8 hl, hV.runs hl, by rw [← a1]; exact hV.runs hl, a2, a3⟩
theorem al_o (b : Mem) (n : Nat) (a : Int32) {j : Nat} (h0 : j ≠ 0) (h : j < 9 + 17 * n ∨ 9 + 17 * n + 17 ≤ j) : alN b n a 71 j = b 71 j := by
  unfold alN
  rw [u2k _ _ h0, u2k _ _ (by omega), u2k _ _ (by omega), u1s, cpF_out (by omega)]
theorem al_0 (b : Mem) (n : Nat) (a : Int32) : alN b n a 71 0 = nI n + 1 := by unfold alN; rw [u2s]
theorem al_r (b : Mem) (n : Nat) (a : Int32) : alN b n a 71 (9 + 17 * n) = 1 := by
  unfold alN; rw [u2k _ _ (by omega), u2k _ _ (by omega), u2s]
theorem al_l (b : Mem) (n : Nat) (a : Int32) : alN b n a 71 (9 + 17 * n + 1) = a := by
  unfold alN; rw [u2k _ _ (by omega), u2s]
theorem sim_addLine {m m' : Mem} {o : Nat} (a : Int32) (hS : Sim (cv m o) (mv m')) (hV : Val (cv m o)) : addLineR (m o 6) a = addLineR (m' 71 0) a ∧ Sim (cv (addLineM m o a) o) (mv (addLineN m' a)) := by
  have e : m o 6 = m' 71 0 := hS.1
  refine ⟨by rw [e], ?_⟩
  unfold addLineM addLineN
  rw [← e]
  by_cases ha : ¬ a < 1 ∧ ¬ 60 < a
  · rw [if_pos ha, if_pos ha]
    by_cases hb : m o 6 < 6
    · rw [if_pos hb, if_pos hb, cvU6, cvU2, cvU1, cvU0, ← hS.enl]
      have e6 : m o 6 = nI (nl (cv m o)) := hV.1.1
      rw [e6] at hb
      have h6 := hV.1.2
      have hlt : nl (cv m o) < 6 := (nI_ltI (b := 6) (by omega) (by decide)).mp hb
      refine Sim_mk (n := nl (cv m o) + 1) (m := np (cv m o)) (by rw [vU_t rfl, e6, nI_1]) (by omega) (by show alN m' _ a 71 0 = _; rw [al_0, nI_1]) ?_ hV.2.1.2 ?_ (fun l hl => ?_) (fun p hp => ?_) (fun k hk => ?_)
      · rw [vU_f (by omega), vU_f (by omega), vU_f (by omega), vU_f (by omega)]; exact hV.2.1.1
      · show alN m' _ a 71 1 = _
        rw [al_o _ _ _ (by decide) (by omega)]
        rw [← hV.2.1.1]; exact hS.2.1.symm
      · by_cases c : l = nl (cv m o)
        · refine ⟨1, by omega, ?_, ?_, fun i hi => ?_, fun i h0 hi => by omega⟩
          · rw [c, vU_f (by omega), vU_f (by omega), vU_f (by omega), vU_t ⟨rfl, rfl⟩]; rfl
          · rw [c]; exact al_r _ _ _
          · have : i = 0 := by omega
            subst this
            rw [c, vU_f (by omega), vU_f (by omega), vU_t ⟨rfl, by omega⟩]
            exact (al_l m' _ a).symm
        · obtain ⟨r, r8, a1, a2, a3, a4⟩ := hS.ls hV (show l < nl (cv m o) by omega)
          refine ⟨r, r8, ?_, ?_, fun i hi => ?_, fun i h0 hi => ?_⟩
          · rw [vU_f (by omega), vU_f (by omega), vU_f (by omega), vU_f (by omega)]; exact a1
          · show alN m' _ a 71 (9 + 17 * l) = _
            rw [al_o _ _ _ (by omega) (by omega)]; exact a2
          · rw [vU_f (by omega), vU_f (by omega), vU_f (by omega), vU_f (by omega)]
            show _ = alN m' _ a 71 (9 + 17 * l + 1 + i)
            rw [al_o _ _ _ (by omega) (by omega)]; exact a3 i hi
          · rw [vU_f (by omega), vU_f (by omega), vU_f (by omega), vU_f (by omega)]
            show _ = alN m' _ a 71 (9 + 17 * l + 9 + i)
            rw [al_o _ _ _ (by omega) (by omega)]; exact a4 i h0 hi
      · have hp6 := hV.2.1.2
        refine ⟨?_, ?_⟩
        · rw [vU_f (by omega), vU_f (by omega), vU_f (by omega), vU_f (by omega)]
          show _ = alN m' _ a 71 (111 + 2 * p)
          rw [al_o _ _ _ (by omega) (by omega)]; exact (hS.2.2.2.1 p hp).1
        · rw [vU_f (by omega), vU_f (by omega), vU_f (by omega), vU_f (by omega)]
          show _ = alN m' _ a 71 (111 + 2 * p + 1)
          rw [al_o _ _ _ (by omega) (by omega)]; exact (hS.2.2.2.1 p hp).2
      · rw [vU_f (by omega), vU_f (by omega), vU_f (by omega), vU_f (by omega)]
        show _ = alN m' _ a 71 (2 + k)
        rw [al_o _ _ _ (by omega) (by omega)]; exact hS.2.2.2.2 k hk
    · rw [if_neg hb, if_neg hb]; exact hS
  · rw [if_neg ha, if_neg ha]; exact hS
