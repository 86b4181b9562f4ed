/-! the same change on both sides: pockets, settings -/
/-- a change of the reference's row in one place that belongs to no line -/
theorem Sim_pk {v v' : View} {f f' : Nat → Int32} {M : Nat} (hS : Sim v (mw f)) (hV : Val v) (h6 : v' 6 0 0 = v 6 0 0) (h0 : ∀ l i, v' 0 l i = v 0 l i ∧ v' 1 l i = v 1 l i ∧ v' 2 l i = v 2 l i) (hf0 : f' 0 = f 0) (hf : ∀ j, 9 ≤ j → j < 111 → f' j = f j) (h7 : v' 7 0 0 = nI M) (hM : M ≤ 6) (hf1 : f' 1 = nI M) (hp : ∀ p, p < M → v' 3 p 0 = f' (111 + 2 * p) ∧ v' 4 p 0 = f' (111 + 2 * p + 1)) (hs : ∀ k, k < 7 → v' 5 k 0 = f' (2 + k)) : Sim v' (mw f') := by
  have hn6 := hV.1.2
  refine Sim_mk (n := nl v) (m := M) (by rw [h6]; exact hV.1.1) hn6 ?_ h7 hM hf1 (fun l hl => ?_) hp hs
  · show f' 0 = _
    rw [hf0, ← hV.1.1]; exact hS.1.symm
  · obtain ⟨r, r8, a1, a2, a3, a4⟩ := hS.ls hV hl
    refine ⟨r, r8, by rw [(h0 l 0).1]; exact a1, ?_, fun i hi => ?_, fun i hz hi => ?_⟩
    · show f' (9 + 17 * l) = _
      rw [hf _ (by omega) (by omega)]; exact a2
    · rw [(h0 l i).2.1]
      show _ = f' (9 + 17 * l + 1 + i)
      rw [hf _ (by omega) (by omega)]; exact a3 i hi
    · rw [(h0 l i).2.2]
      show _ = f' (9 + 17 * l + 9 + i)
      rw [hf _ (by omega) (by omega)]; exact a4 i hz hi
theorem sim_addPocket {m m' : Mem} {o : Nat} (w t : Int32) (hS : Sim (cv m o) (mv m')) (hV : Val (cv m o)) : addPocketR (m o 7) w t = addPocketR (m' 71 1) w t ∧ Sim (cv (addPocketM m o w t) o) (mv (addPocketN m' w t)) := by
  have e : m o 7 = m' 71 1 := hS.2.1
  have e7 : m o 7 = nI (np (cv m o)) := hV.2.1.1
  have h6 := hV.2.1.2
  refine ⟨by rw [e], ?_⟩
  unfold addPocketM addPocketN
  rw [← e]
  by_cases ha : (¬ w < 1 ∧ ¬ 60 < w) ∧ ¬ t < 0 ∧ ¬ 63 < t
  · rw [if_pos ha, if_pos ha]
    by_cases hb : m o 7 < 6
    · rw [if_pos hb, if_pos hb, cvU7, cvU4, cvU3, ← hS.enp]
      rw [e7] at hb
      have hlt : np (cv m o) < 6 := (nI_ltI (b := 6) (by omega) (by decide)).mp hb
      have q0 : ∀ j, j ≠ 1 → j ≠ 111 + 2 * np (cv m o) → j ≠ 111 + 2 * np (cv m o) + 1 → apN m' (np (cv m o)) w t 71 j = m' 71 j := fun j h1 h2 h3 => by
        unfold apN; rw [u2k _ _ h1, u2k _ _ h3, u2k _ _ h2]
      refine Sim_pk (M := np (cv m o) + 1) hS hV (by rw [vUs (by omega) (by omega) (by omega)]) (fun l i => ⟨vUs (by omega) (by omega) (by omega), vUs (by omega) (by omega) (by omega), vUs (by omega) (by omega) (by omega)⟩) (q0 0 (by omega) (by omega) (by omega)) (fun j h1 h2 => q0 j (by omega) (by omega) (by omega)) (by rw [vU_t (by omega), e7, nI_1]) (by omega) ?_ (fun p hp => ?_) (fun k hk => ?_)
      · unfold apN; rw [u2s, nI_1]
      · by_cases c : p = np (cv m o)
        · subst c
          refine ⟨?_, ?_⟩
          · rw [vU_f (by omega), vU_f (by omega), vU_t ⟨rfl, rfl⟩]
            unfold apN; rw [u2k _ _ (by omega), u2k _ _ (by omega), u2s]
          · rw [vU_f (by omega), vU_t ⟨rfl, rfl⟩]
            unfold apN; rw [u2k _ _ (by omega), u2s]
        · rw [vUs (by omega) (by omega) (by omega), vUs (by omega) (by omega) (by omega), q0 _ (by omega) (by omega) (by omega), q0 _ (by omega) (by omega) (by omega)]
          exact hS.2.2.2.1 p (by omega)
      · rw [vUs (by omega) (by omega) (by omega), q0 _ (by omega) (by omega) (by omega)]
        exact hS.2.2.2.2 k hk
    · rw [if_neg hb, if_neg hb]; exact hS
  · rw [if_neg ha, if_neg ha]; exact hS
theorem sim_wide {m m' : Mem} {o : Nat} (p w : Int32) (hS : Sim (cv m o) (mv m')) (hV : Val (cv m o)) : wideR (m o 7) (m (o + 4) p.toNatClampNeg) p w = wideR (m' 71 1) (m' 71 (111 + 2 * p.toNatClampNeg)) p w ∧ Sim (cv (wideM m o p w) o) (mv (wideN m' p w)) := by
  have e : m o 7 = m' 71 1 := hS.2.1
  have e7 : m o 7 = nI (np (cv m o)) := hV.2.1.1
  have h6 := hV.2.1.2
  unfold wideR wideM wideN
  rw [← e]
  by_cases hc : (¬ p < 0 ∧ p < m o 7) ∧ ¬ w < 1 ∧ ¬ 60 < w
  · rw [if_pos hc, if_pos hc, if_pos hc, if_pos hc]
    have hc2 := hc.1.2
    rw [e7] at hc2
    obtain ⟨k, hk, rfl⟩ := in_of hc.1.1 hc2 (by omega)
    have hkc : (nI k).toNatClampNeg = k := nI_clamp (by omega)
    rw [hkc]
    refine ⟨(hS.2.2.2.1 k hk).1, ?_⟩
    rw [cvU3]
    refine Sim_pk (M := np (cv m o)) hS hV (by rw [vU_f (by omega)]) (fun l i => ⟨vU_f (by omega), vU_f (by omega), vU_f (by omega)⟩) (u2k _ _ (by omega)) (fun j h1 h2 => u2k _ _ (by omega)) (by rw [vU_f (by omega)]; exact e7) h6 ?_ (fun q hq => ?_) (fun j hj => ?_)
    · rw [u2k _ _ (by omega), ← e, e7]
    · refine ⟨?_, ?_⟩
      · by_cases c : q = k
        · subst c; rw [vU_t ⟨rfl, rfl⟩, u2s]
        · rw [vU_f (by omega), u2k _ _ (by omega)]; exact (hS.2.2.2.1 q hq).1
      · rw [vU_f (by omega), u2k _ _ (by omega)]; exact (hS.2.2.2.1 q hq).2
    · rw [vU_f (by omega), u2k _ _ (by omega)]; exact hS.2.2.2.2 j hj
  · rw [if_neg hc, if_neg hc, if_neg hc, if_neg hc]; exact ⟨rfl, hS⟩
theorem sim_touch {m m' : Mem} {o : Nat} (p w : Int32) (hS : Sim (cv m o) (mv m')) (hV : Val (cv m o)) : touchR (m o 7) (m (o + 5) p.toNatClampNeg) p w = touchR (m' 71 1) (m' 71 (111 + 2 * p.toNatClampNeg + 1)) p w ∧ Sim (cv (touchM m o p w) o) (mv (touchN m' p w)) := by
  have e : m o 7 = m' 71 1 := hS.2.1
  have e7 : m o 7 = nI (np (cv m o)) := hV.2.1.1
  have h6 := hV.2.1.2
  unfold touchR touchM touchN
  rw [← e]
  by_cases hc : (¬ p < 0 ∧ p < m o 7) ∧ ¬ w < 0 ∧ ¬ 63 < w
  · rw [if_pos hc, if_pos hc, if_pos hc, if_pos hc]
    have hc2 := hc.1.2
    rw [e7] at hc2
    obtain ⟨k, hk, rfl⟩ := in_of hc.1.1 hc2 (by omega)
    have hkc : (nI k).toNatClampNeg = k := nI_clamp (by omega)
    rw [hkc]
    refine ⟨(hS.2.2.2.1 k hk).2, ?_⟩
    rw [cvU4]
    refine Sim_pk (M := np (cv m o)) hS hV (by rw [vU_f (by omega)]) (fun l i => ⟨vU_f (by omega), vU_f (by omega), vU_f (by omega)⟩) (u2k _ _ (by omega)) (fun j h1 h2 => u2k _ _ (by omega)) (by rw [vU_f (by omega)]; exact e7) h6 ?_ (fun q hq => ?_) (fun j hj => ?_)
    · rw [u2k _ _ (by omega), ← e, e7]
    · refine ⟨?_, ?_⟩
      · rw [vU_f (by omega), u2k _ _ (by omega)]; exact (hS.2.2.2.1 q hq).1
      · by_cases c : q = k
        · subst c; rw [vU_t ⟨rfl, rfl⟩, u2s]
        · rw [vU_f (by omega), u2k _ _ (by omega)]; exact (hS.2.2.2.1 q hq).2
    · rw [vU_f (by omega), u2k _ _ (by omega)]; exact hS.2.2.2.2 j hj
  · rw [if_neg hc, if_neg hc, if_neg hc, if_neg hc]; exact ⟨rfl, hS⟩
theorem sim_set {m m' : Mem} {o : Nat} (k x : Int32) (hS : Sim (cv m o) (mv m')) (hV : Val (cv m o)) : setR (m (o + 6) k.toNatClampNeg) k x = setR (m' 71 (2 + k.toNatClampNeg)) k x ∧ Sim (cv (setM m o k x) o) (mv (setN m' k x)) := by
  have h6 := hV.2.1.2
  unfold setR setM setN
  by_cases hc : (¬ k < 0 ∧ ¬ 6 < k) ∧ ¬ x < lowF k.toNatClampNeg ∧ ¬ higF k.toNatClampNeg < x
  · rw [if_pos hc, if_pos hc, if_pos hc, if_pos hc]
    obtain ⟨j, hj, rfl⟩ := in_of6 (n := 6) hc.1.1 hc.1.2 (by decide)
    have hkc : (nI j).toNatClampNeg = j := nI_clamp (by omega)
    rw [hkc]
    refine ⟨hS.2.2.2.2 j hj, ?_⟩
    rw [cvU5]
    refine Sim_pk (M := np (cv m o)) hS hV (by rw [vU_f (by omega)]) (fun l i => ⟨vU_f (by omega), vU_f (by omega), vU_f (by omega)⟩) (u2k _ _ (by omega)) (fun j h1 h2 => u2k _ _ (by omega)) (by rw [vU_f (by omega)]; exact hV.2.1.1) h6 ?_ (fun q hq => ?_) (fun q hq => ?_)
    · rw [u2k _ _ (by omega), ← hV.2.1.1]; exact hS.2.1.symm
    · rw [vU_f (by omega), vU_f (by omega), u2k _ _ (by omega), u2k _ _ (by omega)]; exact hS.2.2.2.1 q hq
    · by_cases c : q = j
      · subst c; rw [vU_t ⟨rfl, rfl⟩, u2s]
      · rw [vU_f (by omega), u2k _ _ (by omega)]; exact hS.2.2.2.2 q hq
  · rw [if_neg hc, if_neg hc, if_neg hc, if_neg hc]; exact ⟨rfl, hS⟩
