/-! the same change on both sides: runs, pockets, settings -/
theorem vUs {P Q R : Nat → Nat → Nat → Prop} {x y z : Int32} {v : View} {c l i : Nat} (hp : ¬ P c l i) (hq : ¬ Q c l i) (hr : ¬ R c l i) : vU P x (vU Q y (vU R z v)) c l i = v c l i := by rw [vU_f hp, vU_f hq, vU_f hr]
theorem ar_o (b : Mem) (l r : Nat) (t a : Int32) {j : Nat} (h1 : j ≠ 9 + 17 * l + 1 + r) (h2 : j ≠ 9 + 17 * l + 9 + r) (h3 : j ≠ 9 + 17 * l) : arN b l r t a 71 j = b 71 j := by
  unfold arN; rw [u2k _ _ h3, u2k _ _ h2, u2k _ _ h1]
theorem sim_addRun {m m' : Mem} {o : Nat} (l t a : Int32) (hS : Sim (cv m o) (mv m')) (hV : Val (cv m o)) : addRunR (m o 6) (m (o + 1) l.toNatClampNeg) l t a = addRunR (m' 71 0) (m' 71 (9 + 17 * l.toNatClampNeg)) l t a ∧ Sim (cv (addRunM m o l t a) o) (mv (addRunN m' l t a)) := by
  have e : m o 6 = m' 71 0 := hS.1
  have e6 : m o 6 = nI (nl (cv m o)) := hV.1.1
  have h6 := hV.1.2
  unfold addRunR addRunM addRunN
  rw [← e]
  by_cases hc : (¬ l < 0 ∧ l < m o 6) ∧ (¬ t < 0 ∧ ¬ 1 < t) ∧ ¬ a < 1 ∧ ¬ 60 < a
  · rw [if_pos hc, if_pos hc, if_pos hc, if_pos hc]
    have hc2 := hc.1.2
    rw [e6] at hc2
    obtain ⟨k, hk, rfl⟩ := in_of hc.1.1 hc2 (by omega)
    have hkc : (nI k).toNatClampNeg = k := nI_clamp (by omega)
    rw [hkc]
    have er : m (o + 1) k = m' 71 (9 + 17 * k) := (hS.2.2.1 k hk).1
    have erv : m (o + 1) k = nI (rn (cv m o) k) := hV.runs hk
    rw [← er]
    refine ⟨rfl, ?_⟩
    by_cases hr : m (o + 1) k < 8
    · rw [if_pos hr, if_pos hr, cvU0, cvU2, cvU1, ← hS.ern hk]
      rw [erv] at hr ⊢
      have r8 := hV.r8 hk
      have hr8 : rn (cv m o) k < 8 := (nI_ltI (b := 8) (by omega) (by decide)).mp hr
      refine Sim_mk (n := nl (cv m o)) (m := np (cv m o)) ?_ h6 ?_ ?_ hV.2.1.2 ?_ (fun l hl => ?_) (fun p hp => ?_) (fun q hq => ?_)
      · rw [vUs (by omega) (by omega) (by omega)]; exact hV.1.1
      · show arN m' k _ t a 71 0 = _
        rw [ar_o _ _ _ _ _ (by omega) (by omega) (by omega), ← e, e6]
      · rw [vUs (by omega) (by omega) (by omega)]; exact hV.2.1.1
      · show arN m' k _ t a 71 1 = _
        rw [ar_o _ _ _ _ _ (by omega) (by omega) (by omega), ← hV.2.1.1]; exact hS.2.1.symm
      · obtain ⟨r, r8', a1, a2, a3, a4⟩ := hS.ls hV hl
        by_cases c : l = k
        · subst c
          have hrr : r = rn (cv m o) l := by
            have h9 : cv m o 0 l 0 = nI (rn (cv m o) l) := hV.runs hl
            rw [a1] at h9
            exact (nI_eq (by omega) (by omega)).mp h9
          subst hrr
          refine ⟨rn (cv m o) l + 1, by omega, ?_, ?_, fun i hi => ?_, fun i h0 hi => ?_⟩
          · rw [vU_t ⟨rfl, rfl⟩, nI_1]
          · show arN m' l _ t a 71 (9 + 17 * l) = _
            unfold arN; rw [u2s, nI_1]
          · by_cases z : i = rn (cv m o) l
            · subst z
              rw [vU_f (by omega), vU_f (by omega), vU_t ⟨rfl, rfl⟩]
              show _ = arN m' l _ t a 71 (9 + 17 * l + 1 + rn (cv m o) l)
              unfold arN; rw [u2k _ _ (by omega), u2k _ _ (by omega), u2s]
            · rw [vUs (by omega) (by omega) (by omega)]
              show _ = arN m' l _ t a 71 (9 + 17 * l + 1 + i)
              rw [ar_o _ _ _ _ _ (by omega) (by omega) (by omega)]; exact a3 i (by omega)
          · by_cases z : i = rn (cv m o) l
            · subst z
              rw [vU_f (by omega), vU_t ⟨rfl, rfl⟩]
              show _ = arN m' l _ t a 71 (9 + 17 * l + 9 + rn (cv m o) l)
              unfold arN; rw [u2k _ _ (by omega), u2s]
            · rw [vUs (by omega) (by omega) (by omega)]
              show _ = arN m' l _ t a 71 (9 + 17 * l + 9 + i)
              rw [ar_o _ _ _ _ _ (by omega) (by omega) (by omega)]; exact a4 i h0 (by omega)
        · refine ⟨r, r8', ?_, ?_, fun i hi => ?_, fun i h0 hi => ?_⟩
          · rw [vUs (by omega) (by omega) (by omega)]; exact a1
          · show arN m' k _ t a 71 (9 + 17 * l) = _
            rw [ar_o _ _ _ _ _ (by omega) (by omega) (by omega)]; exact a2
          · rw [vUs (by omega) (by omega) (by omega)]
            show _ = arN m' k _ t a 71 (9 + 17 * l + 1 + i)
            rw [ar_o _ _ _ _ _ (by omega) (by omega) (by omega)]; exact a3 i hi
          · rw [vUs (by omega) (by omega) (by omega)]
            show _ = arN m' k _ t a 71 (9 + 17 * l + 9 + i)
            rw [ar_o _ _ _ _ _ (by omega) (by omega) (by omega)]; exact a4 i h0 hi
      · have hp6 := hV.2.1.2
        refine ⟨?_, ?_⟩
        · rw [vUs (by omega) (by omega) (by omega)]
          show _ = arN m' k _ t a 71 (111 + 2 * p)
          rw [ar_o _ _ _ _ _ (by omega) (by omega) (by omega)]; exact (hS.2.2.2.1 p hp).1
        · rw [vUs (by omega) (by omega) (by omega)]
          show _ = arN m' k _ t a 71 (111 + 2 * p + 1)
          rw [ar_o _ _ _ _ _ (by omega) (by omega) (by omega)]; exact (hS.2.2.2.1 p hp).2
      · rw [vUs (by omega) (by omega) (by omega)]
        show _ = arN m' k _ t a 71 (2 + q)
        rw [ar_o _ _ _ _ _ (by omega) (by omega) (by omega)]; exact hS.2.2.2.2 q hq
    · rw [if_neg hr, if_neg hr]; exact hS
  · rw [if_neg hc, if_neg hc, if_neg hc, if_neg hc]; exact ⟨rfl, hS⟩
theorem sim_dropRun {m m' : Mem} {o : Nat} (l : Int32) (hS : Sim (cv m o) (mv m')) (hV : Val (cv m o)) : dropRunR (m o 6) (m (o + 1) l.toNatClampNeg) l = dropRunR (m' 71 0) (m' 71 (9 + 17 * l.toNatClampNeg)) l ∧ Sim (cv (dropRunM m o l) o) (mv (dropRunN m' l)) := by
  have e : m o 6 = m' 71 0 := hS.1
  have e6 : m o 6 = nI (nl (cv m o)) := hV.1.1
  have h6 := hV.1.2
  unfold dropRunR dropRunM dropRunN
  rw [← e]
  by_cases hc : ¬ l < 0 ∧ l < m o 6
  · rw [if_pos hc, if_pos hc, if_pos hc, if_pos hc]
    have hc2 := hc.2
    rw [e6] at hc2
    obtain ⟨k, hk, rfl⟩ := in_of hc.1 hc2 (by omega)
    have hkc : (nI k).toNatClampNeg = k := nI_clamp (by omega)
    rw [hkc]
    have er : m (o + 1) k = m' 71 (9 + 17 * k) := (hS.2.2.1 k hk).1
    have erv : m (o + 1) k = nI (rn (cv m o) k) := hV.runs hk
    rw [← er]
    refine ⟨rfl, ?_⟩
    by_cases hr : m (o + 1) k - 1 < 1
    · rw [if_pos hr, if_pos hr]; exact hS
    · rw [if_neg hr, if_neg hr, cvU0, erv]
      have r1 := hV.r1 hk
      have r8 := hV.r8 hk
      refine Sim_mk (n := nl (cv m o)) (m := np (cv m o)) ?_ h6 ?_ ?_ hV.2.1.2 ?_ (fun l hl => ?_) (fun p hp => ?_) (fun q hq => ?_)
      · rw [vU_f (by omega)]; exact hV.1.1
      · show up2 m' 71 _ _ 71 0 = _
        rw [u2k _ _ (by omega), ← e, e6]
      · rw [vU_f (by omega)]; exact hV.2.1.1
      · show up2 m' 71 _ _ 71 1 = _
        rw [u2k _ _ (by omega), ← hV.2.1.1]; exact hS.2.1.symm
      · obtain ⟨r, r8', a1, a2, a3, a4⟩ := hS.ls hV hl
        by_cases c : l = k
        · subst c
          have hrr : r = rn (cv m o) l := by
            have h9 : cv m o 0 l 0 = nI (rn (cv m o) l) := hV.runs hl
            rw [a1] at h9
            exact (nI_eq (by omega) (by omega)).mp h9
          subst hrr
          refine ⟨rn (cv m o) l - 1, by omega, ?_, ?_, fun i hi => ?_, fun i h0 hi => ?_⟩
          · rw [vU_t ⟨rfl, rfl⟩, nI_sub1 (by omega)]
          · show up2 m' 71 _ _ 71 (9 + 17 * l) = _
            rw [u2s, nI_sub1 (by omega)]
          · rw [vU_f (by omega)]
            show _ = up2 m' 71 _ _ 71 (9 + 17 * l + 1 + i)
            rw [u2k _ _ (by omega)]; exact a3 i (by omega)
          · rw [vU_f (by omega)]
            show _ = up2 m' 71 _ _ 71 (9 + 17 * l + 9 + i)
            rw [u2k _ _ (by omega)]; exact a4 i h0 (by omega)
        · refine ⟨r, r8', ?_, ?_, fun i hi => ?_, fun i h0 hi => ?_⟩
          · rw [vU_f (by omega)]; exact a1
          · show up2 m' 71 _ _ 71 (9 + 17 * l) = _
            rw [u2k _ _ (by omega)]; exact a2
          · rw [vU_f (by omega)]
            show _ = up2 m' 71 _ _ 71 (9 + 17 * l + 1 + i)
            rw [u2k _ _ (by omega)]; exact a3 i hi
          · rw [vU_f (by omega)]
            show _ = up2 m' 71 _ _ 71 (9 + 17 * l + 9 + i)
            rw [u2k _ _ (by omega)]; exact a4 i h0 hi
      · have hp6 := hV.2.1.2
        refine ⟨?_, ?_⟩
        · rw [vU_f (by omega)]
          show _ = up2 m' 71 _ _ 71 (111 + 2 * p)
          rw [u2k _ _ (by omega)]; exact (hS.2.2.2.1 p hp).1
        · rw [vU_f (by omega)]
          show _ = up2 m' 71 _ _ 71 (111 + 2 * p + 1)
          rw [u2k _ _ (by omega)]; exact (hS.2.2.2.1 p hp).2
      · rw [vU_f (by omega)]
        show _ = up2 m' 71 _ _ 71 (2 + q)
        rw [u2k _ _ (by omega)]; exact hS.2.2.2.2 q hq
  · rw [if_neg hc, if_neg hc, if_neg hc, if_neg hc]; exact ⟨rfl, hS⟩
