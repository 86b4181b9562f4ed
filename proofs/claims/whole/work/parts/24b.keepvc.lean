/-! the class's changes keep what holds of a view -/
def lgOk (x : Int32) : Prop := ¬ x < 1 ∧ ¬ 60 < x
def tcOk (x : Int32) : Prop := ¬ x < 0 ∧ ¬ 63 < x
theorem VC_mk {w : View} {n m : Nat} (h6 : w 6 0 0 = nI n) (hn : n ≤ 6) (h7 : w 7 0 0 = nI m) (hm : m ≤ 6) (hl : ∀ l, l < n → ∃ r, w 0 l 0 = nI r ∧ 1 ≤ r ∧ r ≤ 8 ∧ (∀ i, i < r → lgOk (w 1 l i)) ∧ (∀ i, 0 < i → i < r → w 2 l i = 0 ∨ w 2 l i = 1) ∧ w 2 l 0 = -1) (hp : ∀ p, p < m → lgOk (w 3 p 0) ∧ tcOk (w 4 p 0)) (hs : ∀ k, k < 7 → ¬ w 5 k 0 < lowF k ∧ ¬ higF k < w 5 k 0) : VC w := by
  have en : nl w = n := by unfold nl; rw [h6, nI_clamp (by omega)]
  have em : np w = m := by unfold np; rw [h7, nI_clamp (by omega)]
  refine ⟨⟨⟨by rw [en]; exact h6, by omega⟩, ⟨by rw [em]; exact h7, by omega⟩, fun l h => ?_, fun p h => ?_, hs⟩, fun l h => ?_⟩
  · rw [en] at h
    obtain ⟨r, a1, a2, a3, a4, a5, -⟩ := hl l h
    have er : rn w l = r := by unfold rn; rw [a1, nI_clamp (by omega)]
    rw [er]
    exact ⟨a1, a2, a3, a4, a5⟩
  · rw [em] at h; exact hp p h
  · rw [en] at h
    obtain ⟨r, -, -, -, -, -, a6⟩ := hl l h
    exact a6
theorem VC.ls {v : View} (h : VC v) {l : Nat} (hl : l < nl v) : ∃ r, v 0 l 0 = nI r ∧ 1 ≤ r ∧ r ≤ 8 ∧ (∀ i, i < r → lgOk (v 1 l i)) ∧ (∀ i, 0 < i → i < r → v 2 l i = 0 ∨ v 2 l i = 1) ∧ v 2 l 0 = -1 := by
  obtain ⟨a1, a2, a3, a4, a5⟩ := h.1.2.2.1 l hl
  exact ⟨rn v l, a1, a2, a3, a4, a5, h.2 l hl⟩
theorem t01 {t : Int32} (h : ¬ t < 0 ∧ ¬ 1 < t) : t = 0 ∨ t = 1 := by
  obtain ⟨k, hk, rfl⟩ := in_of6 (n := 1) h.1 h.2 (by decide)
  rcases (show k = 0 ∨ k = 1 by omega) with rfl | rfl
  · exact Or.inl rfl
  · exact Or.inr rfl
theorem vc_addLine {b : Mem} {o : Nat} (a : Int32) (h : VC (cv b o)) : VC (cv (addLineM b o a) o) := by
  unfold addLineM
  split
  · rename_i ha
    split
    · rename_i hb
      rw [cvU6, cvU2, cvU1, cvU0]
      have e6 : b o 6 = cv b o 6 0 0 := rfl
      rw [e6] at hb ⊢
      generalize cv b o = v at h hb ⊢
      have hn := h.1.1
      rw [hn.1] at hb ⊢
      have hlt : nl v < 6 := (nI_ltI (b := 6) (by omega) (by decide)).mp hb
      refine VC_mk (n := nl v + 1) (m := np v) (by rw [vU_t rfl, nI_1]) (by omega) ?_ h.1.2.1.2 (fun l hl => ?_) (fun p hp => ?_) (fun k hk => ?_)
      · rw [vU_f (by omega), vU_f (by omega), vU_f (by omega), vU_f (by omega)]; exact h.1.2.1.1
      · by_cases c : l = nl v
        · subst c
          refine ⟨1, ?_, by omega, by omega, fun i hi => ?_, fun i h0 hi => by omega, ?_⟩
          · rw [vU_f (by omega), vU_f (by omega), vU_f (by omega), vU_t ⟨rfl, rfl⟩]; rfl
          · rw [vU_f (by omega), vU_f (by omega), vU_t ⟨rfl, by omega⟩]; exact ha
          · rw [vU_f (by omega), vU_t ⟨rfl, by omega⟩]
        · obtain ⟨r, a1, a2, a3, a4, a5, a6⟩ := h.ls (show l < nl v by omega)
          refine ⟨r, ?_, a2, a3, fun i hi => ?_, fun i h0 hi => ?_, ?_⟩
          · rw [vU_f (by omega), vU_f (by omega), vU_f (by omega), vU_f (by omega)]; exact a1
          · rw [vU_f (by omega), vU_f (by omega), vU_f (by omega), vU_f (by omega)]; exact a4 i hi
          · rw [vU_f (by omega), vU_f (by omega), vU_f (by omega), vU_f (by omega)]; exact a5 i h0 hi
          · rw [vU_f (by omega), vU_f (by omega), vU_f (by omega), vU_f (by omega)]; exact a6
      · rw [vU_f (by omega), vU_f (by omega), vU_f (by omega), vU_f (by omega), vU_f (by omega), vU_f (by omega), vU_f (by omega), vU_f (by omega)]; exact h.1.2.2.2.1 p hp
      · rw [vU_f (by omega), vU_f (by omega), vU_f (by omega), vU_f (by omega)]; exact h.1.2.2.2.2 k hk
    · exact h
  · exact h
theorem vc_addRun {b : Mem} {o : Nat} (l t a : Int32) (h : VC (cv b o)) : VC (cv (addRunM b o l t a) o) := by
  unfold addRunM
  split
  · rename_i hc
    split
    · rename_i hb
      rw [cvU0, cvU2, cvU1]
      have e6 : b o 6 = cv b o 6 0 0 := rfl
      have e0 : b (o + 1) l.toNatClampNeg = cv b o 0 l.toNatClampNeg 0 := rfl
      rw [e6] at hc
      rw [e0] at hb ⊢
      generalize cv b o = v at h hb hc ⊢
      have hn := h.1.1
      rw [hn.1] at hc
      obtain ⟨j, hj, rfl⟩ := in_of hc.1.1 hc.1.2 (by omega)
      rw [nI_clamp (show j < 2 ^ 31 by omega)] at hb ⊢
      obtain ⟨r, a1, a2, a3, a4, a5, a6⟩ := h.ls hj
      have er : rn v j = r := by unfold rn; rw [a1, nI_clamp (by omega)]
      rw [a1] at hb ⊢
      rw [er]
      have hr8 : r < 8 := (nI_ltI (b := 8) (by omega) (by decide)).mp hb
      refine VC_mk (n := nl v) (m := np v) ?_ (by omega) ?_ h.1.2.1.2 (fun l hl => ?_) (fun p hp => ?_) (fun k hk => ?_)
      · rw [vU_f (by omega), vU_f (by omega), vU_f (by omega)]; exact hn.1
      · rw [vU_f (by omega), vU_f (by omega), vU_f (by omega)]; exact h.1.2.1.1
      · by_cases c : l = j
        · subst c
          refine ⟨r + 1, ?_, by omega, by omega, fun i hi => ?_, fun i h0 hi => ?_, ?_⟩
          · rw [vU_t ⟨rfl, rfl⟩, nI_1]
          · by_cases ci : i = r
            · subst ci
              rw [vU_f (by omega), vU_f (by omega), vU_t ⟨rfl, rfl⟩]; exact hc.2.2
            · rw [vU_f (by omega), vU_f (by omega), vU_f (by omega)]; exact a4 i (by omega)
          · by_cases ci : i = r
            · subst ci
              rw [vU_f (by omega), vU_t ⟨rfl, rfl⟩]; exact t01 hc.2.1
            · rw [vU_f (by omega), vU_f (by omega), vU_f (by omega)]; exact a5 i h0 (by omega)
          · rw [vU_f (by omega), vU_f (by omega), vU_f (by omega)]; exact a6
        · obtain ⟨r', b1, b2, b3, b4, b5, b6⟩ := h.ls hl
          refine ⟨r', ?_, b2, b3, fun i hi => ?_, fun i h0 hi => ?_, ?_⟩
          · rw [vU_f (by omega), vU_f (by omega), vU_f (by omega)]; exact b1
          · rw [vU_f (by omega), vU_f (by omega), vU_f (by omega)]; exact b4 i hi
          · rw [vU_f (by omega), vU_f (by omega), vU_f (by omega)]; exact b5 i h0 hi
          · rw [vU_f (by omega), vU_f (by omega), vU_f (by omega)]; exact b6
      · rw [vU_f (by omega), vU_f (by omega), vU_f (by omega), vU_f (by omega), vU_f (by omega), vU_f (by omega)]; exact h.1.2.2.2.1 p hp
      · rw [vU_f (by omega), vU_f (by omega), vU_f (by omega)]; exact h.1.2.2.2.2 k hk
    · exact h
  · exact h
theorem vc_dropRun {b : Mem} {o : Nat} (l : Int32) (h : VC (cv b o)) : VC (cv (dropRunM b o l) o) := by
  unfold dropRunM
  split
  · rename_i hc
    split
    · exact h
    · rename_i hb
      rw [cvU0]
      have e6 : b o 6 = cv b o 6 0 0 := rfl
      have e0 : b (o + 1) l.toNatClampNeg = cv b o 0 l.toNatClampNeg 0 := rfl
      rw [e6] at hc
      rw [e0] at hb ⊢
      generalize cv b o = v at h hb hc ⊢
      have hn := h.1.1
      rw [hn.1] at hc
      obtain ⟨j, hj, rfl⟩ := in_of hc.1 hc.2 (by omega)
      rw [nI_clamp (show j < 2 ^ 31 by omega)] at hb ⊢
      obtain ⟨r, a1, a2, a3, a4, a5, a6⟩ := h.ls hj
      rw [a1, nI_sub1 (by omega)] at hb ⊢
      have hr1 : 1 ≤ r - 1 := by
        rcases Nat.lt_or_ge (r - 1) 1 with q | q
        · exact absurd (nI_lt (b := 1) q (by decide)) hb
        · exact q
      refine VC_mk (n := nl v) (m := np v) ?_ (by omega) ?_ h.1.2.1.2 (fun l hl => ?_) (fun p hp => ?_) (fun k hk => ?_)
      · rw [vU_f (by omega)]; exact hn.1
      · rw [vU_f (by omega)]; exact h.1.2.1.1
      · by_cases c : l = j
        · subst c
          refine ⟨r - 1, vU_t ⟨rfl, rfl⟩, by omega, by omega, fun i hi => ?_, fun i h0 hi => ?_, ?_⟩
          · rw [vU_f (by omega)]; exact a4 i (by omega)
          · rw [vU_f (by omega)]; exact a5 i h0 (by omega)
          · rw [vU_f (by omega)]; exact a6
        · obtain ⟨r', b1, b2, b3, b4, b5, b6⟩ := h.ls hl
          refine ⟨r', ?_, b2, b3, fun i hi => ?_, fun i h0 hi => ?_, ?_⟩
          · rw [vU_f (by omega)]; exact b1
          · rw [vU_f (by omega)]; exact b4 i hi
          · rw [vU_f (by omega)]; exact b5 i h0 hi
          · rw [vU_f (by omega)]; exact b6
      · rw [vU_f (by omega), vU_f (by omega)]; exact h.1.2.2.2.1 p hp
      · rw [vU_f (by omega)]; exact h.1.2.2.2.2 k hk
  · exact h
theorem vc_addPocket {b : Mem} {o : Nat} (w t : Int32) (h : VC (cv b o)) : VC (cv (addPocketM b o w t) o) := by
  unfold addPocketM
  split
  · rename_i ha
    split
    · rename_i hb
      rw [cvU7, cvU4, cvU3]
      have e7 : b o 7 = cv b o 7 0 0 := rfl
      rw [e7] at hb ⊢
      generalize cv b o = v at h hb ⊢
      have hn := h.1.2.1
      rw [hn.1] at hb ⊢
      have hlt : np v < 6 := (nI_ltI (b := 6) (by omega) (by decide)).mp hb
      refine VC_mk (n := nl v) (m := np v + 1) ?_ h.1.1.2 (by rw [vU_t (by omega), nI_1]) (by omega) (fun l hl => ?_) (fun p hp => ?_) (fun k hk => ?_)
      · rw [vU_f (by omega), vU_f (by omega), vU_f (by omega)]; exact h.1.1.1
      · obtain ⟨r', b1, b2, b3, b4, b5, b6⟩ := h.ls hl
        refine ⟨r', ?_, b2, b3, fun i hi => ?_, fun i h0 hi => ?_, ?_⟩
        · rw [vU_f (by omega), vU_f (by omega), vU_f (by omega)]; exact b1
        · rw [vU_f (by omega), vU_f (by omega), vU_f (by omega)]; exact b4 i hi
        · rw [vU_f (by omega), vU_f (by omega), vU_f (by omega)]; exact b5 i h0 hi
        · rw [vU_f (by omega), vU_f (by omega), vU_f (by omega)]; exact b6
      · by_cases c : p = np v
        · subst c
          rw [vU_f (by omega), vU_f (by omega), vU_t ⟨rfl, rfl⟩, vU_f (by omega), vU_t ⟨rfl, rfl⟩]; exact ⟨ha.1, ha.2⟩
        · rw [vU_f (by omega), vU_f (by omega), vU_f (by omega), vU_f (by omega), vU_f (by omega), vU_f (by omega)]; exact h.1.2.2.2.1 p (by omega)
      · rw [vU_f (by omega), vU_f (by omega), vU_f (by omega)]; exact h.1.2.2.2.2 k hk
    · exact h
  · exact h
theorem vc_one {v w : View} (h : VC v) (e0 : ∀ c l i, c ≠ 3 → c ≠ 4 → c ≠ 5 → w c l i = v c l i) (hp : ∀ p, p < np v → lgOk (w 3 p 0) ∧ tcOk (w 4 p 0)) (hs : ∀ k, k < 7 → ¬ w 5 k 0 < lowF k ∧ ¬ higF k < w 5 k 0) : VC w := by
  refine VC_mk (n := nl v) (m := np v) (by rw [e0 _ _ _ (by decide) (by decide) (by decide)]; exact h.1.1.1) h.1.1.2 (by rw [e0 _ _ _ (by decide) (by decide) (by decide)]; exact h.1.2.1.1) h.1.2.1.2 (fun l hl => ?_) hp hs
  obtain ⟨r', b1, b2, b3, b4, b5, b6⟩ := h.ls hl
  refine ⟨r', ?_, b2, b3, fun i hi => ?_, fun i h0 hi => ?_, ?_⟩
  · rw [e0 _ _ _ (by decide) (by decide) (by decide)]; exact b1
  · rw [e0 _ _ _ (by decide) (by decide) (by decide)]; exact b4 i hi
  · rw [e0 _ _ _ (by decide) (by decide) (by decide)]; exact b5 i h0 hi
  · rw [e0 _ _ _ (by decide) (by decide) (by decide)]; exact b6
theorem vc_wide {b : Mem} {o : Nat} (p w : Int32) (h : VC (cv b o)) : VC (cv (wideM b o p w) o) := by
  unfold wideM
  split
  · rename_i ha
    rw [cvU3]
    refine vc_one h (fun c l i h3 _ _ => vU_f (fun q => h3 q.1)) (fun q hq => ?_) (fun k hk => by rw [vU_f (by omega)]; exact h.1.2.2.2.2 k hk)
    have := h.1.2.2.2.1 q hq
    rw [vU_f (c := 4) (by omega)]
    by_cases c : q = p.toNatClampNeg
    · rw [vU_t ⟨rfl, c⟩]; exact ⟨ha.2, this.2⟩
    · rw [vU_f (fun z => c z.2)]; exact this
  · exact h
theorem vc_touch {b : Mem} {o : Nat} (p w : Int32) (h : VC (cv b o)) : VC (cv (touchM b o p w) o) := by
  unfold touchM
  split
  · rename_i ha
    rw [cvU4]
    refine vc_one h (fun c l i _ h4 _ => vU_f (fun q => h4 q.1)) (fun q hq => ?_) (fun k hk => by rw [vU_f (by omega)]; exact h.1.2.2.2.2 k hk)
    have := h.1.2.2.2.1 q hq
    rw [vU_f (c := 3) (by omega)]
    by_cases c : q = p.toNatClampNeg
    · rw [vU_t ⟨rfl, c⟩]; exact ⟨this.1, ha.2⟩
    · rw [vU_f (fun z => c z.2)]; exact this
  · exact h
theorem vc_set {b : Mem} {o : Nat} (k x : Int32) (h : VC (cv b o)) : VC (cv (setM b o k x) o) := by
  unfold setM
  split
  · rename_i ha
    rw [cvU5]
    refine vc_one h (fun c l i _ _ h5 => vU_f (fun q => h5 q.1)) (fun q hq => by rw [vU_f (by omega), vU_f (by omega)]; exact h.1.2.2.2.1 q hq) (fun q hq => ?_)
    by_cases c : q = k.toNatClampNeg
    · rw [vU_t ⟨rfl, c⟩, c]; exact ha.2
    · rw [vU_f (fun z => c z.2)]; exact h.1.2.2.2.2 q hq
  · exact h
theorem vc_ao {b : Mem} {o : Nat} (c x y z : Int32) (h : VC (cv b o)) : VC (cv (aoM b o c x y z) o) := by
  unfold aoM
  (repeat' split)
  · exact vc_addLine _ h
  · exact vc_addRun _ _ _ h
  · exact vc_addPocket _ _ h
  · exact vc_set _ _ h
  · exact vc_wide _ _ h
  · exact h
theorem vc_ap {b : Mem} {o : Nat} (h : VC (cv b o)) : ∀ k, VC (cv (apM b o k) o) := by
  intro k
  induction k with
  | zero => exact h
  | succ k ih => exact vc_ao _ _ _ _ ih
