/-! alike views answer alike: more, the digest -/
theorem isFst_u {F G : Nat → Prop} {n : Nat} {x y : Int32} (h : ∀ p, p < n → (F p ↔ G p)) (hx : isFst F n x) (hy : isFst G n y) : x = y := by
  rcases hx with ⟨p, p1, p2, p3, rfl⟩ | ⟨p1, rfl⟩
  · rcases hy with ⟨q, q1, q2, q3, rfl⟩ | ⟨q1, rfl⟩
    · congr 1
      rcases Nat.lt_trichotomy p q with z | z | z
      · exact absurd ((h p p1).mp p2) (q3 p z)
      · exact z
      · exact absurd ((h q q1).mpr q2) (p3 q z)
    · exact absurd ((h p p1).mp p2) (q1 p p1)
  · rcases hy with ⟨q, q1, q2, q3, rfl⟩ | ⟨q1, rfl⟩
    · exact absurd ((h q q1).mpr q2) (p1 q q1)
    · rfl
section CONG3
variable {v w : View}
theorem Sim.moreQ (h : Sim v w) {x y : Int32} (hx : moreP v x) (hy : moreP w y) : x = y ∧ moreC v = moreC w := by
  have hb : blN v (v 5 4 0) = blN w (w 5 4 0) := by rw [h.t4, h.bl]
  refine ⟨?_, by unfold moreC; rw [hb]⟩
  rcases hx with ⟨a1, a2⟩ | ⟨a1, a2⟩
  · rcases hy with ⟨c1, c2⟩ | ⟨c1, c2⟩
    · rw [a2, c2]
    · exact absurd (by rw [← hb]; exact a1) c1
  · rcases hy with ⟨c1, c2⟩ | ⟨c1, c2⟩
    · exact absurd (by rw [hb]; exact c1) a1
    · rw [← h.enp] at c2
      exact isFst_u (fun p hp => h.mrFQ hp) a2 c2
theorem Sim.mlQ (h : Sim v w) {l : Nat} (hl : l < nl v) (x : Int64) : mlS v l x = mlS w l x := by
  unfold mlS
  rw [← h.ern hl, h.bpQ hl, it_congr (g := fun k h => mix h (ofV v l (nI k))) (g' := fun k h => mix h (ofV w l (nI k))) (fun k _ x => by rw [h.ofVQ hl])]
  rw [it_congr (n := rn v l) (g := fun i h => it (fun k h => mix h (runV v l i (nI k))) 3 h) (g' := fun i h => it (fun k h => mix h (runV w l i (nI k))) 3 h) (fun i hi x => it_congr (fun k _ x => by rw [h.runVQ hl hi]) x)]
theorem Sim.mhQ (h : Sim v w) (x : Int64) : mhS v x = mhS w x := by
  unfold mhS
  rw [← h.enl, ← h.enp]
  exact it_congr (fun l hl x => it_congr (fun p hp x => by rw [h.drVQ hl hp]) x) x
theorem Sim.d5Q (h : Sim v w) {t t' : Nat → Int32} (ht : ∀ k, k < 5 → t k = t' k) : d5S v t = d5S w t' := by
  unfold d5S
  rw [← h.enp, ← h.enl,
    it_congr (n := 5) (g := fun k h => mix h (t k)) (g' := fun k h => mix h (t' k)) (fun k hk x => by rw [ht k hk]),
    it_congr (n := 7) (g := fun k h => mix h (coV v (nI k))) (g' := fun k h => mix h (coV w (nI k))) (fun k _ x => by rw [h.coVQ]),
    it_congr (n := 7) (g := fun k h => mix h (v 5 k 0)) (g' := fun k h => mix h (w 5 k 0)) (fun k hk x => by rw [h.s5 hk]),
    it_congr (n := nl v) (g := mlS v) (g' := mlS w) (fun l hl x => h.mlQ hl x)]
  exact it_congr (fun p hp x => it_congr (fun k _ x => by rw [h.abVQ hp]) x) _
theorem Sim.dgQ (h : Sim v w) {t t' : Nat → Int32} (ht : ∀ k, k < 5 → t k = t' k) : dgS v t = dgS w t' := by
  have e6 : d6S v t = d6S w t' := by unfold d6S; rw [h.d5Q ht, h.t4, h.bl, h.lsRQ, h.grRQ]
  unfold dgS
  rw [h.t4, h.bl, e6, h.mhQ]
end CONG3
