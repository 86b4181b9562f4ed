/-! alike views answer alike -/
theorem cntI_congr {P Q : Nat → Prop} [DecidablePred P] [DecidablePred Q] {n : Nat} (h : ∀ i, i < n → (P i ↔ Q i)) : cntI P n = cntI Q n := by
  induction n with
  | zero => rfl
  | succ n ih =>
    simp only [cntI]
    rw [ih (fun i hi => h i (by omega))]
    by_cases c : P n
    · rw [if_pos c, if_pos ((h n (by omega)).mp c)]
    · rw [if_neg c, if_neg (fun z => c ((h n (by omega)).mpr z))]
theorem bitsN_congr {f g : Nat → Bool} {n : Nat} (h : ∀ i, i < n → f i = g i) : bitsN f n = bitsN g n := by
  induction n with
  | zero => rfl
  | succ n ih => simp only [bitsN]; rw [ih (fun i hi => h i (by omega)), h n (by omega)]
theorem maxI_congr {f g : Nat → Int32} {n : Nat} (h : ∀ i, i < n → f i = g i) : maxI f n = maxI g n := by
  induction n with
  | zero => rfl
  | succ n ih => simp only [maxI]; rw [ih (fun i hi => h i (by omega)), h n (by omega)]
section CONG
variable {v w : View}
theorem Sim.s5 (h : Sim v w) {k : Nat} (hk : k < 7) : v 5 k 0 = w 5 k 0 := h.2.2.2.2 k hk
theorem Sim.gain (h : Sim v w) : gainS v = gainS w := by unfold gainS; rw [h.s5 (by decide), h.s5 (k := 1) (by decide), h.s5 (k := 2) (by decide)]
theorem Sim.base (h : Sim v w) {l : Nat} (hl : l < nl v) : baseS v l = baseS w l := by
  unfold baseS
  obtain ⟨h1, h2, h3⟩ := h.2.2.1 l hl
  rw [← h.ern hl, sumI_congr h2, h.s5 (by decide), h1]
theorem Sim.lack (h : Sim v w) (x t : Int32) : lackS v x t = lackS w x t := by unfold lackS; rw [h.s5 (by decide)]
theorem Sim.need (h : Sim v w) (x t : Int32) : needS v x t = needS w x t := by unfold needS; rw [h.lack, h.gain]
theorem Sim.nd (h : Sim v w) (t : Int32) {l : Nat} (hl : l < nl v) : ndV v t l = ndV w t l := by unfold ndV; rw [h.base hl, h.need]
theorem Sim.humps (h : Sim v w) {p : Nat} (hp : p < np v) : humpsS v p = humpsS w p := by unfold humpsS; rw [h.gain, h.s5 (by decide), (h.2.2.2.1 p hp).1]
theorem Sim.reach (h : Sim v w) (l : Nat) : reachN v l = reachN w l := by
  unfold reachN
  rw [← h.enp]
  exact bitsN_congr (fun p hp => by rw [(h.2.2.2.1 p hp).2])
theorem Sim.turns (h : Sim v w) {l : Nat} (hl : l < nl v) (s : Int32) : turnsS v l s = turnsS w l s := by
  unfold turnsS
  rw [← h.ern hl]
  exact cntI_congr (fun i hi => by rw [(h.2.2.1 l hl).2.2 (i + 1) (by omega) (by omega)])
theorem Sim.long (h : Sim v w) : longestS v = longestS w := by
  unfold longestS
  rw [← h.enl]
  exact maxI_congr (fun i hi => h.base hi)
theorem Sim.too (h : Sim v w) (t : Int32) : tooN v t = tooN w t := by
  unfold tooN
  rw [← h.enl]
  exact bitsN_congr (fun i hi => by rw [h.base hi])
theorem spR_cong {nd nd' : Nat → Int32} {my my' : Nat → Nat} {n np : Nat} {rm rm' : Nat → Int32} (h1 : ∀ l, l < n → nd l = nd' l) (h2 : ∀ l, l < n → my l = my' l) (h3 : ∀ p, p < np → rm p = rm' p) (s : Nat) : spR nd my n np rm s = spR nd' my' n np rm' s := by
  rw [spR_congr (r' := rm') h3]
  unfold spR
  rw [nsI_congr h1, orN_congr h2]
theorem Sim.cr (h : Sim v w) (t : Int32) : crV v t = crV w t := by
  unfold crV spV
  rw [← h.enl, ← h.enp]
  rw [crS_congr _ (fun s _ _ => spR_cong (fun l hl => h.nd t hl) (fun l _ => h.reach l) (fun p hp => h.humps hp) s)]
theorem Sim.bl (h : Sim v w) (t : Int32) : blN v t = blN w t := by unfold blN; rw [h.too, h.cr]
theorem Sim.ofVQ (h : Sim v w) {l : Nat} (hl : l < nl v) (x : Int32) : ofV v l x = ofV w l x := by
  unfold ofV
  rw [(h.2.2.1 l hl).1, h.base hl, h.lack, h.s5 (k := 4) (by decide), h.nd _ hl, h.reach, h.turns hl, h.turns hl]
theorem Sim.runVQ (h : Sim v w) {l i : Nat} (hl : l < nl v) (hi : i < rn v l) (x : Int32) : runV v l i x = runV w l i x := by
  unfold runV roomS
  rw [(h.2.2.1 l hl).2.1 i hi, h.s5 (k := 6) (by decide)]
  by_cases c : i = 0
  · rw [if_pos c, if_pos c]
  · rw [if_neg c, if_neg c, (h.2.2.1 l hl).2.2 i (by omega) hi]
theorem Sim.okLQ (h : Sim v w) (l : Int32) : okL v l ↔ okL w l := by unfold okL; rw [h.1]
theorem Sim.okPQ (h : Sim v w) (l : Int32) : okP v l ↔ okP w l := by unfold okP; rw [h.2.1]
theorem okL_lt (hV : Val v) {l : Int32} (h : okL v l) : l.toNatClampNeg < nl v := by
  have h2 := h.2
  rw [hV.1.1] at h2
  obtain ⟨k, hk, rfl⟩ := in_of h.1 h2 (by have := hV.1.2; omega)
  rw [nI_clamp (by have := hV.1.2; omega)]; exact hk
theorem okP_lt (hV : Val v) {l : Int32} (h : okP v l) : l.toNatClampNeg < np v := by
  have h2 := h.2
  rw [hV.2.1.1] at h2
  obtain ⟨k, hk, rfl⟩ := in_of h.1 h2 (by have := hV.2.1.2; omega)
  rw [nI_clamp (by have := hV.2.1.2; omega)]; exact hk
theorem Sim.okRQ (h : Sim v w) (hV : Val v) (l i : Int32) : okR v l i ↔ okR w l i := by
  unfold okR
  constructor
  · rintro ⟨a, c, d⟩; exact ⟨(h.okLQ l).mp a, c, by rw [← (h.2.2.1 _ (okL_lt hV a)).1]; exact d⟩
  · rintro ⟨a, c, d⟩
    have a' := (h.okLQ l).mpr a
    exact ⟨a', c, by rw [(h.2.2.1 _ (okL_lt hV a')).1]; exact d⟩
theorem okR_lt (hV : Val v) {l i : Int32} (h : okR v l i) : l.toNatClampNeg < nl v ∧ i.toNatClampNeg < rn v l.toNatClampNeg := by
  have h1 := okL_lt hV h.1
  refine ⟨h1, ?_⟩
  have h2 := h.2.2
  have h8 := hV.r8 h1
  rw [hV.runs h1] at h2
  obtain ⟨k, hk, rfl⟩ := in_of h.2.1 h2 (by omega)
  rw [nI_clamp (by omega)]; exact hk
theorem cl_cong {α : Type} {p q : Prop} {a a' c : α} (h : p ↔ q) (ha : p → a = a') : cl p a c = cl q a' c := by
  by_cases z : p
  · rw [cl_t z, cl_t (h.mp z), ha z]
  · rw [cl_f z, cl_f (fun y => z (h.mpr y))]
theorem Sim.ofRQ (h : Sim v w) (hV : Val v) (l x : Int32) : ofR v l x = ofR w l x ∧ ofC v l x = ofC w l x :=
  ⟨cl_cong (and_congr (h.okLQ l) Iff.rfl) (fun z => h.ofVQ (okL_lt hV z.1) x), cl_cong (and_congr (h.okLQ l) Iff.rfl) (fun _ => rfl)⟩
theorem Sim.runRQ (h : Sim v w) (hV : Val v) (l i x : Int32) : runR v l i x = runR w l i x ∧ runC v l i x = runC w l i x :=
  ⟨cl_cong (and_congr (h.okRQ hV l i) Iff.rfl) (fun z => h.runVQ (okR_lt hV z.1).1 (okR_lt hV z.1).2 x), cl_cong (and_congr (h.okRQ hV l i) Iff.rfl) (fun _ => rfl)⟩
theorem Sim.seRQ (h : Sim v w) (k : Int32) : seR v k = seR w k := cl_cong Iff.rfl (fun z => by
  obtain ⟨j, hj, rfl⟩ := in_of6 (n := 6) z.1 z.2 (by decide)
  rw [nI_clamp (by omega)]; exact h.s5 hj)
theorem Sim.leRQ (h : Sim v w) (hV : Val v) (l : Int32) : leR v l = leR w l ∧ leC v l = leC w l :=
  ⟨cl_cong (h.okLQ l) (fun z => by rw [h.s5 (k := 4) (by decide), h.bl, h.base (okL_lt hV z), h.lack]), cl_cong (h.okLQ l) (fun z => by rw [h.s5 (k := 4) (by decide), h.bl])⟩
theorem Sim.caRQ (h : Sim v w) (t : Int32) : caR v t = caR w t := cl_cong Iff.rfl (fun _ => bI_iff (by rw [h.bl]))
theorem Sim.lsRQ (h : Sim v w) : lsR v = lsR w := by unfold lsR; rw [h.long, h.bl]
theorem Sim.grKQ (h : Sim v w) (k : Nat) : grK v k = grK w k := by
  induction k with
  | zero => exact h.long
  | succ k ih => simp only [grK]; rw [ih, h.bl]
theorem Sim.grRQ (h : Sim v w) : grR v = grR w := by unfold grR; rw [h.long, h.bl, h.grKQ]
end CONG
