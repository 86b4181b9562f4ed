/-! alike views answer alike: drawing, bumps, the digest -/
section DRAWC
variable {nd nd' : Nat → Int32} {my my' : Nat → Nat} {n np : Nat}
theorem moP_cong {rm rm' : Nat → Int32} (h1 : ∀ l, l < n → nd l = nd' l) (h2 : ∀ l, l < n → my l = my' l) (h3 : ∀ p, p < np → rm p = rm' p) (l : Nat) {p : Nat} (hp : p < np) : ∀ k, moP nd my n np rm l p k = moP nd' my' n np rm' l p k := by
  intro k
  induction k with
  | zero => exact h3 p hp
  | succ k ih => simp only [moP]; rw [ih, orN_congr h2, spR_cong h1 h2 h3]
theorem pkP_cong {rm rm' : Nat → Int32} (h1 : ∀ l, l < n → nd l = nd' l) (h2 : ∀ l, l < n → my l = my' l) (h3 : ∀ p, p < np → rm p = rm' p) (x : Int32) {l p : Nat} (hl : l < n) (hp : p < np) : pkP nd my n np rm x l p = pkP nd' my' n np rm' x l p := by
  unfold pkP; rw [h2 l hl, moP_cong h1 h2 h3 l hp]
theorem rowP_cong {rm rm' : Nat → Int32} (h1 : ∀ l, l < n → nd l = nd' l) (h2 : ∀ l, l < n → my l = my' l) (h3 : ∀ p, p < np → rm p = rm' p) {l : Nat} (hl : l < n) : ∀ k, k ≤ np → (∀ p, p < np → (rowP nd my n np l rm k).1 p = (rowP nd' my' n np l rm' k).1 p) ∧ (rowP nd my n np l rm k).2 = (rowP nd' my' n np l rm' k).2 := by
  intro k
  induction k with
  | zero => intro _; exact ⟨h3, h1 l hl⟩
  | succ k ih =>
    intro hk
    obtain ⟨a1, a2⟩ := ih (by omega)
    have e := pkP_cong h1 h2 a1 (rowP nd my n np l rm k).2 hl (show k < np by omega)
    rw [a2] at e
    simp only [rowP]
    rw [a2, e]
    refine ⟨fun p hp => ?_, rfl⟩
    unfold upd
    by_cases c : p = k
    · rw [if_pos c, if_pos c, a1 k (by omega)]
    · rw [if_neg c, if_neg c]; exact a1 p hp
theorem linP_cong {rm rm' : Nat → Int32} (h1 : ∀ l, l < n → nd l = nd' l) (h2 : ∀ l, l < n → my l = my' l) (h3 : ∀ p, p < np → rm p = rm' p) : ∀ k, k ≤ n → ∀ p, p < np → linP nd my n np rm k p = linP nd' my' n np rm' k p := by
  intro k
  induction k with
  | zero => intro _; exact h3
  | succ k ih =>
    intro hk p hp
    exact (rowP_cong h1 h2 (ih (by omega)) (by omega) np (Nat.le_refl _)).1 p hp
theorem drP_cong {rm rm' : Nat → Int32} (h1 : ∀ l, l < n → nd l = nd' l) (h2 : ∀ l, l < n → my l = my' l) (h3 : ∀ p, p < np → rm p = rm' p) {l p : Nat} (hl : l < n) (hp : p < np) : drP nd my n np rm l p = drP nd' my' n np rm' l p := by
  unfold drP
  obtain ⟨a1, a2⟩ := rowP_cong h1 h2 (linP_cong h1 h2 h3 l (by omega)) hl p (by omega)
  rw [a2]
  exact pkP_cong h1 h2 a1 _ hl hp
end DRAWC
section CONG2
variable {v w : View}
theorem Sim.t4 (h : Sim v w) : v 5 4 0 = w 5 4 0 := h.s5 (by decide)
theorem Sim.drVQ (h : Sim v w) {l p : Nat} (hl : l < nl v) (hp : p < np v) : drV v l p = drV w l p := by
  unfold drV
  rw [← h.enl, ← h.enp, ← h.t4]
  exact drP_cong (fun l hl => h.nd _ hl) (fun l _ => h.reach l) (fun p hp => h.humps hp) hl hp
theorem Sim.frVQ (h : Sim v w) {p : Nat} (hp : p < np v) : frV v p = frV w p := by
  unfold frV
  rw [← h.enl, ← h.enp, ← h.t4]
  exact linP_cong (fun l hl => h.nd _ hl) (fun l _ => h.reach l) (fun p hp => h.humps hp) _ (Nat.le_refl _) p hp
theorem Sim.abVQ (h : Sim v w) {p : Nat} (hp : p < np v) (x : Int32) : abV v p x = abV w p x := by
  unfold abV
  rw [(h.2.2.2.1 p hp).1, (h.2.2.2.1 p hp).2, h.1, h.humps hp, h.t4, h.bl, h.frVQ hp]
theorem Sim.abRQ (h : Sim v w) (hV : Val v) (p x : Int32) : abR v p x = abR w p x ∧ abC v p x = abC w p x :=
  ⟨cl_cong (and_congr (h.okPQ p) Iff.rfl) (fun z => h.abVQ (okP_lt hV z.1) x), cl_cong (and_congr (h.okPQ p) Iff.rfl) (fun _ => rfl)⟩
theorem Sim.drRQ (h : Sim v w) (hV : Val v) (l p : Int32) : drR v l p = drR w l p ∧ drC v l p = drC w l p :=
  ⟨cl_cong (and_congr (h.okLQ l) (h.okPQ p)) (fun z => by rw [h.t4, h.bl, h.drVQ (okL_lt hV z.1) (okP_lt hV z.2)]), cl_cong (and_congr (h.okLQ l) (h.okPQ p)) (fun z => by rw [h.t4, h.bl])⟩
theorem Sim.coVQ (h : Sim v w) (x : Int32) : coV v x = coV w x := by
  unfold coV
  rw [h.1, h.2.1, h.gain, h.t4, bI_iff (show blN v (w 5 4 0) = 0 ↔ blN w (w 5 4 0) = 0 by rw [h.bl]), h.long, ← h.enp, ← h.enl, sumI_congr (fun p hp => h.humps hp), sumI_congr (fun l hl => h.nd (w 5 4 0) hl)]
theorem Sim.coRQ (h : Sim v w) (x : Int32) : coR v x = coR w x := cl_cong Iff.rfl (fun _ => h.coVQ x)
theorem Sim.skew (h : Sim v w) {l i : Nat} (hl : l < nl v) (hi : i < rn v l) : skewS v l i = skewS w l i := by
  unfold skewS
  exact sumI_congr (fun k hk => by rw [(h.2.2.1 l hl).2.2 (k + 1) (by omega) (by omega)])
theorem Sim.skRQ (h : Sim v w) (hV : Val v) (l i : Int32) : skR v l i = skR w l i ∧ skC v l i = skC w l i :=
  ⟨cl_cong (h.okRQ hV l i) (fun z => by rw [h.skew (okR_lt hV z).1 (okR_lt hV z).2]), cl_cong (h.okRQ hV l i) (fun _ => rfl)⟩
theorem Sim.tFQ (h : Sim v w) {l : Nat} (hl : l < nl v) : ∀ k, k ≤ rn v l → tF v l k = tF w l k := by
  intro k
  induction k with
  | zero => intro _; rfl
  | succ k ih =>
    intro hk
    simp only [tF]
    have e1 : stp v l k = stp w l k := by
      unfold stp
      by_cases c : k = 0
      · rw [if_pos c, if_pos c]
      · rw [if_neg c, if_neg c, (h.2.2.1 l hl).2.2 k (by omega) (by omega)]
    have e2 : roN v l k = roN w l k := by
      unfold roN roomS
      rw [(h.2.2.1 l hl).2.1 k (by omega), h.s5 (k := 6) (by decide)]
    have e3 : phN v = phN w := by unfold phN; rw [h.s5 (by decide)]
    rw [ih (by omega), e1, e2, e3]
theorem Sim.bpQ (h : Sim v w) {l : Nat} (hl : l < nl v) : bpV v l = bpV w l := by
  unfold bpV
  rw [← h.ern hl, h.tFQ hl _ (Nat.le_refl _)]
theorem Sim.buRQ (h : Sim v w) (hV : Val v) (l : Int32) : buR v l = buR w l ∧ buC v l = buC w l :=
  ⟨cl_cong (h.okLQ l) (fun z => h.bpQ (okL_lt hV z)), cl_cong (h.okLQ l) (fun _ => rfl)⟩
theorem Sim.mrFQ (h : Sim v w) {p : Nat} (hp : p < np v) : mrF v p ↔ mrF w p := by
  unfold mrF
  rw [h.t4, h.too, ← h.enl, ← h.enp, crS_congr _ (fun s _ _ => spR_cong (fun l hl => h.nd (w 5 4 0) hl) (fun l _ => h.reach l) (fun q hq => by
    show upd (humpsS v) p (humpsS v p + 1) q = upd (humpsS w) p (humpsS w p + 1) q
    unfold upd
    rw [h.humps hp]
    by_cases c : q = p
    · rw [if_pos c, if_pos c]
    · rw [if_neg c, if_neg c]; exact h.humps hq) s)]
end CONG2
