/-! what holds of the class's cells between calls -/
def T0 (v : View) : Prop := ∀ l, l < nl v → v 2 l 0 = -1
def VC (v : View) : Prop := Val v ∧ T0 v
def Zs (b : Mem) : Prop := (b 57 0 = 0 ∧ b 58 0 = 0) ∧ b 62 0 = 0 ∧ b 63 0 = 0
def TX (b : Mem) : Prop := (∃ n, b 52 3 = nI n ∧ n ≤ 120) ∧ TI b
def PS (b : Mem) : Prop := ∃ k h, b 50 1 = nI k ∧ k < 5 ∧ b 50 2 = nI h ∧ h ≤ 5 ∧ ∀ j, j < h → VC (cv b (15 + 7 * ((k + 4 - j) % 5)))
def CI (b : Mem) : Prop := VC (cv b 1) ∧ Zs b ∧ (b 0 7 = 0 ∨ b 0 7 = 1 ∧ PLd b (cv b 1)) ∧ TX b ∧ PS b
def Kp (b b' : Mem) : Prop := ∀ j, ((1 ≤ j ∧ j ≤ 55) ∨ 69 ≤ j) → b' j = b j
def Ct (b b' : Mem) (c : Int32) : Prop := b' 0 8 = b 0 8 + bI (c = -2) ∧ b' 0 9 = b 0 9 + bI (c = -3) ∧ b' 0 10 = b 0 10 + bI (c = -4)
/-- behind a call that only tells, refused with c or (0) not -/
def GP (b : Mem) (c : Int32) (b' : Mem) : Prop := CI b' ∧ Kp b b' ∧ Ct b b' c
theorem Kp.rf (b : Mem) : Kp b b := fun _ _ => rfl
theorem Kp.tr {a b c : Mem} (h1 : Kp a b) (h2 : Kp b c) : Kp a c := fun j hj => by rw [h2 j hj, h1 j hj]
theorem bI0 {c : Prop} [Decidable c] (h : ¬ c) (x : Int32) : x + bI c = x := by rw [bI_f h, Int32.add_zero]
theorem Ct.rf (b : Mem) : Ct b b 0 := ⟨(bI0 (by decide) _).symm, (bI0 (by decide) _).symm, (bI0 (by decide) _).symm⟩
theorem Ct.tr {a b c : Mem} {x : Int32} (h1 : Ct a b 0) (h2 : Ct b c x) : Ct a c x := by
  obtain ⟨p1, p2, p3⟩ := h1
  obtain ⟨q1, q2, q3⟩ := h2
  rw [bI0 (by decide)] at p1 p2 p3
  exact ⟨by rw [q1, p1], by rw [q2, p2], by rw [q3, p3]⟩
theorem Ct.tr0 {a b c : Mem} {x : Int32} (h1 : Ct a b x) (h2 : Ct b c 0) : Ct a c x := by
  obtain ⟨p1, p2, p3⟩ := h1
  obtain ⟨q1, q2, q3⟩ := h2
  rw [bI0 (by decide)] at q1 q2 q3
  exact ⟨by rw [q1, p1], by rw [q2, p2], by rw [q3, p3]⟩
theorem Ct.same {b b' : Mem} (h : b' 0 8 = b 0 8 ∧ b' 0 9 = b 0 9 ∧ b' 0 10 = b 0 10) : Ct b b' 0 := ⟨by rw [bI0 (by decide), h.1], by rw [bI0 (by decide), h.2.1], by rw [bI0 (by decide), h.2.2]⟩
theorem GP.rf {b : Mem} (h : CI b) : GP b 0 b := ⟨h, Kp.rf b, Ct.rf b⟩
theorem GP.tr {a b c : Mem} {x : Int32} (h1 : GP a 0 b) (h2 : GP b x c) : GP a x c := ⟨h2.1, h1.2.1.tr h2.2.1, h1.2.2.tr h2.2.2⟩
theorem Kp.cv1 {b b' : Mem} (h : Kp b b') : cv b' 1 = cv b 1 := cv_same (fun j h1 h2 => h j (Or.inl ⟨by omega, by omega⟩))
theorem CI.keep {b b' : Mem} (h : CI b) (hk : Kp b b') (hz : Zs b') (hp : b' 0 7 = 0 ∨ b' 0 7 = 1 ∧ PLd b' (cv b 1)) : CI b' := by
  obtain ⟨h1, h2, h3, h4, k, hh, q1, q2, q3, q4, q5⟩ := h
  have e := hk.cv1
  refine ⟨by rw [e]; exact h1, hz, by rw [e]; exact hp, ?_, k, hh, ?_, q2, ?_, q4, fun j hj => ?_⟩
  · unfold TX TI at *
    rw [hk 52 (by omega)]; exact h4
  · rw [hk 50 (by omega)]; exact q1
  · rw [hk 50 (by omega)]; exact q3
  · rw [cv_same (b := b) (fun i h1 h2 => hk i (by omega))]; exact q5 j hj
def refM (b : Mem) (c : Int32) : Mem := if c = -2 then up2 b 0 8 (b 0 8 + 1) else if c = -3 then up2 b 0 9 (b 0 9 + 1) else if c = -4 then up2 b 0 10 (b 0 10 + 1) else b
theorem refM_c (b : Mem) (c : Int32) {j : Nat} (h : j ≠ 0) : refM b c j = b j := by
  unfold refM
  (repeat' split) <;> simp only [u2c _ _ h]
theorem refM_7 (b : Mem) (c : Int32) {i : Nat} (h : i < 8) : refM b c 0 i = b 0 i := by
  unfold refM
  (repeat' split)
  · rw [u2k _ _ (by omega)]
  · rw [u2k _ _ (by omega)]
  · rw [u2k _ _ (by omega)]
  · rfl
theorem refM_ct (b : Mem) (c : Int32) : Ct b (refM b c) c := by
  unfold refM
  by_cases h1 : c = -2
  · subst h1
    simp [Ct, up2, up1, upd, bI]
  · by_cases h2 : c = -3
    · subst h2
      simp [Ct, up2, up1, upd, bI]
    · by_cases h3 : c = -4
      · subst h3
        simp [Ct, up2, up1, upd, bI]
      · simp [Ct, bI, h1, h2, h3]
theorem PLd.same {b b' : Mem} {v : View} (h : PLd b v) (h1 : b' 56 7 = b 56 7) (h2 : b' 59 = b 59) (h3 : b' 60 = b 60) : PLd b' v := by
  unfold PLd at *
  rw [h1, h2, h3]; exact h
theorem GP.ref {b : Mem} (h : CI b) (c : Int32) : GP b c (refM b c) := by
  have hk : Kp b (refM b c) := fun j hj => refM_c b c (by omega)
  refine ⟨h.keep hk ?_ ?_, hk, refM_ct b c⟩
  · unfold Zs
    rw [refM_c _ _ (by decide), refM_c _ _ (by decide), refM_c _ _ (by decide), refM_c _ _ (by decide)]
    exact h.2.1
  · rw [refM_7 _ _ (by decide)]
    rcases h.2.2.1 with q | ⟨q1, q2⟩
    · exact Or.inl q
    · exact Or.inr ⟨q1, q2.same (by rw [refM_c _ _ (by decide)]) (refM_c _ _ (by decide)) (refM_c _ _ (by decide))⟩
/-- a change of tried or of phasing alone -/
theorem GP.side {b b' : Mem} (h : CI b) (hk : ∀ j, (j ≤ 60 ∨ 69 ≤ j) → b' j = b j) (hz : b' 62 0 = 0 ∧ b' 63 0 = 0) : GP b 0 b' := by
  have hk' : Kp b b' := fun j hj => hk j (by omega)
  refine ⟨h.keep hk' ⟨by rw [hk 57 (by omega), hk 58 (by omega)]; exact h.2.1.1, hz⟩ ?_, hk', Ct.same ?_⟩
  · rw [hk 0 (by omega)]
    rcases h.2.2.1 with q | ⟨q1, q2⟩
    · exact Or.inl q
    · exact Or.inr ⟨q1, q2.same (by rw [hk 56 (by omega)]) (hk 59 (by omega)) (hk 60 (by omega))⟩
  · rw [hk 0 (by omega)]; exact ⟨rfl, rfl, rfl⟩
theorem GP.look {b : Mem} (h : CI b) (t : Int32) : GP b 0 (lookM b 61 1 t) ∧ SHp (lookM b 61 1 t) 61 (cv b 1) t := by
  obtain ⟨a1, a2, a3, -, -, a6⟩ := look_spec (b := b) (q := 61) (o := 1) (t := t) h.1.1 (by omega) h.2.1.2.1 h.2.1.2.2
  exact ⟨GP.side h (fun j hj => a6 j (by omega)) ⟨a2, a3⟩, a1⟩
theorem GP.plan {b : Mem} (h : CI b) (h0 : b 0 7 = 0) : (blN (cv b 1) (cv b 1 5 4 0) = 0 → GP b 0 (up2 (plL (pl2 b (cv b 1 5 4 0) (nI (blN (cv b 1) (cv b 1 5 4 0)))) (nl (cv b 1)) (np (cv b 1)) (nl (cv b 1))) 0 7 1)) ∧ (¬ blN (cv b 1) (cv b 1 5 4 0) = 0 → GP b 0 (up2 (pl2 b (cv b 1 5 4 0) (nI (blN (cv b 1) (cv b 1 5 4 0)))) 0 7 1)) := by
  obtain ⟨a1, a2, a3, a4, a5, a6⟩ := look_spec (b := b) (q := 56) (o := 1) (t := cv b 1 5 4 0) h.1.1 (by omega) h.2.1.1.1 h.2.1.1.2
  have hn6 := h.1.1.1.2
  have hp6 := h.1.1.2.1.2
  have hq : SHq (pl2 b (cv b 1 5 4 0) (nI (blN (cv b 1) (cv b 1 5 4 0)))) 56 (ndV (cv b 1) (cv b 1 5 4 0)) (reachN (cv b 1)) (nl (cv b 1)) (np (cv b 1)) (humpsS (cv b 1)) := by
    unfold pl2
    refine ⟨fun s hs => ?_, fun p hp => ?_⟩
    · rw [u2c _ _ (by decide), u2c _ _ (by decide)]; exact a1.2.2.2.1 s hs
    · rw [u2c _ _ (by decide)]; exact a1.2.2.2.2 p hp
  have two : ∀ j, (j ≤ 55 ∨ 61 ≤ j) → pl2 b (cv b 1 5 4 0) (nI (blN (cv b 1) (cv b 1 5 4 0))) j = b j := fun j hj => by
    unfold pl2; rw [u2c _ _ (by omega)]; exact a6 j (by omega)
  have z7 : pl2 b (cv b 1 5 4 0) (nI (blN (cv b 1) (cv b 1 5 4 0))) 57 0 = 0 ∧ pl2 b (cv b 1 5 4 0) (nI (blN (cv b 1) (cv b 1 5 4 0))) 58 0 = 0 := by
    unfold pl2; rw [u2c _ _ (by decide), u2c _ _ (by decide)]; exact ⟨a2, a3⟩
  constructor
  · intro hb
    obtain ⟨s1, s2⟩ := plL_spec hq hn6 hp6 (nl (cv b 1)) (Nat.le_refl _)
    generalize hm : plL (pl2 b (cv b 1 5 4 0) (nI (blN (cv b 1) (cv b 1 5 4 0)))) (nl (cv b 1)) (np (cv b 1)) (nl (cv b 1)) = m at s1 s2
    have mc : ∀ j, j ≠ 59 → j ≠ 60 → m j = pl2 b (cv b 1 5 4 0) (nI (blN (cv b 1) (cv b 1 5 4 0))) j := fun j h1 h2 => by rw [← hm]; exact plL_c _ _ _ _ h1 h2
    have hk : Kp b (up2 m 0 7 1) := fun j hj => by rw [u2c _ _ (by omega), mc j (by omega) (by omega), two j (by omega)]
    refine ⟨h.keep hk ⟨?_, ?_⟩ (Or.inr ⟨u2s _ _ _ _, ?_, fun _ => ⟨fun l p hl hp => ?_, fun p hp => ?_⟩⟩), hk, Ct.same ?_⟩
    · rw [u2c _ _ (by decide), u2c _ _ (by decide), mc _ (by decide) (by decide), mc _ (by decide) (by decide)]; exact z7
    · rw [u2c _ _ (by decide), u2c _ _ (by decide), mc _ (by decide) (by decide), mc _ (by decide) (by decide), two _ (by omega), two _ (by omega)]; exact h.2.1.2
    · rw [u2c _ _ (by decide), mc _ (by decide) (by decide)]; unfold pl2; rw [u2s]
    · rw [u2c _ _ (by decide)]; exact s2 l p hl hp
    · rw [u2c _ _ (by decide)]; exact s1.2 p hp
    · rw [u2k _ _ (by decide), u2k _ _ (by decide), u2k _ _ (by decide), mc _ (by decide) (by decide), two _ (by omega)]; exact ⟨rfl, rfl, rfl⟩
  · intro hb
    have hk : Kp b (up2 (pl2 b (cv b 1 5 4 0) (nI (blN (cv b 1) (cv b 1 5 4 0)))) 0 7 1) := fun j hj => by rw [u2c _ _ (by omega), two j (by omega)]
    refine ⟨h.keep hk ⟨?_, ?_⟩ (Or.inr ⟨u2s _ _ _ _, ?_, fun q => absurd q hb⟩), hk, Ct.same ?_⟩
    · rw [u2c _ _ (by decide), u2c _ _ (by decide)]; exact z7
    · rw [u2c _ _ (by decide), u2c _ _ (by decide), two _ (by omega), two _ (by omega)]; exact h.2.1.2
    · rw [u2c _ _ (by decide)]; unfold pl2; rw [u2s]
    · rw [u2k _ _ (by decide), u2k _ _ (by decide), u2k _ _ (by decide), two _ (by omega)]; exact ⟨rfl, rfl, rfl⟩
