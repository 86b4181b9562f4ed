/-! the class and the reference, side by side -/
theorem CI_low {b b' : Mem} (hk : ∀ j, j < 69 → b' j = b j) (h : CI b) : CI b' := by
  obtain ⟨h1, h2, h3, h4, k, hh, q1, q2, q3, q4, q5⟩ := h
  have e : cv b' 1 = cv b 1 := cv_same (fun j _ _ => hk j (by omega))
  refine ⟨by rw [e]; exact h1, ?_, ?_, ?_, k, hh, ?_, q2, ?_, q4, fun j hj => ?_⟩
  · unfold Zs at *
    rw [hk 57 (by omega), hk 58 (by omega), hk 62 (by omega), hk 63 (by omega)]; exact h2
  · rw [hk 0 (by omega), e]
    rcases h3 with q | ⟨a, c⟩
    · exact Or.inl q
    · exact Or.inr ⟨a, c.same (by rw [hk 56 (by omega)]) (hk 59 (by omega)) (hk 60 (by omega))⟩
  · unfold TX TI at *
    rw [hk 52 (by omega)]; exact h4
  · rw [hk 50 (by omega)]; exact q1
  · rw [hk 50 (by omega)]; exact q3
  · rw [cv_same (b := b) (fun i h1 h2 => hk i (by omega))]; exact q5 j hj
/-- a kept state of the reference -/
def kw (b : Mem) (s : Nat) : View := mw (fun i => b 72 (123 * s + i))
def SIM (b : Mem) : Prop := CI b ∧ Sim (cv b 1) (mv b) ∧ (b 0 8 = b 70 0 ∧ b 0 9 = b 70 1 ∧ b 0 10 = b 70 2) ∧ (b 52 3 = b 69 11 ∧ ∀ k, k < tn b → b 53 k = b 79 k) ∧ b 69 3 = nI (hd b) ∧ ∀ j, j < hd b → Sim (pv b j) (kw b (hd b - 1 - j))
theorem SIM.val {b : Mem} (h : SIM b) : Val (mv b) := h.2.1.val h.1.1.1
theorem CI.hd5 {b : Mem} (h : CI b) : b 50 2 = nI (hd b) ∧ hd b ≤ 5 := by
  obtain ⟨_, _, _, _, k, hh, q1, q2, q3, q4, _⟩ := h
  unfold hd
  rw [q3, nI_clamp (by omega)]
  exact ⟨rfl, q4⟩
/-- behind a question asked of both -/
theorem SIM.get {b b1 b2 : Mem} {c : Int32} (h : SIM b) (h1 : GP b c b1) (h2 : MG b1 c b2) : SIM b2 := by
  obtain ⟨a1, a2, ⟨a3, a4, a5⟩, ⟨a6, a7⟩, a8, a9⟩ := h
  obtain ⟨g1, g2, g3, g4, g5⟩ := h1
  obtain ⟨m1, m2, m3, m4⟩ := h2
  have e : ∀ j, ((1 ≤ j ∧ j ≤ 55) ∨ j = 69 ∨ j = 71 ∨ j = 72 ∨ j = 79) → b2 j = b j := fun j hj => by rw [m1 j (by omega), g2 j (by omega)]
  have e70 : b1 70 = b 70 := g2 70 (by omega)
  have ec : cv b2 1 = cv b 1 := cv_same (fun j _ _ => e j (by omega))
  have eh : hd b2 = hd b := by unfold hd; rw [e 50 (by omega)]
  have ek : pk b2 = pk b := by unfold pk; rw [e 50 (by omega)]
  have et : tn b2 = tn b := by unfold tn; rw [e 52 (by omega)]
  refine ⟨CI_low (fun j hj => m1 j (by omega)) g1, ?_, ⟨?_, ?_, ?_⟩, ⟨by rw [e 52 (by omega), e 69 (by omega)]; exact a6, fun k hk => ?_⟩, by rw [e 69 (by omega), eh]; exact a8, fun j hj => ?_⟩
  · rw [ec]
    unfold mv
    rw [e 71 (by omega)]; exact a2
  · rw [m1 0 (by omega), m2, g3, e70, a3]
  · rw [m1 0 (by omega), m3, g4, e70, a4]
  · rw [m1 0 (by omega), m4, g5, e70, a5]
  · rw [et] at hk
    rw [e 53 (by omega), e 79 (by omega)]; exact a7 k hk
  · rw [eh] at hj ⊢
    unfold pv kw
    rw [ek, e 72 (by omega), cv_same (b := b) (fun i h1 h2 => e i (by omega))]
    exact a9 j hj
