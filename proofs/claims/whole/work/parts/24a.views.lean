/-! views changed and copied; the class's changes keep what holds of a view -/
noncomputable def vU (P : Nat → Nat → Nat → Prop) (x : Int32) (v : View) : View := fun c l i => @ite _ (P c l i) (Classical.propDecidable _) x (v c l i)
theorem vU_t {P : Nat → Nat → Nat → Prop} {x : Int32} {v : View} {c l i : Nat} (h : P c l i) : vU P x v c l i = x := if_pos h
theorem vU_f {P : Nat → Nat → Nat → Prop} {x : Int32} {v : View} {c l i : Nat} (h : ¬ P c l i) : vU P x v c l i = v c l i := if_neg h
theorem cv_ge7 (b : Mem) (o c l i : Nat) (h : 7 ≤ c) : cv b o c l i = b o 7 := by
  unfold cv
  split <;> first | omega | rfl
theorem cv_U {b : Mem} {o j k : Nat} {x : Int32} {P : Nat → Nat → Nat → Prop} (h : ∀ c l i, (P c l i → cv (up2 b j k x) o c l i = x) ∧ (¬ P c l i → cv (up2 b j k x) o c l i = cv b o c l i)) : cv (up2 b j k x) o = vU P x (cv b o) := by
  funext c l i
  by_cases q : P c l i
  · rw [vU_t q]; exact (h c l i).1 q
  · rw [vU_f q]; exact (h c l i).2 q
theorem c8 (c : Nat) : c = 0 ∨ c = 1 ∨ c = 2 ∨ c = 3 ∨ c = 4 ∨ c = 5 ∨ c = 6 ∨ 7 ≤ c := by omega
theorem cvU0 (b : Mem) (o k : Nat) (x : Int32) : cv (up2 b (o + 1) k x) o = vU (fun c l _ => c = 0 ∧ l = k) x (cv b o) := cv_U (fun c l i => by
  rcases c8 c with rfl | rfl | rfl | rfl | rfl | rfl | rfl | h <;> first | (constructor <;> intro q <;> simp_all [cv, up2, up1, upd]; done) | (rw [cv_ge7 _ _ _ _ _ h, cv_ge7 _ _ _ _ _ h]; exact ⟨fun q => by omega, fun _ => by rw [u2c _ _ (show o ≠ o + 1 by omega)]⟩))
theorem cvU1 (b : Mem) (o k : Nat) (x : Int32) : cv (up2 b (o + 2) k x) o = vU (fun c l i => c = 1 ∧ l * 8 + i = k) x (cv b o) := cv_U (fun c l i => by
  rcases c8 c with rfl | rfl | rfl | rfl | rfl | rfl | rfl | h <;> first | (constructor <;> intro q <;> simp_all [cv, up2, up1, upd]; done) | (rw [cv_ge7 _ _ _ _ _ h, cv_ge7 _ _ _ _ _ h]; exact ⟨fun q => by omega, fun _ => by rw [u2c _ _ (show o ≠ o + 2 by omega)]⟩))
theorem cvU2 (b : Mem) (o k : Nat) (x : Int32) : cv (up2 b (o + 3) k x) o = vU (fun c l i => c = 2 ∧ l * 8 + i = k) x (cv b o) := cv_U (fun c l i => by
  rcases c8 c with rfl | rfl | rfl | rfl | rfl | rfl | rfl | h <;> first | (constructor <;> intro q <;> simp_all [cv, up2, up1, upd]; done) | (rw [cv_ge7 _ _ _ _ _ h, cv_ge7 _ _ _ _ _ h]; exact ⟨fun q => by omega, fun _ => by rw [u2c _ _ (show o ≠ o + 3 by omega)]⟩))
theorem cvU3 (b : Mem) (o k : Nat) (x : Int32) : cv (up2 b (o + 4) k x) o = vU (fun c l _ => c = 3 ∧ l = k) x (cv b o) := cv_U (fun c l i => by
  rcases c8 c with rfl | rfl | rfl | rfl | rfl | rfl | rfl | h <;> first | (constructor <;> intro q <;> simp_all [cv, up2, up1, upd]; done) | (rw [cv_ge7 _ _ _ _ _ h, cv_ge7 _ _ _ _ _ h]; exact ⟨fun q => by omega, fun _ => by rw [u2c _ _ (show o ≠ o + 4 by omega)]⟩))
theorem cvU4 (b : Mem) (o k : Nat) (x : Int32) : cv (up2 b (o + 5) k x) o = vU (fun c l _ => c = 4 ∧ l = k) x (cv b o) := cv_U (fun c l i => by
  rcases c8 c with rfl | rfl | rfl | rfl | rfl | rfl | rfl | h <;> first | (constructor <;> intro q <;> simp_all [cv, up2, up1, upd]; done) | (rw [cv_ge7 _ _ _ _ _ h, cv_ge7 _ _ _ _ _ h]; exact ⟨fun q => by omega, fun _ => by rw [u2c _ _ (show o ≠ o + 5 by omega)]⟩))
theorem cvU5 (b : Mem) (o k : Nat) (x : Int32) : cv (up2 b (o + 6) k x) o = vU (fun c l _ => c = 5 ∧ l = k) x (cv b o) := cv_U (fun c l i => by
  rcases c8 c with rfl | rfl | rfl | rfl | rfl | rfl | rfl | h <;> first | (constructor <;> intro q <;> simp_all [cv, up2, up1, upd]; done) | (rw [cv_ge7 _ _ _ _ _ h, cv_ge7 _ _ _ _ _ h]; exact ⟨fun q => by omega, fun _ => by rw [u2c _ _ (show o ≠ o + 6 by omega)]⟩))
theorem cvU6 (b : Mem) (o : Nat) (x : Int32) : cv (up2 b o 6 x) o = vU (fun c _ _ => c = 6) x (cv b o) := cv_U (fun c l i => by
  rcases c8 c with rfl | rfl | rfl | rfl | rfl | rfl | rfl | h <;> first | (constructor <;> intro q <;> simp_all [cv, up2, up1, upd]; done) | (rw [cv_ge7 _ _ _ _ _ h, cv_ge7 _ _ _ _ _ h]; exact ⟨fun q => by omega, fun _ => u2k _ _ (by omega)⟩))
theorem cvU7 (b : Mem) (o : Nat) (x : Int32) : cv (up2 b o 7 x) o = vU (fun c _ _ => 7 ≤ c) x (cv b o) := cv_U (fun c l i => by
  rcases c8 c with rfl | rfl | rfl | rfl | rfl | rfl | rfl | h <;> first | (constructor <;> intro q <;> simp_all [cv, up2, up1, upd]; done) | (rw [cv_ge7 _ _ _ _ _ h, cv_ge7 _ _ _ _ _ h]; exact ⟨fun q => u2s _ _ _ _, fun q => by omega⟩))
/-- the same in all places that a Bus has -/
def Rg (v w : View) : Prop := v 6 0 0 = w 6 0 0 ∧ v 7 0 0 = w 7 0 0 ∧ (∀ l, l < 6 → v 0 l 0 = w 0 l 0 ∧ v 3 l 0 = w 3 l 0 ∧ v 4 l 0 = w 4 l 0 ∧ ∀ i, i < 8 → v 1 l i = w 1 l i ∧ v 2 l i = w 2 l i) ∧ ∀ k, k < 7 → v 5 k 0 = w 5 k 0
theorem Rg.rf (v : View) : Rg v v := ⟨rfl, rfl, fun _ _ => ⟨rfl, rfl, rfl, fun _ _ => ⟨rfl, rfl⟩⟩, fun _ _ => rfl⟩
theorem Rg.sy {v w : View} (h : Rg v w) : Rg w v := ⟨h.1.symm, h.2.1.symm, fun l hl => ⟨(h.2.2.1 l hl).1.symm, (h.2.2.1 l hl).2.1.symm, (h.2.2.1 l hl).2.2.1.symm, fun i hi => ⟨((h.2.2.1 l hl).2.2.2 i hi).1.symm, ((h.2.2.1 l hl).2.2.2 i hi).2.symm⟩⟩, fun k hk => (h.2.2.2 k hk).symm⟩
theorem Rg.tr {u v w : View} (h : Rg u v) (g : Rg v w) : Rg u w := ⟨h.1.trans g.1, h.2.1.trans g.2.1, fun l hl => ⟨(h.2.2.1 l hl).1.trans (g.2.2.1 l hl).1, (h.2.2.1 l hl).2.1.trans (g.2.2.1 l hl).2.1, (h.2.2.1 l hl).2.2.1.trans (g.2.2.1 l hl).2.2.1, fun i hi => ⟨((h.2.2.1 l hl).2.2.2 i hi).1.trans ((g.2.2.1 l hl).2.2.2 i hi).1, ((h.2.2.1 l hl).2.2.2 i hi).2.trans ((g.2.2.1 l hl).2.2.2 i hi).2⟩⟩, fun k hk => (h.2.2.2 k hk).trans (g.2.2.2 k hk)⟩
/-- the same in all that is told: what both sides must share -/
def Sim (v w : View) : Prop := v 6 0 0 = w 6 0 0 ∧ v 7 0 0 = w 7 0 0 ∧ (∀ l, l < nl v → v 0 l 0 = w 0 l 0 ∧ (∀ i, i < rn v l → v 1 l i = w 1 l i) ∧ ∀ i, 0 < i → i < rn v l → v 2 l i = w 2 l i) ∧ (∀ p, p < np v → v 3 p 0 = w 3 p 0 ∧ v 4 p 0 = w 4 p 0) ∧ ∀ k, k < 7 → v 5 k 0 = w 5 k 0
theorem Sim.enl {v w : View} (h : Sim v w) : nl v = nl w := by unfold nl; rw [h.1]
theorem Sim.enp {v w : View} (h : Sim v w) : np v = np w := by unfold np; rw [h.2.1]
theorem Sim.ern {v w : View} (h : Sim v w) {l : Nat} (hl : l < nl v) : rn v l = rn w l := by unfold rn; rw [(h.2.2.1 l hl).1]
theorem Sim.rf (v : View) : Sim v v := ⟨rfl, rfl, fun _ _ => ⟨rfl, fun _ _ => rfl, fun _ _ _ => rfl⟩, fun _ _ => ⟨rfl, rfl⟩, fun _ _ => rfl⟩
theorem Sim.sy {v w : View} (h : Sim v w) : Sim w v := ⟨h.1.symm, h.2.1.symm, fun l hl => by
  have hl' : l < nl v := by rw [h.enl]; exact hl
  obtain ⟨a1, a2, a3⟩ := h.2.2.1 l hl'
  have er := h.ern hl'
  exact ⟨a1.symm, fun i hi => (a2 i (by rw [er]; exact hi)).symm, fun i h0 hi => (a3 i h0 (by rw [er]; exact hi)).symm⟩, fun p hp => by
  obtain ⟨a1, a2⟩ := h.2.2.2.1 p (by rw [h.enp]; exact hp)
  exact ⟨a1.symm, a2.symm⟩, fun k hk => (h.2.2.2.2 k hk).symm⟩
theorem Sim.tr {u v w : View} (h : Sim u v) (g : Sim v w) : Sim u w := ⟨h.1.trans g.1, h.2.1.trans g.2.1, fun l hl => by
  have hl' := hl
  rw [h.enl] at hl'
  obtain ⟨a1, a2, a3⟩ := h.2.2.1 l hl
  obtain ⟨b1, b2, b3⟩ := g.2.2.1 l hl'
  have er := h.ern hl
  exact ⟨a1.trans b1, fun i hi => (a2 i hi).trans (b2 i (by rw [← er]; exact hi)), fun i h0 hi => (a3 i h0 hi).trans (b3 i h0 (by rw [← er]; exact hi))⟩, fun p hp => by
  have hp' := hp
  rw [h.enp] at hp'
  exact ⟨(h.2.2.2.1 p hp).1.trans (g.2.2.2.1 p hp').1, (h.2.2.2.1 p hp).2.trans (g.2.2.2.1 p hp').2⟩, fun k hk => (h.2.2.2.2 k hk).trans (g.2.2.2.2 k hk)⟩
theorem Rg.sim {v w : View} (h : Rg v w) (hV : Val v) : Sim v w := ⟨h.1, h.2.1, fun l hl => by
  have := hV.l6 hl
  have := hV.r8 hl
  exact ⟨(h.2.2.1 l (by omega)).1, fun i hi => ((h.2.2.1 l (by omega)).2.2.2 i (by omega)).1, fun i _ hi => ((h.2.2.1 l (by omega)).2.2.2 i (by omega)).2⟩, fun p hp => by
  have := hV.p6 hp
  exact ⟨(h.2.2.1 p (by omega)).2.1, (h.2.2.1 p (by omega)).2.2.1⟩, h.2.2.2⟩
theorem Sim.val {v w : View} (h : Sim v w) (hV : Val v) : Val w := by
  obtain ⟨h1, h2, h3, h4, h5⟩ := hV
  refine ⟨⟨by rw [← h.1, ← h.enl]; exact h1.1, by rw [← h.enl]; exact h1.2⟩, ⟨by rw [← h.2.1, ← h.enp]; exact h2.1, by rw [← h.enp]; exact h2.2⟩, fun l hl => ?_, fun p hp => ?_, fun k hk => ?_⟩
  · rw [← h.enl] at hl
    obtain ⟨a1, a2, a3⟩ := h.2.2.1 l hl
    obtain ⟨b1, b2, b3, b4, b5⟩ := h3 l hl
    rw [← h.ern hl, ← a1]
    exact ⟨b1, b2, b3, fun i hi => by rw [← a2 i hi]; exact b4 i hi, fun i h0 hi => by rw [← a3 i h0 hi]; exact b5 i h0 hi⟩
  · rw [← h.enp] at hp
    obtain ⟨a1, a2⟩ := h.2.2.2.1 p hp
    rw [← a1, ← a2]; exact h4 p hp
  · rw [← h.2.2.2.2 k hk]; exact h5 k hk
theorem Rg.vc {v w : View} (h : Rg v w) (hV : VC v) : VC w := ⟨(h.sim hV.1).val hV.1, fun l hl => by
  rw [← (h.sim hV.1).enl] at hl
  rw [← ((h.2.2.1 l (hV.1.l6 hl)).2.2.2 0 (by decide)).2]; exact hV.2 l hl⟩
theorem cpy_in {f g : Nat → Int32} {n j : Nat} (h : j < n) : va_cpy f g 0 0 n j = f j := sb_cpy0 h
theorem tk_rg (b : Mem) {o p : Nat} (hd : p + 6 < o ∨ o + 6 < p) : Rg (cv (tk b o p) o) (cv b p) := by
  have e6 : tk b o p o 6 = b p 6 := by unfold tk; rw [u2k _ _ (by decide), u2s]
  have e7 : tk b o p o 7 = b p 7 := by unfold tk; rw [u2s]
  have e1 : ∀ i, i < 6 → tk b o p (o + 1) i = b (p + 1) i := fun i hi => by
    unfold tk cp6
    rw [u2c _ _ (by omega), u2c _ _ (by omega), u1c _ _ (by omega), u1c _ _ (by omega), u1c _ _ (by omega), u1c _ _ (by omega), u1c _ _ (by omega), u1s, cpy_in hi]
  have e2 : ∀ i, i < 48 → tk b o p (o + 2) i = b (p + 2) i := fun i hi => by
    unfold tk cp6
    rw [u2c _ _ (by omega), u2c _ _ (by omega), u1c _ _ (by omega), u1c _ _ (by omega), u1c _ _ (by omega), u1c _ _ (by omega), u1s, cpy_in hi, u1c _ _ (by omega)]
  have e3 : ∀ i, i < 48 → tk b o p (o + 3) i = b (p + 3) i := fun i hi => by
    unfold tk cp6
    rw [u2c _ _ (by omega), u2c _ _ (by omega), u1c _ _ (by omega), u1c _ _ (by omega), u1c _ _ (by omega), u1s, cpy_in hi, u1c _ _ (by omega), u1c _ _ (by omega)]
  have e4 : ∀ i, i < 6 → tk b o p (o + 4) i = b (p + 4) i := fun i hi => by
    unfold tk cp6
    rw [u2c _ _ (by omega), u2c _ _ (by omega), u1c _ _ (by omega), u1c _ _ (by omega), u1s, cpy_in hi, u1c _ _ (by omega), u1c _ _ (by omega), u1c _ _ (by omega)]
  have e5 : ∀ i, i < 6 → tk b o p (o + 5) i = b (p + 5) i := fun i hi => by
    unfold tk cp6
    rw [u2c _ _ (by omega), u2c _ _ (by omega), u1c _ _ (by omega), u1s, cpy_in hi, u1c _ _ (by omega), u1c _ _ (by omega), u1c _ _ (by omega), u1c _ _ (by omega)]
  have e8 : ∀ i, i < 7 → tk b o p (o + 6) i = b (p + 6) i := fun i hi => by
    unfold tk cp6
    rw [u2c _ _ (by omega), u2c _ _ (by omega), u1s, cpy_in hi, u1c _ _ (by omega), u1c _ _ (by omega), u1c _ _ (by omega), u1c _ _ (by omega), u1c _ _ (by omega)]
  exact ⟨e6, e7, fun l hl => ⟨e1 l hl, e4 l hl, e5 l hl, fun i hi => ⟨e2 _ (by omega), e3 _ (by omega)⟩⟩, fun k hk => e8 k hk⟩
