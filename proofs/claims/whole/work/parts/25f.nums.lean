/-! the numbers' sizes; sets by whole numbers -/
theorem pos0_z {z : Int} (h : -2000000 ≤ z ∧ z < 2000000) : pos0 (zI z) = nI z.toNat := by
  have e : (0 : Int32) < zI z ↔ 0 < z := by rw [← zI_0]; exact zI_lt (by omega) (by omega)
  by_cases c : 0 < z
  · rw [pos0_p (e.mpr c), zI_nat (by omega)]
  · rw [pos0_n (fun q => c (e.mp q))]
    have : z.toNat = 0 := by omega
    rw [this, nI_0]
theorem even_n (n : Nat) : evenUp (nI n) = nI (n + n % 2) := by
  unfold evenUp
  rw [show (1 : Int32) = nI 1 from rfl, nx_and, Nat.and_one_is_mod, nI_add]
theorem sumI_n {f : Nat → Int32} {n c : Nat} (h : ∀ i, i < n → ∃ x, f i = nI x ∧ x ≤ c) : ∃ S, sumI f n = nI S ∧ S ≤ n * c := by
  induction n with
  | zero => exact ⟨0, rfl, by omega⟩
  | succ n ih =>
    obtain ⟨S, e, hS⟩ := ih (fun i hi => h i (by omega))
    obtain ⟨x, e2, hx⟩ := h n (by omega)
    refine ⟨S + x, ?_, ?_⟩
    · simp only [sumI]; rw [e, e2, nI_add]
    · rw [Nat.succ_mul]; omega
theorem Val.base {v : View} (h : Val v) {l : Nat} (hl : l < nl v) : ∃ B, baseS v l = nI B ∧ B ≤ 480 := by
  have r8 := h.r8 hl
  have r1 := h.r1 hl
  obtain ⟨S, e, hS⟩ := sumI_n (f := v 1 l) (n := rn v l) (c := 60) (fun i hi => by obtain ⟨x, e, _, h2⟩ := h.long hl hi; exact ⟨x, e, h2⟩)
  obtain ⟨c, ec, _, hc⟩ := h.set (k := 2) (by decide) (lo := 0) (hi := 2) rfl rfl (by decide)
  have hm : c * (rn v l - 1) ≤ 2 * 7 := Nat.mul_le_mul hc (by omega)
  have e2 : baseS v l = nI ((S : Int) - (c * (rn v l - 1) : Nat)).toNat := by
    unfold baseS
    rw [e, ec, h.runs hl, nI_sub1 r1, pk_mul, nI_z, nI_z, zI_sub, pos0_z (by omega)]
  exact ⟨_, e2, by omega⟩
theorem Val.gain {v : View} (h : Val v) : ∃ g : Int, gainS v = zI g ∧ -12 ≤ g ∧ g ≤ 22 := by
  obtain ⟨a, ea, a1, a2⟩ := h.set (k := 0) (by decide) (lo := 2) (hi := 12) rfl rfl (by decide)
  obtain ⟨s, es, s1, s2⟩ := h.set (k := 1) (by decide) (lo := 1) (hi := 4) rfl rfl (by decide)
  obtain ⟨c, ec, c1, c2⟩ := h.set (k := 2) (by decide) (lo := 0) (hi := 2) rfl rfl (by decide)
  refine ⟨2 * ((a : Int) - s) - 4 * c, ?_, by omega, by omega⟩
  unfold gainS
  rw [ea, es, ec, nI_z, nI_z, nI_z, zI_sub, show (2 : Int32) = zI 2 from rfl, show (4 : Int32) = zI 4 from rfl, zI_mul, zI_mul, zI_sub]
def needOf (g : Int) (k : Nat) : Nat := if k = 0 then 0 else if g < 2 then 1000 else (k + g.toNat - 1) / g.toNat
def ev2 (x : Nat) : Nat := x + x % 2
theorem needOf_le (g : Int) {k : Nat} (hk : k ≤ 1000) : needOf g k ≤ 1000 := by
  unfold needOf
  by_cases h1 : k = 0
  · rw [if_pos h1]; omega
  · rw [if_neg h1]
    by_cases h2 : g < 2
    · rw [if_pos h2]; omega
    · rw [if_neg h2]
      refine Nat.le_trans (Nat.div_le_of_le_mul (n := k) ?_) hk
      have hg : 1 ≤ g.toNat := by omega
      have : g.toNat * k ≥ g.toNat * 1 := Nat.mul_le_mul_left _ (by omega)
      have h3 : g.toNat * k ≥ 1 * k := Nat.mul_le_mul_right _ hg
      obtain ⟨y, hy⟩ : ∃ y, g.toNat = y + 1 := ⟨g.toNat - 1, by omega⟩
      obtain ⟨x, hx⟩ : ∃ x, k = x + 1 := ⟨k - 1, by omega⟩
      rw [hy, hx, Nat.mul_add, Nat.add_mul]
      have := Nat.zero_le (y * x)
      omega
theorem needOf_mono (g : Int) {a b : Nat} (h : a ≤ b) : needOf g a ≤ needOf g b := by
  unfold needOf
  by_cases h1 : a = 0
  · rw [if_pos h1]; omega
  · rw [if_neg h1, if_neg (show ¬ b = 0 by omega)]
    by_cases h2 : g < 2
    · rw [if_pos h2, if_pos h2]; omega
    · rw [if_neg h2, if_neg h2]
      exact Nat.div_le_div_right (by omega)
theorem ev2_mono {a b : Nat} (h : a ≤ b) : ev2 a ≤ ev2 b := by unfold ev2; omega
theorem ev2_le {a : Nat} (h : a ≤ 1000) : ev2 a ≤ 1000 := by unfold ev2; omega
theorem Val.need {v : View} (h : Val v) {l : Nat} (hl : l < nl v) : ∃ (g : Int) (o : Nat), ∀ T, T ≤ 1000 → ndV v (nI T) l = nI (needOf g (ev2 (T - o))) := by
  obtain ⟨B, eB, hB⟩ := h.base hl
  obtain ⟨g, eg, g1, g2⟩ := h.gain
  obtain ⟨o, eo, o1, o2⟩ := h.set (k := 3) (by decide) (lo := 0) (hi := 20) rfl rfl (by decide)
  refine ⟨g, o + B, fun T hT => ?_⟩
  have ek : lackS v (baseS v l) (nI T) = nI (ev2 (T - (o + B))) := by
    unfold lackS
    rw [eB, eo, nI_z, nI_z, nI_z, zI_sub, zI_sub, pos0_z (by omega), even_n]
    unfold ev2
    congr 1
    omega
  have hk : ev2 (T - (o + B)) ≤ 1000 := ev2_le (by omega)
  unfold ndV needS needOf
  rw [ek, eg]
  by_cases c : ev2 (T - (o + B)) = 0
  · rw [if_pos c, if_pos (by rw [c, nI_0]), nI_0]
  · rw [if_neg c, if_neg (fun q => c ((nI0 (by omega)).mp q))]
    have e2 : zI g < 2 ↔ g < 2 := by rw [show (2 : Int32) = zI 2 from rfl]; exact zI_lt (by omega) (by omega)
    by_cases c2 : g < 2
    · rw [if_pos c2, if_pos (e2.mpr c2)]; rfl
    · rw [if_neg c2, if_neg (fun q => c2 (e2.mp q)), zI_nat (by omega), nI_add, nI_sub1 (by omega), pk_div (by omega) (by omega) (by omega)]
theorem Val.nd_b {v : View} (h : Val v) {l : Nat} (hl : l < nl v) {T : Nat} (hT : T ≤ 1000) : 0 ≤ (ndV v (nI T) l).toInt ∧ (ndV v (nI T) l).toInt ≤ 1000 := by
  obtain ⟨g, o, e⟩ := h.need hl
  have := needOf_le g (ev2_le (show T - o ≤ 1000 by omega))
  rw [e T hT, nI_toInt (by omega)]
  omega
theorem Val.hump {v : View} (h : Val v) {p : Nat} (hp : p < np v) : ∃ H, humpsS v p = nI H ∧ H ≤ 64 := by
  obtain ⟨g, eg, g1, g2⟩ := h.gain
  obtain ⟨s, es, s1, s2⟩ := h.set (k := 1) (by decide) (lo := 1) (hi := 4) rfl rfl (by decide)
  obtain ⟨⟨w1, w2⟩, -⟩ := h.2.2.2.1 p hp
  obtain ⟨w, hw, ew⟩ := nI_of (x := v 3 p 0) (fun q => w1 (Int32.lt_trans q (by decide)))
  have hw6 : w ≤ 60 := by
    rcases Nat.lt_or_ge 60 w with q | q
    · exact absurd (by rw [ew]; exact nI_lt q hw) w2
    · exact q
  unfold humpsS
  by_cases c : gainS v < 2
  · exact ⟨0, by rw [if_pos c, nI_0], by omega⟩
  · refine ⟨(w + s) / (2 * s), ?_, Nat.le_trans (Nat.div_le_self _ _) (by omega)⟩
    rw [if_neg c, ew, es, nI_add, show (2 : Int32) = nI 2 from rfl, pk_mul, pk_div (by omega) (by omega) (by omega)]
theorem Val.hp_b {v : View} (h : Val v) {p : Nat} (hp : p < np v) : 0 ≤ (humpsS v p).toInt ∧ (humpsS v p).toInt ≤ 64 := by
  obtain ⟨H, e, hH⟩ := h.hump hp
  rw [e, nI_toInt (by omega)]
  omega
theorem sumI_z (f : Nat → Int32) (A : Nat → Bool) (n : Nat) : sumI (fun i => if A i = true then f i else 0) n = zI (wZ (fun i => (f i).toInt) A n) := by
  induction n with
  | zero => rfl
  | succ n ih =>
    rw [wZ_s]
    simp only [sumI]
    rw [ih]
    cases A n
    · simp only [Bool.false_eq_true, if_false]
      rw [← zI_0, zI_add]
    · simp only [if_true]
      conv => lhs; rw [zI_of (f n), zI_add]
theorem spR_z (nd : Nat → Int32) (my : Nat → Nat) (n np : Nat) (rm : Nat → Int32) (s : Nat) : spR nd my n np rm s = zI (spZ (fun i => (nd i).toInt) my n np (fun i => (rm i).toInt) s) := by
  unfold spR spZ nsI
  rw [sumI_z, sumI_z, show ∀ x y : Int32, -x + y = y - x from fun x y => by rw [Int32.add_comm, ← Int32.sub_eq_add_neg], zI_sub]
def BdZ (nd : Nat → Int) (n : Nat) : Prop := ∀ i, i < n → 0 ≤ nd i ∧ nd i ≤ 2000
theorem spZ_b {nd : Nat → Int} {my : Nat → Nat} {n np : Nat} {rm : Nat → Int} (s : Nat) (hn : n ≤ 6) (hp : np ≤ 6) (h1 : BdZ nd n) (h2 : BdZ rm np) : -12000 ≤ spZ nd my n np rm s ∧ spZ nd my n np rm s ≤ 12000 := by
  have a1 := wZ_nn (A := s.testBit) (fun i hi => (h1 i hi).1)
  have a2 := wZ_nn (A := (orN my n s).testBit) (fun i hi => (h2 i hi).1)
  have a3 := wZ_le (A := s.testBit) (c := 2000) (by omega) (fun i hi => (h1 i hi).2)
  have a4 := wZ_le (A := (orN my n s).testBit) (c := 2000) (by omega) (fun i hi => (h2 i hi).2)
  unfold spZ
  omega
theorem spR_neg {nd : Nat → Int32} {my : Nat → Nat} {n np : Nat} {rm : Nat → Int32} (s : Nat) (hn : n ≤ 6) (hp : np ≤ 6) (h1 : BdZ (fun i => (nd i).toInt) n) (h2 : BdZ (fun i => (rm i).toInt) np) : spR nd my n np rm s < 0 ↔ ¬ 0 ≤ spZ (fun i => (nd i).toInt) my n np (fun i => (rm i).toInt) s := by
  have := spZ_b (my := my) s hn hp h1 h2
  rw [spR_z, ← zI_0, zI_lt (by omega) (by omega)]
  omega
def aeB (f : Nat → Int) : Nat → Bool
  | 0 => true
  | k + 1 => aeB f k && decide (0 ≤ f (k + 1))
theorem aeB_iff (f : Nat → Int) (k : Nat) : aeB f k = true ↔ ∀ s, 0 < s → s ≤ k → 0 ≤ f s := by
  induction k with
  | zero => simp [aeB]; intro s h1 h2; omega
  | succ k ih =>
    simp only [aeB, Bool.and_eq_true, decide_eq_true_eq]
    rw [ih]
    constructor
    · rintro ⟨h1, h2⟩ s hs hk
      rcases Nat.lt_or_ge s (k + 1) with q | q
      · exact h1 s hs (by omega)
      · have : s = k + 1 := by omega
        rw [this]; exact h2
    · intro h
      exact ⟨fun s hs hk => h s hs (by omega), h (k + 1) (by omega) (by omega)⟩
theorem spZ_0 (nd : Nat → Int) (my : Nat → Nat) (n np : Nat) (rm : Nat → Int) : spZ nd my n np rm 0 = 0 := by
  unfold spZ
  rw [orN_0]
  have k : ∀ (f : Nat → Int) m, wZ f (0 : Nat).testBit m = 0 := fun f m => by
    induction m with
    | zero => rfl
    | succ m ih => rw [wZ_s, ih]; simp
  rw [k, k]; rfl
theorem hall_ae {nd : Nat → Int} {my : Nat → Nat} {n np : Nat} {rm : Nat → Int} : aeB (spZ nd my n np rm) (2 ^ n - 1) = true ↔ Hall nd my n np rm := by
  rw [aeB_iff]
  have := pow1 n
  constructor
  · intro h s hs
    rcases Nat.eq_zero_or_pos s with q | q
    · rw [q, spZ_0]; exact Int.le_refl _
    · exact h s q (by omega)
  · intro h s _ hs
    exact h s (by omega)
theorem crS_2 (sp : Nat → Int32) (k : Nat) : (crS sp k).2 = if (crS sp k).1 = 0 then 7 else popN (crS sp k).1 := by
  induction k with
  | zero => rfl
  | succ k ih =>
    simp only [crS]
    split
    · simp
    · exact ih
theorem crS_s (sp : Nat → Int32) (k : Nat) : (crS sp (k + 1)).1 = if sp (k + 1) < 0 ∧ ((crS sp k).1 = 0 ∨ popN (k + 1) < popN (crS sp k).1) then k + 1 else (crS sp k).1 := by
  have h2 := crS_2 sp k
  have h6 := pop_le (k + 1)
  have : (popN (k + 1) < (crS sp k).2) ↔ ((crS sp k).1 = 0 ∨ popN (k + 1) < popN (crS sp k).1) := by
    rw [h2]
    by_cases c : (crS sp k).1 = 0
    · rw [if_pos c]; simp [c]; omega
    · rw [if_neg c]; simp [c]
  simp only [crS]
  by_cases c : popN (k + 1) < (crS sp k).2 ∧ sp (k + 1) < 0
  · rw [if_pos c, if_pos ⟨c.2, this.mp c.1⟩]
  · rw [if_neg c, if_neg (fun q => c ⟨this.mpr q.2, q.1⟩)]
theorem crS_0 (sp : Nat → Int32) (k : Nat) : (crS sp k).1 = 0 ↔ ∀ s, 0 < s → s ≤ k → ¬ sp s < 0 := by
  induction k with
  | zero => simp [crS]; intro s h1 h2; omega
  | succ k ih =>
    rw [crS_s]
    by_cases c : (crS sp k).1 = 0
    · by_cases d : sp (k + 1) < 0
      · rw [if_pos ⟨d, Or.inl c⟩]
        constructor
        · intro h; omega
        · intro h; exact absurd d (h (k + 1) (by omega) (by omega))
      · rw [if_neg (fun q => d q.1)]
        constructor
        · intro _ s h1 h2
          rcases Nat.lt_or_ge s (k + 1) with q | q
          · exact ih.mp c s h1 (by omega)
          · have : s = k + 1 := by omega
            rw [this]; exact d
        · intro _; exact c
    · constructor
      · intro h
        split at h
        · omega
        · exact absurd h c
      · intro h
        exact absurd (ih.mpr (fun s h1 h2 => h s h1 (by omega))) c
theorem cr_ae {nd : Nat → Int32} {my : Nat → Nat} {n np : Nat} {rm : Nat → Int32} (hn : n ≤ 6) (hp : np ≤ 6) (h1 : BdZ (fun i => (nd i).toInt) n) (h2 : BdZ (fun i => (rm i).toInt) np) : (crS (spR nd my n np rm) (2 ^ n - 1)).1 = 0 ↔ aeB (spZ (fun i => (nd i).toInt) my n np (fun i => (rm i).toInt)) (2 ^ n - 1) = true := by
  rw [crS_0, aeB_iff]
  constructor
  · intro h s a b
    have := h s a b
    rw [spR_neg s hn hp h1 h2] at this
    exact Decidable.not_not.mp this
  · intro h s a b
    rw [spR_neg s hn hp h1 h2]
    exact not_not_intro (h s a b)
