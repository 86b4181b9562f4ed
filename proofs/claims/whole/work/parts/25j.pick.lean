/-! how much a line draws from a pocket: two ways to find it -/
theorem minI_z {a b : Int} (ha : -100000 ≤ a ∧ a ≤ 100000) (hb : -100000 ≤ b ∧ b ≤ 100000) : minI (zI a) (zI b) = zI (if b < a then b else a) := by
  unfold minI
  have : zI b < zI a ↔ b < a := zI_lt (by omega) (by omega)
  by_cases c : b < a
  · rw [if_pos c, if_pos (this.mpr c)]
  · rw [if_neg c, if_neg (fun z => c (this.mp z))]
theorem orN_on {my my' : Nat → Nat} {n s : Nat} (h : ∀ i, i < n → s.testBit i = true → my i = my' i) : orN my n s = orN my' n s := tb_ext (fun q => by
  rw [orN_tb, orN_tb]
  constructor
  · rintro ⟨i, h1, h2, h3⟩; exact ⟨i, h1, h2, by rw [← h i h1 h2]; exact h3⟩
  · rintro ⟨i, h1, h2, h3⟩; exact ⟨i, h1, h2, by rw [h i h1 h2]; exact h3⟩)
theorem hi_bit (l j i : Nat) : (2 ^ (l + 1) * j).testBit i = true → l < i := by
  intro h
  rw [Nat.testBit_two_pow_mul] at h
  simp at h
  omega
section PICK
variable {nd0 : Nat → Int32} {my0 : Nat → Nat} {n np l p : Nat} {room : Nat → Int32} {nd rm : Nat → Int} {my : Nat → Nat}
theorem sp_hi (hnd : ∀ i, l < i → i < n → nd i = (nd0 i).toInt) (hmy : ∀ i, l < i → i < n → my i = my0 i) (hrm : ∀ q, q < np → zI (rm q) = room q) (b2 : BdZ rm np) (j : Nat) : spR nd0 my0 n np room (2 ^ (l + 1) * j) = zI (spZ nd my n np rm (2 ^ (l + 1) * j)) ∧ orN my0 n (2 ^ (l + 1) * j) = orN my n (2 ^ (l + 1) * j) := by
  have e : orN my0 n (2 ^ (l + 1) * j) = orN my n (2 ^ (l + 1) * j) := orN_on (fun i hi hb => (hmy i (hi_bit l j i hb) hi).symm)
  refine ⟨?_, e⟩
  rw [spR_z]
  congr 1
  unfold spZ
  rw [e, wZ_congr (f := fun i => (room i).toInt) (g := rm) (B := (orN my n (2 ^ (l + 1) * j)).testBit) (fun i hi => ⟨rfl, fun _ => by
      have := b2 i hi
      rw [← hrm i hi, zI_t (by omega) (by omega)]⟩),
    wZ_congr (f := fun i => (nd0 i).toInt) (g := nd) (B := (2 ^ (l + 1) * j).testBit) (fun i hi => ⟨rfl, fun hb => (hnd i (hi_bit l j i hb) hi).symm⟩)]
theorem moP_z (hn : n ≤ 6) (hp6 : np ≤ 6) (hp : p < np) (hH : Hall nd my n np rm) (hl : l < n) (hnd : ∀ i, l < i → i < n → nd i = (nd0 i).toInt) (hmy : ∀ i, l < i → i < n → my i = my0 i) (hrm : ∀ q, q < np → zI (rm q) = room q) (b1 : BdZ nd n) (b2 : BdZ rm np) : ∀ k, k ≤ 2 ^ (n - (l + 1)) - 1 → ∃ z : Int, moP nd0 my0 n np room l p k = zI z ∧ 0 ≤ z ∧ z ≤ rm p ∧ (∀ j, 0 < j → j ≤ k → (orN my n (2 ^ (l + 1) * j)).testBit p = true → z ≤ spZ nd my n np rm (2 ^ (l + 1) * j)) ∧ (z = rm p ∨ ∃ j, 0 < j ∧ j ≤ k ∧ (orN my n (2 ^ (l + 1) * j)).testBit p = true ∧ z = spZ nd my n np rm (2 ^ (l + 1) * j)) := by
  intro k
  induction k with
  | zero =>
    intro _
    have := b2 p hp
    exact ⟨rm p, by simp only [moP]; exact (hrm p hp).symm, by omega, by omega, fun j h1 h2 => by omega, Or.inl rfl⟩
  | succ k ih =>
    intro hk
    obtain ⟨z, e, h0, h1, h2, h3⟩ := ih (by omega)
    obtain ⟨e1, e2⟩ := sp_hi hnd hmy hrm b2 (k + 1)
    have hb := b2 p hp
    have hs : 2 ^ (l + 1) * (k + 1) < 2 ^ n := by
      have : 2 ^ n = 2 ^ (l + 1) * 2 ^ (n - (l + 1)) := by rw [← Nat.pow_add]; congr 1; omega
      rw [this]
      have h1p := pow1 (n - (l + 1))
      exact Nat.mul_lt_mul_of_pos_left (by omega) (Nat.two_pow_pos _)
    have hge := hH _ hs
    have hsb := spZ_b (my := my) (2 ^ (l + 1) * (k + 1)) hn hp6 b1 b2
    simp only [moP]
    rw [e2]
    by_cases c : (orN my n (2 ^ (l + 1) * (k + 1))).testBit p = true
    · rw [if_pos c, e, e1, minI_z (by omega) (by omega)]
      refine ⟨_, rfl, ?_, ?_, ?_, ?_⟩
      · split <;> omega
      · split <;> omega
      · intro j j1 j2 jb
        rcases Nat.lt_or_ge j (k + 1) with q | q
        · have := h2 j j1 (by omega) jb
          split <;> omega
        · have : j = k + 1 := by omega
          rw [this]
          split <;> omega
      · by_cases d : spZ nd my n np rm (2 ^ (l + 1) * (k + 1)) < z
        · rw [if_pos d]; exact Or.inr ⟨k + 1, by omega, by omega, c, rfl⟩
        · rw [if_neg d]
          rcases h3 with q | ⟨j, j1, j2, j3, j4⟩
          · exact Or.inl q
          · exact Or.inr ⟨j, j1, by omega, j3, j4⟩
    · rw [if_neg c]
      refine ⟨z, e, h0, h1, ?_, ?_⟩
      · intro j j1 j2 jb
        rcases Nat.lt_or_ge j (k + 1) with q | q
        · exact h2 j j1 (by omega) jb
        · have : j = k + 1 := by omega
          rw [this] at jb
          exact absurd jb c
      · rcases h3 with q | ⟨j, j1, j2, j3, j4⟩
        · exact Or.inl q
        · exact Or.inr ⟨j, j1, by omega, j3, j4⟩
theorem lo_bit (t i : Nat) : (2 ^ (l + 1) * (t / 2 ^ (l + 1))).testBit i = (decide (l < i) && t.testBit i) := by
  rw [Nat.testBit_two_pow_mul, Nat.testBit_div_two_pow]
  by_cases c : l < i
  · have e : l + 1 + (i - (l + 1)) = i := by omega
    have e2 : i - (l + 1) + (l + 1) = i := by omega
    have d : i ≥ l + 1 := by omega
    simp [c, d, e, e2]
  · have d : ¬ i ≥ l + 1 := by omega
    simp [c, d]
theorem sp_lo (hlo : ∀ i, i < l → nd i = 0 ∧ my i = 0) {t : Nat} (ht : t.testBit l = false) : spZ nd my n np rm (2 ^ (l + 1) * (t / 2 ^ (l + 1))) = spZ nd my n np rm t ∧ orN my n (2 ^ (l + 1) * (t / 2 ^ (l + 1))) = orN my n t := by
  have e : orN my n (2 ^ (l + 1) * (t / 2 ^ (l + 1))) = orN my n t := tb_ext (fun q => by
    rw [orN_tb, orN_tb]
    constructor
    · rintro ⟨i, h1, h2, h3⟩
      rw [lo_bit, Bool.and_eq_true] at h2
      exact ⟨i, h1, h2.2, h3⟩
    · rintro ⟨i, h1, h2, h3⟩
      refine ⟨i, h1, ?_, h3⟩
      rw [lo_bit, Bool.and_eq_true, decide_eq_true_eq]
      refine ⟨?_, h2⟩
      rcases Nat.lt_trichotomy i l with q | q | q
      · rw [(hlo i q).2] at h3; simp at h3
      · rw [q, ht] at h2; cases h2
      · exact q)
  refine ⟨?_, e⟩
  unfold spZ
  rw [e]
  congr 1
  have key : ∀ m, wZ nd (2 ^ (l + 1) * (t / 2 ^ (l + 1))).testBit m = wZ nd t.testBit m := by
    intro m
    induction m with
    | zero => rfl
    | succ m ih =>
      rw [wZ_s, wZ_s, ih, lo_bit]
      rcases Nat.lt_trichotomy m l with q | q | q
      · rw [(hlo m q).1]; simp
      · rw [q, ht]; simp
      · simp [q]
  exact key n
/-- what is picked: all stay able with it, and not with more -/
theorem pick_spec {my2 : Nat → Nat} (hn : n ≤ 6) (hp6 : np ≤ 6) (hp : p < np) (hH : Hall nd my n np rm) (hl : l < n) (hnd : ∀ i, l < i → i < n → nd i = (nd0 i).toInt) (hmy : ∀ i, l < i → i < n → my i = my0 i) (hrm : ∀ q, q < np → zI (rm q) = room q) (b1 : BdZ nd n) (b2 : BdZ rm np) (hlo : ∀ i, i < l → nd i = 0 ∧ my i = 0)
    (ht0 : (my0 l).testBit p = true) (ht : (my l).testBit p = true) (hm : ∀ i, i < n → i ≠ l → my2 i = my i) (hm2 : ∀ q, (my2 l).testBit q = ((my l).testBit q && decide (q ≠ p))) :
    ∃ vs : Int, pkP nd0 my0 n np room (zI (nd l)) l p = zI vs ∧ 0 ≤ vs ∧ vs ≤ nd l ∧ vs ≤ rm p ∧
      Hall (fun i => if i = l then nd l - vs else nd i) my2 n np (fun i => if i = p then rm p - vs else rm i) ∧
      ∀ v : Int, vs < v → v ≤ nd l → v ≤ rm p → ¬ Hall (fun i => if i = l then nd l - v else nd i) my2 n np (fun i => if i = p then rm p - v else rm i) := by
  have c1 := b1 l hl
  have c2 := b2 p hp
  obtain ⟨z, e, h0, h1, h2, h3⟩ := moP_z hn hp6 hp hH hl hnd hmy hrm b1 b2 (2 ^ (n - (l + 1)) - 1) (Nat.le_refl _)
  have hset : ∀ j, 0 < j → j ≤ 2 ^ (n - (l + 1)) - 1 → 2 ^ (l + 1) * j < 2 ^ n ∧ (2 ^ (l + 1) * j).testBit l = false := fun j _ j2 => by
    constructor
    · have : 2 ^ n = 2 ^ (l + 1) * 2 ^ (n - (l + 1)) := by rw [← Nat.pow_add]; congr 1; omega
      rw [this]
      have h1p := pow1 (n - (l + 1))
      exact Nat.mul_lt_mul_of_pos_left (by omega) (Nat.two_pow_pos _)
    · cases c : (2 ^ (l + 1) * j).testBit l
      · rfl
      · have := hi_bit l j l c; omega
  have hup : ∀ t, t < 2 ^ n → t.testBit l = false → (orN my n t).testBit p = true → z ≤ spZ nd my n np rm t := by
    intro t a1 a2 a3
    obtain ⟨q1, q2⟩ := sp_lo (n := n) (np := np) (nd := nd) (my := my) (rm := rm) hlo a2
    have j2 : t / 2 ^ (l + 1) ≤ 2 ^ (n - (l + 1)) - 1 := by
      have : t / 2 ^ (l + 1) < 2 ^ (n - (l + 1)) := by
        rw [Nat.div_lt_iff_lt_mul (Nat.two_pow_pos _), ← Nat.pow_add]
        rw [show n - (l + 1) + (l + 1) = n by omega]; exact a1
      omega
    have j1 : 0 < t / 2 ^ (l + 1) := by
      rcases Nat.eq_zero_or_pos (t / 2 ^ (l + 1)) with q | q
      · rw [← q2, q, Nat.mul_zero, orN_0] at a3; simp at a3
      · exact q
    rw [← q1]
    exact h2 _ j1 j2 (by rw [q2]; exact a3)
  have ep : pkP nd0 my0 n np room (zI (nd l)) l p = zI (if z < nd l then z else nd l) := by
    unfold pkP
    rw [if_pos ht0, e, minI_z (by omega) (by omega)]
  refine ⟨_, ep, ?_, ?_, ?_, ?_, ?_⟩
  · split <;> omega
  · split <;> omega
  · split <;> omega
  · refine hall_step hH hl hp (fun i hi => (b1 i hi).1) (fun i hi => (b2 i hi).1) hm hm2 ht ?_ ?_
    · intro t a1 a2 a3
      have := hup t a1 a2 a3
      split <;> omega
    · by_cases c : z < nd l
      · rw [if_pos c]
        rcases h3 with q | ⟨j, j1, j2, j3, j4⟩
        · exact Or.inr (Or.inl q)
        · obtain ⟨s1, s2⟩ := hset j j1 j2
          exact Or.inr (Or.inr ⟨_, s1, s2, j3, j4⟩)
      · rw [if_neg c]; exact Or.inl rfl
  · intro v v1 v2 v3
    by_cases c : z < nd l
    · rw [if_pos c] at v1
      rcases h3 with q | ⟨j, j1, j2, j3, j4⟩
      · omega
      · obtain ⟨s1, s2⟩ := hset j j1 j2
        exact hall_not hl hp hm s1 s2 j3 (by omega)
    · rw [if_neg c] at v1; omega
end PICK
theorem may_del {a t p : Nat} (hp : p < 31) (h : ∀ i, t.testBit i = (a.testBit i && decide (i ≠ p))) : nI a &&& ((1 : Int32) <<< (nI p &&& 31) ^^^ -1) = nI t := by
  rw [one_shl hp]
  apply b_ext
  intro i hi
  rw [b_and, b_xor, bt_nI hi, bt_nI hi, bt_nI hi, b_m1 i hi, Nat.testBit_two_pow, h]
  by_cases c : p = i
  · subst c; simp
  · have c2 : i ≠ p := fun z => c z.symm
    simp [c, c2]
