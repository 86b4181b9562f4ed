/-! sums and sets: what a set of lines needs, what it reaches -/
theorem sumI_congr {f g : Nat → Int32} {n : Nat} (h : ∀ i, i < n → f i = g i) : sumI f n = sumI g n := by
  induction n with
  | zero => rfl
  | succ n ih => simp only [sumI]; rw [ih (fun i hi => h i (by omega)), h n (by omega)]
theorem sumI_add (f g : Nat → Int32) (n : Nat) : sumI (fun i => f i + g i) n = sumI f n + sumI g n := by
  induction n with
  | zero => rfl
  | succ n ih =>
    simp only [sumI]
    rw [ih, Int32.add_assoc, Int32.add_assoc]
    congr 1
    rw [← Int32.add_assoc, ← Int32.add_assoc, Int32.add_comm (f n)]
theorem sumI_zero (n : Nat) : sumI (fun _ => 0) n = 0 := by
  induction n with
  | zero => rfl
  | succ n ih => simp only [sumI]; rw [ih]; rfl
theorem sumI_single {n j : Nat} (hj : j < n) (x : Int32) : sumI (fun i => if i = j then x else 0) n = x := by
  induction n with
  | zero => omega
  | succ n ih =>
    simp only [sumI]
    by_cases h : j = n
    · subst h
      rw [if_pos rfl, sumI_congr (g := fun _ => 0) (fun i hi => if_neg (by omega)), sumI_zero, Int32.zero_add]
    · rw [ih (by omega), if_neg (fun q => h q.symm), Int32.add_zero]
def nsI (nd : Nat → Int32) (n s : Nat) : Int32 := sumI (fun l => if s.testBit l = true then nd l else 0) n
def orN (my : Nat → Nat) : Nat → Nat → Nat
  | 0, _ => 0
  | n + 1, s => orN my n s ||| (if s.testBit n = true then my n else 0)
theorem orN_tb (my : Nat → Nat) (n s p : Nat) : (orN my n s).testBit p = true ↔ ∃ l, l < n ∧ s.testBit l = true ∧ (my l).testBit p = true := by
  induction n with
  | zero => simp [orN]
  | succ n ih =>
    simp only [orN, Nat.testBit_or, Bool.or_eq_true, ih]
    constructor
    · rintro (⟨l, h1, h2, h3⟩ | h)
      · exact ⟨l, by omega, h2, h3⟩
      · by_cases c : s.testBit n = true
        · rw [if_pos c] at h; exact ⟨n, by omega, c, h⟩
        · rw [if_neg c] at h; simp at h
    · rintro ⟨l, h1, h2, h3⟩
      by_cases c : l = n
      · subst c; right; rw [if_pos h2]; exact h3
      · left; exact ⟨l, by omega, h2, h3⟩
theorem tb_ext {a b : Nat} (h : ∀ i, a.testBit i = true ↔ b.testBit i = true) : a = b := Nat.eq_of_testBit_eq (fun i => by
  have := h i
  cases h1 : a.testBit i <;> cases h2 : b.testBit i <;> simp_all)
theorem orN_congr {my my' : Nat → Nat} {n s : Nat} (h : ∀ l, l < n → my l = my' l) : orN my n s = orN my' n s := by
  induction n with
  | zero => rfl
  | succ n ih => simp only [orN]; rw [ih (fun l hl => h l (by omega)), h n (by omega)]
theorem nsI_congr {nd nd' : Nat → Int32} {n s : Nat} (h : ∀ l, l < n → nd l = nd' l) : nsI nd n s = nsI nd' n s := sumI_congr (fun l hl => by rw [h l hl])
theorem low_bit : ∀ s, s < 64 → 0 < s → s &&& (s - 1) < s ∧ ∃ j, j < 6 ∧ s ^^^ (s &&& (s - 1)) = 2 ^ j ∧ 2 ^ j ≤ s ∧ (s &&& (s - 1)).testBit j = false ∧ s.testBit j = true ∧ (s = 2 ^ j ∨ 2 ^ j < s) ∧ ∀ i, i < 6 → s.testBit i = (decide (i = j) || (s &&& (s - 1)).testBit i) := by decide +kernel
theorem testBit_ge {s n i : Nat} (h : s < 2 ^ n) (hi : n ≤ i) : s.testBit i = false := Nat.testBit_lt_two_pow (Nat.lt_of_lt_of_le h (Nat.pow_le_pow_right (by omega) hi))
theorem bit_lt {s n j : Nat} (h : s < 2 ^ n) (hj : s.testBit j = true) : j < n := by
  rcases Nat.lt_or_ge j n with q | q
  · exact q
  · rw [testBit_ge h q] at hj; cases hj
theorem nsI_split {nd : Nat → Int32} {n s a j : Nat} (hn : n ≤ 6) (hj : j < n) (ha : a.testBit j = false) (hb : ∀ i, i < 6 → s.testBit i = (decide (i = j) || a.testBit i)) : nsI nd n s = nsI nd n a + nd j := by
  unfold nsI
  rw [← sumI_single hj (nd j), ← sumI_add]
  apply sumI_congr
  intro i hi
  rw [hb i (by omega)]
  by_cases c : i = j
  · subst c; simp [ha]
  · simp [c]
theorem orN_split {my : Nat → Nat} {n s a j : Nat} (hn : n ≤ 6) (hj : j < n) (hb : ∀ i, i < 6 → s.testBit i = (decide (i = j) || a.testBit i)) : orN my n s = orN my n a ||| my j := by
  apply tb_ext
  intro p
  rw [Nat.testBit_or, Bool.or_eq_true, orN_tb, orN_tb]
  constructor
  · rintro ⟨l, h1, h2, h3⟩
    rw [hb l (by omega)] at h2
    by_cases c : l = j
    · subst c; right; exact h3
    · left; exact ⟨l, h1, by simpa [c] using h2, h3⟩
  · rintro (⟨l, h1, h2, h3⟩ | h)
    · exact ⟨l, h1, by rw [hb l (by omega), h2]; simp, h3⟩
    · exact ⟨j, hj, by rw [hb j (by omega)]; simp, h⟩
theorem nsI_0 (nd : Nat → Int32) (n : Nat) : nsI nd n 0 = 0 := by
  unfold nsI
  rw [sumI_congr (g := fun _ => 0) (fun i _ => by simp), sumI_zero]
theorem orN_0 (my : Nat → Nat) (n : Nat) : orN my n 0 = 0 := by
  apply tb_ext
  intro p
  rw [orN_tb]
  simp
theorem nx_or (a b : Nat) : nI a ||| nI b = nI (a ||| b) := by
  apply b_ext
  intro i hi
  rw [b_or, bt_nI hi, bt_nI hi, bt_nI hi, Nat.testBit_or]
theorem tb_nI {a k : Nat} (hk : k < 32) : tbI (nI a) k = a.testBit k := bt_nI hk
theorem pow_bits : ∀ j, j < 6 → ∀ i, i < 6 → (2 ^ j).testBit i = (decide (i = j) || (0 : Nat).testBit i) := by decide +kernel
theorem nsI_pow {nd : Nat → Int32} {n j : Nat} (hn : n ≤ 6) (hj : j < n) : nsI nd n (2 ^ j) = nd j := by
  rw [nsI_split (a := 0) hn hj (by simp) (pow_bits j (by omega)), nsI_0, Int32.zero_add]
theorem orN_pow {my : Nat → Nat} {n j : Nat} (hn : n ≤ 6) (hj : j < n) : orN my n (2 ^ j) = my j := by
  rw [orN_split (a := 0) hn hj (pow_bits j (by omega)), orN_0, Nat.zero_or]
/-- what joinSets makes of the single lines' numbers -/
theorem jn_spec {m : Mem} {q n : Nat} {nd : Nat → Int32} {my : Nat → Nat} (hn : n ≤ 6) (z1 : m (q + 1) 0 = 0) (z2 : m (q + 2) 0 = 0) (h1 : ∀ l, l < n → m (q + 1) (2 ^ l) = nd l) (h2 : ∀ l, l < n → m (q + 2) (2 ^ l) = nI (my l)) :
    ∀ k, k < 2 ^ n → (∀ s, s ≤ k → jn m q k (q + 1) s = nsI nd n s ∧ jn m q k (q + 2) s = nI (orN my n s)) ∧ ∀ s, k < s → jn m q k (q + 1) s = m (q + 1) s ∧ jn m q k (q + 2) s = m (q + 2) s := by
  intro k
  induction k with
  | zero =>
    intro _
    refine ⟨fun s hs => ?_, fun s _ => ⟨rfl, rfl⟩⟩
    obtain rfl : s = 0 := by omega
    exact ⟨by rw [nsI_0]; exact z1, by rw [orN_0]; exact z2⟩
  | succ k ih =>
    intro hk
    obtain ⟨i1, i2⟩ := ih (by omega)
    have h64 := pow64 hn
    obtain ⟨la, j, hj6, hx, hle, haj, hsj, hor, hbits⟩ := low_bit (k + 1) (by omega) (by omega)
    rw [Nat.add_sub_cancel] at la hx haj hbits
    have hj : j < n := bit_lt hk hsj
    have va := i1 _ (show (k + 1) &&& k ≤ k by omega)
    have vc : jn m q k (q + 1) (2 ^ j) = nd j ∧ jn m q k (q + 2) (2 ^ j) = nI (my j) := by
      rcases hor with e | e
      · have := i2 (2 ^ j) (by omega)
        exact ⟨by rw [this.1]; exact h1 j hj, by rw [this.2]; exact h2 j hj⟩
      · have := i1 (2 ^ j) (by omega)
        exact ⟨by rw [this.1, nsI_pow hn hj], by rw [this.2, orN_pow hn hj]⟩
    have e1 : ∀ s, jn m q (k + 1) (q + 1) s = if s = k + 1 then nsI nd n (k + 1) else jn m q k (q + 1) s := by
      intro s
      simp only [jn, jnS]
      rw [u2c _ _ (by omega)]
      by_cases c : s = k + 1
      · subst c
        rw [u2s, if_pos rfl, hx, va.1, vc.1, nsI_split hn hj haj hbits]
      · rw [u2k _ _ c, if_neg c]
    have e2 : ∀ s, jn m q (k + 1) (q + 2) s = if s = k + 1 then nI (orN my n (k + 1)) else jn m q k (q + 2) s := by
      intro s
      simp only [jn, jnS]
      by_cases c : s = k + 1
      · subst c
        rw [u2s, if_pos rfl, hx, va.2, vc.2, nx_or, orN_split hn hj hbits]
      · rw [u2k _ _ c, u2c _ _ (by omega), if_neg c]
    refine ⟨fun s hs => ?_, fun s hs => ?_⟩
    · by_cases c : s = k + 1
      · rw [e1, e2, if_pos c, if_pos c, c]; exact ⟨rfl, rfl⟩
      · rw [e1, e2, if_neg c, if_neg c]; exact i1 s (by omega)
    · rw [e1, e2, if_neg (by omega), if_neg (by omega)]; exact i2 s (by omega)
/-- what is asked of a view and a length -/
def ndV (v : View) (t : Int32) (l : Nat) : Int32 := needS v (baseS v l) t
def spR (nd : Nat → Int32) (my : Nat → Nat) (n np : Nat) (room : Nat → Int32) (s : Nat) : Int32 := -nsI nd n s + sumI (fun p => if (orN my n s).testBit p = true then room p else 0) np
def tooN (v : View) (t : Int32) : Nat := bitsN (fun l => decide (t < baseS v l)) (nl v)
def spV (v : View) (t : Int32) (s : Nat) : Int32 := spR (ndV v t) (reachN v) (nl v) (np v) (humpsS v) s
def crV (v : View) (t : Int32) : Nat := (crS (spV v t) (2 ^ nl v - 1)).1
/-- the Sharing at q holds what the view v asks by the length t -/
def SHp (m : Mem) (q : Nat) (v : View) (t : Int32) : Prop := m q 4 = nI (nl v) ∧ m q 5 = nI (np v) ∧ m q 6 = nI (tooN v t) ∧ (∀ s, s < 2 ^ nl v → m (q + 1) s = nsI (ndV v t) (nl v) s ∧ m (q + 2) s = nI (orN (reachN v) (nl v) s)) ∧ ∀ p, p < np v → m (q + 3) p = humpsS v p
theorem lkL_spec (b : Mem) (q o : Nat) (t : Int32) (hn : nl (cv b o) ≤ 6) : ∀ k, k ≤ nl (cv b o) → lkL b q o t k q 6 = nI (bitsN (fun l => decide (t < baseS (cv b o) l)) k) ∧ (∀ l, l < k → lkL b q o t k (q + 1) (2 ^ l) = ndV (cv b o) t l ∧ lkL b q o t k (q + 2) (2 ^ l) = nI (reachN (cv b o) l)) ∧ lkL b q o t k (q + 1) 0 = b (q + 1) 0 ∧ lkL b q o t k (q + 2) 0 = b (q + 2) 0 := by
  intro k
  induction k with
  | zero =>
    intro _
    refine ⟨?_, fun l hl => by omega, ?_, ?_⟩
    · simp only [lkL, lk0, bitsN]; rw [u2s]; rfl
    · simp only [lkL, lk0]; rw [u2c _ _ (by omega), u2c _ _ (by omega), u2c _ _ (by omega)]
    · simp only [lkL, lk0]; rw [u2c _ _ (by omega), u2c _ _ (by omega), u2c _ _ (by omega)]
  | succ k ih =>
    intro hk
    obtain ⟨i1, i2, i3, i4⟩ := ih (by omega)
    have key : ∀ j, j = q + 1 ∨ j = q + 2 → lkT (lkL b q o t k) (cv b o) q t k j = lkS (lkL b q o t k) (cv b o) q t k j := by
      intro j hj
      unfold lkT
      split
      · rw [u2c _ _ (by omega)]
      · rfl
    have pw : ∀ l, l < k → (2 : Nat) ^ l ≠ 2 ^ k := fun l hl => Nat.ne_of_lt (Nat.pow_lt_pow_right (by omega) hl)
    have p0 : (0 : Nat) ≠ 2 ^ k := Nat.ne_of_lt (pow1 k)
    refine ⟨?_, fun l hl => ?_, ?_, ?_⟩
    · simp only [lkL, bitsN]
      by_cases c : t < baseS (cv b o) k
      · simp only [lkT, if_pos c, decide_eq_true c, if_true]
        rw [u2s, i1, or_bit (bits_lt _ _) (by omega)]
      · simp only [lkT, if_neg c, decide_eq_false c]
        rw [lkS_c _ _ _ _ _ (by omega) (by omega), i1]
        simp
    · simp only [lkL]
      rw [key _ (Or.inl rfl), key _ (Or.inr rfl)]
      unfold lkS
      rw [u2c _ _ (by omega)]
      by_cases c : l = k
      · subst c
        rw [u2s, u2s]; exact ⟨rfl, rfl⟩
      · rw [u2k _ _ (pw l (by omega)), u2k _ _ (pw l (by omega)), u2c _ _ (by omega)]
        exact i2 l (by omega)
    · simp only [lkL]
      rw [key _ (Or.inl rfl)]
      unfold lkS
      rw [u2c _ _ (by omega), u2k _ _ p0]; exact i3
    · simp only [lkL]
      rw [key _ (Or.inr rfl)]
      unfold lkS
      rw [u2k _ _ p0, u2c _ _ (by omega)]; exact i4
theorem lkR_spec (m : Mem) (v : View) (q : Nat) : ∀ k, ∀ p, p < k → lkR m v q k (q + 3) p = humpsS v p := by
  intro k
  induction k with
  | zero => intro p hp; omega
  | succ k ih =>
    intro p hp
    simp only [lkR]
    by_cases c : p = k
    · subst c; rw [u2s]
    · rw [u2k _ _ c]; exact ih p (by omega)
theorem look_spec {b : Mem} {q o : Nat} {t : Int32} (hV : Val (cv b o)) (hd : q + 4 < o ∨ o + 6 < q) (z1 : b (q + 1) 0 = 0) (z2 : b (q + 2) 0 = 0) : SHp (lookM b q o t) q (cv b o) t ∧ lookM b q o t (q + 1) 0 = 0 ∧ lookM b q o t (q + 2) 0 = 0 ∧ lookM b q o t q 7 = b q 7 ∧ lookM b q o t (q + 4) = b (q + 4) ∧ ∀ j, (j < q ∨ q + 4 < j) → lookM b q o t j = b j := by
  have hn6 := hV.1.2
  obtain ⟨s1, s2, s3, s4⟩ := lkL_spec b q o t hn6 (nl (cv b o)) (Nat.le_refl _)
  have hR : ∀ j, j ≠ q + 3 → lkR (lkL b q o t (nl (cv b o))) (cv b o) q (np (cv b o)) j = lkL b q o t (nl (cv b o)) j := fun j hj => lkR_c _ _ _ _ hj
  have hJ := jn_spec (m := lkR (lkL b q o t (nl (cv b o))) (cv b o) q (np (cv b o))) (q := q) (n := nl (cv b o)) (nd := ndV (cv b o) t) (my := reachN (cv b o)) hn6 (by rw [hR _ (by omega), s3, z1]) (by rw [hR _ (by omega), s4, z2]) (fun l hl => by rw [hR _ (by omega)]; exact (s2 l hl).1) (fun l hl => by rw [hR _ (by omega)]; exact (s2 l hl).2) (2 ^ nl (cv b o) - 1) (by have := pow1 (nl (cv b o)); omega)
  have hq : ∀ i, lookM b q o t q i = lkL b q o t (nl (cv b o)) q i := fun i => by
    unfold lookM; rw [jn_c _ _ _ (by omega) (by omega), hR _ (by omega)]
  have p1 := pow1 (nl (cv b o))
  refine ⟨⟨?_, ?_, ?_, fun s hs => hJ.1 s (by omega), fun p hp => ?_⟩, ?_, ?_, ?_, ?_, fun j hj => ?_⟩
  · rw [hq, lkL_q _ _ _ _ _ (by decide), lk0, u2k _ _ (by decide), u2k _ _ (by decide), u2s]; exact hV.1.1
  · rw [hq, lkL_q _ _ _ _ _ (by decide), lk0, u2k _ _ (by decide), u2s]; exact hV.2.1.1
  · rw [hq, s1]; rfl
  · unfold lookM
    rw [jn_c _ _ _ (by omega) (by omega)]
    exact lkR_spec _ _ _ _ p hp
  · unfold lookM; rw [(hJ.1 0 (by omega)).1, nsI_0]
  · unfold lookM; rw [(hJ.1 0 (by omega)).2, orN_0]; rfl
  · rw [hq, lkL_q _ _ _ _ _ (by decide), lk0, u2k _ _ (by decide), u2k _ _ (by decide), u2k _ _ (by decide)]
  · unfold lookM; rw [jn_c _ _ _ (by omega) (by omega), hR _ (by omega), lkL_c _ _ _ _ _ (by omega) (by omega) (by omega)]
  · unfold lookM; rw [jn_c _ _ _ (by omega) (by omega), hR _ (by omega), lkL_c _ _ _ _ _ (by omega) (by omega) (by omega)]
theorem crS_congr {f g : Nat → Int32} : ∀ k, (∀ s, 0 < s → s ≤ k → f s = g s) → crS f k = crS g k := by
  intro k
  induction k with
  | zero => intro _; rfl
  | succ k ih =>
    intro h
    simp only [crS]
    rw [ih (fun s h1 h2 => h s h1 (by omega)), h (k + 1) (by omega) (by omega)]
theorem spv_eq {m : Mem} {q np s : Nat} {nd : Nat → Int32} {my : Nat → Nat} {n : Nat} {room : Nat → Int32} (hp : np ≤ 6) (h1 : m (q + 1) s = nsI nd n s) (h2 : m (q + 2) s = nI (orN my n s)) (h3 : ∀ p, p < np → m (q + 3) p = room p) : spv m q np s = spR nd my n np room s := by
  unfold spv spR
  rw [h1]
  congr 1
  apply sumI_congr
  intro p hp'
  rw [h2, tb_nI (by omega), h3 p hp']
theorem SHp.sp {m : Mem} {q : Nat} {v : View} {t : Int32} (h : SHp m q v t) (hp : np v ≤ 6) {s : Nat} (hs : s < 2 ^ nl v) : spv m q (np v) s = spV v t s := spv_eq hp (h.2.2.2.1 s hs).1 (h.2.2.2.1 s hs).2 h.2.2.2.2
theorem SHp.cr {m : Mem} {q : Nat} {v : View} {t : Int32} (h : SHp m q v t) (hp : np v ≤ 6) : (crS (spv m q (np v)) (2 ^ nl v - 1)).1 = crV v t := by
  unfold crV
  rw [crS_congr (g := spV v t) _ (fun s h1 h2 => h.sp hp (by have := pow1 (nl v); omega))]
