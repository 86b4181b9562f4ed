/-! who draws how many where, as the class works it out -/
def moP (nd : Nat → Int32) (my : Nat → Nat) (n np : Nat) (room : Nat → Int32) (l p : Nat) : Nat → Int32
  | 0 => room p
  | k + 1 => if (orN my n (2 ^ (l + 1) * (k + 1))).testBit p = true then minI (moP nd my n np room l p k) (spR nd my n np room (2 ^ (l + 1) * (k + 1))) else moP nd my n np room l p k
def pkP (nd : Nat → Int32) (my : Nat → Nat) (n np : Nat) (room : Nat → Int32) (need : Int32) (l p : Nat) : Int32 := if (my l).testBit p = true then minI need (moP nd my n np room l p (2 ^ (n - (l + 1)) - 1)) else 0
def rowP (nd : Nat → Int32) (my : Nat → Nat) (n np l : Nat) (room : Nat → Int32) : Nat → (Nat → Int32) × Int32
  | 0 => (room, nd l)
  | k + 1 => (upd (rowP nd my n np l room k).1 k ((rowP nd my n np l room k).1 k - pkP nd my n np (rowP nd my n np l room k).1 (rowP nd my n np l room k).2 l k), (rowP nd my n np l room k).2 - pkP nd my n np (rowP nd my n np l room k).1 (rowP nd my n np l room k).2 l k)
def linP (nd : Nat → Int32) (my : Nat → Nat) (n np : Nat) (room : Nat → Int32) : Nat → Nat → Int32
  | 0 => room
  | l + 1 => (rowP nd my n np l (linP nd my n np room l) np).1
def drP (nd : Nat → Int32) (my : Nat → Nat) (n np : Nat) (room : Nat → Int32) (l p : Nat) : Int32 := pkP nd my n np (rowP nd my n np l (linP nd my n np room l) p).1 (rowP nd my n np l (linP nd my n np room l) p).2 l p
/-- the Sharing at q holds the needs and reaches of all sets, and these rooms -/
def SHq (m : Mem) (q : Nat) (nd : Nat → Int32) (my : Nat → Nat) (n np : Nat) (room : Nat → Int32) : Prop := (∀ s, s < 2 ^ n → m (q + 1) s = nsI nd n s ∧ m (q + 2) s = nI (orN my n s)) ∧ ∀ p, p < np → m (q + 3) p = room p
theorem spR_congr {nd : Nat → Int32} {my : Nat → Nat} {n np s : Nat} {r r' : Nat → Int32} (h : ∀ p, p < np → r p = r' p) : spR nd my n np r s = spR nd my n np r' s := by
  unfold spR
  rw [sumI_congr (fun p hp => by rw [h p hp])]
theorem SHq.mo {m : Mem} {q n np l p : Nat} {nd : Nat → Int32} {my : Nat → Nat} {room : Nat → Int32} (h : SHq m q nd my n np room) (hn : n ≤ 6) (hl : l < n) (hp6 : np ≤ 6) (hp : p < np) : ∀ k, k ≤ 2 ^ (n - (l + 1)) - 1 → moS m q np (2 ^ (l + 1)) p k = moP nd my n np room l p k := by
  have hpw : 2 ^ (l + 1) * 2 ^ (n - (l + 1)) = 2 ^ n := by rw [← Nat.pow_add]; congr 1; omega
  have h1b := pow1 (n - (l + 1))
  have h64 := pow64 hn
  intro k
  induction k with
  | zero => intro _; exact h.2 p hp
  | succ k ih =>
    intro hk
    have hm : 2 ^ (l + 1) * (k + 1) < 2 ^ n := by rw [← hpw]; exact Nat.mul_lt_mul_of_pos_left (by omega) (pow1 _)
    simp only [moS, moP]
    rw [ih (by omega), (h.1 _ hm).2, tb_nI (by omega), spv_eq hp6 (h.1 _ hm).1 (h.1 _ hm).2 h.2]
theorem SHq.pk {m : Mem} {q n np l p : Nat} {nd : Nat → Int32} {my : Nat → Nat} {room : Nat → Int32} (h : SHq m q nd my n np room) (hn : n ≤ 6) (hl : l < n) (hp6 : np ≤ 6) (hp : p < np) (need : Int32) : pkS m q n np l need p = pkP nd my n np room need l p := by
  have h2l : 2 ^ l < 2 ^ n := Nat.pow_lt_pow_right (by omega) hl
  unfold pkS pkP
  rw [(h.1 _ h2l).2, orN_pow hn hl, tb_nI (by omega), h.mo hn hl hp6 hp _ (Nat.le_refl _)]
theorem drS_spec {m : Mem} {q n np l : Nat} {nd : Nat → Int32} {my : Nat → Nat} {room : Nat → Int32} (h : SHq m q nd my n np room) (hn : n ≤ 6) (hl : l < n) (hp6 : np ≤ 6) : ∀ k, k ≤ np → SHq (drS m q n np l k).1 q nd my n np (rowP nd my n np l room k).1 ∧ (drS m q n np l k).2 = (rowP nd my n np l room k).2 ∧ (∀ p, p < k → (drS m q n np l k).1 (q + 4) (l * 6 + p) = pkP nd my n np (rowP nd my n np l room p).1 (rowP nd my n np l room p).2 l p) ∧ ∀ i, (i < l * 6 ∨ l * 6 + k ≤ i) → (drS m q n np l k).1 (q + 4) i = m (q + 4) i := by
  intro k
  induction k with
  | zero =>
    intro _
    refine ⟨h, ?_, fun p hp => by omega, fun i _ => rfl⟩
    simp only [drS, rowP]
    rw [(h.1 _ (Nat.pow_lt_pow_right (by omega) hl)).1, nsI_pow hn hl]
  | succ k ih =>
    intro hk
    obtain ⟨i1, i2, i3, i4⟩ := ih (by omega)
    have hv := i1.pk hn hl hp6 (show k < np by omega) (drS m q n np l k).2
    rw [i2] at hv
    have e : drS m q n np l (k + 1) = (up2 (up2 (drS m q n np l k).1 (q + 4) (l * 6 + k) (pkP nd my n np (rowP nd my n np l room k).1 (rowP nd my n np l room k).2 l k)) (q + 3) k ((drS m q n np l k).1 (q + 3) k - pkP nd my n np (rowP nd my n np l room k).1 (rowP nd my n np l room k).2 l k), (rowP nd my n np l room k).2 - pkP nd my n np (rowP nd my n np l room k).1 (rowP nd my n np l room k).2 l k) := by
      simp only [drS, drT]
      rw [i2, hv]
    refine ⟨⟨fun s hs => ?_, fun p hp => ?_⟩, ?_, fun p hp => ?_, fun i hi => ?_⟩
    · rw [e]
      simp only
      rw [u2c _ _ (by omega), u2c _ _ (by omega), u2c _ _ (by omega), u2c _ _ (by omega)]
      exact i1.1 s hs
    · rw [e]
      simp only [rowP]
      by_cases c : p = k
      · subst c
        rw [u2s, i1.2 p hp]
        simp [upd]
      · rw [u2k _ _ c, u2c _ _ (by omega), i1.2 p hp]
        simp [upd, c]
    · rw [e]; simp only [rowP]
    · rw [e]
      simp only
      rw [u2c _ _ (by omega)]
      by_cases c : p = k
      · subst c; rw [u2s]
      · rw [u2k _ _ (by omega)]; exact i3 p (by omega)
    · rw [e]
      simp only
      rw [u2c _ _ (by omega), u2k _ _ (by omega)]
      exact i4 i (by omega)
def pl2 (b : Mem) (t : Int32) (x : Int32) : Mem := up2 (lookM b 56 1 t) 56 7 x
def plL (m : Mem) (n np : Nat) : Nat → Mem
  | 0 => m
  | l + 1 => (drS (plL m n np l) 56 n np l np).1
theorem plL_c (m : Mem) (n np k : Nat) {j : Nat} (h1 : j ≠ 59) (h2 : j ≠ 60) : plL m n np k j = m j := by
  induction k with
  | zero => rfl
  | succ k ih => simp only [plL]; rw [drS_c _ _ _ _ _ _ h1 h2, ih]
theorem plL_spec {m : Mem} {n np : Nat} {nd : Nat → Int32} {my : Nat → Nat} {room : Nat → Int32} (h : SHq m 56 nd my n np room) (hn : n ≤ 6) (hp6 : np ≤ 6) : ∀ k, k ≤ n → SHq (plL m n np k) 56 nd my n np (linP nd my n np room k) ∧ ∀ l p, l < k → p < np → plL m n np k 60 (l * 6 + p) = drP nd my n np room l p := by
  intro k
  induction k with
  | zero => intro _; exact ⟨h, fun l p hl => by omega⟩
  | succ k ih =>
    intro hk
    obtain ⟨i1, i2⟩ := ih (by omega)
    obtain ⟨s1, s2, s3, s4⟩ := drS_spec i1 hn (show k < n by omega) hp6 np (Nat.le_refl _)
    refine ⟨s1, fun l p hl hp => ?_⟩
    by_cases c : l = k
    · subst c; exact s3 p hp
    · simp only [plL]
      rw [s4 _ (by omega)]
      exact i2 l p (by omega) hp
def blN (v : View) (t : Int32) : Nat := if tooN v t = 0 then crV v t else tooN v t
def drV (v : View) (l p : Nat) : Int32 := drP (ndV v (v 5 4 0)) (reachN v) (nl v) (np v) (humpsS v) l p
def frV (v : View) (p : Nat) : Int32 := linP (ndV v (v 5 4 0)) (reachN v) (nl v) (np v) (humpsS v) (nl v) p
def PLd (b : Mem) (v : View) : Prop := b 56 7 = nI (blN v (v 5 4 0)) ∧ (blN v (v 5 4 0) = 0 → (∀ l p, l < nl v → p < np v → b 60 (l * 6 + p) = drV v l p) ∧ ∀ p, p < np v → b 59 p = frV v p)
theorem tooN_lt (v : View) (t : Int32) (h : nl v ≤ 6) : tooN v t < 64 := Nat.lt_of_lt_of_le (bits_lt _ _) (pow64 h)
theorem crV_lt (v : View) (t : Int32) (h : nl v ≤ 6) : crV v t < 64 := by
  have := (crS_b (spV v t) (2 ^ nl v - 1)).1
  have := pow64 h
  have := pow1 (nl v)
  unfold crV
  omega
theorem blN_lt (v : View) (t : Int32) (h : nl v ≤ 6) : blN v t < 64 := by
  unfold blN
  split
  · exact crV_lt v t h
  · exact tooN_lt v t h
