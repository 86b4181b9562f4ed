/-! the reference: its numbers, its indexes, its copies -/
def mw (f : Nat → Int32) : View := fun c l i => match c with
  | 0 => f (9 + 17 * l)
  | 1 => f (9 + 17 * l + 1 + i)
  | 2 => f (9 + 17 * l + 9 + i)
  | 3 => f (111 + 2 * l)
  | 4 => f (111 + 2 * l + 1)
  | 5 => f (2 + l)
  | 6 => f 0
  | _ => f 1
abbrev mv (b : Mem) : View := mw (b 71)
section IDX
variable {Z : Zt} {X : Xt} {cc : ByteArray} {nL d : Nat} {own : String} {b : Mem} {pc : Nat} {L : List (Option Value)} {st : List Value}
theorem g_ialdN {i n k : Nat} (hX : Ok Z X cc nL own d) (hi : isArr Z i n) (hk : k < n) (hn : n < 2 ^ 31) (dg : decode cc pc = .ok (.iaload, 1)) (kk : G Z X b (pc + 1) L (.int (b i k) :: st)) : G Z X b pc L (.int (nI k) :: .ref (zad Z i) :: st) := by
  refine g_iald hX hi (vp_in_nI hk hn) dg ?_
  rw [nI_clamp (by omega)]; exact kk
theorem g_iastN {i n k : Nat} {y : Int32} (hX : Ok Z X cc nL own d) (hi : isArr Z i n) (hk : k < n) (hn : n < 2 ^ 31) (dg : decode cc pc = .ok (.iastore, 1)) (kk : G Z X (up2 b i k y) (pc + 1) L st) : G Z X b pc L (.int y :: .int (nI k) :: .ref (zad Z i) :: st) := by
  refine g_iast hX hi (vp_in_nI hk hn) dg ?_
  rw [nI_clamp (by omega)]; exact kk
end IDX
theorem ix17 (l : Nat) : (9 : Int32) + 17 * nI l = nI (9 + 17 * l) := by
  rw [show (9 : Int32) = nI 9 from rfl, show (17 : Int32) = nI 17 from rfl, pk_mul, nI_add]
theorem ix17a (l i : Nat) : (9 : Int32) + 17 * nI l + 1 + nI i = nI (9 + 17 * l + 1 + i) := by
  rw [ix17, nI_1, nI_add]
theorem ix17b (l i : Nat) : (9 : Int32) + 17 * nI l + 9 + nI i = nI (9 + 17 * l + 9 + i) := by
  rw [ix17, show (9 : Int32) = nI 9 from rfl, nI_add, nI_add]
theorem ix17c (l i : Nat) : (9 : Int32) + 17 * nI l + nI i = nI (9 + 17 * l + i) := by
  rw [ix17, nI_add]
theorem ix2 (p : Nat) : (111 : Int32) + 2 * nI p = nI (111 + 2 * p) := by
  rw [show (111 : Int32) = nI 111 from rfl, show (2 : Int32) = nI 2 from rfl, pk_mul, nI_add]
theorem ix2a (p : Nat) : (111 : Int32) + 2 * nI p + 1 = nI (111 + 2 * p + 1) := by rw [ix2, nI_1]
theorem ix6 (l p : Nat) : (6 : Int32) * nI l + nI p = nI (6 * l + p) := by
  rw [show (6 : Int32) = nI 6 from rfl, pk_mul, nI_add]
theorem ix123 (s c : Nat) : (123 : Int32) * nI s + nI c = nI (123 * s + c) := by
  rw [show (123 : Int32) = nI 123 from rfl, pk_mul, nI_add]
theorem ixS (k : Nat) : (2 : Int32) + nI k = nI (2 + k) := by rw [show (2 : Int32) = nI 2 from rfl, nI_add]
def cpF (f g : Nat → Int32) (o k : Nat) : Nat → Int32 := fun i => if o ≤ i ∧ i < o + k then f (i - o) else g i
theorem cpF_in {f g : Nat → Int32} {o k i : Nat} (h : i < k) : cpF f g o k (o + i) = f i := by
  unfold cpF; rw [if_pos (by omega)]; congr 1; omega
theorem cpF_out {f g : Nat → Int32} {o k i : Nat} (h : i < o ∨ o + k ≤ i) : cpF f g o k i = g i := by
  unfold cpF; rw [if_neg (by omega)]
theorem cpF_0 (b : Mem) (j : Nat) (f : Nat → Int32) (o : Nat) : b = up1 b j (cpF f (b j) o 0) := by
  funext i m
  by_cases h : i = j
  · subst h; rw [u1s, cpF_out (by omega)]
  · rw [u1c _ _ h]
theorem cpF_s (b : Mem) (j : Nat) (f g : Nat → Int32) (o k : Nat) : up2 (up1 b j (cpF f g o k)) j (o + k) (f k) = up1 b j (cpF f g o (k + 1)) := by
  funext i m
  by_cases h : i = j
  · subst h
    by_cases h2 : m = o + k
    · subst h2; rw [u2s, u1s, cpF_in (by omega)]
    · rw [u2k _ _ h2, u1s, u1s]
      unfold cpF
      by_cases h3 : o ≤ m ∧ m < o + k
      · rw [if_pos h3, if_pos (by omega)]
      · rw [if_neg h3, if_neg (by omega)]
  · rw [u2c _ _ h, u1c _ _ h, u1c _ _ h]
theorem lt_pred {x : Int32} {n : Nat} (hn : n < 1000) : (¬ (nI n - 1 < x)) ↔ x < nI n := by
  have e : nI n - 1 = zI ((n : Int) - 1) := by rw [nI_z, show (1 : Int32) = zI 1 from rfl, zI_sub]
  rw [e, Int32.lt_iff_toInt_lt, Int32.lt_iff_toInt_lt, zI_t (by omega) (by omega), nI_toInt (by omega)]
  omega
theorem pos0_t {x : Int32} (h : x < 0) : pos0 x = 0 := by
  unfold pos0
  rw [if_neg (fun q => Int32.lt_irrefl (Int32.lt_trans q h))]
theorem pos0_f {x : Int32} (h : ¬ x < 0) : pos0 x = x := by
  unfold pos0
  by_cases q : 0 < x
  · rw [if_pos q]
  · rw [if_neg q]
    have h1 := Int32.not_lt.mp h
    have h2 := Int32.not_lt.mp q
    exact Int32.le_antisymm h1 h2
theorem pos0_p {x : Int32} (h : 0 < x) : pos0 x = x := by unfold pos0; rw [if_pos h]
theorem pos0_n {x : Int32} (h : ¬ 0 < x) : pos0 x = 0 := by unfold pos0; rw [if_neg h]
theorem ev_lem {x : Int32} (h : 0 < x) : (jrem x 2 = 0 → evenUp x = x) ∧ (¬ jrem x 2 = 0 → evenUp x = x + 1) := by
  obtain ⟨n, hn, rfl⟩ := nI_of (x := x) (fun q => Int32.lt_irrefl (Int32.lt_trans q h))
  have e1 : jrem (nI n) 2 = nI (n % 2) := pk_rem (d := 2) hn (by decide) (by decide)
  have e2 : nI n &&& 1 = nI (n % 2) := by
    rw [show (1 : Int32) = nI 1 from rfl, nx_and, Nat.and_one_is_mod]
  unfold evenUp
  rw [e1, e2]
  rcases Nat.mod_two_eq_zero_or_one n with q | q
  · rw [q]
    exact ⟨fun _ => by rw [nI_0, Int32.add_zero], fun z => absurd rfl z⟩
  · rw [q]
    exact ⟨fun z => absurd z (by decide), fun _ => rfl⟩
theorem and1 (x : Int32) {l : Nat} (hl : l < 31) : x >>> (nI l &&& 31) &&& 1 = if tbI x l = true then 1 else 0 := by
  by_cases c : tbI x l = true
  · rw [if_pos c]; exact (tb_shr x hl).mpr c
  · rw [if_neg c]
    rw [and_zero, b_sshr l (by omega) x (by omega)]
    simp only [Nat.add_zero, show l < 32 by omega, if_true]
    have : bt x l = tbI x l := rfl
    rw [this]; simpa using c
theorem shl01 {p : Nat} (hp : p < 31) (c : Bool) : (if c = true then (1 : Int32) else 0) <<< (nI p &&& 31) = if c = true then nI (2 ^ p) else 0 := by
  cases c
  · simp only [Bool.false_eq_true, if_false]
    exact (by decide +kernel : ∀ p, p < 31 → (0 : Int32) <<< (nI p &&& 31) = 0) p hp
  · simp only [if_true]; exact one_shl hp
theorem or01 {a n : Nat} (ha : a < 2 ^ n) (hn : n < 31) (c : Bool) : nI a ||| (if c = true then nI (2 ^ n) else 0) = nI (a + (if c = true then 2 ^ n else 0)) := by
  cases c
  · simp only [Bool.false_eq_true, if_false, Nat.add_zero]
    rw [show (0 : Int32) = nI 0 from rfl, nx_or, Nat.or_zero]
  · simp only [if_true]; exact or_bit ha hn
def cnM (b : Mem) (c : Int32) : Mem := if c = -2 then up2 b 70 0 (b 70 0 + 1) else if c = -3 then up2 b 70 1 (b 70 1 + 1) else if c = -4 then up2 b 70 2 (b 70 2 + 1) else b
