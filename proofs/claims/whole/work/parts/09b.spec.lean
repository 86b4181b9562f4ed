/-! the pure words: what the methods answer -/
section LOOPS
variable {Z : Zt} {X : Xt} {b : Mem} {pc : Nat} {L : List (Option Value)} {st : List Value}
/-- a counted loop: the state k rounds on -/
theorem g_loop (N : Nat) (B : Nat → Mem) (Lk : Nat → List (Option Value)) (h0 : b = B 0) (hL : L = Lk 0) (step : ∀ k, k < N → G Z X (B (k + 1)) pc (Lk (k + 1)) st → G Z X (B k) pc (Lk k) st) (out : G Z X (B N) pc (Lk N) st) : G Z X b pc L st := by
  subst h0; subst hL
  have key : ∀ j, j ≤ N → G Z X (B (N - j)) pc (Lk (N - j)) st := by
    intro j
    induction j with
    | zero => intro _; exact out
    | succ j ih =>
      intro hj
      have h1 := ih (by omega)
      have e : N - j = (N - (j + 1)) + 1 := by omega
      rw [e] at h1
      exact step _ (by omega) h1
  have := key N (Nat.le_refl N)
  rw [Nat.sub_self] at this
  exact this
end LOOPS
abbrev View : Type := Nat → Nat → Nat → Int32
/-- a Bus at the cell o -/
def cv (b : Mem) (o : Nat) : View := fun c l i => match c with
  | 0 => b (o + 1) l
  | 1 => b (o + 2) (l * 8 + i)
  | 2 => b (o + 3) (l * 8 + i)
  | 3 => b (o + 4) l
  | 4 => b (o + 5) l
  | 5 => b (o + 6) l
  | 6 => b o 6
  | _ => b o 7
/-- a row of the reference's numbers, from place q on -/
def kv (f : Nat → Int32) (q : Nat) : View := fun c l i => match c with
  | 0 => f (q + (9 + 17 * l))
  | 1 => f (q + (9 + 17 * l + 1 + i))
  | 2 => f (q + (9 + 17 * l + 9 + i))
  | 3 => f (q + (111 + 2 * l))
  | 4 => f (q + (111 + 2 * l + 1))
  | 5 => f (q + (2 + l))
  | 6 => f q
  | _ => f (q + 1)
def nl (v : View) : Nat := (v 6 0 0).toNatClampNeg
def np (v : View) : Nat := (v 7 0 0).toNatClampNeg
def rn (v : View) (l : Nat) : Nat := (v 0 l 0).toNatClampNeg
/-- what holds of every state: the numbers are as told -/
def Val (v : View) : Prop := (v 6 0 0 = nI (nl v) ∧ nl v ≤ 6) ∧ (v 7 0 0 = nI (np v) ∧ np v ≤ 6) ∧
  (∀ l, l < nl v → v 0 l 0 = nI (rn v l) ∧ 1 ≤ rn v l ∧ rn v l ≤ 8 ∧ (∀ i, i < rn v l → ¬ v 1 l i < 1 ∧ ¬ 60 < v 1 l i) ∧ ∀ i, 0 < i → i < rn v l → v 2 l i = 0 ∨ v 2 l i = 1) ∧
  (∀ p, p < np v → (¬ v 3 p 0 < 1 ∧ ¬ 60 < v 3 p 0) ∧ ¬ v 4 p 0 < 0 ∧ ¬ 63 < v 4 p 0) ∧
  ∀ k, k < 7 → ¬ v 5 k 0 < lowF k ∧ ¬ higF k < v 5 k 0
def sumI (f : Nat → Int32) : Nat → Int32
  | 0 => 0
  | n + 1 => sumI f n + f n
def cntI (f : Nat → Prop) [DecidablePred f] : Nat → Int32
  | 0 => 0
  | n + 1 => if f n then cntI f n + 1 else cntI f n
def bitsN (f : Nat → Bool) : Nat → Nat
  | 0 => 0
  | n + 1 => bitsN f n + (if f n then 2 ^ n else 0)
def maxI (f : Nat → Int32) : Nat → Int32
  | 0 => 0
  | n + 1 => if maxI f n < f n then f n else maxI f n
def gainS (v : View) : Int32 := 2 * (v 5 0 0 - v 5 1 0) - 4 * v 5 2 0
def pos0 (x : Int32) : Int32 := if 0 < x then x else 0
def baseS (v : View) (l : Nat) : Int32 := pos0 (sumI (v 1 l) (rn v l) - v 5 2 0 * (v 0 l 0 - 1))
def evenUp (x : Int32) : Int32 := x + (x &&& 1)
def lackS (v : View) (base t : Int32) : Int32 := evenUp (pos0 (t - v 5 3 0 - base))
def needS (v : View) (base t : Int32) : Int32 := if lackS v base t = 0 then 0 else if gainS v < 2 then 1000 else (lackS v base t + gainS v - 1) / gainS v
def humpsS (v : View) (p : Nat) : Int32 := if gainS v < 2 then 0 else (v 3 p 0 + v 5 1 0) / (2 * v 5 1 0)
def tbI (x : Int32) (k : Nat) : Bool := x.toBitVec.getLsbD k
def reachN (v : View) (l : Nat) : Nat := bitsN (fun p => tbI (v 4 p 0) l) (np v)
def turnsS (v : View) (l : Nat) (side : Int32) : Int32 := cntI (fun i => v 2 l (i + 1) = side) (rn v l - 1)
def skewS (v : View) (l n : Nat) : Int32 := sumI (fun i => if v 2 l (i + 1) = 1 then 2 else -2) n
def roomS (v : View) (l i : Nat) : Int32 := v 1 l i / v 5 6 0
def longestS (v : View) : Int32 := maxI (baseS v) (nl v)
theorem nI_toC (x : Int32) (h : ¬ x < 0) : x = nI x.toNatClampNeg := by
  obtain ⟨j, hj, rfl⟩ := nI_of h
  rw [nI_clamp hj]
theorem nI_ltN {a : Nat} {N : Nat} (h : a < N) (hN : N < 2 ^ 31) : nI a < nI N := nI_lt h hN
theorem bI_z {c : Prop} [Decidable c] : bI c = 0 ↔ ¬ c := by unfold bI; split <;> simp [*]
theorem bI_nz {c : Prop} [Decidable c] : ¬ bI c = 0 ↔ c := by unfold bI; split <;> simp [*]
theorem g_top {Z : Zt} {X : Xt} {b : Mem} {pc : Nat} {L : List (Option Value)} {st : List Value} {x : Int32} (x' : Int32) (h : x = x') (k : G Z X b pc L (.int x' :: st)) : G Z X b pc L (.int x :: st) := by subst h; exact k
theorem nI_sub1 {n : Nat} (h : 0 < n) : nI n - 1 = nI (n - 1) := by
  obtain ⟨m, rfl⟩ : ∃ m, n = m + 1 := ⟨n - 1, by omega⟩
  exact nI_pred m
