/-! locals forgotten at a loop's head; the memory beside -/
def lvw (L L' : List (Option Value)) : Prop := L.length = L'.length ∧ ∀ (i : Nat) (v : Value), L'[i]? = some (some v) → L[i]? = some (some v)
theorem lvw_nil : lvw [] [] := ⟨rfl, fun _ _ h => by simp at h⟩
theorem lvw_c {a : Option Value} {L L' : List (Option Value)} (h : lvw L L') : lvw (a :: L) (a :: L') := ⟨by simp [h.1], fun i v hv => by
  cases i with
  | zero => exact hv
  | succ i => exact h.2 i v hv⟩
theorem lvw_n {a : Option Value} {L L' : List (Option Value)} (h : lvw L L') : lvw (a :: L) (none :: L') := ⟨by simp [h.1], fun i v hv => by
  cases i with
  | zero => simp at hv
  | succ i => exact h.2 i v hv⟩
section MORE
variable {Z : Zt} {X : Xt} {b b' : Mem} {pc : Nat} {L L' L2 : List (Option Value)} {st : List Value}
theorem g_weak (hw : lvw L L') (k : G Z X b pc L' st) : G Z X b pc L st := fun H locs ls hP hS hl => k H locs ls hP hS ⟨hl.1.trans hw.1, hl.2.1, fun i v h => hl.2.2 i v (hw.2 i v h)⟩
theorem g_back (k : G Z X b' pc L2 st) (hb : b = b') (hL : L' = L2) (hw : lvw L L') : G Z X b pc L st := by
  subst hb; subst hL
  exact g_weak hw k
theorem g_loopW (hw : lvw L L') (N : Nat) (B : Nat → Mem) (Lk : Nat → List (Option Value)) (h0 : b = B 0) (hL : L' = Lk 0) (step : ∀ k, k < N → G Z X (B (k + 1)) pc (Lk (k + 1)) st → G Z X (B k) pc (Lk k) st) (out : G Z X (B N) pc (Lk N) st) : G Z X b pc L st := g_weak hw (g_loop N B Lk h0 hL step out)
end MORE
theorem cv_same {m b : Mem} {o : Nat} (h : ∀ j, o ≤ j → j ≤ o + 6 → m j = b j) : cv m o = cv b o := by
  funext c l i
  unfold cv
  split <;> rw [h _ (by omega) (by omega)]
theorem cv_up2 (m : Mem) {j o : Nat} (i : Nat) (x : Int32) (h : j < o ∨ o + 6 < j) : cv (up2 m j i x) o = cv m o := cv_same (fun k h1 h2 => u2c _ _ (by omega))
theorem up2_id (b : Mem) (i k : Nat) (x : Int32) : up2 (up2 b i k x) i k (b i k) = b := by
  funext j m
  by_cases h : j = i
  · subst h
    by_cases h2 : m = k
    · subst h2; rw [u2s]
    · rw [u2k _ _ h2, u2k _ _ h2]
  · rw [u2c _ _ h, u2c _ _ h]
theorem ltN {a b : Nat} (h : a < b) (hb : b ≤ 64) : nI a < nI b := nI_lt h (by omega)
theorem pow64 {n : Nat} (h : n ≤ 6) : 2 ^ n ≤ 64 := Nat.pow_le_pow_right (by omega) h
theorem pow1 (n : Nat) : 1 ≤ 2 ^ n := Nat.one_le_two_pow
def minI (x y : Int32) : Int32 := if y < x then y else x
def fillM (b : Mem) (j k : Nat) (v : Int32) : Mem := up1 b j (fun i => if i < k then v else b j i)
theorem fillM_0 (b : Mem) (j : Nat) (v : Int32) : b = fillM b j 0 v := by
  funext i m
  unfold fillM
  by_cases h : i = j
  · subst h; rw [u1s]; simp
  · rw [u1c _ _ h]
theorem fillM_s (b : Mem) (j k : Nat) (v : Int32) : up2 (fillM b j k v) j k v = fillM b j (k + 1) v := by
  funext i m
  unfold fillM
  by_cases h : i = j
  · subst h
    by_cases h2 : m = k
    · subst h2; rw [u2s, u1s]; simp
    · rw [u2k _ _ h2, u1s, u1s]
      by_cases h3 : m < k
      · simp [h3, Nat.lt_succ_of_lt h3]
      · simp [h3, show ¬ m < k + 1 by omega]
  · rw [u2c _ _ h, u1c _ _ h, u1c _ _ h]
def popN (s : Nat) : Nat := s % 2 + s / 2 % 2 + s / 4 % 2 + s / 8 % 2 + s / 16 % 2 + s / 32 % 2
def bc1 (x : Int32) : Int32 := x - (jushr x 1 &&& 1431655765)
def bc2 (x : Int32) : Int32 := (x &&& 858993459) + (jushr x 2 &&& 858993459)
def bc3 (x : Int32) : Int32 := x + jushr x 4 &&& 252645135
def bc4 (x : Int32) : Int32 := x + jushr x 8
def bc5 (x : Int32) : Int32 := x + jushr x 16
theorem bc_ok : ∀ s, s < 64 → bc5 (bc4 (bc3 (bc2 (bc1 (nI s))))) &&& 63 = nI (popN s) := by decide +kernel
