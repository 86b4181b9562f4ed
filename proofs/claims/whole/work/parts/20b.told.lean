/-! what the public calls answer, of a view -/
noncomputable def cl {α : Type} (p : Prop) (a b : α) : α := @ite α p (Classical.propDecidable p) a b
theorem cl_t {α : Type} {p : Prop} (h : p) (a b : α) : cl p a b = a := if_pos h
theorem cl_f {α : Type} {p : Prop} (h : ¬ p) (a b : α) : cl p a b = b := if_neg h
theorem bI_iff {p q : Prop} [Decidable p] [Decidable q] (h : p ↔ q) : bI p = bI q := by
  by_cases c : p
  · rw [bI_t c, bI_t (h.mp c)]
  · rw [bI_f c, bI_f (fun z => c (h.mpr z))]
theorem sw7 (x : Int32) : x = 0 ∨ x = 1 ∨ x = 2 ∨ x = 3 ∨ x = 4 ∨ x = 5 ∨ x = 6 ∨ (x.toInt < 0 ∨ 6 < x.toInt) := by
  by_cases h : 0 ≤ x.toInt ∧ x.toInt ≤ 6
  · have key : ∀ n : Nat, n < 1000 → x.toInt = n → x = nI n := fun n hn h => Int32.toInt_inj.mp (by rw [h, nI_toInt (by omega)])
    rcases (show x.toInt = (0 : Nat) ∨ x.toInt = (1 : Nat) ∨ x.toInt = (2 : Nat) ∨ x.toInt = (3 : Nat) ∨ x.toInt = (4 : Nat) ∨ x.toInt = (5 : Nat) ∨ x.toInt = (6 : Nat) by omega) with e | e | e | e | e | e | e
    · exact Or.inl (key 0 (by decide) e)
    · exact Or.inr (Or.inl (key 1 (by decide) e))
    · exact Or.inr (Or.inr (Or.inl (key 2 (by decide) e)))
    · exact Or.inr (Or.inr (Or.inr (Or.inl (key 3 (by decide) e))))
    · exact Or.inr (Or.inr (Or.inr (Or.inr (Or.inl (key 4 (by decide) e)))))
    · exact Or.inr (Or.inr (Or.inr (Or.inr (Or.inr (Or.inl (key 5 (by decide) e))))))
    · exact Or.inr (Or.inr (Or.inr (Or.inr (Or.inr (Or.inr (Or.inl (key 6 (by decide) e)))))))
  · exact Or.inr (Or.inr (Or.inr (Or.inr (Or.inr (Or.inr (Or.inr (by omega)))))))
theorem sw_out {x : Int32} {n : Nat} (h : x.toInt < 0 ∨ (n : Int) < x.toInt) (hn : n < 1000) : ¬ (¬ x < 0 ∧ ¬ nI n < x) := by
  rintro ⟨h1, h2⟩
  rcases h with q | q
  · exact h1 (Int32.lt_iff_toInt_lt.mpr q)
  · exact h2 (Int32.lt_iff_toInt_lt.mpr (by rw [nI_toInt (by omega)]; exact q))
theorem sw3 (x : Int32) : x = 0 ∨ x = 1 ∨ x = 2 ∨ (x.toInt < 0 ∨ 2 < x.toInt) := by
  rcases sw7 x with h | h | h | h | h | h | h | h
  · exact Or.inl h
  · exact Or.inr (Or.inl h)
  · exact Or.inr (Or.inr (Or.inl h))
  all_goals (first | (subst h; exact Or.inr (Or.inr (Or.inr (Or.inr (by decide))))) | exact Or.inr (Or.inr (Or.inr (by omega))))
theorem sw4 (x : Int32) : x = 0 ∨ x = 1 ∨ x = 2 ∨ x = 3 ∨ (x.toInt < 0 ∨ 3 < x.toInt) := by
  rcases sw7 x with h | h | h | h | h | h | h | h
  · exact Or.inl h
  · exact Or.inr (Or.inl h)
  · exact Or.inr (Or.inr (Or.inl h))
  · exact Or.inr (Or.inr (Or.inr (Or.inl h)))
  all_goals (first | (subst h; exact Or.inr (Or.inr (Or.inr (Or.inr (Or.inr (by decide)))))) | exact Or.inr (Or.inr (Or.inr (Or.inr (by omega)))))
theorem sw5t (x : Int32) : x = 0 ∨ x = 1 ∨ x = 2 ∨ x = 3 ∨ x = 4 ∨ (x.toInt < 0 ∨ 4 < x.toInt) := by
  rcases sw7 x with h | h | h | h | h | h | h | h
  · exact Or.inl h
  · exact Or.inr (Or.inl h)
  · exact Or.inr (Or.inr (Or.inl h))
  · exact Or.inr (Or.inr (Or.inr (Or.inl h)))
  · exact Or.inr (Or.inr (Or.inr (Or.inr (Or.inl h))))
  all_goals (first | (subst h; exact Or.inr (Or.inr (Or.inr (Or.inr (Or.inr (Or.inr (by decide))))))) | exact Or.inr (Or.inr (Or.inr (Or.inr (Or.inr (by omega))))))
def okL (v : View) (l : Int32) : Prop := ¬ l < 0 ∧ l < v 6 0 0
def okP (v : View) (p : Int32) : Prop := ¬ p < 0 ∧ p < v 7 0 0
def okR (v : View) (l i : Int32) : Prop := okL v l ∧ ¬ i < 0 ∧ i < v 0 l.toNatClampNeg 0
def ofV (v : View) (k : Nat) (w : Int32) : Int32 := if w = 0 then v 0 k 0 else if w = 1 then baseS v k else if w = 2 then lackS v (baseS v k) (v 5 4 0) else if w = 3 then ndV v (v 5 4 0) k else if w = 4 then nI (reachN v k) else if w = 5 then turnsS v k 1 else turnsS v k 0
noncomputable def ofR (v : View) (l w : Int32) : Int32 := cl (okL v l ∧ ¬ w < 0 ∧ ¬ 6 < w) (ofV v l.toNatClampNeg w) (-2)
noncomputable def ofC (v : View) (l w : Int32) : Int32 := cl (okL v l ∧ ¬ w < 0 ∧ ¬ 6 < w) 0 (-2)
def runV (v : View) (l i : Nat) (w : Int32) : Int32 := if w = 0 then v 1 l i else if w = 1 then (if i = 0 then -1 else v 2 l i) else roomS v l i
noncomputable def runR (v : View) (l i w : Int32) : Int32 := cl (okR v l i ∧ ¬ w < 0 ∧ ¬ 2 < w) (runV v l.toNatClampNeg i.toNatClampNeg w) (-2)
noncomputable def runC (v : View) (l i w : Int32) : Int32 := cl (okR v l i ∧ ¬ w < 0 ∧ ¬ 2 < w) 0 (-2)
def abV (v : View) (p : Nat) (w : Int32) : Int32 := if w = 0 then v 3 p 0 else if w = 1 then v 4 p 0 &&& ((1 <<< (v 6 0 0 &&& 31)) - 1) else if w = 2 then humpsS v p else if blN v (v 5 4 0) = 0 then frV v p else -1
noncomputable def abR (v : View) (p w : Int32) : Int32 := cl (okP v p ∧ ¬ w < 0 ∧ ¬ 3 < w) (abV v p.toNatClampNeg w) (-2)
noncomputable def abC (v : View) (p w : Int32) : Int32 := cl (okP v p ∧ ¬ w < 0 ∧ ¬ 3 < w) 0 (-2)
noncomputable def seR (v : View) (k : Int32) : Int32 := cl (¬ k < 0 ∧ ¬ 6 < k) (v 5 k.toNatClampNeg 0) (-2)
noncomputable def seC (k : Int32) : Int32 := cl (¬ k < 0 ∧ ¬ 6 < k) 0 (-2)
def coV (v : View) (w : Int32) : Int32 := if w = 0 then v 6 0 0 else if w = 1 then v 7 0 0 else if w = 2 then gainS v + 100 else if w = 3 then bI (blN v (v 5 4 0) = 0) else if w = 4 then longestS v else if w = 5 then sumI (humpsS v) (np v) else sumI (ndV v (v 5 4 0)) (nl v)
noncomputable def coR (v : View) (w : Int32) : Int32 := cl (¬ w < 0 ∧ ¬ 6 < w) (coV v w) (-2)
noncomputable def coC (w : Int32) : Int32 := cl (¬ w < 0 ∧ ¬ 6 < w) 0 (-2)
noncomputable def drR (v : View) (l p : Int32) : Int32 := cl (okL v l ∧ okP v p) (if blN v (v 5 4 0) = 0 then drV v l.toNatClampNeg p.toNatClampNeg else -3) (-2)
noncomputable def drC (v : View) (l p : Int32) : Int32 := cl (okL v l ∧ okP v p) (if blN v (v 5 4 0) = 0 then 0 else -3) (-2)
noncomputable def leR (v : View) (l : Int32) : Int32 := cl (okL v l) (if blN v (v 5 4 0) = 0 then baseS v l.toNatClampNeg + lackS v (baseS v l.toNatClampNeg) (v 5 4 0) else -3) (-2)
noncomputable def leC (v : View) (l : Int32) : Int32 := cl (okL v l) (if blN v (v 5 4 0) = 0 then 0 else -3) (-2)
noncomputable def caR (v : View) (t : Int32) : Int32 := cl (¬ t < 0 ∧ ¬ 999 < t) (bI (blN v t = 0)) (-2)
noncomputable def caC (t : Int32) : Int32 := cl (¬ t < 0 ∧ ¬ 999 < t) 0 (-2)
def lsR (v : View) : Int32 := if blN v (longestS v) = 0 then longestS v else -1
def grK (v : View) : Nat → Int32
  | 0 => longestS v
  | k + 1 => if ¬ 999 < grK v k + nI (512 / 2 ^ k) ∧ blN v (grK v k + nI (512 / 2 ^ k)) = 0 then grK v k + nI (512 / 2 ^ k) else grK v k
def grR (v : View) : Int32 := if blN v (longestS v) = 0 then grK v 10 else -1
def mrF (v : View) (p : Nat) : Prop := tooN v (v 5 4 0) = 0 ∧ (crS (spR (ndV v (v 5 4 0)) (reachN v) (nl v) (np v) (upd (humpsS v) p (humpsS v p + 1))) (2 ^ nl v - 1)).1 = 0
/-- p is the least place below n where f holds; or there is none and the answer is -1 -/
def isFst (f : Nat → Prop) (n : Nat) (x : Int32) : Prop := (∃ p, p < n ∧ f p ∧ (∀ q, q < p → ¬ f q) ∧ x = nI p) ∨ (∀ p, p < n → ¬ f p) ∧ x = -1
theorem fit_iff {m : Mem} {q : Nat} {v : View} {t : Int32} (h : SHp m q v t) (hn : nl v ≤ 6) (hp : np v ≤ 6) : (m q 6 = 0 ∧ (crS (spv m q (np v)) (2 ^ nl v - 1)).1 = 0) ↔ blN v t = 0 := by
  have ht := tooN_lt v t hn
  rw [h.2.2.1, h.cr hp, nI0 (by omega)]
  unfold blN
  by_cases c : tooN v t = 0
  · simp [c]
  · simp [c]
