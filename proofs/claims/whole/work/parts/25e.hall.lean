/-! sums over sets in the integers; who can, and how much one may draw -/
def sumZ (f : Nat → Int) : Nat → Int
  | 0 => 0
  | n + 1 => sumZ f n + f n
def wZ (f : Nat → Int) (A : Nat → Bool) (n : Nat) : Int := sumZ (fun i => if A i = true then f i else 0) n
theorem wZ_0 (f : Nat → Int) (A : Nat → Bool) : wZ f A 0 = 0 := rfl
theorem wZ_s (f : Nat → Int) (A : Nat → Bool) (n : Nat) : wZ f A (n + 1) = wZ f A n + (if A n = true then f n else 0) := rfl
theorem wZ_congr {f g : Nat → Int} {A B : Nat → Bool} {n : Nat} (h : ∀ i, i < n → A i = B i ∧ (A i = true → f i = g i)) : wZ f A n = wZ g B n := by
  induction n with
  | zero => rfl
  | succ n ih =>
    rw [wZ_s, wZ_s, ih (fun i hi => h i (by omega))]
    obtain ⟨h1, h2⟩ := h n (by omega)
    rw [← h1]
    cases q : A n
    · simp
    · simp [h2 q]
theorem wZ_mono {f : Nat → Int} {A B : Nat → Bool} {n : Nat} (hf : ∀ i, i < n → 0 ≤ f i) (h : ∀ i, i < n → A i = true → B i = true) : wZ f A n ≤ wZ f B n := by
  induction n with
  | zero => exact Int.le_refl _
  | succ n ih =>
    have i1 := ih (fun i hi => hf i (by omega)) (fun i hi => h i (by omega))
    have i2 := hf n (by omega)
    have i3 := h n (by omega)
    rw [wZ_s, wZ_s]
    cases qa : A n
    · cases qb : B n <;> simp <;> omega
    · rw [i3 qa]; simp; omega
theorem wZ_oa (f : Nat → Int) (A B : Nat → Bool) (n : Nat) : wZ f A n + wZ f B n = wZ f (fun i => A i || B i) n + wZ f (fun i => A i && B i) n := by
  induction n with
  | zero => rfl
  | succ n ih =>
    rw [wZ_s, wZ_s, wZ_s, wZ_s]
    cases qa : A n <;> cases qb : B n <;> simp <;> omega
theorem wZ_upd {f : Nat → Int} {A : Nat → Bool} {n j : Nat} (x : Int) (hj : j < n) : wZ (fun i => if i = j then x else f i) A n = wZ f A n + (if A j = true then x - f j else 0) := by
  induction n with
  | zero => omega
  | succ n ih =>
    rw [wZ_s, wZ_s]
    by_cases e : n = j
    · subst e
      rw [wZ_congr (g := f) (B := A) (fun i hi => ⟨rfl, fun _ => by rw [if_neg (by omega)]⟩), if_pos rfl]
      cases A n <;> simp <;> omega
    · rw [ih (by omega), if_neg e]; omega
theorem wZ_del {f : Nat → Int} {A B : Nat → Bool} {n j : Nat} (hj : j < n) (hA : A j = true) (hB : B j = false) (h : ∀ i, i < n → i ≠ j → B i = A i) : wZ f B n = wZ f A n - f j := by
  induction n with
  | zero => omega
  | succ n ih =>
    rw [wZ_s, wZ_s]
    by_cases e : n = j
    · subst e
      rw [wZ_congr (g := f) (B := A) (fun i hi => ⟨h i (by omega) (by omega), fun _ => rfl⟩), hA, hB]
      simp <;> omega
    · rw [ih (by omega) (fun i hi => h i (by omega)), h n (by omega) e]; omega
theorem wZ_nn {f : Nat → Int} {A : Nat → Bool} {n : Nat} (hf : ∀ i, i < n → 0 ≤ f i) : 0 ≤ wZ f A n := by
  induction n with
  | zero => exact Int.le_refl _
  | succ n ih =>
    have := ih (fun i hi => hf i (by omega))
    have := hf n (by omega)
    rw [wZ_s]
    cases A n <;> simp <;> omega
theorem wZ_le {f : Nat → Int} {A : Nat → Bool} {n : Nat} {c : Int} (hc : 0 ≤ c) (hf : ∀ i, i < n → f i ≤ c) : wZ f A n ≤ n * c := by
  induction n with
  | zero => simp [wZ_0]
  | succ n ih =>
    have h1 := ih (fun i hi => hf i (by omega))
    have h2 := hf n (by omega)
    have e : ((n + 1 : Nat) : Int) * c = n * c + c := by rw [Int.natCast_add, Int.add_mul]; simp
    rw [wZ_s, e]
    cases A n <;> simp <;> omega
/-- what a set of lines leaves -/
def spZ (nd : Nat → Int) (my : Nat → Nat) (n np : Nat) (rm : Nat → Int) (s : Nat) : Int := wZ rm (orN my n s).testBit np - wZ nd s.testBit n
def Hall (nd : Nat → Int) (my : Nat → Nat) (n np : Nat) (rm : Nat → Int) : Prop := ∀ s, s < 2 ^ n → 0 ≤ spZ nd my n np rm s
theorem bool_ext {a b : Bool} (h : a = true ↔ b = true) : a = b := by cases a <;> cases b <;> simp_all
theorem orN_bool (my : Nat → Nat) (n s p : Nat) {B : Bool} (h : (∃ l, l < n ∧ s.testBit l = true ∧ (my l).testBit p = true) ↔ B = true) : (orN my n s).testBit p = B := bool_ext ((orN_tb my n s p).trans h)
section STEP
variable {nd : Nat → Int} {my my2 : Nat → Nat} {n np : Nat} {rm : Nat → Int} {l p : Nat} {v : Int}
/-- a set that the line is not in -/
theorem sp_out (hl : l < n) (hp : p < np) (hm : ∀ i, i < n → i ≠ l → my2 i = my i) {s : Nat} (hs : s.testBit l = false) : spZ (fun i => if i = l then nd l - v else nd i) my2 n np (fun i => if i = p then rm p - v else rm i) s = spZ nd my n np rm s - (if (orN my n s).testBit p = true then v else 0) := by
  have e : orN my2 n s = orN my n s := tb_ext (fun q => by
    rw [orN_tb, orN_tb]
    constructor
    · rintro ⟨i, h1, h2, h3⟩
      have : i ≠ l := by rintro rfl; rw [hs] at h2; cases h2
      exact ⟨i, h1, h2, by rw [← hm i h1 this]; exact h3⟩
    · rintro ⟨i, h1, h2, h3⟩
      have : i ≠ l := by rintro rfl; rw [hs] at h2; cases h2
      exact ⟨i, h1, h2, by rw [hm i h1 this]; exact h3⟩)
  unfold spZ
  rw [e, wZ_upd _ hp, wZ_upd _ hl, hs]
  cases (orN my n s).testBit p <;> simp <;> omega
/-- a set that the line is in -/
theorem sp_in (hl : l < n) (hp : p < np) (hm : ∀ i, i < n → i ≠ l → my2 i = my i) (hm2 : ∀ q, (my2 l).testBit q = ((my l).testBit q && decide (q ≠ p))) (ht : (my l).testBit p = true) {s t : Nat} (hs : s.testBit l = true) (hst : ∀ i, t.testBit i = (s.testBit i && decide (i ≠ l))) :
    ((orN my n t).testBit p = true → spZ (fun i => if i = l then nd l - v else nd i) my2 n np (fun i => if i = p then rm p - v else rm i) s = spZ nd my n np rm s) ∧
    ((orN my n t).testBit p = false → spZ (fun i => if i = l then nd l - v else nd i) my2 n np (fun i => if i = p then rm p - v else rm i) s = spZ nd my n np rm s - rm p + v) := by
  have e : ∀ q, (orN my2 n s).testBit q = (((my l).testBit q && decide (q ≠ p)) || (orN my n t).testBit q) := fun q => orN_bool _ _ _ _ (by
    rw [Bool.or_eq_true, orN_tb, ← hm2]
    constructor
    · rintro ⟨i, h1, h2, h3⟩
      by_cases c : i = l
      · subst c; exact Or.inl h3
      · exact Or.inr ⟨i, h1, by rw [hst, h2]; simp [c], by rw [← hm i h1 c]; exact h3⟩
    · rintro (h | ⟨i, h1, h2, h3⟩)
      · exact ⟨l, hl, hs, h⟩
      · rw [hst] at h2
        have c : i ≠ l := by rintro rfl; simp at h2
        exact ⟨i, h1, by simp [c] at h2; exact h2, by rw [hm i h1 c]; exact h3⟩)
  have e1 : ∀ q, (orN my n s).testBit q = ((my l).testBit q || (orN my n t).testBit q) := fun q => orN_bool _ _ _ _ (by
    rw [Bool.or_eq_true, orN_tb]
    constructor
    · rintro ⟨i, h1, h2, h3⟩
      by_cases c : i = l
      · subst c; exact Or.inl h3
      · exact Or.inr ⟨i, h1, by rw [hst, h2]; simp [c], h3⟩
    · rintro (h | ⟨i, h1, h2, h3⟩)
      · exact ⟨l, hl, hs, h⟩
      · rw [hst] at h2
        have c : i ≠ l := by rintro rfl; simp at h2
        exact ⟨i, h1, by simp [c] at h2; exact h2, h3⟩)
  have hR : (orN my n s).testBit p = true := by rw [e1, ht]; rfl
  constructor
  · intro hq
    have e2 : orN my2 n s = orN my n s := tb_ext (fun q => by
      rw [e, e1]
      by_cases c : q = p
      · subst c; rw [hq]; simp
      · simp [c])
    unfold spZ
    rw [e2, wZ_upd _ hp, wZ_upd _ hl, hs, hR]
    simp; omega
  · intro hq
    have hR2 : (orN my2 n s).testBit p = false := by rw [e, hq]; simp
    unfold spZ
    rw [wZ_upd _ hp, wZ_upd _ hl, hs, hR2, wZ_del (A := (orN my n s).testBit) hp hR hR2 (fun i hi c => by rw [e, e1]; simp [c])]
    simp; omega
theorem del_bit {s l : Nat} : ∃ t : Nat, ∀ i, t.testBit i = (s.testBit i && decide (i ≠ l)) := by
  by_cases h : s.testBit l = true
  · refine ⟨s ^^^ 2 ^ l, fun i => ?_⟩
    rw [Nat.testBit_xor, Nat.testBit_two_pow]
    by_cases c : l = i
    · subst c; simp [h]
    · have c2 : i ≠ l := fun q => c q.symm
      simp [c, c2]
  · refine ⟨s, fun i => ?_⟩
    by_cases c : i = l
    · subst c; simp at h; simp [h]
    · simp [c]
theorem sub_lt {s t n : Nat} (hs : s < 2 ^ n) (h : ∀ i, t.testBit i = true → s.testBit i = true) : t < 2 ^ n := by
  rcases Nat.lt_or_ge t (2 ^ n) with q | q
  · exact q
  · obtain ⟨i, h1, h2⟩ := Nat.exists_ge_and_testBit_of_ge_two_pow q
    have := h i h2
    rw [testBit_ge hs h1] at this
    cases this
/-- drawing what one may keeps all able -/
theorem hall_step (hH : Hall nd my n np rm) (hl : l < n) (hp : p < np) (hnd : ∀ i, i < n → 0 ≤ nd i) (hrm : ∀ i, i < np → 0 ≤ rm i) (hm : ∀ i, i < n → i ≠ l → my2 i = my i) (hm2 : ∀ q, (my2 l).testBit q = ((my l).testBit q && decide (q ≠ p))) (ht : (my l).testBit p = true)
    (hup : ∀ t, t < 2 ^ n → t.testBit l = false → (orN my n t).testBit p = true → v ≤ spZ nd my n np rm t)
    (hat : v = nd l ∨ v = rm p ∨ ∃ t, t < 2 ^ n ∧ t.testBit l = false ∧ (orN my n t).testBit p = true ∧ v = spZ nd my n np rm t) :
    Hall (fun i => if i = l then nd l - v else nd i) my2 n np (fun i => if i = p then rm p - v else rm i) := by
  intro s hs
  have h0 := hH s hs
  cases c : s.testBit l
  · rw [sp_out hl hp hm c]
    by_cases q : (orN my n s).testBit p = true
    · have := hup s hs c q
      rw [if_pos q]; omega
    · rw [if_neg q]; omega
  · obtain ⟨t, hst⟩ := del_bit (s := s) (l := l)
    have htn : t < 2 ^ n := sub_lt hs (fun i hi => by rw [hst] at hi; simp at hi; exact hi.1)
    have htl : t.testBit l = false := by rw [hst]; simp
    obtain ⟨k1, k2⟩ := sp_in (nd := nd) (rm := rm) (v := v) hl hp hm hm2 ht c hst
    cases q : (orN my n t).testBit p
    · rw [k2 q]
      have e1 : ∀ q, (orN my n s).testBit q = ((my l).testBit q || (orN my n t).testBit q) := fun q => orN_bool _ _ _ _ (by
        rw [Bool.or_eq_true, orN_tb]
        constructor
        · rintro ⟨i, h1, h2, h3⟩
          by_cases c : i = l
          · subst c; exact Or.inl h3
          · exact Or.inr ⟨i, h1, by rw [hst, h2]; simp [c], h3⟩
        · rintro (h | ⟨i, h1, h2, h3⟩)
          · exact ⟨l, hl, c, h⟩
          · rw [hst] at h2
            have c : i ≠ l := by rintro rfl; simp at h2
            exact ⟨i, h1, by simp [c] at h2; exact h2, h3⟩)
      have ens : wZ nd t.testBit n = wZ nd s.testBit n - nd l := wZ_del hl c htl (fun i hi ci => by rw [hst]; simp [ci])
      rcases hat with e | e | ⟨u, hun, hul, hup', e⟩
      · -- all of its need
        have ht0 := hH t htn
        have hsub : wZ rm (orN my n t).testBit np ≤ wZ rm (orN my n s).testBit np - rm p := by
          rw [← wZ_del (f := rm) (A := (orN my n s).testBit) (B := fun i => (orN my n s).testBit i && decide (i ≠ p)) hp (by rw [e1, ht]; rfl) (by simp) (fun i hi ci => by simp [ci])]
          refine wZ_mono hrm (fun i hi hq => ?_)
          rw [e1, hq]
          have : i ≠ p := by rintro rfl; rw [q] at hq; cases hq
          simp [this]
        unfold spZ at ht0 ⊢
        omega
      · omega
      · -- two sets
        have a1 := hH (s ||| u) (Nat.or_lt_two_pow hs hun)
        have a2 := hH (t &&& u) (by exact Nat.lt_of_le_of_lt Nat.and_le_left htn)
        have b1 := wZ_oa nd s.testBit u.testBit n
        have b2 := wZ_oa rm (orN my n s).testBit (orN my n u).testBit np
        have c1 : wZ nd (fun i => s.testBit i || u.testBit i) n = wZ nd (s ||| u).testBit n := wZ_congr (fun i hi => ⟨by rw [Nat.testBit_or], fun _ => rfl⟩)
        have c2 : wZ nd (fun i => s.testBit i && u.testBit i) n = wZ nd (t &&& u).testBit n := wZ_congr (fun i hi => ⟨by
          rw [Nat.testBit_and, hst]
          by_cases ci : i = l
          · subst ci; rw [hul]; simp
          · simp [ci], fun _ => rfl⟩)
        have c3 : wZ rm (fun i => (orN my n s).testBit i || (orN my n u).testBit i) np = wZ rm (orN my n (s ||| u)).testBit np := wZ_congr (fun i hi => ⟨(orN_bool _ _ _ _ (by
          rw [Bool.or_eq_true, orN_tb, orN_tb]
          constructor
          · rintro ⟨j, h1, h2, h3⟩
            rw [Nat.testBit_or, Bool.or_eq_true] at h2
            rcases h2 with h2 | h2
            · exact Or.inl ⟨j, h1, h2, h3⟩
            · exact Or.inr ⟨j, h1, h2, h3⟩
          · rintro (⟨j, h1, h2, h3⟩ | ⟨j, h1, h2, h3⟩)
            · exact ⟨j, h1, by rw [Nat.testBit_or, h2]; rfl, h3⟩
            · exact ⟨j, h1, by rw [Nat.testBit_or, h2]; simp, h3⟩)).symm, fun _ => rfl⟩)
        have hps : (orN my n s).testBit p = true := by rw [e1, ht]; rfl
        have c4 : wZ rm (orN my n (t &&& u)).testBit np ≤ wZ rm (fun i => (orN my n s).testBit i && (orN my n u).testBit i) np - rm p := by
          rw [← wZ_del (f := rm) (A := fun i => (orN my n s).testBit i && (orN my n u).testBit i) (B := fun i => ((orN my n s).testBit i && (orN my n u).testBit i) && decide (i ≠ p)) hp (by simp [hps, hup']) (by simp) (fun i hi ci => by simp [ci])]
          refine wZ_mono hrm (fun i hi hq => ?_)
          rw [orN_tb] at hq
          obtain ⟨j, h1, h2, h3⟩ := hq
          rw [Nat.testBit_and, Bool.and_eq_true] at h2
          have r1 : (orN my n t).testBit i = true := (orN_tb _ _ _ _).mpr ⟨j, h1, h2.1, h3⟩
          have r2 : (orN my n u).testBit i = true := (orN_tb _ _ _ _).mpr ⟨j, h1, h2.2, h3⟩
          have r3 : i ≠ p := by rintro rfl; rw [q] at r1; cases r1
          rw [e1, r1, r2]
          simp [r3]
        unfold spZ at a1 a2 e ⊢
        omega
    · rw [k1 q]; exact h0
/-- drawing more does not -/
theorem hall_not (hl : l < n) (hp : p < np) (hm : ∀ i, i < n → i ≠ l → my2 i = my i) {t : Nat} (htn : t < 2 ^ n) (htl : t.testBit l = false) (hq : (orN my n t).testBit p = true) (hv : spZ nd my n np rm t < v) :
    ¬ Hall (fun i => if i = l then nd l - v else nd i) my2 n np (fun i => if i = p then rm p - v else rm i) := by
  intro h
  have := h t htn
  rw [sp_out hl hp hm htl, if_pos hq] at this
  omega
/-- a pocket that the line does not touch -/
theorem hall_skip (hH : Hall nd my n np rm) (hm : ∀ i, i < n → my2 i = my i) : Hall nd my2 n np rm := by
  intro s hs
  have := hH s hs
  unfold spZ at this ⊢
  rw [orN_congr hm]
  exact this
end STEP
