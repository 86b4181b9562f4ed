/-! a number, read two ways -/
theorem asub (x y z : Int32) : x + (y - z) = x + y - z := by rw [Int32.sub_eq_add_neg, Int32.sub_eq_add_neg, Int32.add_assoc]
theorem blank_ex (b : Mem) (n : Nat) : ∀ j s, s + j = n → ∃ q, s ≤ q ∧ q ≤ n ∧ (∀ k, s ≤ k → k < q → byT b n k = 32) ∧ ¬ byT b n q = 32 := by
  intro j
  induction j with
  | zero =>
    intro s hs
    refine ⟨s, by omega, by omega, fun k h1 h2 => by omega, ?_⟩
    unfold byT
    rw [if_neg (by omega)]
    decide
  | succ j ih =>
    intro s hs
    by_cases c : byT b n s = 32
    · obtain ⟨q, h1, h2, h3, h4⟩ := ih (s + 1) (by omega)
      refine ⟨q, by omega, h2, fun k k1 k2 => ?_, h4⟩
      rcases Nat.lt_or_ge s k with z | z
      · exact h3 k (by omega) k2
      · have : k = s := by omega
        rw [this]; exact c
    · exact ⟨s, by omega, by omega, fun k h1 h2 => by omega, c⟩
theorem byT_lt {b : Mem} {n k : Nat} (h : byT b n k = 32) : k < n := by
  rcases Nat.lt_or_ge k n with z | z
  · exact z
  · unfold byT at h; rw [if_neg (by omega)] at h; exact absurd h (by decide)
theorem Fg_lt {b : Mem} {n k : Nat} (h : Fg b n k) : k < n := by
  rcases Nat.lt_or_ge k n with z | z
  · exact z
  · have h1 := h.1; unfold byT at h1; rw [if_neg (by omega)] at h1; exact absurd (by decide) h1
section NUM
variable {b : Mem} {n p g f w : Nat} {o : Int32}
theorem byT_53 (hT : ∀ k, k < n → b 53 k = b 79 k) {k : Nat} (hk : k < n) : byT b n k = b 53 k := by unfold byT; rw [if_pos hk, hT k hk]
theorem GS.blanks (hT : ∀ k, k < n → b 53 k = b 79 k) : ∀ j s f, GS b s o g f w → (∀ k, s ≤ k → k < s + j → byT b n k = 32) → GS b (s + j) o g (if j = 0 then f else 0) w ∧ Kr b s (s + j) := by
  intro j
  induction j with
  | zero => intro s f h _; exact ⟨by rw [if_pos rfl]; exact h, rfl, rfl⟩
  | succ j ih =>
    intro s f h hb
    obtain ⟨h1, h2⟩ := ih s f h (fun k k1 k2 => hb k k1 (by omega))
    have hc := hb (s + j) (by omega) (by omega)
    have hl := byT_lt hc
    rw [byT_53 hT hl] at hc
    obtain ⟨h3, h4⟩ := h1.blank hc
    exact ⟨by rw [if_neg (by omega)]; exact h3, h4.1.trans h2.1, h4.2.trans h2.2⟩
theorem GS.digs (hT : ∀ k, k < n → b 53 k = b 79 k) (h : GS b p o g 0 w) (ho : ¬ o = 0) (hg : g < nOf o) : ∀ k, k < 3 → (∀ i, i < k + 1 → Fg b n (p + i)) → GS b (p + (k + 1)) o (g + 1) (k + 1) w ∧ prM b (p + (k + 1)) 54 = prM b p 54 ∧ prM b (p + (k + 1)) 55 (w * 3 + g) = vN b p (k + 1) ∧ ∀ i, i ≠ w * 3 + g → prM b (p + (k + 1)) 55 i = prM b p 55 i := by
  intro k
  induction k with
  | zero =>
    intro _ hF
    have f0 := hF 0 (by omega)
    have hl := Fg_lt f0
    have hd : ¬ b 53 p < 48 ∧ ¬ 57 < b 53 p := by
      have : byT b n p = b 53 p := byT_53 hT hl
      unfold Fg at f0
      rw [Nat.add_zero, this] at f0
      exact f0
    obtain ⟨a1, a2, a3⟩ := h.dig1 ho hd hg
    refine ⟨a1, a2, ?_, fun i hi => ?_⟩
    · rw [a3]
      simp only [upd, vN, if_true, Nat.add_zero]
      rw [hT p (by omega), asub]
    · rw [a3]; simp [upd, hi]
  | succ k ih =>
    intro hk hF
    obtain ⟨a1, a2, a3, a4⟩ := ih (by omega) (fun i hi => hF i (by omega))
    have f0 := hF (k + 1) (by omega)
    have hl := Fg_lt f0
    have hd : ¬ b 53 (p + (k + 1)) < 48 ∧ ¬ 57 < b 53 (p + (k + 1)) := by
      unfold Fg at f0
      rw [byT_53 hT hl] at f0
      exact f0
    obtain ⟨c1, c2, c3⟩ := a1.dig2 ho hd (by omega) (by omega)
    refine ⟨c1, c2.trans a2, ?_, fun i hi => ?_⟩
    · show prM b (p + (k + 1) + 1) 55 (w * 3 + g) = _
      rw [c3]
      simp only [upd, vN, if_true]
      rw [a3, hT _ hl, asub]
      rfl
    · show prM b (p + (k + 1) + 1) 55 i = _
      rw [c3]
      simp only [upd, hi, if_false]
      exact a4 i hi
theorem vN_b (hF : ∀ i, i < 3 → True) : ∀ k, k ≤ 3 → (∀ i, i < k → Fg b n (p + i)) → ∃ x, vN b p k = nI x ∧ x < 10 ^ k := by
  intro k
  induction k with
  | zero => intro _ _; exact ⟨0, rfl, by decide⟩
  | succ k ih =>
    intro hk hF
    obtain ⟨x, e, hx⟩ := ih (by omega) (fun i hi => hF i (by omega))
    have f0 := hF k (by omega)
    have hl := Fg_lt f0
    have hd : ¬ b 79 (p + k) < 48 ∧ ¬ 57 < b 79 (p + k) := by
      unfold Fg byT at f0
      rw [if_pos hl] at f0
      exact f0
    obtain ⟨y, hy, ey⟩ := nI_of (x := b 79 (p + k)) (fun q => hd.1 (Int32.lt_trans q (by decide)))
    rw [ey] at hd
    have y1 : 48 ≤ y := by
      rcases Nat.lt_or_ge y 48 with q | q
      · exact absurd (nI_lt q (by decide)) hd.1
      · exact q
    have y2 : y ≤ 57 := by
      rcases Nat.lt_or_ge 57 y with q | q
      · exact absurd (nI_lt q hy) hd.2
      · exact q
    have hp10 : 10 ^ (k + 1) = 10 * 10 ^ k := by rw [Nat.pow_succ, Nat.mul_comm]
    refine ⟨10 * x + y - 48, ?_, by omega⟩
    simp only [vN]
    rw [e, ey, show (10 : Int32) = nI 10 from rfl, pk_mul, nI_add, show (48 : Int32) = nI 48 from rfl, nI_subN (by omega)]
/-- where reading stops: the byte there can not stand there, or the text ends -/
def FL (b : Mem) (n p : Nat) : Prop := p ≤ n ∧ (∀ k, k < p → okT b k) ∧ ((p < n ∧ ¬ okT b p) ∨ (p = n ∧ ¬ prM b n 52 5 = 0))
theorem num_ghost (hT : ∀ k, k < n → b 53 k = b 79 k) (hn : n ≤ 120) (h : GS b p o g f w) (ho : ¬ o = 0) (hg : g < nOf o) (hp : p ≤ n) (h32 : ¬ byT b n p = 32) (hf : f = 0 ∨ ¬ Fg b n p) :
    (¬ Fg b n p ∧ FL b n p) ∨ ((∀ k, k < 3 → Fg b n (p + k)) ∧ Fg b n (p + 3) ∧ FL b n (p + 3)) ∨
    ∃ d q f', (1 ≤ d ∧ d ≤ 3) ∧ (∀ k, k < d → Fg b n (p + k)) ∧ ¬ Fg b n (p + d) ∧ (p + d ≤ q ∧ q ≤ n) ∧ (∀ k, p + d ≤ k → k < q → byT b n k = 32) ∧ ¬ byT b n q = 32 ∧ GS b q o (g + 1) f' w ∧ (f' = 0 ∨ ¬ Fg b n q) ∧ prM b q 55 (w * 3 + g) = vN b p d ∧ ¬ vN b p d = -1 ∧ prM b q 54 = prM b p 54 ∧ ∀ i, i ≠ w * 3 + g → prM b q 55 i = prM b p 55 i := by
  by_cases c0 : Fg b n p
  · have hf0 : f = 0 := by
      rcases hf with z | z
      · exact z
      · exact absurd c0 z
    subst hf0
    have fin : ∀ d, d < 3 → (∀ k, k < d + 1 → Fg b n (p + k)) → ¬ Fg b n (p + (d + 1)) → ∃ d q f', (1 ≤ d ∧ d ≤ 3) ∧ (∀ k, k < d → Fg b n (p + k)) ∧ ¬ Fg b n (p + d) ∧ (p + d ≤ q ∧ q ≤ n) ∧ (∀ k, p + d ≤ k → k < q → byT b n k = 32) ∧ ¬ byT b n q = 32 ∧ GS b q o (g + 1) f' w ∧ (f' = 0 ∨ ¬ Fg b n q) ∧ prM b q 55 (w * 3 + g) = vN b p d ∧ ¬ vN b p d = -1 ∧ prM b q 54 = prM b p 54 ∧ ∀ i, i ≠ w * 3 + g → prM b q 55 i = prM b p 55 i := by
      intro d hd hF hN
      obtain ⟨a1, a2, a3, a4⟩ := h.digs hT ho hg d hd hF
      have hl := Fg_lt (hF d (by omega))
      obtain ⟨q, q1, q2, q3, q4⟩ := blank_ex b n (n - (p + (d + 1))) (p + (d + 1)) (by omega)
      obtain ⟨c1, c2⟩ := GS.blanks hT (q - (p + (d + 1))) (p + (d + 1)) (d + 1) a1 (fun k k1 k2 => q3 k k1 (by omega))
      rw [show p + (d + 1) + (q - (p + (d + 1))) = q by omega] at c1 c2
      obtain ⟨x, ex, hx⟩ := vN_b (b := b) (n := n) (p := p) (fun _ _ => trivial) (d + 1) (by omega) hF
      have hx2 : x < 1000 := Nat.lt_of_lt_of_le hx (Nat.pow_le_pow_right (by decide) (show d + 1 ≤ 3 by omega))
      refine ⟨d + 1, q, _, by omega, hF, hN, ⟨q1, q2⟩, q3, q4, c1, ?_, ?_, ?_, ?_, fun i hi => ?_⟩
      · by_cases z : q - (p + (d + 1)) = 0
        · right
          have : q = p + (d + 1) := by omega
          rw [this]; exact hN
        · left; rw [if_neg z]
      · rw [c2.2]; exact a3
      · rw [ex]; exact nI_nm1 (by omega)
      · rw [c2.1]; exact a2
      · rw [c2.2]; exact a4 i hi
    by_cases c1 : Fg b n (p + 1)
    · by_cases c2 : Fg b n (p + 2)
      · have hF : ∀ k, k < 3 → Fg b n (p + k) := fun k hk => by
          rcases (show k = 0 ∨ k = 1 ∨ k = 2 by omega) with rfl | rfl | rfl
          · exact c0
          · exact c1
          · exact c2
        by_cases c3 : Fg b n (p + 3)
        · right; left
          refine ⟨hF, c3, ?_⟩
          obtain ⟨a1, -, -, -⟩ := h.digs hT ho hg 2 (by omega) hF
          have hl := Fg_lt c3
          refine ⟨by omega, a1.2.2, Or.inl ⟨hl, fun z => ?_⟩⟩
          have hd : ¬ b 53 (p + 3) < 48 ∧ ¬ 57 < b 53 (p + 3) := by
            unfold Fg at c3
            rw [byT_53 hT hl] at c3
            exact c3
          obtain ⟨d1, d2⟩ := dig_ne hd
          have z2 := a1.ok.mp z
          rw [if_neg d1, if_neg ho, if_neg d2, if_neg (by decide)] at z2
          exact z2.2 rfl
        · exact Or.inr (Or.inr (fin 2 (by omega) hF c3))
      · exact Or.inr (Or.inr (fin 1 (by omega) (fun k hk => by
          rcases (show k = 0 ∨ k = 1 by omega) with rfl | rfl
          · exact c0
          · exact c1) c2))
    · exact Or.inr (Or.inr (fin 0 (by omega) (fun k hk => by
        have : k = 0 := by omega
        rw [this]; exact c0) c1))
  · left
    refine ⟨c0, hp, h.2.2, ?_⟩
    rcases Nat.lt_or_ge p n with z | z
    · refine Or.inl ⟨z, fun q => ?_⟩
      have q2 := h.ok.mp q
      rw [byT_53 hT z] at h32
      rw [if_neg h32, if_neg ho] at q2
      by_cases c : b 53 p = 59
      · rw [if_pos c] at q2; omega
      · rw [if_neg c] at q2
        exact c0 (by unfold Fg; rw [byT_53 hT z]; exact q2.1)
    · have : p = n := by omega
      refine Or.inr ⟨this, ?_⟩
      rw [← this, h.1.1]; exact ho
end NUM
