/-! the text: the machine's state at a place -/
def GS (b : Mem) (p : Nat) (o : Int32) (g f w : Nat) : Prop := (prM b p 52 5 = o ∧ prM b p 52 6 = nI g ∧ prM b p 52 7 = nI f ∧ prM b p 52 4 = nI w) ∧ (g ≤ 3 ∧ f ≤ 3 ∧ w ≤ 120) ∧ ∀ k, k < p → okT b k
theorem prM_s (b : Mem) (p : Nat) : prM b (p + 1) = tcX (prM b p) (b 53 p) := rfl
section GHOST
variable {b : Mem} {p g f w : Nat} {o : Int32}
theorem GS.x (h : GS b p o g f w) (hk : okT b p) : prM b (p + 1) = if b 53 p = 32 then up2 (prM b p) 52 7 0 else if o = 0 then opM (prM b p) (b 53 p) else if b 53 p = 59 then clM (prM b p) w else fgM (prM b p) w g (b 53 p - 48) := by
  obtain ⟨⟨h1, h2, h3, h4⟩, ⟨h5, h6, h7⟩, h8⟩ := h
  rw [prM_s]
  unfold tcX tcM
  rw [if_pos (show tcB (prM b p) (b 53 p) = true from hk), h1, h2, h4, nI_clamp (by omega), nI_clamp (by omega)]
theorem GS.ok (h : GS b p o g f w) : okT b p ↔ (if b 53 p = 32 then True else if o = 0 then ¬ nOf (b 53 p) = 0 else if b 53 p = 59 then g = nOf o else (¬ b 53 p < 48 ∧ ¬ 57 < b 53 p) ∧ (if f = 0 then ¬ g = nOf o else ¬ f = 3)) := by
  obtain ⟨⟨h1, h2, h3, h4⟩, ⟨h5, h6, h7⟩, h8⟩ := h
  have hno := nOf_le o
  unfold okT tcB figB
  rw [h1, h2, h3]
  by_cases c1 : b 53 p = 32
  · rw [if_pos c1, if_pos c1]; simp
  · rw [if_neg c1, if_neg c1]
    by_cases c2 : o = 0
    · rw [if_pos c2, if_pos c2]; simp
    · rw [if_neg c2, if_neg c2]
      by_cases c3 : b 53 p = 59
      · rw [if_pos c3, if_pos c3, decide_eq_true_eq, nI_eq (by omega) (by omega)]
      · rw [if_neg c3, if_neg c3, Bool.and_eq_true, decide_eq_true_eq]
        refine and_congr Iff.rfl ?_
        by_cases c4 : f = 0
        · rw [if_pos c4, if_pos (by rw [c4, nI_0]), decide_eq_true_eq, nI_eq (by omega) (by omega)]
        · rw [if_neg c4, if_neg (fun z => c4 ((nI0 (by omega)).mp z)), decide_eq_true_eq]
          rw [show (3 : Int32) = nI 3 from rfl, nI_eq (by omega) (by decide)]
theorem GS.all (h : GS b p o g f w) (hk : okT b p) : ∀ k, k < p + 1 → okT b k := fun k hk2 => by
  rcases Nat.lt_or_ge k p with q | q
  · exact h.2.2 k q
  · have : k = p := by omega
    rw [this]; exact hk
/-- rows of the orders, kept -/
def Kr (b : Mem) (p q : Nat) : Prop := prM b q 54 = prM b p 54 ∧ prM b q 55 = prM b p 55
theorem GS.blank (h : GS b p o g f w) (hc : b 53 p = 32) : GS b (p + 1) o g 0 w ∧ Kr b p (p + 1) := by
  have hk : okT b p := h.ok.mpr (by rw [if_pos hc]; trivial)
  have e := h.x hk
  rw [if_pos hc] at e
  have ha := h.all hk
  obtain ⟨⟨h1, h2, h3, h4⟩, ⟨h5, h6, h7⟩, h8⟩ := h
  refine ⟨⟨⟨?_, ?_, ?_, ?_⟩, ⟨h5, by omega, h7⟩, ha⟩, ?_, ?_⟩
  · rw [e, u2k _ _ (by decide)]; exact h1
  · rw [e, u2k _ _ (by decide)]; exact h2
  · rw [e, u2s, nI_0]
  · rw [e, u2k _ _ (by decide)]; exact h4
  · rw [e, u2c _ _ (by decide)]
  · rw [e, u2c _ _ (by decide)]
theorem GS.letter (h : GS b p 0 g f w) (hc : ¬ b 53 p = 32) (hn : ¬ nOf (b 53 p) = 0) : GS b (p + 1) (b 53 p) 0 0 w ∧ Kr b p (p + 1) := by
  have hk : okT b p := h.ok.mpr (by rw [if_neg hc, if_pos rfl]; exact hn)
  have e := h.x hk
  rw [if_neg hc, if_pos rfl] at e
  have ha := h.all hk
  obtain ⟨⟨h1, h2, h3, h4⟩, ⟨h5, h6, h7⟩, h8⟩ := h
  unfold opM at e
  refine ⟨⟨⟨?_, ?_, ?_, ?_⟩, ⟨by omega, by omega, h7⟩, ha⟩, ?_, ?_⟩
  · rw [e, u2k _ _ (by decide), u2k _ _ (by decide), u2s]
  · rw [e, u2k _ _ (by decide), u2s, nI_0]
  · rw [e, u2s, nI_0]
  · rw [e, u2k _ _ (by decide), u2k _ _ (by decide), u2k _ _ (by decide)]; exact h4
  · rw [e, u2c _ _ (by decide), u2c _ _ (by decide), u2c _ _ (by decide)]
  · rw [e, u2c _ _ (by decide), u2c _ _ (by decide), u2c _ _ (by decide)]
theorem GS.close (h : GS b p o g f w) (ho : ¬ o = 0) (hc : b 53 p = 59) (hg : g = nOf o) (hw : w < 120) : GS b (p + 1) 0 g f (w + 1) ∧ prM b (p + 1) 54 = upd (prM b p 54) w o ∧ prM b (p + 1) 55 = prM b p 55 := by
  have h32 : ¬ b 53 p = 32 := by rw [hc]; decide
  have hk : okT b p := h.ok.mpr (by rw [if_neg h32, if_neg ho, if_pos hc]; exact hg)
  have e := h.x hk
  rw [if_neg h32, if_neg ho, if_pos hc] at e
  have ha := h.all hk
  obtain ⟨⟨h1, h2, h3, h4⟩, ⟨h5, h6, h7⟩, h8⟩ := h
  unfold clM at e
  rw [h1] at e
  refine ⟨⟨⟨?_, ?_, ?_, ?_⟩, ⟨h5, h6, by omega⟩, ha⟩, ?_, ?_⟩
  · rw [e, u2s]
  · rw [e, u2k _ _ (by decide), u2k _ _ (by decide), u2c _ _ (by decide)]; exact h2
  · rw [e, u2k _ _ (by decide), u2k _ _ (by decide), u2c _ _ (by decide)]; exact h3
  · rw [e, u2k _ _ (by decide), u2s, nI_1]
  · rw [e, u2c _ _ (by decide), u2c _ _ (by decide)]
    simp [up2, up1]
  · rw [e, u2c _ _ (by decide), u2c _ _ (by decide), u2c _ _ (by decide)]
theorem dig_ne {c : Int32} (h : ¬ c < 48 ∧ ¬ 57 < c) : ¬ c = 32 ∧ ¬ c = 59 := by
  constructor
  · rintro rfl; exact h.1 (by decide)
  · rintro rfl; exact h.2 (by decide)
theorem GS.dig1 (h : GS b p o g 0 w) (ho : ¬ o = 0) (hc : ¬ b 53 p < 48 ∧ ¬ 57 < b 53 p) (hg : g < nOf o) : GS b (p + 1) o (g + 1) 1 w ∧ prM b (p + 1) 54 = prM b p 54 ∧ prM b (p + 1) 55 = upd (prM b p 55) (w * 3 + g) (10 * 0 + (b 53 p - 48)) := by
  obtain ⟨d1, d2⟩ := dig_ne hc
  have hno := nOf_le o
  have hk : okT b p := h.ok.mpr (by rw [if_neg d1, if_neg ho, if_neg d2, if_pos rfl]; exact ⟨hc, by omega⟩)
  have e := h.x hk
  rw [if_neg d1, if_neg ho, if_neg d2] at e
  have ha := h.all hk
  obtain ⟨⟨h1, h2, h3, h4⟩, ⟨h5, h6, h7⟩, h8⟩ := h
  have h30 : prM b p 52 7 = 0 := by rw [h3, nI_0]
  have hfig : figB (prM b p) = true := by
    unfold figB
    rw [if_pos h30, h1, h2, decide_eq_true_eq, nI_eq (by omega) (by omega)]; omega
  unfold fgM fg2 fg1 at e
  rw [if_pos hfig, if_pos h30] at e
  have r1 : ∀ i, i ≠ 7 → prM b (p + 1) 52 i = up2 (prM b p) 52 6 (nI g + 1) 52 i := fun i hi => by
    rw [e, u2c _ _ (by decide), u2k _ _ hi, u2c _ _ (by decide)]
  refine ⟨⟨⟨?_, ?_, ?_, ?_⟩, ⟨by omega, by omega, h7⟩, ha⟩, ?_, ?_⟩
  · rw [r1 5 (by decide), u2k _ _ (by decide)]; exact h1
  · rw [r1 6 (by decide), u2s, nI_1]
  · rw [e, u2c _ _ (by decide), u2s, u2c _ _ (by decide), u2k _ _ (by decide), h30]; rfl
  · rw [r1 4 (by decide), u2k _ _ (by decide)]; exact h4
  · rw [e, u2c _ _ (by decide), u2c _ _ (by decide), u2c _ _ (by decide), u2c _ _ (by decide)]
  · rw [e]
    funext i
    by_cases c : i = w * 3 + g
    · subst c
      rw [u2s, u2s]
      simp [upd]
    · rw [u2k _ _ c, u2c _ _ (by decide), u2k _ _ c, u2c _ _ (by decide)]
      simp [upd, c]
theorem GS.dig2 (h : GS b p o (g + 1) f w) (ho : ¬ o = 0) (hc : ¬ b 53 p < 48 ∧ ¬ 57 < b 53 p) (hf : 0 < f) (hf3 : f < 3) : GS b (p + 1) o (g + 1) (f + 1) w ∧ prM b (p + 1) 54 = prM b p 54 ∧ prM b (p + 1) 55 = upd (prM b p 55) (w * 3 + g) (10 * prM b p 55 (w * 3 + g) + (b 53 p - 48)) := by
  obtain ⟨d1, d2⟩ := dig_ne hc
  have hno := nOf_le o
  have hk : okT b p := h.ok.mpr (by rw [if_neg d1, if_neg ho, if_neg d2, if_neg (by omega)]; exact ⟨hc, by omega⟩)
  have e := h.x hk
  rw [if_neg d1, if_neg ho, if_neg d2] at e
  have ha := h.all hk
  obtain ⟨⟨h1, h2, h3, h4⟩, ⟨h5, h6, h7⟩, h8⟩ := h
  have h30 : ¬ prM b p 52 7 = 0 := by rw [h3]; exact fun z => by have := (nI0 (by omega)).mp z; omega
  have hfig : figB (prM b p) = true := by
    unfold figB
    rw [if_neg h30, h3, decide_eq_true_eq, show (3 : Int32) = nI 3 from rfl, nI_eq (by omega) (by omega)]; omega
  unfold fgM fg2 at e
  rw [if_pos hfig, if_neg h30, Nat.add_sub_cancel] at e
  have r1 : ∀ i, i ≠ 7 → prM b (p + 1) 52 i = prM b p 52 i := fun i hi => by
    rw [e, u2c _ _ (by decide), u2k _ _ hi]
  refine ⟨⟨⟨?_, ?_, ?_, ?_⟩, ⟨h5, by omega, h7⟩, ha⟩, ?_, ?_⟩
  · rw [r1 5 (by decide)]; exact h1
  · rw [r1 6 (by decide)]; exact h2
  · rw [e, u2c _ _ (by decide), u2s, h3, nI_1]
  · rw [r1 4 (by decide)]; exact h4
  · rw [e, u2c _ _ (by decide), u2c _ _ (by decide)]
  · rw [e]
    funext i
    by_cases c : i = w * 3 + g
    · subst c
      rw [u2s]
      simp [upd]
    · rw [u2k _ _ c, u2c _ _ (by decide)]
      simp [upd, c]
end GHOST
