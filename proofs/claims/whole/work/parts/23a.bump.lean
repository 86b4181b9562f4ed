/-! the fewest bumps, as a table of whole numbers (1000: none) -/
def tU (T : Int → Nat) (e : Int) (x : Nat) : Int → Nat := fun z => if z = e then (if x < T z then x else T z) else T z
def tB (T : Int → Nat) (h : Int) (sp ph : Nat) : Nat → Int → Nat
  | 0 => T
  | k + 1 => if 2 * (eI h k).natAbs ≤ ph then tU (tB T h sp ph k) (eI h k) (sp + k) else tB T h sp ph k
def tQ (T F : Int → Nat) (s : Int) (r ph k : Nat) : Int → Nat := if F ((k : Int) - 7) < 1000 then tB T ((k : Int) - 7 + s) (F ((k : Int) - 7)) ph (min r ((k : Int) - 7 + s).natAbs + 1) else T
def tP (F : Int → Nat) (s : Int) (r ph : Nat) : Nat → Int → Nat
  | 0 => fun _ => 1000
  | k + 1 => tQ (tP F s r ph k) F s r ph k
def stp (v : View) (l k : Nat) : Int := if k = 0 then 0 else if v 2 l k = 1 then 1 else -1
def tF (v : View) (l : Nat) : Nat → Int → Nat
  | 0 => fun z => if z = 0 then 0 else 1000
  | k + 1 => tP (tF v l k) (stp v l k) (roN v l k) (phN v) 15
def bpV (v : View) (l : Nat) : Int32 := if tF v l (rn v l) 0 < 1000 then nI (tF v l (rn v l) 0) else -1
def Bd (T : Int → Nat) (B : Nat) : Prop := ∀ z, T z < 1000 → T z ≤ B
theorem tU_b {T : Int → Nat} {B x : Nat} {e : Int} (h : Bd T B) (hx : x ≤ B) : Bd (tU T e x) B := by
  intro z hz
  unfold tU at *
  split at hz
  · rename_i c
    rw [if_pos c]
    split at hz
    · rename_i c2; rw [if_pos c2]; exact hx
    · rename_i c2; rw [if_neg c2]; exact h z hz
  · rename_i c
    rw [if_neg c]; exact h z hz
theorem tB_b {T : Int → Nat} {B sp ph : Nat} {h : Int} (hT : Bd T B) : ∀ k, sp + k ≤ B + 1 → Bd (tB T h sp ph k) B := by
  intro k
  induction k with
  | zero => intro _; exact hT
  | succ k ih =>
    intro hk
    simp only [tB]
    split
    · exact tU_b (ih (by omega)) (by omega)
    · exact ih (by omega)
theorem tP_b {F : Int → Nat} {s : Int} {r ph B : Nat} (hs : -1 ≤ s ∧ s ≤ 1) (hF : Bd F B) : ∀ k, k ≤ 15 → Bd (tP F s r ph k) (B + 8) := by
  intro k
  induction k with
  | zero => intro _ z hz; simp only [tP] at hz; omega
  | succ k ih =>
    intro hk
    simp only [tP, tQ]
    split
    · rename_i c
      have := hF _ c
      exact tB_b (ih (by omega)) _ (by omega)
    · exact ih (by omega)
theorem stp_b (v : View) (l k : Nat) : -1 ≤ stp v l k ∧ stp v l k ≤ 1 := by unfold stp; split <;> (try split) <;> omega
theorem tF_b (v : View) (l : Nat) : ∀ k, Bd (tF v l k) (8 * k) := by
  intro k
  induction k with
  | zero =>
    intro z hz
    simp only [tF] at *
    split at hz
    · rename_i c; rw [if_pos c]; omega
    · omega
  | succ k ih => exact tP_b (stp_b v l k) ih 15 (by omega)
def cvI (n : Nat) : Int32 := if n < 1000 then nI n else 1000000
theorem cvI_lt (n : Nat) : cvI n < 1000000 ↔ n < 1000 := by
  unfold cvI
  split
  · rename_i c
    exact ⟨fun _ => c, fun _ => nI_lt (b := 1000000) (by omega) (by decide)⟩
  · rename_i c
    exact ⟨fun q => absurd q Int32.lt_irrefl, fun q => absurd q c⟩
theorem minI_nI {a c : Nat} (ha : a < 2000000) (hc : c < 2000000) : minI (nI a) (nI c) = nI (if c < a then c else a) := by
  unfold minI
  by_cases h : c < a
  · rw [if_pos (nI_lt h (by omega)), if_pos h]
  · rw [if_neg (nI_nlt (by omega) (by omega)), if_neg h]
theorem minI_cv {n c : Nat} (hc : c < 1000) : minI (cvI n) (nI c) = cvI (if c < n then c else n) := by
  unfold cvI
  by_cases h : n < 1000
  · rw [if_pos h, minI_nI (by omega) (by omega)]
    by_cases q : c < n
    · simp only [if_pos q, if_pos hc]
    · simp only [if_neg q, if_pos h]
  · rw [if_neg h, if_pos (show c < n by omega), if_pos hc, show (1000000 : Int32) = nI 1000000 from rfl, minI_nI (by omega) (by omega), if_pos (by omega)]
def Rl (m : Mem) (c : Nat) (T : Int → Nat) : Prop := ∀ a : Nat, a < 15 → m c a = cvI (T ((a : Int) - 7))
theorem pbM_rl {m : Mem} {T : Int → Nat} {h : Int} {sp ph : Nat} (hR : Rl m 68 T) (hh : -8 ≤ h ∧ h ≤ 8) (hsp : sp + 9 < 1000) (hp : ph ≤ 6) : ∀ k, k ≤ h.natAbs + 1 → Rl (pbM m h (nI sp) ph k) 68 (tB T h sp ph k) := by
  intro k
  induction k with
  | zero => intro _; exact hR
  | succ k ih =>
    intro hk a ha
    have i := ih (by omega)
    have he := eI_b hh (show k ≤ h.natAbs by omega)
    simp only [pbM, pbT, tB]
    by_cases c : 2 * (eI h k).natAbs ≤ ph
    · rw [if_pos c, if_pos c]
      have hi : (eI h k + 7).toNat < 15 := by omega
      by_cases ca : a = (eI h k + 7).toNat
      · have ez : (a : Int) - 7 = eI h k := by omega
        rw [← ca, u2s, i a ha, nI_add, minI_cv (by omega)]
        unfold tU
        rw [if_pos ez]
      · rw [u2k _ _ ca, i a ha]
        unfold tU
        rw [if_neg (by omega)]
    · rw [if_neg c, if_neg c]; exact i a ha
theorem psM_rl {m : Mem} {F : Int → Nat} {s : Int} {r ph B : Nat} (hF : Rl m 67 F) (hT : Rl m 68 (fun _ => 1000)) (hB : Bd F B) (hB2 : B + 9 < 1000) (hs : -1 ≤ s ∧ s ≤ 1) (hp : ph ≤ 6) : ∀ k, k ≤ 15 → Rl (psM m s r ph k) 68 (tP F s r ph k) := by
  intro k
  induction k with
  | zero => intro _; exact hT
  | succ k ih =>
    intro hk
    have i := ih (by omega)
    simp only [psM, psT, tP, tQ]
    have e := hF k (by omega)
    by_cases c : F ((k : Int) - 7) < 1000
    · rw [if_pos c, if_pos (by rw [e]; exact (cvI_lt _).mpr c), e]
      have e2 : cvI (F ((k : Int) - 7)) = nI (F ((k : Int) - 7)) := by unfold cvI; rw [if_pos c]
      rw [e2]
      have := hB _ c
      exact pbM_rl i (by omega) (by omega) hp _ (by omega)
    · rw [if_neg c, if_neg (by rw [e]; exact fun q => c ((cvI_lt _).mp q))]; exact i
theorem ffM_rl {b : Mem} {v : View} {l : Nat} (hV : VC v) (hl : l < nl v) : ∀ k, k ≤ rn v l → Rl (ffM b v l k) 67 (tF v l k) := by
  intro k
  have hr8 := hV.1.r8 hl
  induction k with
  | zero =>
    intro _ a ha
    simp only [ffM, tF]
    by_cases c : a = 7
    · subst c; rw [u2s]; rfl
    · rw [u2k _ _ c, if_neg (by omega)]
      unfold fillM
      rw [u1s]
      simp only [if_pos ha]
      rfl
  | succ k ih =>
    intro hk a ha
    have i := ih (by omega)
    have hts : tsI (v 2 l k) = stp v l k := by
      unfold tsI stp
      by_cases z : k = 0
      · rw [if_pos z, z, hV.2 l hl]; decide
      · rw [if_neg z]
        rcases (hV.1.2.2.1 l hl).2.2.2.2 k (by omega) (by omega) with e | e
        · rw [e]; decide
        · rw [e]; decide
    have hfl : Rl (fillM (ffM b v l k) 68 15 1000000) 67 (tF v l k) := fun a ha => by rw [fillM_c _ _ _ _ (by decide)]; exact i a ha
    have hf2 : Rl (fillM (ffM b v l k) 68 15 1000000) 68 (fun _ => 1000) := fun a ha => by
      unfold fillM; rw [u1s]; simp only [if_pos ha]; rfl
    have := psM_rl (r := roN v l k) hfl hf2 (tF_b v l k) (by omega) (stp_b v l k) hV.1.ph.2 15 (Nat.le_refl _) a ha
    simp only [ffM, ffU, tF]
    rw [u1s, sb_cpy0 ha]
    unfold ffT
    rw [hts]; exact this
theorem bump_pure {b : Mem} {v : View} {l : Nat} (hV : VC v) (hl : l < nl v) : bumpS (ffM b v l (rn v l)) = bpV v l := by
  have h := ffM_rl (b := b) hV hl (rn v l) (Nat.le_refl _) 7 (by decide)
  have h : ffM b v l (rn v l) 67 7 = cvI (tF v l (rn v l) 0) := h
  unfold bumpS bpV
  rw [h]
  by_cases c : tF v l (rn v l) 0 < 1000
  · rw [if_pos ((cvI_lt _).mpr c), if_pos c]; unfold cvI; rw [if_pos c]
  · rw [if_neg (fun q => c ((cvI_lt _).mp q)), if_neg c]
noncomputable def buR (v : View) (l : Int32) : Int32 := cl (okL v l) (bpV v l.toNatClampNeg) (-2)
noncomputable def buC (v : View) (l : Int32) : Int32 := cl (okL v l) 0 (-2)
theorem GP.bump {b : Mem} (h : CI b) (v : View) (l k : Nat) : GP b 0 (ffM b v l k) := GP.side h (fun j hj => ffM_c _ _ _ _ (by omega) (by omega)) ⟨by rw [ffM_c _ _ _ _ (by decide) (by decide)]; exact h.2.1.2.1, by rw [ffM_c _ _ _ _ (by decide) (by decide)]; exact h.2.1.2.2⟩
