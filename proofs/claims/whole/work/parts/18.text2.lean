/-! SnakedBus$Text: reading whole, doing the orders -/
def tcX (m : Mem) (c : Int32) : Mem := tcM m (m 52 4).toNatClampNeg (m 52 6).toNatClampNeg c
def pr0 (b : Mem) : Mem := up2 (up2 b 52 4 0) 52 5 0
def prM (b : Mem) : Nat → Mem
  | 0 => pr0 b
  | k + 1 => tcX (prM b k) (b 53 k)
def PI (m : Mem) (i : Nat) : Prop := ∃ w g f, m 52 4 = nI w ∧ m 52 6 = nI g ∧ m 52 7 = nI f ∧ f ≤ 3 ∧ g ≤ 3 ∧ 3 * w ≤ i ∧ (¬ m 52 5 = 0 → g ≤ nOf (m 52 5) ∧ 1 ≤ nOf (m 52 5) ∧ (0 < f → 1 ≤ g) ∧ 3 * w + 1 + min 1 g ≤ i)
def TI (b : Mem) : Prop := ∃ g f, b 52 6 = nI g ∧ b 52 7 = nI f ∧ f ≤ 3 ∧ g ≤ 3
theorem tcX_c (m : Mem) (c : Int32) {j : Nat} (h1 : j ≠ 52) (h2 : j ≠ 54) (h3 : j ≠ 55) : tcX m c j = m j := by
  simp only [tcX, tcM, opM, clM, fgM, fg1, fg2]
  (repeat' split) <;> simp only [u2c _ _ h1, u2c _ _ h2, u2c _ _ h3]
theorem tcX_3 (m : Mem) (c : Int32) : tcX m c 52 3 = m 52 3 := by
  simp only [tcX, tcM, opM, clM, fgM, fg1, fg2]
  (repeat' split) <;> simp [up2, up1, upd]
theorem prM_c (b : Mem) (k : Nat) {j : Nat} (h1 : j ≠ 52) (h2 : j ≠ 54) (h3 : j ≠ 55) : prM b k j = b j := by
  induction k with
  | zero => simp only [prM, pr0]; rw [u2c _ _ h1, u2c _ _ h1]
  | succ k ih => simp only [prM]; rw [tcX_c _ _ h1 h2 h3, ih]
theorem prM_3 (b : Mem) (k : Nat) : prM b k 52 3 = b 52 3 := by
  induction k with
  | zero => simp [prM, pr0, up2, up1, upd]
  | succ k ih => simp only [prM]; rw [tcX_3, ih]
theorem nI_inj {a b : Nat} (ha : a < 1000) (hb : b < 1000) (h : nI a = nI b) : a = b := (nI_eq (by omega) (by omega)).mp h
theorem PI_step {m : Mem} {i : Nat} {c : Int32} (hi : i ≤ 120) (h : PI m i) (ht : tcB m c = true) : PI (tcX m c) (i + 1) := by
  obtain ⟨w, g, f, hw, hg, hf, f3, g3', hwi, hl⟩ := h
  have ew : (m 52 4).toNatClampNeg = w := by rw [hw]; exact nI_clamp (by omega)
  have eg : (m 52 6).toNatClampNeg = g := by rw [hg]; exact nI_clamp (by omega)
  unfold tcX tcM
  rw [if_pos ht, ew, eg]
  unfold tcB at ht
  by_cases c1 : c = 32
  · rw [if_pos c1]
    refine ⟨w, g, 0, ?_, ?_, ?_, by omega, g3', by omega, ?_⟩
    · simpa [up2, up1, upd] using hw
    · simpa [up2, up1, upd] using hg
    · simp [up2, up1, upd]; rfl
    · intro q
      have q' : ¬ m 52 5 = 0 := by simpa [up2, up1, upd] using q
      have e5 : up2 m 52 7 0 52 5 = m 52 5 := by simp [up2, up1, upd]
      rw [e5]
      obtain ⟨a1, a2, a3, a4⟩ := hl q'
      exact ⟨a1, a2, fun z => absurd z (by omega), by omega⟩
  · rw [if_neg c1] at ht ⊢
    by_cases c2 : m 52 5 = 0
    · rw [if_pos c2] at ht ⊢
      have ht : ¬ nOf c = 0 := by simpa using ht
      refine ⟨w, 0, 0, ?_, ?_, ?_, by omega, by omega, by omega, ?_⟩
      · simpa [opM, up2, up1, upd] using hw
      · simp [opM, up2, up1, upd]; rfl
      · simp [opM, up2, up1, upd]; rfl
      · intro _
        have e5 : opM m c 52 5 = c := by simp [opM, up2, up1, upd]
        rw [e5]
        exact ⟨by omega, by omega, fun z => absurd z (by omega), by simp; omega⟩
    · obtain ⟨a1, a2, a3, a4⟩ := hl c2
      have n3 := nOf_le (m 52 5)
      rw [if_neg c2] at ht ⊢
      by_cases c3 : c = 59
      · rw [if_pos c3] at ht ⊢
        have ht : m 52 6 = nI (nOf (m 52 5)) := by simpa using ht
        rw [hg] at ht
        have := nI_inj (by omega) (by omega) ht
        refine ⟨w + 1, g, f, ?_, ?_, ?_, f3, g3', by omega, fun q => absurd ?_ q⟩
        · simp [clM, up2, up1, upd, nI_1]
        · simpa [clM, up2, up1, upd] using hg
        · simpa [clM, up2, up1, upd] using hf
        · simp [clM, up2, up1, upd]
      · rw [if_neg c3] at ht ⊢
        have hfb : figB m = true := by
          rw [Bool.and_eq_true] at ht; exact ht.2
        unfold fgM
        rw [if_pos hfb]
        unfold figB at hfb
        by_cases c4 : m 52 7 = 0
        · rw [if_pos c4] at hfb ⊢
          have hfb : ¬ m 52 6 = nI (nOf (m 52 5)) := by simpa using hfb
          have hgl : g < nOf (m 52 5) := by
            have : g ≠ nOf (m 52 5) := fun q => hfb (by rw [hg, q])
            omega
          refine ⟨w, g + 1, 1, ?_, ?_, ?_, by omega, by omega, by omega, ?_⟩
          · simpa [fg1, fg2, up2, up1, upd] using hw
          · simp [fg1, fg2, up2, up1, upd, nI_1]
          · simp [fg1, fg2, up2, up1, upd, c4]; rfl
          · intro _
            have e5 : fg2 (fg1 m w g) w g (c - 48) 52 5 = m 52 5 := by simp [fg1, fg2, up2, up1, upd]
            rw [e5]
            exact ⟨by omega, a2, fun _ => by omega, by omega⟩
        · rw [if_neg c4] at hfb ⊢
          have hfb : ¬ m 52 7 = 3 := by simpa using hfb
          have hf0 : 0 < f := Nat.pos_of_ne_zero (fun q => c4 (by rw [hf, q]; rfl))
          have hf2 : f ≠ 3 := fun q => hfb (by rw [hf, q]; rfl)
          refine ⟨w, g, f + 1, ?_, ?_, ?_, by omega, g3', by omega, ?_⟩
          · simpa [fg2, up2, up1, upd] using hw
          · simpa [fg2, up2, up1, upd] using hg
          · simp [fg2, up2, up1, upd, hf, nI_1]
          · intro _
            have e5 : fg2 m w (g - 1) (c - 48) 52 5 = m 52 5 := by simp [fg2, up2, up1, upd]
            rw [e5]
            exact ⟨a1, a2, fun _ => a3 hf0, by omega⟩
theorem PI_all {b : Mem} (hT : TI b) {n : Nat} (hn : n ≤ 120) (hok : ∀ k, k < n → tcB (prM b k) (b 53 k) = true) : ∀ k, k ≤ n → PI (prM b k) k := by
  intro k
  induction k with
  | zero =>
    intro _
    obtain ⟨g, f, hg, hf, f3, g3'⟩ := hT
    refine ⟨0, g, f, ?_, ?_, ?_, f3, g3', by omega, fun q => absurd ?_ q⟩
    · simp [prM, pr0, up2, up1, upd]; rfl
    · simpa [prM, pr0, up2, up1, upd] using hg
    · simpa [prM, pr0, up2, up1, upd] using hf
    · simp [prM, pr0, up2, up1, upd]
  | succ k ih =>
    intro hk
    exact PI_step (by omega) (ih (by omega)) (hok k (by omega))
theorem c_X4_takesP {Z : Zt} {b : Mem} {x : Int32} {i : Nat} (hi : i < 120) (h : PI b i) : Con Z yX4_takes cX4_takes 2 (some .boolean) 2 [.ref (zad Z 52), .int x] b (some (.int (bI (tcB b x = true)))) (tcX b x) := by
  obtain ⟨w, g, f, hw, hg, hf, f3, g3', hwi, hl⟩ := h
  have ew : (b 52 4).toNatClampNeg = w := by rw [hw]; exact nI_clamp (by omega)
  have eg : (b 52 6).toNatClampNeg = g := by rw [hg]; exact nI_clamp (by omega)
  unfold tcX
  rw [ew, eg]
  exact c_X4_takes hw (fun q => by have := (hl q).2.2.2; omega) hg (fun q => (hl q).1) hf f3 (fun q => (hl q).2.2.1)
set_option maxRecDepth 100000 in
set_option maxHeartbeats 4000000 in
theorem c_X4_parse_full {Z : Zt} {b : Mem} {n : Nat} (hm : b 52 3 = nI n) (h120 : n ≤ 120) (hT : TI b) (hok : ∀ k, k < n → tcB (prM b k) (b 53 k) = true) : Con Z yX4_parse cX4_parse 2 (some .int) 3 [.ref (zad Z 52)] b (some (.int (if prM b n 52 5 = 0 ∧ 0 < prM b n 52 4 then -1 else nI n))) (prM b n) := by
  have h3 : ∀ k, prM b k 52 3 = nI n := fun k => by rw [prM_3]; exact hm
  have h53 : ∀ k, prM b k 53 = b 53 := fun k => prM_c b k (by decide) (by decide) (by decide)
  have hPI := PI_all hT (show n ≤ 120 by omega) hok
  refine con_i (by decide) (Nat.le_of_ble_eq_true rfl) rfl (fun X hX hq => ?_)
  have hX : Ok Z X cX4_parse 2 RX4 3 := hX
  show G Z X b 0 [some (.ref (zad Z 52)), none] []
  refine g_aload_0 hX dX4_parse_0 ?_
  refine g_iconst hX 0 dX4_parse_1 (by decide) ?_
  refine pt_X4_orders hX dX4_parse_2 ?_
  refine g_aload_0 hX dX4_parse_5 ?_
  refine g_iconst hX 0 dX4_parse_6 (by decide) ?_
  refine pt_X4_letter hX dX4_parse_7 ?_
  refine g_iconst hX 0 dX4_parse_10 (by decide) ?_
  refine g_istore_1 hX dX4_parse_11 rfl ?_
  refine g_loop (n) (fun k => prM b k) (fun k => [some (.ref (zad Z 52)), some (.int (nI k))]) rfl rfl (fun k hk12 ih12 => ?_) ?_
  · show G Z X (prM b k) 12 ([some (.ref (zad Z 52)), some (.int (nI k))]) _
    refine g_iload_1 hX dX4_parse_12 ?_
    refine g_aload_0 hX dX4_parse_13 ?_
    refine gt_X4_many hX dX4_parse_14 ?_
    refine g_icmp_ge hX 43 dX4_parse_17 (by decide) (fun c17 => ?_) (fun c17 => ?_)
    · exact absurd c17 (not_not_intro (by rw [h3]; exact nI_lt hk12 (by omega)))
    · refine g_aload_0 hX dX4_parse_20 ?_
      refine g_aload_0 hX dX4_parse_21 ?_
      refine gt_X4_bytes hX dX4_parse_22 ?_
      refine g_iload_1 hX dX4_parse_25 ?_
      refine g_cN2r hX mkX5_at nl_X4_41 (c_X5_at (ar_53 Z) (by omega) (by decide)) dX4_parse_26 rfl (by decide) (Nat.le_of_ble_eq_true rfl) ?_
      refine g_top (b 53 k) (by rw [h53]) ?_
      refine g_cV1r hX mkX4_takes ml_X4_45 (c_X4_takesP (by omega) (hPI k (by omega))) (ob_52 Z _) dX4_parse_29 rfl (by decide) (Nat.le_of_ble_eq_true rfl) ?_
      refine g_if_ne hX 37 dX4_parse_32 (by decide) (fun c32 => ?_) (fun c32 => ?_)
      · replace c32 := bI_nz.mp c32
        refine g_iinc_1 hX 1 dX4_parse_37 (by decide) rfl ?_
        refine g_goto hX 12 dX4_parse_40 (by decide) ?_
        exact g_cast ih12 rfl (by simp only [nI_succ]) rfl
      · replace c32 := bI_z.mp c32
        exact absurd c32 (not_not_intro (hok k hk12))
  · show G Z X (prM b (n)) 12 ([some (.ref (zad Z 52)), some (.int (nI (n)))]) _
    refine g_iload_1 hX dX4_parse_12 ?_
    refine g_aload_0 hX dX4_parse_13 ?_
    refine gt_X4_many hX dX4_parse_14 ?_
    refine g_icmp_ge hX 43 dX4_parse_17 (by decide) (fun c17 => ?_) (fun c17 => ?_)
    · refine g_aload_0 hX dX4_parse_43 ?_
      refine gt_X4_letter hX dX4_parse_44 ?_
      refine g_if_ne hX 61 dX4_parse_47 (by decide) (fun c47 => ?_) (fun c47 => ?_)
      · refine g_aload_0 hX dX4_parse_61 ?_
        refine gt_X4_many hX dX4_parse_62 ?_
        exact hq _ _ _ _ dX4_parse_65 (by rfl) (by first | (rw [if_pos ⟨c47, c54⟩]; done) | (rw [if_neg (fun hh => c54 hh.2)]; exact h3 n) | (rw [if_neg (fun hh => c47 hh.1)]; exact h3 n))
      · refine g_aload_0 hX dX4_parse_50 ?_
        refine gt_X4_orders hX dX4_parse_51 ?_
        refine g_if_le hX 61 dX4_parse_54 (by decide) (fun c54 => ?_) (fun c54 => ?_)
        · refine g_aload_0 hX dX4_parse_61 ?_
          refine gt_X4_many hX dX4_parse_62 ?_
          exact hq _ _ _ _ dX4_parse_65 (by rfl) (by first | (rw [if_pos ⟨c47, c54⟩]; done) | (rw [if_neg (fun hh => c54 hh.2)]; exact h3 n) | (rw [if_neg (fun hh => c47 hh.1)]; exact h3 n))
        · refine g_iconst hX (-1) dX4_parse_57 (by decide) ?_
          refine g_goto hX 65 dX4_parse_58 (by decide) ?_
          exact hq _ _ _ _ dX4_parse_65 (by rfl) (by first | (rw [if_pos ⟨c47, c54⟩]; done) | (rw [if_neg (fun hh => c54 hh.2)]; exact h3 n) | (rw [if_neg (fun hh => c47 hh.1)]; exact h3 n))
    · exact absurd c17 (by rw [h3]; exact Int32.lt_irrefl)
set_option maxRecDepth 100000 in
set_option maxHeartbeats 4000000 in
theorem c_X4_parse_fail {Z : Zt} {b : Mem} {n m : Nat} (hm : b 52 3 = nI m) (h120 : m ≤ 120) (hnm : n < m) (hT : TI b) (hok : ∀ k, k < n → tcB (prM b k) (b 53 k) = true) (hbad : ¬ tcB (prM b n) (b 53 n) = true) : Con Z yX4_parse cX4_parse 2 (some .int) 3 [.ref (zad Z 52)] b (some (.int (nI n))) (prM b n) := by
  have h3 : ∀ k, prM b k 52 3 = nI m := fun k => by rw [prM_3]; exact hm
  have h53 : ∀ k, prM b k 53 = b 53 := fun k => prM_c b k (by decide) (by decide) (by decide)
  have hPI := PI_all hT (show n ≤ 120 by omega) hok
  refine con_i (by decide) (Nat.le_of_ble_eq_true rfl) rfl (fun X hX hq => ?_)
  have hX : Ok Z X cX4_parse 2 RX4 3 := hX
  show G Z X b 0 [some (.ref (zad Z 52)), none] []
  refine g_aload_0 hX dX4_parse_0 ?_
  refine g_iconst hX 0 dX4_parse_1 (by decide) ?_
  refine pt_X4_orders hX dX4_parse_2 ?_
  refine g_aload_0 hX dX4_parse_5 ?_
  refine g_iconst hX 0 dX4_parse_6 (by decide) ?_
  refine pt_X4_letter hX dX4_parse_7 ?_
  refine g_iconst hX 0 dX4_parse_10 (by decide) ?_
  refine g_istore_1 hX dX4_parse_11 rfl ?_
  refine g_loop (n) (fun k => prM b k) (fun k => [some (.ref (zad Z 52)), some (.int (nI k))]) rfl rfl (fun k hk12 ih12 => ?_) ?_
  · show G Z X (prM b k) 12 ([some (.ref (zad Z 52)), some (.int (nI k))]) _
    refine g_iload_1 hX dX4_parse_12 ?_
    refine g_aload_0 hX dX4_parse_13 ?_
    refine gt_X4_many hX dX4_parse_14 ?_
    refine g_icmp_ge hX 43 dX4_parse_17 (by decide) (fun c17 => ?_) (fun c17 => ?_)
    · exact absurd c17 (not_not_intro (by rw [h3]; exact nI_lt (by omega) (by omega)))
    · refine g_aload_0 hX dX4_parse_20 ?_
      refine g_aload_0 hX dX4_parse_21 ?_
      refine gt_X4_bytes hX dX4_parse_22 ?_
      refine g_iload_1 hX dX4_parse_25 ?_
      refine g_cN2r hX mkX5_at nl_X4_41 (c_X5_at (ar_53 Z) (by omega) (by decide)) dX4_parse_26 rfl (by decide) (Nat.le_of_ble_eq_true rfl) ?_
      refine g_top (b 53 k) (by rw [h53]) ?_
      refine g_cV1r hX mkX4_takes ml_X4_45 (c_X4_takesP (by omega) (hPI k (by omega))) (ob_52 Z _) dX4_parse_29 rfl (by decide) (Nat.le_of_ble_eq_true rfl) ?_
      refine g_if_ne hX 37 dX4_parse_32 (by decide) (fun c32 => ?_) (fun c32 => ?_)
      · replace c32 := bI_nz.mp c32
        refine g_iinc_1 hX 1 dX4_parse_37 (by decide) rfl ?_
        refine g_goto hX 12 dX4_parse_40 (by decide) ?_
        exact g_cast ih12 rfl (by simp only [nI_succ]) rfl
      · replace c32 := bI_z.mp c32
        exact absurd c32 (not_not_intro (hok k hk12))
  · show G Z X (prM b (n)) 12 ([some (.ref (zad Z 52)), some (.int (nI (n)))]) _
    refine g_iload_1 hX dX4_parse_12 ?_
    refine g_aload_0 hX dX4_parse_13 ?_
    refine gt_X4_many hX dX4_parse_14 ?_
    refine g_icmp_ge hX 43 dX4_parse_17 (by decide) (fun c17 => ?_) (fun c17 => ?_)
    · exact absurd c17 (not_not_intro (by rw [h3]; exact nI_lt (by omega) (by omega)))
    · refine g_aload_0 hX dX4_parse_20 ?_
      refine g_aload_0 hX dX4_parse_21 ?_
      refine gt_X4_bytes hX dX4_parse_22 ?_
      refine g_iload_1 hX dX4_parse_25 ?_
      refine g_cN2r hX mkX5_at nl_X4_41 (c_X5_at (ar_53 Z) (by omega) (by decide)) dX4_parse_26 rfl (by decide) (Nat.le_of_ble_eq_true rfl) ?_
      refine g_top (b 53 n) (by rw [h53]) ?_
      refine g_cV1r hX mkX4_takes ml_X4_45 (c_X4_takesP (by omega) (hPI n (by omega))) (ob_52 Z _) dX4_parse_29 rfl (by decide) (Nat.le_of_ble_eq_true rfl) ?_
      refine g_if_ne hX 37 dX4_parse_32 (by decide) (fun c32 => ?_) (fun c32 => ?_)
      · replace c32 := bI_nz.mp c32
        exact absurd c32 (hbad)
      · replace c32 := bI_z.mp c32
        refine g_iload_1 hX dX4_parse_35 ?_
        exact hq _ _ _ _ dX4_parse_36 (by unfold tcX tcM; rw [if_neg hbad]) (by rfl)
def aoR (b : Mem) (o : Nat) (c x y z : Int32) : Int32 := if c = 108 then addLineR (b o 6) x else if c = 103 then addRunR (b o 6) (b (o + 1) x.toNatClampNeg) x y z else if c = 107 then addPocketR (b o 7) x y else if c = 115 then setR (b (o + 6) x.toNatClampNeg) x y else if c = 119 then wideR (b o 7) (b (o + 4) x.toNatClampNeg) x y else -2
def aoM (b : Mem) (o : Nat) (c x y z : Int32) : Mem := if c = 108 then addLineM b o x else if c = 103 then addRunM b o x y z else if c = 107 then addPocketM b o x y else if c = 115 then setM b o x y else if c = 119 then wideM b o x y else b
theorem sw5_all {c : Int32} (h : (103 : Int) ≠ c.toInt ∧ (107 : Int) ≠ c.toInt ∧ (108 : Int) ≠ c.toInt ∧ (115 : Int) ≠ c.toInt ∧ (119 : Int) ≠ c.toInt) : ¬ c = 108 ∧ ¬ c = 103 ∧ ¬ c = 107 ∧ ¬ c = 115 ∧ ¬ c = 119 := by
  obtain ⟨h1, h2, h3, h4, h5⟩ := h
  refine ⟨?_, ?_, ?_, ?_, ?_⟩ <;> rintro rfl
  · exact h3 rfl
  · exact h1 rfl
  · exact h2 rfl
  · exact h4 rfl
  · exact h5 rfl
set_option maxRecDepth 100000 in
set_option maxHeartbeats 4000000 in
theorem c_X4_applyOne {Z : Zt} {b : Mem} {o k : Nat} (h_o : isBus Z o) (hV : Val (cv b o)) (hk : k < 40) : Con Z yX4_applyOne cX4_applyOne 6 (some .int) 3 [.ref (zad Z 52), .ref (zad Z o), .int (nI k)] b (some (.int (aoR b o (b 54 k) (b 55 (k * 3 + 0)) (b 55 (k * 3 + 1)) (b 55 (k * 3 + 2))))) (aoM b o (b 54 k) (b 55 (k * 3 + 0)) (b 55 (k * 3 + 1)) (b 55 (k * 3 + 2))) := by
  refine con_i (by decide) (Nat.le_of_ble_eq_true rfl) rfl (fun X hX hq => ?_)
  have hX : Ok Z X cX4_applyOne 6 RX4 3 := hX
  show G Z X b 0 [some (.ref (zad Z 52)), some (.ref (zad Z o)), some (.int (nI k)), none, none, none] []
  refine g_aload_0 hX dX4_applyOne_0 ?_
  refine gt_X4_numbers hX dX4_applyOne_1 ?_
  refine g_iload_2 hX dX4_applyOne_4 ?_
  refine g_iconst hX 0 dX4_applyOne_5 (by decide) ?_
  refine g_iconst hX 3 dX4_applyOne_6 (by decide) ?_
  refine g_cN3r hX mkX5_cell nl_X4_67 (c_X5_cell (k := 0) (w := 3) (by decide) (by decide)) dX4_applyOne_7 rfl (by decide) (Nat.le_of_ble_eq_true rfl) ?_
  refine g_cN2r hX mkX5_at nl_X4_41 (c_X5_at (ar_55 Z) (by omega) (by decide)) dX4_applyOne_10 rfl (by decide) (Nat.le_of_ble_eq_true rfl) ?_
  refine g_istore_3 hX dX4_applyOne_13 rfl ?_
  refine g_aload_0 hX dX4_applyOne_14 ?_
  refine gt_X4_numbers hX dX4_applyOne_15 ?_
  refine g_iload_2 hX dX4_applyOne_18 ?_
  refine g_iconst hX 1 dX4_applyOne_19 (by decide) ?_
  refine g_iconst hX 3 dX4_applyOne_20 (by decide) ?_
  refine g_cN3r hX mkX5_cell nl_X4_67 (c_X5_cell (k := 1) (w := 3) (by decide) (by decide)) dX4_applyOne_21 rfl (by decide) (Nat.le_of_ble_eq_true rfl) ?_
  refine g_cN2r hX mkX5_at nl_X4_41 (c_X5_at (ar_55 Z) (by omega) (by decide)) dX4_applyOne_24 rfl (by decide) (Nat.le_of_ble_eq_true rfl) ?_
  refine g_istore_4 hX dX4_applyOne_27 rfl ?_
  refine g_aload_0 hX dX4_applyOne_29 ?_
  refine gt_X4_numbers hX dX4_applyOne_30 ?_
  refine g_iload_2 hX dX4_applyOne_33 ?_
  refine g_iconst hX 2 dX4_applyOne_34 (by decide) ?_
  refine g_iconst hX 3 dX4_applyOne_35 (by decide) ?_
  refine g_cN3r hX mkX5_cell nl_X4_67 (c_X5_cell (k := 2) (w := 3) (by decide) (by decide)) dX4_applyOne_36 rfl (by decide) (Nat.le_of_ble_eq_true rfl) ?_
  refine g_cN2r hX mkX5_at nl_X4_41 (c_X5_at (ar_55 Z) (by omega) (by decide)) dX4_applyOne_39 rfl (by decide) (Nat.le_of_ble_eq_true rfl) ?_
  refine g_istore_5 hX dX4_applyOne_42 rfl ?_
  refine g_aload_0 hX dX4_applyOne_44 ?_
  refine gt_X4_letters hX dX4_applyOne_45 ?_
  refine g_iload_2 hX dX4_applyOne_48 ?_
  refine g_cN2r hX mkX5_at nl_X4_41 (c_X5_at (ar_54 Z) hk (by decide)) dX4_applyOne_49 rfl (by decide) (Nat.le_of_ble_eq_true rfl) ?_
  generalize b 54 k = c at hq ⊢
  generalize b 55 (k * 3 + 0) = x at hq ⊢
  generalize b 55 (k * 3 + 1) = y at hq ⊢
  generalize b 55 (k * 3 + 2) = z at hq ⊢
  rcases sw5 c with rfl | rfl | rfl | rfl | rfl | hsw
  · refine g_lookup (off := 58) hX 110 dX4_applyOne_52 (by decide) (by decide) (by decide) ?_
    refine g_aload_1 hX dX4_applyOne_110 ?_
    refine g_iload_3 hX dX4_applyOne_111 ?_
    refine g_iload_4 hX dX4_applyOne_112 ?_
    refine g_iload_5 hX dX4_applyOne_114 ?_
    refine g_cV3r hX mkX0_addRun ml_X4_80 (c_X0_addRun h_o hV) (h_o.obj _) dX4_applyOne_116 rfl (by decide) (Nat.le_of_ble_eq_true rfl) ?_
    exact hq _ _ _ _ dX4_applyOne_119 (by simp [aoM]) (by simp [aoR])
  · refine g_lookup (off := 68) hX 120 dX4_applyOne_52 (by decide) (by decide) (by decide) ?_
    refine g_aload_1 hX dX4_applyOne_120 ?_
    refine g_iload_3 hX dX4_applyOne_121 ?_
    refine g_iload_4 hX dX4_applyOne_122 ?_
    refine g_cV2r hX mkX0_addPocket ml_X4_83 (c_X0_addPocket h_o hV) (h_o.obj _) dX4_applyOne_124 rfl (by decide) (Nat.le_of_ble_eq_true rfl) ?_
    exact hq _ _ _ _ dX4_applyOne_127 (by simp [aoM]) (by simp [aoR])
  · refine g_lookup (off := 52) hX 104 dX4_applyOne_52 (by decide) (by decide) (by decide) ?_
    refine g_aload_1 hX dX4_applyOne_104 ?_
    refine g_iload_3 hX dX4_applyOne_105 ?_
    refine g_cV1r hX mkX0_addLine ml_X4_75 (c_X0_addLine h_o hV) (h_o.obj _) dX4_applyOne_106 rfl (by decide) (Nat.le_of_ble_eq_true rfl) ?_
    exact hq _ _ _ _ dX4_applyOne_109 (by simp [aoM]) (by simp [aoR])
  · refine g_lookup (off := 76) hX 128 dX4_applyOne_52 (by decide) (by decide) (by decide) ?_
    refine g_aload_1 hX dX4_applyOne_128 ?_
    refine g_iload_3 hX dX4_applyOne_129 ?_
    refine g_iload_4 hX dX4_applyOne_130 ?_
    refine g_cV2r hX mkX0_changeSetting ml_X4_87 (c_X0_changeSetting h_o) (h_o.obj _) dX4_applyOne_132 rfl (by decide) (Nat.le_of_ble_eq_true rfl) ?_
    exact hq _ _ _ _ dX4_applyOne_135 (by simp [aoM]) (by simp [aoR])
  · refine g_lookup (off := 84) hX 136 dX4_applyOne_52 (by decide) (by decide) (by decide) ?_
    refine g_aload_1 hX dX4_applyOne_136 ?_
    refine g_iload_3 hX dX4_applyOne_137 ?_
    refine g_iload_4 hX dX4_applyOne_138 ?_
    refine g_cV2r hX mkX0_changeWide ml_X4_90 (c_X0_changeWide h_o hV) (h_o.obj _) dX4_applyOne_140 rfl (by decide) (Nat.le_of_ble_eq_true rfl) ?_
    exact hq _ _ _ _ dX4_applyOne_143 (by simp [aoM]) (by simp [aoR])
  · refine g_lookup (off := 92) hX 144 dX4_applyOne_52 (by decide) (by simp [Op.lookupswitch.offset, hsw]) (by decide) ?_
    refine g_bipush hX (-2) dX4_applyOne_144 (by decide) ?_
    exact hq _ _ _ _ dX4_applyOne_146 (by obtain ⟨a1, a2, a3, a4, a5⟩ := sw5_all hsw; simp [aoM, *]) (by obtain ⟨a1, a2, a3, a4, a5⟩ := sw5_all hsw; simp [aoR, *])
def apR (m : Mem) (o k : Nat) : Int32 := aoR m o (m 54 k) (m 55 (k * 3 + 0)) (m 55 (k * 3 + 1)) (m 55 (k * 3 + 2))
def apM (b : Mem) (o : Nat) : Nat → Mem
  | 0 => b
  | k + 1 => aoM (apM b o k) o ((apM b o k) 54 k) ((apM b o k) 55 (k * 3 + 0)) ((apM b o k) 55 (k * 3 + 1)) ((apM b o k) 55 (k * 3 + 2))
theorem aoM_c (b : Mem) (o : Nat) (c x y z : Int32) {j : Nat} (h : j < o ∨ o + 6 < j) : aoM b o c x y z j = b j := by
  simp only [aoM, addLineM, addRunM, addPocketM, setM, wideM]
  (repeat' split) <;> simp only [u2c _ _ (show j ≠ o by omega), u2c _ _ (show j ≠ o + 1 by omega), u2c _ _ (show j ≠ o + 2 by omega), u2c _ _ (show j ≠ o + 3 by omega), u2c _ _ (show j ≠ o + 4 by omega), u2c _ _ (show j ≠ o + 5 by omega), u2c _ _ (show j ≠ o + 6 by omega)]
theorem apM_c (b : Mem) (o k : Nat) {j : Nat} (h : j < o ∨ o + 6 < j) : apM b o k j = b j := by
  induction k with
  | zero => rfl
  | succ k ih => simp only [apM]; rw [aoM_c _ _ _ _ _ _ h, ih]
set_option maxRecDepth 100000 in
set_option maxHeartbeats 4000000 in
theorem c_X4_apply_full {Z : Zt} {b : Mem} {o n m : Nat} (h_o : isBus Z o) (ho : o + 6 < 52) (hm : b 52 4 = nI m) (h40 : m ≤ 40) (hV : ∀ k, k ≤ n → Val (cv (apM b o k) o)) (hok : ∀ k, k < n → ¬ apR (apM b o k) o k < 0) (hnm : n = m) : Con Z yX4_apply cX4_apply 3 (some .int) 4 [.ref (zad Z 52), .ref (zad Z o)] b (some (.int (-1))) (apM b o n) := by
  have h4 : ∀ k, apM b o k 52 4 = nI m := fun k => by rw [apM_c _ _ _ (by omega)]; exact hm
  refine con_i (by decide) (Nat.le_of_ble_eq_true rfl) rfl (fun X hX hq => ?_)
  have hX : Ok Z X cX4_apply 3 RX4 4 := hX
  show G Z X b 0 [some (.ref (zad Z 52)), some (.ref (zad Z o)), none] []
  refine g_iconst hX 0 dX4_apply_0 (by decide) ?_
  refine g_istore_2 hX dX4_apply_1 rfl ?_
  refine g_loop (n) (fun k => apM b o k) (fun k => [some (.ref (zad Z 52)), some (.ref (zad Z o)), some (.int (nI k))]) rfl rfl (fun k hk2 ih2 => ?_) ?_
  · show G Z X (apM b o k) 2 ([some (.ref (zad Z 52)), some (.ref (zad Z o)), some (.int (nI k))]) _
    refine g_iload_2 hX dX4_apply_2 ?_
    refine g_aload_0 hX dX4_apply_3 ?_
    refine gt_X4_orders hX dX4_apply_4 ?_
    refine g_icmp_ge hX 27 dX4_apply_7 (by decide) (fun c7 => ?_) (fun c7 => ?_)
    · exact absurd c7 (not_not_intro (by rw [h4]; exact nI_lt (by omega) (by omega)))
    · refine g_aload_0 hX dX4_apply_10 ?_
      refine g_aload_1 hX dX4_apply_11 ?_
      refine g_iload_2 hX dX4_apply_12 ?_
      refine g_cV2r hX mkX4_applyOne ml_X4_71 (c_X4_applyOne h_o (hV k (by omega)) (by omega)) (ob_52 Z _) dX4_apply_13 rfl (by decide) (Nat.le_of_ble_eq_true rfl) ?_
      refine g_if_ge hX 21 dX4_apply_16 (by decide) (fun c16 => ?_) (fun c16 => ?_)
      · refine g_iinc_2 hX 1 dX4_apply_21 (by decide) rfl ?_
        refine g_goto hX 2 dX4_apply_24 (by decide) ?_
        exact g_cast ih2 rfl (by simp only [nI_succ]) rfl
      · exact absurd c16 (hok k hk2)
  · show G Z X (apM b o (n)) 2 ([some (.ref (zad Z 52)), some (.ref (zad Z o)), some (.int (nI (n)))]) _
    refine g_iload_2 hX dX4_apply_2 ?_
    refine g_aload_0 hX dX4_apply_3 ?_
    refine gt_X4_orders hX dX4_apply_4 ?_
    refine g_icmp_ge hX 27 dX4_apply_7 (by decide) (fun c7 => ?_) (fun c7 => ?_)
    · refine g_iconst hX (-1) dX4_apply_27 (by decide) ?_
      exact hq _ _ _ _ dX4_apply_28 (by rfl) (by rfl)
    · exact absurd c7 (by rw [h4, hnm]; exact Int32.lt_irrefl)
set_option maxRecDepth 100000 in
set_option maxHeartbeats 4000000 in
theorem c_X4_apply_fail {Z : Zt} {b : Mem} {o n m : Nat} (h_o : isBus Z o) (ho : o + 6 < 52) (hm : b 52 4 = nI m) (h40 : m ≤ 40) (hV : ∀ k, k ≤ n → Val (cv (apM b o k) o)) (hok : ∀ k, k < n → ¬ apR (apM b o k) o k < 0) (hnm : n < m) (hbad : apR (apM b o n) o n < 0) : Con Z yX4_apply cX4_apply 3 (some .int) 4 [.ref (zad Z 52), .ref (zad Z o)] b (some (.int (nI n))) (aoM (apM b o n) o ((apM b o n) 54 n) ((apM b o n) 55 (n * 3 + 0)) ((apM b o n) 55 (n * 3 + 1)) ((apM b o n) 55 (n * 3 + 2))) := by
  have h4 : ∀ k, apM b o k 52 4 = nI m := fun k => by rw [apM_c _ _ _ (by omega)]; exact hm
  refine con_i (by decide) (Nat.le_of_ble_eq_true rfl) rfl (fun X hX hq => ?_)
  have hX : Ok Z X cX4_apply 3 RX4 4 := hX
  show G Z X b 0 [some (.ref (zad Z 52)), some (.ref (zad Z o)), none] []
  refine g_iconst hX 0 dX4_apply_0 (by decide) ?_
  refine g_istore_2 hX dX4_apply_1 rfl ?_
  refine g_loop (n) (fun k => apM b o k) (fun k => [some (.ref (zad Z 52)), some (.ref (zad Z o)), some (.int (nI k))]) rfl rfl (fun k hk2 ih2 => ?_) ?_
  · show G Z X (apM b o k) 2 ([some (.ref (zad Z 52)), some (.ref (zad Z o)), some (.int (nI k))]) _
    refine g_iload_2 hX dX4_apply_2 ?_
    refine g_aload_0 hX dX4_apply_3 ?_
    refine gt_X4_orders hX dX4_apply_4 ?_
    refine g_icmp_ge hX 27 dX4_apply_7 (by decide) (fun c7 => ?_) (fun c7 => ?_)
    · exact absurd c7 (not_not_intro (by rw [h4]; exact nI_lt (by omega) (by omega)))
    · refine g_aload_0 hX dX4_apply_10 ?_
      refine g_aload_1 hX dX4_apply_11 ?_
      refine g_iload_2 hX dX4_apply_12 ?_
      refine g_cV2r hX mkX4_applyOne ml_X4_71 (c_X4_applyOne h_o (hV k (by omega)) (by omega)) (ob_52 Z _) dX4_apply_13 rfl (by decide) (Nat.le_of_ble_eq_true rfl) ?_
      refine g_if_ge hX 21 dX4_apply_16 (by decide) (fun c16 => ?_) (fun c16 => ?_)
      · refine g_iinc_2 hX 1 dX4_apply_21 (by decide) rfl ?_
        refine g_goto hX 2 dX4_apply_24 (by decide) ?_
        exact g_cast ih2 rfl (by simp only [nI_succ]) rfl
      · exact absurd c16 (hok k hk2)
  · show G Z X (apM b o (n)) 2 ([some (.ref (zad Z 52)), some (.ref (zad Z o)), some (.int (nI (n)))]) _
    refine g_iload_2 hX dX4_apply_2 ?_
    refine g_aload_0 hX dX4_apply_3 ?_
    refine gt_X4_orders hX dX4_apply_4 ?_
    refine g_icmp_ge hX 27 dX4_apply_7 (by decide) (fun c7 => ?_) (fun c7 => ?_)
    · exact absurd c7 (not_not_intro (by rw [h4]; exact nI_lt (by omega) (by omega)))
    · refine g_aload_0 hX dX4_apply_10 ?_
      refine g_aload_1 hX dX4_apply_11 ?_
      refine g_iload_2 hX dX4_apply_12 ?_
      refine g_cV2r hX mkX4_applyOne ml_X4_71 (c_X4_applyOne h_o (hV n (by omega)) (by omega)) (ob_52 Z _) dX4_apply_13 rfl (by decide) (Nat.le_of_ble_eq_true rfl) ?_
      refine g_if_ge hX 21 dX4_apply_16 (by decide) (fun c16 => ?_) (fun c16 => ?_)
      · exact absurd c16 (not_not_intro hbad)
      · refine g_iload_2 hX dX4_apply_19 ?_
        exact hq _ _ _ _ dX4_apply_20 (by rfl) (by rfl)
