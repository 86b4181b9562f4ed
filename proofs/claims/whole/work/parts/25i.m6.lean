/-! the reference: greatest, count -/
theorem wZ_f {f g : Nat → Int} {A : Nat → Bool} {n : Nat} (h : ∀ i, i < n → f i ≤ g i) : wZ f A n ≤ wZ g A n := by
  induction n with
  | zero => exact Int.le_refl _
  | succ n ih =>
    have h1 := ih (fun i hi => h i (by omega))
    have h2 := h n (by omega)
    rw [wZ_s, wZ_s]
    cases A n <;> simp <;> omega
theorem max_ge {f : Nat → Int32} {n i : Nat} (hb : ∀ j, j < n → ∃ x, f j = nI x ∧ x ≤ 480) (hi : i < n) : ¬ maxI f n < f i := by
  have key : ∀ k, k ≤ n → ∃ L, maxI f k = nI L ∧ L ≤ 480 ∧ ∀ j, j < k → ¬ maxI f k < f j := by
    intro k
    induction k with
    | zero => intro _; exact ⟨0, rfl, by omega, fun j hj => by omega⟩
    | succ k ih =>
      intro hk
      obtain ⟨L, e, hL, h1⟩ := ih (by omega)
      obtain ⟨x, ex, hx⟩ := hb k (by omega)
      simp only [maxI]
      by_cases c : maxI f k < f k
      · rw [if_pos c]
        refine ⟨x, ex, hx, fun j hj => ?_⟩
        rcases Nat.lt_or_ge j k with q | q
        · intro z; exact h1 j q (Int32.lt_trans c z)
        · have : j = k := by omega
          rw [this]; exact Int32.lt_irrefl
      · rw [if_neg c]
        refine ⟨L, e, hL, fun j hj => ?_⟩
        rcases Nat.lt_or_ge j k with q | q
        · exact h1 j q
        · have : j = k := by omega
          rw [this]; exact c
  obtain ⟨_, _, _, h⟩ := key n (Nat.le_refl n)
  exact h i hi
theorem bits_0 {f : Nat → Bool} {n : Nat} (h : ∀ i, i < n → f i = false) : bitsN f n = 0 := by
  induction n with
  | zero => rfl
  | succ n ih => simp only [bitsN]; rw [ih (fun i hi => h i (by omega)), h n (by omega)]; rfl
theorem too_0 {v : View} (hV : Val v) {L T : Nat} (eL : longestS v = nI L) (h : L ≤ T) (hT : T ≤ 1000) : tooN v (nI T) = 0 := by
  unfold tooN
  refine bits_0 (fun i hi => decide_eq_false (fun z => ?_))
  have h1 := max_ge (f := baseS v) (n := nl v) (fun j hj => hV.base hj) hi
  rw [show maxI (baseS v) (nl v) = nI L from eL] at h1
  obtain ⟨B, eB, hB⟩ := hV.base hi
  rw [eB] at z h1
  have := (nI_ltI (by omega) (by omega)).mp z
  exact h1 (nI_lt (by omega) (by omega))
theorem can_down {v : View} (hV : Val v) {L T U : Nat} (eL : longestS v = nI L) (h1 : L ≤ T) (h2 : T ≤ U) (hU : U ≤ 1000) (hc : blN v (nI U) = 0) : blN v (nI T) = 0 := by
  rw [bl_ae hV (by omega)] at hc ⊢
  refine ⟨too_0 hV eL h1 (by omega), ?_⟩
  have h3 := hc.2
  rw [aeB_iff] at h3 ⊢
  intro s a c
  have h4 := h3 s a c
  have : wZ (nZ v (nI T)) s.testBit (nl v) ≤ wZ (nZ v (nI U)) s.testBit (nl v) := wZ_f (fun i hi => by
    obtain ⟨g, q, e⟩ := hV.need hi
    unfold nZ
    have m1 := needOf_le g (ev2_le (show T - q ≤ 1000 by omega))
    have m2 := needOf_le g (ev2_le (show U - q ≤ 1000 by omega))
    have m3 := needOf_mono g (ev2_mono (show T - q ≤ U - q by omega))
    rw [e T (by omega), e U (by omega), nI_toInt (by omega), nI_toInt (by omega)]
    omega)
  unfold spZ at h4 ⊢
  omega
/-- there is a greatest -/
theorem grt_ex {v : View} (hV : Val v) {L : Nat} (eL : longestS v = nI L) (hL : L ≤ 480) (hc : blN v (nI L) = 0) : ∃ g, L ≤ g ∧ g ≤ 999 ∧ ∀ T, L ≤ T → T ≤ 999 → (blN v (nI T) = 0 ↔ T ≤ g) := by
  have key : ∀ k, k + L ≤ 999 → (∃ g, L ≤ g ∧ g ≤ k + L ∧ ∀ T, L ≤ T → T ≤ k + L → (blN v (nI T) = 0 ↔ T ≤ g)) := by
    intro k
    induction k with
    | zero => intro _; exact ⟨L, by omega, by omega, fun T h1 h2 => by
        have : T = L := by omega
        rw [this]; simp [hc]⟩
    | succ k ih =>
      intro hk
      obtain ⟨g, a1, a2, a3⟩ := ih (by omega)
      by_cases c : blN v (nI (k + 1 + L)) = 0
      · refine ⟨k + 1 + L, by omega, by omega, fun T h1 h2 => ⟨fun _ => h2, fun _ => can_down hV eL h1 h2 (by omega) c⟩⟩
      · refine ⟨g, a1, by omega, fun T h1 h2 => ?_⟩
        rcases Nat.lt_or_ge T (k + 1 + L) with q | q
        · exact a3 T h1 (by omega)
        · have : T = k + 1 + L := by omega
          rw [this]
          exact ⟨fun z => absurd z c, fun z => by omega⟩
  obtain ⟨g, a1, a2, a3⟩ := key (999 - L) (by omega)
  exact ⟨g, a1, by omega, fun T h1 h2 => a3 T h1 (by omega)⟩
theorem grK_g {v : View} {L g : Nat} (eL : longestS v = nI L) (hg : L ≤ g ∧ g ≤ 999) (hc : ∀ T, L ≤ T → T ≤ 999 → (blN v (nI T) = 0 ↔ T ≤ g)) : ∀ k, k ≤ 10 → ∃ x, grK v k = nI x ∧ L ≤ x ∧ x ≤ g ∧ g < x + 1024 / 2 ^ k := by
  intro k
  induction k with
  | zero => intro _; exact ⟨L, eL, by omega, by omega, by omega⟩
  | succ k ih =>
    intro hk
    obtain ⟨x, e, h1, h2, h3⟩ := ih (by omega)
    have hp : 512 / 2 ^ k ≤ 512 := Nat.div_le_self _ _
    have hd : 1024 / 2 ^ k = 2 * (512 / 2 ^ k) := (by decide +kernel : ∀ k, k < 10 → 1024 / 2 ^ k = 2 * (512 / 2 ^ k)) k (by omega)
    have hd2 : 1024 / 2 ^ (k + 1) = 512 / 2 ^ k := (by decide +kernel : ∀ k, k < 10 → 1024 / 2 ^ (k + 1) = 512 / 2 ^ k) k (by omega)
    simp only [grK]
    rw [e, nI_add, hd2]
    have e9 : (999 : Int32) < nI (x + 512 / 2 ^ k) ↔ 999 < x + 512 / 2 ^ k := by rw [show (999 : Int32) = nI 999 from rfl]; exact nI_ltI (by omega) (by omega)
    by_cases c : x + 512 / 2 ^ k ≤ g
    · rw [if_pos ⟨fun z => by have := e9.mp z; omega, (hc _ (by omega) (by omega)).mpr c⟩]
      exact ⟨_, rfl, by omega, c, by omega⟩
    · rw [if_neg (fun z => by
        have z1 : ¬ 999 < x + 512 / 2 ^ k := fun q => z.1 (e9.mpr q)
        exact c ((hc _ (by omega) (by omega)).mp z.2))]
      exact ⟨x, rfl, h1, h2, by omega⟩
def bsK (v : View) (L : Nat) : Nat → Nat × Nat
  | 0 => (L, 1000)
  | k + 1 => if (bsK v L k).2 - (bsK v L k).1 ≤ 1 then bsK v L k else if blN v (nI (((bsK v L k).1 + (bsK v L k).2) / 2)) = 0 then (((bsK v L k).1 + (bsK v L k).2) / 2, (bsK v L k).2) else ((bsK v L k).1, ((bsK v L k).1 + (bsK v L k).2) / 2)
theorem bsK_i {v : View} {L g : Nat} (hg : L ≤ g ∧ g ≤ 999) (hc : ∀ T, L ≤ T → T ≤ 999 → (blN v (nI T) = 0 ↔ T ≤ g)) (k : Nat) : L ≤ (bsK v L k).1 ∧ (bsK v L k).1 ≤ g ∧ g < (bsK v L k).2 ∧ (bsK v L k).2 ≤ 1000 ∧ ((bsK v L k).2 - (bsK v L k).1 ≤ 1 ∨ (bsK v L k).2 - (bsK v L k).1 + k ≤ 1000) := by
  induction k with
  | zero => exact ⟨by simp [bsK], hg.1, by simp only [bsK]; omega, by simp [bsK], by simp only [bsK]; omega⟩
  | succ k ih =>
    obtain ⟨h1, h2, h3, h4, h5⟩ := ih
    simp only [bsK]
    by_cases c : (bsK v L k).2 - (bsK v L k).1 ≤ 1
    · rw [if_pos c]; exact ⟨h1, h2, h3, h4, Or.inl c⟩
    · rw [if_neg c]
      have hm := hc (((bsK v L k).1 + (bsK v L k).2) / 2) (by omega) (by omega)
      by_cases d : blN v (nI (((bsK v L k).1 + (bsK v L k).2) / 2)) = 0
      · rw [if_pos d]
        have := hm.mp d
        refine ⟨?_, ?_, ?_, ?_, ?_⟩ <;> simp only <;> omega
      · rw [if_neg d]
        have : ¬ ((bsK v L k).1 + (bsK v L k).2) / 2 ≤ g := fun z => d (hm.mpr z)
        refine ⟨?_, ?_, ?_, ?_, ?_⟩ <;> simp only <;> omega
theorem nI_subN {a b : Nat} (h : b ≤ a) : nI a - nI b = nI (a - b) := by
  rw [nI_z, nI_z, zI_sub, nI_z]; congr 1; omega
theorem gr_eq {v : View} {L g : Nat} (eL : longestS v = nI L) (hb : blN v (nI L) = 0) (hg : L ≤ g ∧ g ≤ 999) (hc : ∀ T, L ≤ T → T ≤ 999 → (blN v (nI T) = 0 ↔ T ≤ g)) : grR v = nI g := by
  obtain ⟨x, e, h1, h2, h3⟩ := grK_g eL hg hc 10 (by decide)
  unfold grR
  rw [eL, if_pos hb, e]
  have : (1024 : Nat) / 2 ^ 10 = 1 := by decide
  have : x = g := by omega
  rw [this]
set_option maxRecDepth 100000 in
set_option maxHeartbeats 4000000 in
theorem c_X6_greatest_y {Z : Zt} {b : Mem} {L g N : Nat} (hN : N = 1000) (hV : Val (mv b)) (eL : longestS (mv b) = nI L) (hL : L ≤ 480) (hb : blN (mv b) (nI L) = 0) (hg : L ≤ g ∧ g ≤ 999) (hc : ∀ T, L ≤ T → T ≤ 999 → (blN (mv b) (nI T) = 0 ↔ T ≤ g)) : ConE Z yX6_greatest cX6_greatest 4 (some .int) 6 [.ref (zad Z 69)] b (pI (fun x b' => x = grR (mv b) ∧ MG b 0 b')) := by
  refine conE_i (by decide) (Nat.le_of_ble_eq_true rfl) rfl (fun X hX hq => ?_)
  have hX : Ok Z X cX6_greatest 4 RX6 6 := hX
  show G Z X b 0 [some (.ref (zad Z 69)), none, none, none] []
  refine g_aload_0 hX dX6_greatest_0 ?_
  refine g_cV0r hX mkX6_longest ml_X6_170 (c_X6_longest hV) (ob_69 Z _) dX6_greatest_1 rfl (by decide) (Nat.le_of_ble_eq_true rfl) ?_
  refine g_top (nI L) eL ?_
  refine g_istore_1 hX dX6_greatest_4 rfl ?_
  refine g_aload_0 hX dX6_greatest_5 ?_
  refine g_iload_1 hX dX6_greatest_6 ?_
  refine g_cV1r hX mkX6_allCan ml_X6_167 (c_X6_allCan hV (by omega)) (ob_69 Z _) dX6_greatest_7 rfl (by decide) (Nat.le_of_ble_eq_true rfl) ?_
  refine g_if_ne hX 15 dX6_greatest_10 (by decide) (fun c10 => ?_) (fun c10 => ?_)
  · replace c10 := bI_nz.mp c10
    refine g_sipush hX 1000 dX6_greatest_15 (by decide) ?_
    refine g_istore_2 hX dX6_greatest_18 rfl ?_
    refine g_weak (lvw_c (lvw_c (lvw_c (lvw_n lvw_nil)))) (g_loopI (N) (fun k m LL => (MG b 0 m) ∧ LL = [some (.ref (zad Z 69)), some (.int (nI (bsK (mv b) L k).1)), some (.int (nI (bsK (mv b) L k).2)), none]) ⟨lyM_mg b _, rfl⟩ ?_ ?_)
    · rintro k m _ hk19 ⟨hI, rfl⟩ ih19
      have hbs := bsK_i hg hc k
      have em := hI.v
      refine g_iload_2 hX dX6_greatest_19 ?_
      refine g_iload_1 hX dX6_greatest_20 ?_
      refine g_isub hX dX6_greatest_21 ?_
      refine g_top (nI ((bsK (mv b) L k).2 - (bsK (mv b) L k).1)) (nI_subN (by omega)) ?_
      refine g_iconst hX 1 dX6_greatest_22 (by decide) ?_
      refine g_icmp_le hX 50 dX6_greatest_23 (by decide) (fun c23 => ?_) (fun c23 => ?_)
      · refine g_iload_1 hX dX6_greatest_50 ?_
        exact hq _ _ _ _ dX6_greatest_51 (⟨by
  have h9 : ¬ 1 < (bsK (mv b) L k).2 - (bsK (mv b) L k).1 := fun z => c23 (nI_lt z (by omega))
  rw [gr_eq eL hb hg hc, show (bsK (mv b) L k).1 = g by omega], hI⟩)
      · have hgt : ¬ (bsK (mv b) L k).2 - (bsK (mv b) L k).1 ≤ 1 := fun z => nI_nlt (a := 1) (b := (bsK (mv b) L k).2 - (bsK (mv b) L k).1) z (by omega) c23
        refine g_iload_1 hX dX6_greatest_26 ?_
        refine g_iload_2 hX dX6_greatest_27 ?_
        refine g_iadd hX dX6_greatest_28 ?_
        refine g_top (nI ((bsK (mv b) L k).1 + (bsK (mv b) L k).2)) (by rw [nI_add]) ?_
        refine g_iconst hX 2 dX6_greatest_29 (by decide) ?_
        refine g_idiv hX dX6_greatest_30 (by decide) ?_
        refine g_top (nI (((bsK (mv b) L k).1 + (bsK (mv b) L k).2) / 2)) (pk_div (d := 2) (by omega) (by decide) (by decide)) ?_
        refine g_istore_3 hX dX6_greatest_31 rfl ?_
        refine g_aload_0 hX dX6_greatest_32 ?_
        refine g_iload_3 hX dX6_greatest_33 ?_
        refine g_cV1r hX mkX6_allCan ml_X6_167 (c_X6_allCan (b := m) (hI.val hV) (by omega)) (ob_69 Z _) dX6_greatest_34 rfl (by decide) (Nat.le_of_ble_eq_true rfl) ?_
        refine g_if_eq hX 45 dX6_greatest_37 (by decide) (fun c37 => ?_) (fun c37 => ?_)
        · replace c37 := bI_z.mp c37
          refine g_iload_3 hX dX6_greatest_45 ?_
          refine g_istore_2 hX dX6_greatest_46 rfl ?_
          refine g_goto hX 19 dX6_greatest_47 (by decide) ?_
          exact g_weak (lvw_c (lvw_c (lvw_c (lvw_n lvw_nil)))) (ih19 _ _ ⟨hI.tr (lyM_mg m _), by simp only [bsK]; rw [if_neg hgt, if_neg (show ¬ blN (mv b) (nI (((bsK (mv b) L k).1 + (bsK (mv b) L k).2) / 2)) = 0 by rw [em] at c37; exact c37)]⟩)
        · replace c37 := bI_nz.mp c37
          refine g_iload_3 hX dX6_greatest_40 ?_
          refine g_istore_1 hX dX6_greatest_41 rfl ?_
          refine g_goto hX 47 dX6_greatest_42 (by decide) ?_
          refine g_goto hX 19 dX6_greatest_47 (by decide) ?_
          exact g_weak (lvw_c (lvw_c (lvw_c (lvw_n lvw_nil)))) (ih19 _ _ ⟨hI.tr (lyM_mg m _), by simp only [bsK]; rw [if_neg hgt, if_pos (show blN (mv b) (nI (((bsK (mv b) L k).1 + (bsK (mv b) L k).2) / 2)) = 0 by rw [em] at c37; exact c37)]⟩)
    · rintro m _ ⟨hI, rfl⟩
      have hbs := bsK_i hg hc N
      refine g_iload_2 hX dX6_greatest_19 ?_
      refine g_iload_1 hX dX6_greatest_20 ?_
      refine g_isub hX dX6_greatest_21 ?_
      refine g_top (nI ((bsK (mv b) L N).2 - (bsK (mv b) L N).1)) (nI_subN (by omega)) ?_
      refine g_iconst hX 1 dX6_greatest_22 (by decide) ?_
      refine g_icmp_le hX 50 dX6_greatest_23 (by decide) (fun c23 => ?_) (fun c23 => ?_)
      · refine g_iload_1 hX dX6_greatest_50 ?_
        exact hq _ _ _ _ dX6_greatest_51 (⟨by rw [gr_eq eL hb hg hc, show (bsK (mv b) L N).1 = g by omega], hI⟩)
      · exact absurd c23 (fun z => by have := (nI_ltI (a := 1) (by decide) (by omega)).mp z; omega)
  · replace c10 := bI_z.mp c10
    exact absurd c10 (not_not_intro hb)
set_option maxRecDepth 100000 in
set_option maxHeartbeats 4000000 in
theorem c_X6_greatest_n {Z : Zt} {b : Mem} {L : Nat} (hV : Val (mv b)) (eL : longestS (mv b) = nI L) (hL : L ≤ 480) (hb : ¬ blN (mv b) (nI L) = 0) : ConE Z yX6_greatest cX6_greatest 4 (some .int) 6 [.ref (zad Z 69)] b (pI (fun x b' => x = grR (mv b) ∧ MG b 0 b')) := by
  refine conE_i (by decide) (Nat.le_of_ble_eq_true rfl) rfl (fun X hX hq => ?_)
  have hX : Ok Z X cX6_greatest 4 RX6 6 := hX
  show G Z X b 0 [some (.ref (zad Z 69)), none, none, none] []
  refine g_aload_0 hX dX6_greatest_0 ?_
  refine g_cV0r hX mkX6_longest ml_X6_170 (c_X6_longest hV) (ob_69 Z _) dX6_greatest_1 rfl (by decide) (Nat.le_of_ble_eq_true rfl) ?_
  refine g_top (nI L) eL ?_
  refine g_istore_1 hX dX6_greatest_4 rfl ?_
  refine g_aload_0 hX dX6_greatest_5 ?_
  refine g_iload_1 hX dX6_greatest_6 ?_
  refine g_cV1r hX mkX6_allCan ml_X6_167 (c_X6_allCan hV (by omega)) (ob_69 Z _) dX6_greatest_7 rfl (by decide) (Nat.le_of_ble_eq_true rfl) ?_
  refine g_if_ne hX 15 dX6_greatest_10 (by decide) (fun c10 => ?_) (fun c10 => ?_)
  · replace c10 := bI_nz.mp c10
    exact absurd c10 (hb)
  · replace c10 := bI_z.mp c10
    refine g_iconst hX (-1) dX6_greatest_13 (by decide) ?_
    exact hq _ _ _ _ dX6_greatest_14 (⟨by rw [grR, eL, if_neg hb], lyM_mg b _⟩)
theorem c_X6_greatest {Z : Zt} {b : Mem} (hV : Val (mv b)) : ConE Z yX6_greatest cX6_greatest 4 (some .int) 6 [.ref (zad Z 69)] b (pI (fun x b' => x = grR (mv b) ∧ MG b 0 b')) := by
  obtain ⟨L, eL, hL⟩ := hV.longest
  by_cases hb : blN (mv b) (nI L) = 0
  · obtain ⟨g, h1, h2, h3⟩ := grt_ex hV eL hL hb
    exact c_X6_greatest_y (N := 1000) rfl hV eL hL hb ⟨h1, h2⟩ h3
  · exact c_X6_greatest_n hV eL hL hb
set_option maxRecDepth 100000 in
set_option maxHeartbeats 4000000 in
theorem c_X6_countOf_0 {Z : Zt} {b : Mem} (hV : Val (mv b))  : ConE Z yX6_countOf cX6_countOf 4 (some .int) 7 [.ref (zad Z 69), .int (nI 0)] b (pI (fun x b' => x = coV (mv b) (nI 0) ∧ MG b 0 b')) := by
  have hn : b 71 0 = nI (nl (mv b)) := hV.1.1
  have hn6 := hV.1.2
  have hp : b 71 1 = nI (np (mv b)) := hV.2.1.1
  have hp6 := hV.2.1.2
  refine conE_i (by decide) (Nat.le_of_ble_eq_true rfl) rfl (fun X hX hq => ?_)
  have hX : Ok Z X cX6_countOf 4 RX6 7 := hX
  show G Z X b 0 [some (.ref (zad Z 69)), some (.int (nI 0)), none, none] []
  refine g_iconst hX 0 dX6_countOf_0 (by decide) ?_
  refine g_istore_2 hX dX6_countOf_1 rfl ?_
  refine g_iload_1 hX dX6_countOf_2 ?_
  refine g_iconst hX 5 dX6_countOf_3 (by decide) ?_
  refine g_icmp_ne hX 33 dX6_countOf_4 (by decide) (fun c4 => ?_) (fun c4 => ?_)
  · refine g_iload_1 hX dX6_countOf_33 ?_
    refine g_bipush hX 6 dX6_countOf_34 (by decide) ?_
    refine g_icmp_ne hX 72 dX6_countOf_36 (by decide) (fun c36 => ?_) (fun c36 => ?_)
    · refine g_iload_1 hX dX6_countOf_72 ?_
      refine g_iconst hX 2 dX6_countOf_73 (by decide) ?_
      refine g_icmp_ge hX 86 dX6_countOf_74 (by decide) (fun c74 => ?_) (fun c74 => ?_)
      · exact absurd c74 (not_not_intro (by decide))
      · refine g_aload_0 hX dX6_countOf_77 ?_
        refine gt_X6_now hX dX6_countOf_78 ?_
        refine g_iload_1 hX dX6_countOf_81 ?_
        refine g_ialdN (k := 0) hX (ar_71 Z) (by decide) (by decide) dX6_countOf_82 ?_
        refine g_goto hX 134 dX6_countOf_83 (by decide) ?_
        exact hq _ _ _ _ dX6_countOf_134 (⟨by rfl, MG.rf b⟩)
    · exact absurd c36 (by decide)
  · exact absurd c4 (by decide)
set_option maxRecDepth 100000 in
set_option maxHeartbeats 4000000 in
theorem c_X6_countOf_1 {Z : Zt} {b : Mem} (hV : Val (mv b))  : ConE Z yX6_countOf cX6_countOf 4 (some .int) 7 [.ref (zad Z 69), .int (nI 1)] b (pI (fun x b' => x = coV (mv b) (nI 1) ∧ MG b 0 b')) := by
  have hn : b 71 0 = nI (nl (mv b)) := hV.1.1
  have hn6 := hV.1.2
  have hp : b 71 1 = nI (np (mv b)) := hV.2.1.1
  have hp6 := hV.2.1.2
  refine conE_i (by decide) (Nat.le_of_ble_eq_true rfl) rfl (fun X hX hq => ?_)
  have hX : Ok Z X cX6_countOf 4 RX6 7 := hX
  show G Z X b 0 [some (.ref (zad Z 69)), some (.int (nI 1)), none, none] []
  refine g_iconst hX 0 dX6_countOf_0 (by decide) ?_
  refine g_istore_2 hX dX6_countOf_1 rfl ?_
  refine g_iload_1 hX dX6_countOf_2 ?_
  refine g_iconst hX 5 dX6_countOf_3 (by decide) ?_
  refine g_icmp_ne hX 33 dX6_countOf_4 (by decide) (fun c4 => ?_) (fun c4 => ?_)
  · refine g_iload_1 hX dX6_countOf_33 ?_
    refine g_bipush hX 6 dX6_countOf_34 (by decide) ?_
    refine g_icmp_ne hX 72 dX6_countOf_36 (by decide) (fun c36 => ?_) (fun c36 => ?_)
    · refine g_iload_1 hX dX6_countOf_72 ?_
      refine g_iconst hX 2 dX6_countOf_73 (by decide) ?_
      refine g_icmp_ge hX 86 dX6_countOf_74 (by decide) (fun c74 => ?_) (fun c74 => ?_)
      · exact absurd c74 (not_not_intro (by decide))
      · refine g_aload_0 hX dX6_countOf_77 ?_
        refine gt_X6_now hX dX6_countOf_78 ?_
        refine g_iload_1 hX dX6_countOf_81 ?_
        refine g_ialdN (k := 1) hX (ar_71 Z) (by decide) (by decide) dX6_countOf_82 ?_
        refine g_goto hX 134 dX6_countOf_83 (by decide) ?_
        exact hq _ _ _ _ dX6_countOf_134 (⟨by rfl, MG.rf b⟩)
    · exact absurd c36 (by decide)
  · exact absurd c4 (by decide)
set_option maxRecDepth 100000 in
set_option maxHeartbeats 4000000 in
theorem c_X6_countOf_2 {Z : Zt} {b : Mem} (hV : Val (mv b))  : ConE Z yX6_countOf cX6_countOf 4 (some .int) 7 [.ref (zad Z 69), .int (nI 2)] b (pI (fun x b' => x = coV (mv b) (nI 2) ∧ MG b 0 b')) := by
  have hn : b 71 0 = nI (nl (mv b)) := hV.1.1
  have hn6 := hV.1.2
  have hp : b 71 1 = nI (np (mv b)) := hV.2.1.1
  have hp6 := hV.2.1.2
  refine conE_i (by decide) (Nat.le_of_ble_eq_true rfl) rfl (fun X hX hq => ?_)
  have hX : Ok Z X cX6_countOf 4 RX6 7 := hX
  show G Z X b 0 [some (.ref (zad Z 69)), some (.int (nI 2)), none, none] []
  refine g_iconst hX 0 dX6_countOf_0 (by decide) ?_
  refine g_istore_2 hX dX6_countOf_1 rfl ?_
  refine g_iload_1 hX dX6_countOf_2 ?_
  refine g_iconst hX 5 dX6_countOf_3 (by decide) ?_
  refine g_icmp_ne hX 33 dX6_countOf_4 (by decide) (fun c4 => ?_) (fun c4 => ?_)
  · refine g_iload_1 hX dX6_countOf_33 ?_
    refine g_bipush hX 6 dX6_countOf_34 (by decide) ?_
    refine g_icmp_ne hX 72 dX6_countOf_36 (by decide) (fun c36 => ?_) (fun c36 => ?_)
    · refine g_iload_1 hX dX6_countOf_72 ?_
      refine g_iconst hX 2 dX6_countOf_73 (by decide) ?_
      refine g_icmp_ge hX 86 dX6_countOf_74 (by decide) (fun c74 => ?_) (fun c74 => ?_)
      · refine g_iload_1 hX dX6_countOf_86 ?_
        refine g_iconst hX 2 dX6_countOf_87 (by decide) ?_
        refine g_icmp_ne hX 101 dX6_countOf_88 (by decide) (fun c88 => ?_) (fun c88 => ?_)
        · exact absurd c88 (not_not_intro rfl)
        · refine g_aload_0 hX dX6_countOf_91 ?_
          refine g_cV0r hX mkX6_gain ml_X6_123 (c_X6_gain) (ob_69 Z _) dX6_countOf_92 rfl (by decide) (Nat.le_of_ble_eq_true rfl) ?_
          refine g_bipush hX 100 dX6_countOf_95 (by decide) ?_
          refine g_iadd hX dX6_countOf_97 ?_
          refine g_goto hX 134 dX6_countOf_98 (by decide) ?_
          exact hq _ _ _ _ dX6_countOf_134 (⟨by rfl, MG.rf b⟩)
      · exact absurd c74 (by decide)
    · exact absurd c36 (by decide)
  · exact absurd c4 (by decide)
set_option maxRecDepth 100000 in
set_option maxHeartbeats 4000000 in
theorem c_X6_countOf_3 {Z : Zt} {b : Mem} (hV : Val (mv b))  : ConE Z yX6_countOf cX6_countOf 4 (some .int) 7 [.ref (zad Z 69), .int (nI 3)] b (pI (fun x b' => x = coV (mv b) (nI 3) ∧ MG b 0 b')) := by
  have hn : b 71 0 = nI (nl (mv b)) := hV.1.1
  have hn6 := hV.1.2
  have hp : b 71 1 = nI (np (mv b)) := hV.2.1.1
  have hp6 := hV.2.1.2
  refine conE_i (by decide) (Nat.le_of_ble_eq_true rfl) rfl (fun X hX hq => ?_)
  have hX : Ok Z X cX6_countOf 4 RX6 7 := hX
  show G Z X b 0 [some (.ref (zad Z 69)), some (.int (nI 3)), none, none] []
  refine g_iconst hX 0 dX6_countOf_0 (by decide) ?_
  refine g_istore_2 hX dX6_countOf_1 rfl ?_
  refine g_iload_1 hX dX6_countOf_2 ?_
  refine g_iconst hX 5 dX6_countOf_3 (by decide) ?_
  refine g_icmp_ne hX 33 dX6_countOf_4 (by decide) (fun c4 => ?_) (fun c4 => ?_)
  · refine g_iload_1 hX dX6_countOf_33 ?_
    refine g_bipush hX 6 dX6_countOf_34 (by decide) ?_
    refine g_icmp_ne hX 72 dX6_countOf_36 (by decide) (fun c36 => ?_) (fun c36 => ?_)
    · refine g_iload_1 hX dX6_countOf_72 ?_
      refine g_iconst hX 2 dX6_countOf_73 (by decide) ?_
      refine g_icmp_ge hX 86 dX6_countOf_74 (by decide) (fun c74 => ?_) (fun c74 => ?_)
      · refine g_iload_1 hX dX6_countOf_86 ?_
        refine g_iconst hX 2 dX6_countOf_87 (by decide) ?_
        refine g_icmp_ne hX 101 dX6_countOf_88 (by decide) (fun c88 => ?_) (fun c88 => ?_)
        · refine g_iload_1 hX dX6_countOf_101 ?_
          refine g_iconst hX 3 dX6_countOf_102 (by decide) ?_
          refine g_icmp_ne hX 121 dX6_countOf_103 (by decide) (fun c103 => ?_) (fun c103 => ?_)
          · exact absurd c103 (not_not_intro rfl)
          · refine g_aload_0 hX dX6_countOf_106 ?_
            refine g_cV0r hX mkX6_allCanNow ml_X6_176 (c_X6_allCanNow hV) (ob_69 Z _) dX6_countOf_107 rfl (by decide) (Nat.le_of_ble_eq_true rfl) ?_
            refine g_if_eq hX 117 dX6_countOf_110 (by decide) (fun c110 => ?_) (fun c110 => ?_)
            · replace c110 := bI_z.mp c110
              refine g_iconst hX 0 dX6_countOf_117 (by decide) ?_
              refine g_goto hX 134 dX6_countOf_118 (by decide) ?_
              exact hq _ _ _ _ dX6_countOf_134 (⟨(bI_f c110).symm, lyM_mg b _⟩)
            · replace c110 := bI_nz.mp c110
              refine g_iconst hX 1 dX6_countOf_113 (by decide) ?_
              refine g_goto hX 134 dX6_countOf_114 (by decide) ?_
              exact hq _ _ _ _ dX6_countOf_134 (⟨(bI_t c110).symm, lyM_mg b _⟩)
        · exact absurd c88 (by decide)
      · exact absurd c74 (by decide)
    · exact absurd c36 (by decide)
  · exact absurd c4 (by decide)
set_option maxRecDepth 100000 in
set_option maxHeartbeats 4000000 in
theorem c_X6_countOf_4 {Z : Zt} {b : Mem} (hV : Val (mv b))  : ConE Z yX6_countOf cX6_countOf 4 (some .int) 7 [.ref (zad Z 69), .int (nI 4)] b (pI (fun x b' => x = coV (mv b) (nI 4) ∧ MG b 0 b')) := by
  have hn : b 71 0 = nI (nl (mv b)) := hV.1.1
  have hn6 := hV.1.2
  have hp : b 71 1 = nI (np (mv b)) := hV.2.1.1
  have hp6 := hV.2.1.2
  refine conE_i (by decide) (Nat.le_of_ble_eq_true rfl) rfl (fun X hX hq => ?_)
  have hX : Ok Z X cX6_countOf 4 RX6 7 := hX
  show G Z X b 0 [some (.ref (zad Z 69)), some (.int (nI 4)), none, none] []
  refine g_iconst hX 0 dX6_countOf_0 (by decide) ?_
  refine g_istore_2 hX dX6_countOf_1 rfl ?_
  refine g_iload_1 hX dX6_countOf_2 ?_
  refine g_iconst hX 5 dX6_countOf_3 (by decide) ?_
  refine g_icmp_ne hX 33 dX6_countOf_4 (by decide) (fun c4 => ?_) (fun c4 => ?_)
  · refine g_iload_1 hX dX6_countOf_33 ?_
    refine g_bipush hX 6 dX6_countOf_34 (by decide) ?_
    refine g_icmp_ne hX 72 dX6_countOf_36 (by decide) (fun c36 => ?_) (fun c36 => ?_)
    · refine g_iload_1 hX dX6_countOf_72 ?_
      refine g_iconst hX 2 dX6_countOf_73 (by decide) ?_
      refine g_icmp_ge hX 86 dX6_countOf_74 (by decide) (fun c74 => ?_) (fun c74 => ?_)
      · refine g_iload_1 hX dX6_countOf_86 ?_
        refine g_iconst hX 2 dX6_countOf_87 (by decide) ?_
        refine g_icmp_ne hX 101 dX6_countOf_88 (by decide) (fun c88 => ?_) (fun c88 => ?_)
        · refine g_iload_1 hX dX6_countOf_101 ?_
          refine g_iconst hX 3 dX6_countOf_102 (by decide) ?_
          refine g_icmp_ne hX 121 dX6_countOf_103 (by decide) (fun c103 => ?_) (fun c103 => ?_)
          · refine g_iload_1 hX dX6_countOf_121 ?_
            refine g_iconst hX 4 dX6_countOf_122 (by decide) ?_
            refine g_icmp_ne hX 133 dX6_countOf_123 (by decide) (fun c123 => ?_) (fun c123 => ?_)
            · exact absurd c123 (not_not_intro rfl)
            · refine g_aload_0 hX dX6_countOf_126 ?_
              refine g_cV0r hX mkX6_longest ml_X6_170 (c_X6_longest hV) (ob_69 Z _) dX6_countOf_127 rfl (by decide) (Nat.le_of_ble_eq_true rfl) ?_
              refine g_goto hX 134 dX6_countOf_130 (by decide) ?_
              exact hq _ _ _ _ dX6_countOf_134 (⟨by rfl, MG.rf b⟩)
          · exact absurd c103 (by decide)
        · exact absurd c88 (by decide)
      · exact absurd c74 (by decide)
    · exact absurd c36 (by decide)
  · exact absurd c4 (by decide)
set_option maxRecDepth 100000 in
set_option maxHeartbeats 4000000 in
theorem c_X6_countOf_5 {Z : Zt} {b : Mem} (hV : Val (mv b))  : ConE Z yX6_countOf cX6_countOf 4 (some .int) 7 [.ref (zad Z 69), .int (nI 5)] b (pI (fun x b' => x = coV (mv b) (nI 5) ∧ MG b 0 b')) := by
  have hn : b 71 0 = nI (nl (mv b)) := hV.1.1
  have hn6 := hV.1.2
  have hp : b 71 1 = nI (np (mv b)) := hV.2.1.1
  have hp6 := hV.2.1.2
  refine conE_i (by decide) (Nat.le_of_ble_eq_true rfl) rfl (fun X hX hq => ?_)
  have hX : Ok Z X cX6_countOf 4 RX6 7 := hX
  show G Z X b 0 [some (.ref (zad Z 69)), some (.int (nI 5)), none, none] []
  refine g_iconst hX 0 dX6_countOf_0 (by decide) ?_
  refine g_istore_2 hX dX6_countOf_1 rfl ?_
  refine g_iload_1 hX dX6_countOf_2 ?_
  refine g_iconst hX 5 dX6_countOf_3 (by decide) ?_
  refine g_icmp_ne hX 33 dX6_countOf_4 (by decide) (fun c4 => ?_) (fun c4 => ?_)
  · exact absurd c4 (not_not_intro rfl)
  · refine g_iconst hX 0 dX6_countOf_7 (by decide) ?_
    refine g_istore_3 hX dX6_countOf_8 rfl ?_
    refine g_loop (np (mv b)) (fun k => b) (fun k => [some (.ref (zad Z 69)), some (.int (nI 5)), some (.int (sumI (humpsS (mv b)) k)), some (.int (nI k))]) rfl rfl (fun k hk9 ih9 => ?_) ?_
    · show G Z X (b) 9 ([some (.ref (zad Z 69)), some (.int (nI 5)), some (.int (sumI (humpsS (mv b)) k)), some (.int (nI k))]) _
      refine g_iload_3 hX dX6_countOf_9 ?_
      refine g_aload_0 hX dX6_countOf_10 ?_
      refine gt_X6_now hX dX6_countOf_11 ?_
      refine g_iconst hX 1 dX6_countOf_14 (by decide) ?_
      refine g_ialdN (k := 1) hX (ar_71 Z) (by decide) (by decide) dX6_countOf_15 ?_
      refine g_icmp_ge hX 33 dX6_countOf_16 (by decide) (fun c16 => ?_) (fun c16 => ?_)
      · exact absurd c16 (not_not_intro (by rw [hp]; exact nI_lt hk9 (by omega)))
      · refine g_iload_2 hX dX6_countOf_19 ?_
        refine g_aload_0 hX dX6_countOf_20 ?_
        refine g_iload_3 hX dX6_countOf_21 ?_
        refine g_cV1r hX mkX6_humps ml_X6_154 (c_X6_humps (by omega) hV) (ob_69 Z _) dX6_countOf_22 rfl (by decide) (Nat.le_of_ble_eq_true rfl) ?_
        refine g_iadd hX dX6_countOf_25 ?_
        refine g_istore_2 hX dX6_countOf_26 rfl ?_
        refine g_iinc_3 hX 1 dX6_countOf_27 (by decide) rfl ?_
        refine g_goto hX 9 dX6_countOf_30 (by decide) ?_
        exact g_cast ih9 rfl (by simp only [nI_succ, sumI]) rfl
    · show G Z X (b) 9 ([some (.ref (zad Z 69)), some (.int (nI 5)), some (.int (sumI (humpsS (mv b)) (np (mv b)))), some (.int (nI (np (mv b))))]) _
      refine g_iload_3 hX dX6_countOf_9 ?_
      refine g_aload_0 hX dX6_countOf_10 ?_
      refine gt_X6_now hX dX6_countOf_11 ?_
      refine g_iconst hX 1 dX6_countOf_14 (by decide) ?_
      refine g_ialdN (k := 1) hX (ar_71 Z) (by decide) (by decide) dX6_countOf_15 ?_
      refine g_icmp_ge hX 33 dX6_countOf_16 (by decide) (fun c16 => ?_) (fun c16 => ?_)
      · refine g_iload_1 hX dX6_countOf_33 ?_
        refine g_bipush hX 6 dX6_countOf_34 (by decide) ?_
        refine g_icmp_ne hX 72 dX6_countOf_36 (by decide) (fun c36 => ?_) (fun c36 => ?_)
        · refine g_iload_1 hX dX6_countOf_72 ?_
          refine g_iconst hX 2 dX6_countOf_73 (by decide) ?_
          refine g_icmp_ge hX 86 dX6_countOf_74 (by decide) (fun c74 => ?_) (fun c74 => ?_)
          · refine g_iload_1 hX dX6_countOf_86 ?_
            refine g_iconst hX 2 dX6_countOf_87 (by decide) ?_
            refine g_icmp_ne hX 101 dX6_countOf_88 (by decide) (fun c88 => ?_) (fun c88 => ?_)
            · refine g_iload_1 hX dX6_countOf_101 ?_
              refine g_iconst hX 3 dX6_countOf_102 (by decide) ?_
              refine g_icmp_ne hX 121 dX6_countOf_103 (by decide) (fun c103 => ?_) (fun c103 => ?_)
              · refine g_iload_1 hX dX6_countOf_121 ?_
                refine g_iconst hX 4 dX6_countOf_122 (by decide) ?_
                refine g_icmp_ne hX 133 dX6_countOf_123 (by decide) (fun c123 => ?_) (fun c123 => ?_)
                · refine g_iload_2 hX dX6_countOf_133 ?_
                  exact hq _ _ _ _ dX6_countOf_134 (⟨by rfl, MG.rf b⟩)
                · exact absurd c123 (by decide)
              · exact absurd c103 (by decide)
            · exact absurd c88 (by decide)
          · exact absurd c74 (by decide)
        · exact absurd c36 (by decide)
      · exact absurd c16 (by rw [hp]; exact Int32.lt_irrefl)
set_option maxRecDepth 100000 in
set_option maxHeartbeats 4000000 in
theorem c_X6_countOf_6 {Z : Zt} {b : Mem} (hV : Val (mv b))  : ConE Z yX6_countOf cX6_countOf 4 (some .int) 7 [.ref (zad Z 69), .int (nI 6)] b (pI (fun x b' => x = coV (mv b) (nI 6) ∧ MG b 0 b')) := by
  have hn : b 71 0 = nI (nl (mv b)) := hV.1.1
  have hn6 := hV.1.2
  have hp : b 71 1 = nI (np (mv b)) := hV.2.1.1
  have hp6 := hV.2.1.2
  refine conE_i (by decide) (Nat.le_of_ble_eq_true rfl) rfl (fun X hX hq => ?_)
  have hX : Ok Z X cX6_countOf 4 RX6 7 := hX
  show G Z X b 0 [some (.ref (zad Z 69)), some (.int (nI 6)), none, none] []
  refine g_iconst hX 0 dX6_countOf_0 (by decide) ?_
  refine g_istore_2 hX dX6_countOf_1 rfl ?_
  refine g_iload_1 hX dX6_countOf_2 ?_
  refine g_iconst hX 5 dX6_countOf_3 (by decide) ?_
  refine g_icmp_ne hX 33 dX6_countOf_4 (by decide) (fun c4 => ?_) (fun c4 => ?_)
  · refine g_iload_1 hX dX6_countOf_33 ?_
    refine g_bipush hX 6 dX6_countOf_34 (by decide) ?_
    refine g_icmp_ne hX 72 dX6_countOf_36 (by decide) (fun c36 => ?_) (fun c36 => ?_)
    · exact absurd c36 (not_not_intro rfl)
    · refine g_iconst hX 0 dX6_countOf_39 (by decide) ?_
      refine g_istore_3 hX dX6_countOf_40 rfl ?_
      refine g_loop (nl (mv b)) (fun k => b) (fun k => [some (.ref (zad Z 69)), some (.int (nI 6)), some (.int (sumI (ndV (mv b) (mv b 5 4 0)) k)), some (.int (nI k))]) rfl rfl (fun k hk41 ih41 => ?_) ?_
      · show G Z X (b) 41 ([some (.ref (zad Z 69)), some (.int (nI 6)), some (.int (sumI (ndV (mv b) (mv b 5 4 0)) k)), some (.int (nI k))]) _
        refine g_iload_3 hX dX6_countOf_41 ?_
        refine g_aload_0 hX dX6_countOf_42 ?_
        refine gt_X6_now hX dX6_countOf_43 ?_
        refine g_iconst hX 0 dX6_countOf_46 (by decide) ?_
        refine g_ialdN (k := 0) hX (ar_71 Z) (by decide) (by decide) dX6_countOf_47 ?_
        refine g_icmp_ge hX 72 dX6_countOf_48 (by decide) (fun c48 => ?_) (fun c48 => ?_)
        · exact absurd c48 (not_not_intro (by rw [hn]; exact nI_lt hk41 (by omega)))
        · refine g_iload_2 hX dX6_countOf_51 ?_
          refine g_aload_0 hX dX6_countOf_52 ?_
          refine g_iload_3 hX dX6_countOf_53 ?_
          refine g_aload_0 hX dX6_countOf_54 ?_
          refine gt_X6_now hX dX6_countOf_55 ?_
          refine g_bipush hX 6 dX6_countOf_58 (by decide) ?_
          refine g_ialdN (k := 6) hX (ar_71 Z) (by decide) (by decide) dX6_countOf_60 ?_
          refine g_cV2r hX mkX6_needBy ml_X6_135 (c_X6_needBy hV hk41) (ob_69 Z _) dX6_countOf_61 rfl (by decide) (Nat.le_of_ble_eq_true rfl) ?_
          refine g_iadd hX dX6_countOf_64 ?_
          refine g_istore_2 hX dX6_countOf_65 rfl ?_
          refine g_iinc_3 hX 1 dX6_countOf_66 (by decide) rfl ?_
          refine g_goto hX 41 dX6_countOf_69 (by decide) ?_
          exact g_cast ih41 rfl (by simp only [nI_succ, sumI]; rfl) rfl
      · show G Z X (b) 41 ([some (.ref (zad Z 69)), some (.int (nI 6)), some (.int (sumI (ndV (mv b) (mv b 5 4 0)) (nl (mv b)))), some (.int (nI (nl (mv b))))]) _
        refine g_iload_3 hX dX6_countOf_41 ?_
        refine g_aload_0 hX dX6_countOf_42 ?_
        refine gt_X6_now hX dX6_countOf_43 ?_
        refine g_iconst hX 0 dX6_countOf_46 (by decide) ?_
        refine g_ialdN (k := 0) hX (ar_71 Z) (by decide) (by decide) dX6_countOf_47 ?_
        refine g_icmp_ge hX 72 dX6_countOf_48 (by decide) (fun c48 => ?_) (fun c48 => ?_)
        · refine g_iload_1 hX dX6_countOf_72 ?_
          refine g_iconst hX 2 dX6_countOf_73 (by decide) ?_
          refine g_icmp_ge hX 86 dX6_countOf_74 (by decide) (fun c74 => ?_) (fun c74 => ?_)
          · refine g_iload_1 hX dX6_countOf_86 ?_
            refine g_iconst hX 2 dX6_countOf_87 (by decide) ?_
            refine g_icmp_ne hX 101 dX6_countOf_88 (by decide) (fun c88 => ?_) (fun c88 => ?_)
            · refine g_iload_1 hX dX6_countOf_101 ?_
              refine g_iconst hX 3 dX6_countOf_102 (by decide) ?_
              refine g_icmp_ne hX 121 dX6_countOf_103 (by decide) (fun c103 => ?_) (fun c103 => ?_)
              · refine g_iload_1 hX dX6_countOf_121 ?_
                refine g_iconst hX 4 dX6_countOf_122 (by decide) ?_
                refine g_icmp_ne hX 133 dX6_countOf_123 (by decide) (fun c123 => ?_) (fun c123 => ?_)
                · refine g_iload_2 hX dX6_countOf_133 ?_
                  exact hq _ _ _ _ dX6_countOf_134 (⟨by rfl, MG.rf b⟩)
                · exact absurd c123 (by decide)
              · exact absurd c103 (by decide)
            · exact absurd c88 (by decide)
          · exact absurd c74 (by decide)
        · exact absurd c48 (by rw [hn]; exact Int32.lt_irrefl)
  · exact absurd c4 (by decide)
theorem c_X6_countOf {Z : Zt} {b : Mem} {k : Nat} (hk : k < 7) (hV : Val (mv b)) : ConE Z yX6_countOf cX6_countOf 4 (some .int) 7 [.ref (zad Z 69), .int (nI k)] b (pI (fun x b' => x = coV (mv b) (nI k) ∧ MG b 0 b')) := by
  rcases (show k = 0 ∨ k = 1 ∨ k = 2 ∨ k = 3 ∨ k = 4 ∨ k = 5 ∨ k = 6 by omega) with rfl | rfl | rfl | rfl | rfl | rfl | rfl
  · exact c_X6_countOf_0 hV
  · exact c_X6_countOf_1 hV
  · exact c_X6_countOf_2 hV
  · exact c_X6_countOf_3 hV
  · exact c_X6_countOf_4 hV
  · exact c_X6_countOf_5 hV
  · exact c_X6_countOf_6 hV
set_option maxRecDepth 100000 in
set_option maxHeartbeats 4000000 in
theorem c_X6_count {Z : Zt} {b : Mem} {w : Int32} (hV : Val (mv b))  : ConE Z yX6_count cX6_count 2 (some .int) 8 [.ref (zad Z 69), .int w] b (pI (fun x b' => x = coR (mv b) w ∧ MG b (coC w) b')) := by
  refine conE_i (by decide) (Nat.le_of_ble_eq_true rfl) rfl (fun X hX hq => ?_)
  have hX : Ok Z X cX6_count 2 RX6 8 := hX
  show G Z X b 0 [some (.ref (zad Z 69)), some (.int w)] []
  refine g_iload_1 hX dX6_count_0 ?_
  refine g_iconst hX 0 dX6_count_1 (by decide) ?_
  refine g_bipush hX 6 dX6_count_2 (by decide) ?_
  refine g_cS3r hX mkX6_in ml_X6_61 (c_X6_in) dX6_count_4 rfl (by decide) (Nat.le_of_ble_eq_true rfl) ?_
  refine g_if_eq hX 18 dX6_count_7 (by decide) (fun c7 => ?_) (fun c7 => ?_)
  · replace c7 := bI_z.mp c7
    refine g_aload_0 hX dX6_count_18 ?_
    refine g_cV0r hX mkX6_bad ml_X6_43 (c_X6_bad) (ob_69 Z _) dX6_count_19 rfl (by decide) (Nat.le_of_ble_eq_true rfl) ?_
    exact hq _ _ _ _ dX6_count_22 (⟨by rw [coR, cl_f c7], by rw [coC, cl_f c7]; exact MG.bad b⟩)
  · replace c7 := bI_nz.mp c7
    obtain ⟨j, hj, rfl⟩ := in_of6 (n := 6) c7.1 c7.2 (by decide)
    refine g_aload_0 hX dX6_count_10 ?_
    refine g_iload_1 hX dX6_count_11 ?_
    refine g_eV1i hX mkX6_countOf ml_X6_188 (c_X6_countOf hj hV) (ob_69 Z _) dX6_count_12 rfl (by decide) (Nat.le_of_ble_eq_true rfl) (fun x12 m12 h12 => ?_)
    refine g_goto hX 22 dX6_count_15 (by decide) ?_
    exact hq _ _ _ _ dX6_count_22 (⟨by rw [coR, cl_t c7]; exact h12.1, by rw [coC, cl_t c7]; exact h12.2⟩)
