/-! SnakedBus: bumps, more, texts; the changes; back, does; the digest -/
set_option maxRecDepth 100000 in
set_option maxHeartbeats 4000000 in
theorem c_X5_bumps {Z : Zt} {b : Mem} {l : Int32} (hC : CI b) : ConE Z yX5_bumps cX5_bumps 2 (some .int) 4 [.ref (zad Z 0), .int l] b (pI (fun x b' => x = buR (cv b 1) l ∧ GP b (buC (cv b 1) l) b')) := by
  have hn : b 1 6 = nI (nl (cv b 1)) := hC.1.1.1.1
  have hn6 := hC.1.1.1.2
  have hp : b 1 7 = nI (np (cv b 1)) := hC.1.1.2.1.1
  have hp6 := hC.1.1.2.1.2
  refine conE_i (by decide) (Nat.le_of_ble_eq_true rfl) rfl (fun X hX hq => ?_)
  have hX : Ok Z X cX5_bumps 2 RX5 4 := hX
  show G Z X b 0 [some (.ref (zad Z 0)), some (.int l)] []
  refine g_aload_0 hX dX5_bumps_0 ?_
  refine gt_X5_bus hX dX5_bumps_1 ?_
  refine g_iload_1 hX dX5_bumps_4 ?_
  refine g_cV1r hX mkX0_hasLine ml_X5_95 (c_X0_hasLine (bus_1 Z)) ((bus_1 Z).obj _) dX5_bumps_5 rfl (by decide) (Nat.le_of_ble_eq_true rfl) ?_
  refine g_if_eq hX 26 dX5_bumps_8 (by decide) (fun c8 => ?_) (fun c8 => ?_)
  · replace c8 := bI_z.mp c8
    refine g_aload_0 hX dX5_bumps_26 ?_
    refine g_bipush hX (-2) dX5_bumps_27 (by decide) ?_
    refine g_cV1r hX mkX5_refused ml_X5_99 (c_X5_refused) (ob_0 Z _) dX5_bumps_29 rfl (by decide) (Nat.le_of_ble_eq_true rfl) ?_
    exact hq _ _ _ _ dX5_bumps_32 (⟨by rw [buR, cl_f (show ¬ okL (cv b 1) l from c8)], by rw [buC, cl_f (show ¬ okL (cv b 1) l from c8)]; exact GP.ref hC (-2)⟩)
  · replace c8 := bI_nz.mp c8
    obtain ⟨j, hj, rfl⟩ := in_of c8.1 (by have := c8.2; rw [hn] at this; exact this) (by omega)
    have hjc : (nI j).toNatClampNeg = j := nI_clamp (by omega)
    have hj6 := hC.1.1.l6 hj
    refine g_aload_0 hX dX5_bumps_11 ?_
    refine gt_X5_phasing hX dX5_bumps_12 ?_
    refine g_aload_0 hX dX5_bumps_15 ?_
    refine gt_X5_bus hX dX5_bumps_16 ?_
    refine g_iload_1 hX dX5_bumps_19 ?_
    refine g_cV2r hX mkX2_fewestFor ml_X5_198 (c_X2_fewestFor (bus_1 Z) hC.1.1 hj (by decide)) (ob_66 Z _) dX5_bumps_20 rfl (by decide) (Nat.le_of_ble_eq_true rfl) ?_
    refine g_goto hX 32 dX5_bumps_23 (by decide) ?_
    exact hq _ _ _ _ dX5_bumps_32 (⟨by rw [buR, cl_t (show okL (cv b 1) (nI j) from c8), hjc]; exact bump_pure hC.1 hj, by rw [buC, cl_t (show okL (cv b 1) (nI j) from c8)]; exact GP.bump hC _ _ _⟩)
theorem mrF_iff {m : Mem} {v : View} (h : SHp m 61 v (v 5 4 0)) (hn : nl v ≤ 6) (hp : np v ≤ 6) {p : Nat} (hpp : p < np v) : (m 61 6 = 0 ∧ (crS (spv (up2 m (61 + 3) p (m (61 + 3) p + 1)) 61 (np v)) (2 ^ nl v - 1)).1 = 0) ↔ mrF v p := by
  have ht := tooN_lt v (v 5 4 0) hn
  have e : (crS (spv (up2 m (61 + 3) p (m (61 + 3) p + 1)) 61 (np v)) (2 ^ nl v - 1)) = crS (spR (ndV v (v 5 4 0)) (reachN v) (nl v) (np v) (upd (humpsS v) p (humpsS v p + 1))) (2 ^ nl v - 1) := by
    apply crS_congr
    intro s h1 h2
    have hs : s < 2 ^ nl v := by have := pow1 (nl v); omega
    refine spv_eq hp ?_ ?_ (fun q hq => ?_)
    · rw [u2c _ _ (by decide)]; exact (h.2.2.2.1 s hs).1
    · rw [u2c _ _ (by decide)]; exact (h.2.2.2.1 s hs).2
    · by_cases c : q = p
      · subst c; rw [u2s, h.2.2.2.2 q hq]; simp [upd]
      · rw [u2k _ _ c, h.2.2.2.2 q hq]; simp [upd, c]
  unfold mrF
  rw [h.2.2.1, e, nI0 (by omega)]
/-- more(): NO, or the first pocket -/
def moreP (v : View) (x : Int32) : Prop := (blN v (v 5 4 0) = 0 ∧ x = -3) ∨ (¬ blN v (v 5 4 0) = 0 ∧ isFst (mrF v) (np v) x)
def moreC (v : View) : Int32 := if blN v (v 5 4 0) = 0 then -3 else 0
theorem fst_or {f : Nat → Prop} (n : Nat) : (∃ p, p < n ∧ f p ∧ ∀ q, q < p → ¬ f q) ∨ ∀ p, p < n → ¬ f p := by
  induction n with
  | zero => right; intro p hp; omega
  | succ n ih =>
    rcases ih with ⟨p, h1, h2, h3⟩ | h
    · exact Or.inl ⟨p, by omega, h2, h3⟩
    · by_cases c : f n
      · exact Or.inl ⟨n, by omega, c, h⟩
      · right
        intro p hp
        by_cases e : p = n
        · subst e; exact c
        · exact h p (by omega)
set_option maxRecDepth 100000 in
set_option maxHeartbeats 4000000 in
theorem c_X5_more_no {Z : Zt} {b : Mem} (hC : CI b) (hb : blN (cv b 1) (cv b 1 5 4 0) = 0) : ConE Z yX5_more cX5_more 2 (some .int) 5 [.ref (zad Z 0)] b (pI (fun x b' => moreP (cv b 1) x ∧ GP b (moreC (cv b 1)) b')) := by
  have hn : b 1 6 = nI (nl (cv b 1)) := hC.1.1.1.1
  have hn6 := hC.1.1.1.2
  have hp : b 1 7 = nI (np (cv b 1)) := hC.1.1.2.1.1
  have hp6 := hC.1.1.2.1.2
  refine conE_i (by decide) (Nat.le_of_ble_eq_true rfl) rfl (fun X hX hq => ?_)
  have hX : Ok Z X cX5_more 2 RX5 5 := hX
  show G Z X b 0 [some (.ref (zad Z 0)), none] []
  refine g_aload_0 hX dX5_more_0 ?_
  refine g_eV0r hX mkX5_plan ml_X5_148 (c_X5_plan hC) (ob_0 Z _) dX5_more_1 rfl (by decide) (Nat.le_of_ble_eq_true rfl) (fun m1 h1 => ?_)
  have hv : cv m1 1 = cv b 1 := h1.1.2.1.cv1
  have hbl := (GP.pl h1).2.2
  refine g_cV0r hX mkX3_allFit ml_X5_152 (c_X3_allFit (shr_56 Z)) ((shr_56 Z).obj _) dX5_more_4 rfl (by decide) (Nat.le_of_ble_eq_true rfl) ?_
  refine g_if_eq hX 17 dX5_more_7 (by decide) (fun c7 => ?_) (fun c7 => ?_)
  · replace c7 := bI_z.mp c7
    exact absurd c7 (not_not_intro (hbl.mpr hb))
  · replace c7 := bI_nz.mp c7
    refine g_aload_0 hX dX5_more_10 ?_
    refine g_bipush hX (-3) dX5_more_11 (by decide) ?_
    refine g_cV1r hX mkX5_refused ml_X5_99 (c_X5_refused) (ob_0 Z _) dX5_more_13 rfl (by decide) (Nat.le_of_ble_eq_true rfl) ?_
    exact hq _ _ _ _ dX5_more_16 (⟨Or.inl ⟨hb, rfl⟩, by rw [moreC, if_pos hb]; exact h1.1.tr (GP.ref h1.1.1 (-3))⟩)
set_option maxRecDepth 100000 in
set_option maxHeartbeats 4000000 in
theorem c_X5_more_at {Z : Zt} {b : Mem} {n : Nat} (hC : CI b) (hb : ¬ blN (cv b 1) (cv b 1 5 4 0) = 0) (hnp : n < np (cv b 1)) (hf : mrF (cv b 1) n) (hno : ∀ q, q < n → ¬ mrF (cv b 1) q) : ConE Z yX5_more cX5_more 2 (some .int) 5 [.ref (zad Z 0)] b (pI (fun x b' => moreP (cv b 1) x ∧ GP b (moreC (cv b 1)) b')) := by
  have hn : b 1 6 = nI (nl (cv b 1)) := hC.1.1.1.1
  have hn6 := hC.1.1.1.2
  have hp : b 1 7 = nI (np (cv b 1)) := hC.1.1.2.1.1
  have hp6 := hC.1.1.2.1.2
  refine conE_i (by decide) (Nat.le_of_ble_eq_true rfl) rfl (fun X hX hq => ?_)
  have hX : Ok Z X cX5_more 2 RX5 5 := hX
  show G Z X b 0 [some (.ref (zad Z 0)), none] []
  refine g_aload_0 hX dX5_more_0 ?_
  refine g_eV0r hX mkX5_plan ml_X5_148 (c_X5_plan hC) (ob_0 Z _) dX5_more_1 rfl (by decide) (Nat.le_of_ble_eq_true rfl) (fun m1 h1 => ?_)
  have hv : cv m1 1 = cv b 1 := h1.1.2.1.cv1
  have hbl := (GP.pl h1).2.2
  refine g_cV0r hX mkX3_allFit ml_X5_152 (c_X3_allFit (shr_56 Z)) ((shr_56 Z).obj _) dX5_more_4 rfl (by decide) (Nat.le_of_ble_eq_true rfl) ?_
  refine g_if_eq hX 17 dX5_more_7 (by decide) (fun c7 => ?_) (fun c7 => ?_)
  · replace c7 := bI_z.mp c7
    obtain ⟨g1, g2⟩ := GP.look h1.1.1 (cv b 1 5 4 0)
    rw [hv] at g2
    have ht : m1 (1 + 6) 4 = cv b 1 5 4 0 := by rw [← hv]; rfl
    refine g_aload_0 hX dX5_more_17 ?_
    refine gt_X5_tried hX dX5_more_18 ?_
    refine g_aload_0 hX dX5_more_21 ?_
    refine gt_X5_bus hX dX5_more_22 ?_
    refine g_aload_0 hX dX5_more_25 ?_
    refine gt_X5_bus hX dX5_more_26 ?_
    refine g_iconst hX 4 dX5_more_29 (by decide) ?_
    refine g_cV1r hX mkX0_settingAt ml_X5_108 (c_X0_settingAt (k := 4) (bus_1 Z) (by decide)) ((bus_1 Z).obj _) dX5_more_30 rfl (by decide) (Nat.le_of_ble_eq_true rfl) ?_
    refine g_top _ ht ?_
    refine g_cV2v hX mkX3_look ml_X5_191 (c_X3_look (shr_61 Z) (bus_1 Z) (by rw [hv]; exact hC.1.1) (by omega)) ((shr_61 Z).obj _) dX5_more_33 rfl (by decide) (Nat.le_of_ble_eq_true rfl) ?_
    refine g_iconst hX 0 dX5_more_36 (by decide) ?_
    refine g_istore_1 hX dX5_more_37 rfl ?_
    refine g_loop (n) (fun k => lookM m1 61 1 (cv b 1 5 4 0)) (fun k => [some (.ref (zad Z 0)), some (.int (nI k))]) rfl rfl (fun k hk38 ih38 => ?_) ?_
    · show G Z X (lookM m1 61 1 (cv b 1 5 4 0)) 38 ([some (.ref (zad Z 0)), some (.int (nI k))]) _
      have e7 : lookM m1 61 1 (cv b 1 5 4 0) 1 7 = nI (np (cv b 1)) := by rw [g1.2.1 1 (by omega), h1.1.2.1 1 (by omega)]; exact hp
      refine g_iload_1 hX dX5_more_38 ?_
      refine g_aload_0 hX dX5_more_39 ?_
      refine gt_X5_bus hX dX5_more_40 ?_
      refine g_cV0r hX mkX0_pocketCount ml_X5_167 (c_X0_pocketCount (bus_1 Z)) ((bus_1 Z).obj _) dX5_more_43 rfl (by decide) (Nat.le_of_ble_eq_true rfl) ?_
      refine g_icmp_ge hX 68 dX5_more_46 (by decide) (fun c46 => ?_) (fun c46 => ?_)
      · exact absurd c46 (not_not_intro (by rw [e7]; exact nI_lt (by omega) (by omega)))
      · refine g_aload_0 hX dX5_more_49 ?_
        refine gt_X5_tried hX dX5_more_50 ?_
        refine g_iload_1 hX dX5_more_53 ?_
        refine g_cV1r hX mkX3_fitsWithOneMore ml_X5_195 (c_X3_fitsWithOneMore (shr_61 Z) (p := k) (by omega) (n := nl (cv b 1)) (np := np (cv b 1)) g2.1 hn6 g2.2.1 hp6) ((shr_61 Z).obj _) dX5_more_54 rfl (by decide) (Nat.le_of_ble_eq_true rfl) ?_
        refine g_if_eq hX 62 dX5_more_57 (by decide) (fun c57 => ?_) (fun c57 => ?_)
        · replace c57 := bI_z.mp c57
          refine g_iinc_1 hX 1 dX5_more_62 (by decide) rfl ?_
          refine g_goto hX 38 dX5_more_65 (by decide) ?_
          exact g_cast ih38 rfl (by simp only [nI_succ]) rfl
        · replace c57 := bI_nz.mp c57
          exact absurd c57 (fun z => hno k hk38 ((mrF_iff g2 hn6 hp6 (by omega)).mp z))
    · show G Z X (lookM m1 61 1 (cv b 1 5 4 0)) 38 ([some (.ref (zad Z 0)), some (.int (nI (n)))]) _
      have e7 : lookM m1 61 1 (cv b 1 5 4 0) 1 7 = nI (np (cv b 1)) := by rw [g1.2.1 1 (by omega), h1.1.2.1 1 (by omega)]; exact hp
      refine g_iload_1 hX dX5_more_38 ?_
      refine g_aload_0 hX dX5_more_39 ?_
      refine gt_X5_bus hX dX5_more_40 ?_
      refine g_cV0r hX mkX0_pocketCount ml_X5_167 (c_X0_pocketCount (bus_1 Z)) ((bus_1 Z).obj _) dX5_more_43 rfl (by decide) (Nat.le_of_ble_eq_true rfl) ?_
      refine g_icmp_ge hX 68 dX5_more_46 (by decide) (fun c46 => ?_) (fun c46 => ?_)
      · exact absurd c46 (not_not_intro (by rw [e7]; exact nI_lt (by omega) (by omega)))
      · refine g_aload_0 hX dX5_more_49 ?_
        refine gt_X5_tried hX dX5_more_50 ?_
        refine g_iload_1 hX dX5_more_53 ?_
        refine g_cV1r hX mkX3_fitsWithOneMore ml_X5_195 (c_X3_fitsWithOneMore (shr_61 Z) (p := n) (by omega) (n := nl (cv b 1)) (np := np (cv b 1)) g2.1 hn6 g2.2.1 hp6) ((shr_61 Z).obj _) dX5_more_54 rfl (by decide) (Nat.le_of_ble_eq_true rfl) ?_
        refine g_if_eq hX 62 dX5_more_57 (by decide) (fun c57 => ?_) (fun c57 => ?_)
        · replace c57 := bI_z.mp c57
          exact absurd c57 (not_not_intro ((mrF_iff g2 hn6 hp6 hnp).mpr hf))
        · replace c57 := bI_nz.mp c57
          refine g_iload_1 hX dX5_more_60 ?_
          exact hq _ _ _ _ dX5_more_61 (⟨Or.inr ⟨hb, Or.inl ⟨n, hnp, hf, hno, rfl⟩⟩, by rw [moreC, if_neg hb]; exact h1.1.tr g1⟩)
  · replace c7 := bI_nz.mp c7
    exact absurd c7 (fun z => hb (hbl.mp z))
set_option maxRecDepth 100000 in
set_option maxHeartbeats 4000000 in
theorem c_X5_more_none {Z : Zt} {b : Mem} (hC : CI b) (hb : ¬ blN (cv b 1) (cv b 1 5 4 0) = 0) (hno : ∀ q, q < np (cv b 1) → ¬ mrF (cv b 1) q) : ConE Z yX5_more cX5_more 2 (some .int) 5 [.ref (zad Z 0)] b (pI (fun x b' => moreP (cv b 1) x ∧ GP b (moreC (cv b 1)) b')) := by
  have hn : b 1 6 = nI (nl (cv b 1)) := hC.1.1.1.1
  have hn6 := hC.1.1.1.2
  have hp : b 1 7 = nI (np (cv b 1)) := hC.1.1.2.1.1
  have hp6 := hC.1.1.2.1.2
  refine conE_i (by decide) (Nat.le_of_ble_eq_true rfl) rfl (fun X hX hq => ?_)
  have hX : Ok Z X cX5_more 2 RX5 5 := hX
  show G Z X b 0 [some (.ref (zad Z 0)), none] []
  refine g_aload_0 hX dX5_more_0 ?_
  refine g_eV0r hX mkX5_plan ml_X5_148 (c_X5_plan hC) (ob_0 Z _) dX5_more_1 rfl (by decide) (Nat.le_of_ble_eq_true rfl) (fun m1 h1 => ?_)
  have hv : cv m1 1 = cv b 1 := h1.1.2.1.cv1
  have hbl := (GP.pl h1).2.2
  refine g_cV0r hX mkX3_allFit ml_X5_152 (c_X3_allFit (shr_56 Z)) ((shr_56 Z).obj _) dX5_more_4 rfl (by decide) (Nat.le_of_ble_eq_true rfl) ?_
  refine g_if_eq hX 17 dX5_more_7 (by decide) (fun c7 => ?_) (fun c7 => ?_)
  · replace c7 := bI_z.mp c7
    obtain ⟨g1, g2⟩ := GP.look h1.1.1 (cv b 1 5 4 0)
    rw [hv] at g2
    have ht : m1 (1 + 6) 4 = cv b 1 5 4 0 := by rw [← hv]; rfl
    refine g_aload_0 hX dX5_more_17 ?_
    refine gt_X5_tried hX dX5_more_18 ?_
    refine g_aload_0 hX dX5_more_21 ?_
    refine gt_X5_bus hX dX5_more_22 ?_
    refine g_aload_0 hX dX5_more_25 ?_
    refine gt_X5_bus hX dX5_more_26 ?_
    refine g_iconst hX 4 dX5_more_29 (by decide) ?_
    refine g_cV1r hX mkX0_settingAt ml_X5_108 (c_X0_settingAt (k := 4) (bus_1 Z) (by decide)) ((bus_1 Z).obj _) dX5_more_30 rfl (by decide) (Nat.le_of_ble_eq_true rfl) ?_
    refine g_top _ ht ?_
    refine g_cV2v hX mkX3_look ml_X5_191 (c_X3_look (shr_61 Z) (bus_1 Z) (by rw [hv]; exact hC.1.1) (by omega)) ((shr_61 Z).obj _) dX5_more_33 rfl (by decide) (Nat.le_of_ble_eq_true rfl) ?_
    refine g_iconst hX 0 dX5_more_36 (by decide) ?_
    refine g_istore_1 hX dX5_more_37 rfl ?_
    refine g_loop (np (cv b 1)) (fun k => lookM m1 61 1 (cv b 1 5 4 0)) (fun k => [some (.ref (zad Z 0)), some (.int (nI k))]) rfl rfl (fun k hk38 ih38 => ?_) ?_
    · show G Z X (lookM m1 61 1 (cv b 1 5 4 0)) 38 ([some (.ref (zad Z 0)), some (.int (nI k))]) _
      have e7 : lookM m1 61 1 (cv b 1 5 4 0) 1 7 = nI (np (cv b 1)) := by rw [g1.2.1 1 (by omega), h1.1.2.1 1 (by omega)]; exact hp
      refine g_iload_1 hX dX5_more_38 ?_
      refine g_aload_0 hX dX5_more_39 ?_
      refine gt_X5_bus hX dX5_more_40 ?_
      refine g_cV0r hX mkX0_pocketCount ml_X5_167 (c_X0_pocketCount (bus_1 Z)) ((bus_1 Z).obj _) dX5_more_43 rfl (by decide) (Nat.le_of_ble_eq_true rfl) ?_
      refine g_icmp_ge hX 68 dX5_more_46 (by decide) (fun c46 => ?_) (fun c46 => ?_)
      · exact absurd c46 (not_not_intro (by rw [e7]; exact nI_lt (by omega) (by omega)))
      · refine g_aload_0 hX dX5_more_49 ?_
        refine gt_X5_tried hX dX5_more_50 ?_
        refine g_iload_1 hX dX5_more_53 ?_
        refine g_cV1r hX mkX3_fitsWithOneMore ml_X5_195 (c_X3_fitsWithOneMore (shr_61 Z) (p := k) (by omega) (n := nl (cv b 1)) (np := np (cv b 1)) g2.1 hn6 g2.2.1 hp6) ((shr_61 Z).obj _) dX5_more_54 rfl (by decide) (Nat.le_of_ble_eq_true rfl) ?_
        refine g_if_eq hX 62 dX5_more_57 (by decide) (fun c57 => ?_) (fun c57 => ?_)
        · replace c57 := bI_z.mp c57
          refine g_iinc_1 hX 1 dX5_more_62 (by decide) rfl ?_
          refine g_goto hX 38 dX5_more_65 (by decide) ?_
          exact g_cast ih38 rfl (by simp only [nI_succ]) rfl
        · replace c57 := bI_nz.mp c57
          exact absurd c57 (fun z => hno k hk38 ((mrF_iff g2 hn6 hp6 (by omega)).mp z))
    · show G Z X (lookM m1 61 1 (cv b 1 5 4 0)) 38 ([some (.ref (zad Z 0)), some (.int (nI (np (cv b 1))))]) _
      have e7 : lookM m1 61 1 (cv b 1 5 4 0) 1 7 = nI (np (cv b 1)) := by rw [g1.2.1 1 (by omega), h1.1.2.1 1 (by omega)]; exact hp
      refine g_iload_1 hX dX5_more_38 ?_
      refine g_aload_0 hX dX5_more_39 ?_
      refine gt_X5_bus hX dX5_more_40 ?_
      refine g_cV0r hX mkX0_pocketCount ml_X5_167 (c_X0_pocketCount (bus_1 Z)) ((bus_1 Z).obj _) dX5_more_43 rfl (by decide) (Nat.le_of_ble_eq_true rfl) ?_
      refine g_icmp_ge hX 68 dX5_more_46 (by decide) (fun c46 => ?_) (fun c46 => ?_)
      · refine g_iconst hX (-1) dX5_more_68 (by decide) ?_
        exact hq _ _ _ _ dX5_more_69 (⟨Or.inr ⟨hb, Or.inr ⟨hno, rfl⟩⟩, by rw [moreC, if_neg hb]; exact h1.1.tr g1⟩)
      · exact absurd c46 (by rw [e7]; exact Int32.lt_irrefl)
  · replace c7 := bI_nz.mp c7
    exact absurd c7 (fun z => hb (hbl.mp z))
theorem c_X5_more {Z : Zt} {b : Mem} (hC : CI b) : ConE Z yX5_more cX5_more 2 (some .int) 5 [.ref (zad Z 0)] b (pI (fun x b' => moreP (cv b 1) x ∧ GP b (moreC (cv b 1)) b')) := by
  by_cases hb : blN (cv b 1) (cv b 1 5 4 0) = 0
  · exact c_X5_more_no hC hb
  · rcases fst_or (f := mrF (cv b 1)) (np (cv b 1)) with ⟨p, h1, h2, h3⟩ | h
    · exact c_X5_more_at hC hb h1 h2 h3
    · exact c_X5_more_none hC hb h
