/-! SnakedBus: plan, fitsBy, and the calls that tell -/
set_option maxRecDepth 100000 in
set_option maxHeartbeats 4000000 in
theorem c_X5_refused {Z : Zt} {b : Mem} {c : Int32} : Con Z yX5_refused cX5_refused 2 (some .int) 0 [.ref (zad Z 0), .int c] b (some (.int (c))) (refM b c) := by
  refine con_i (by decide) (Nat.le_of_ble_eq_true rfl) rfl (fun X hX hq => ?_)
  have hX : Ok Z X cX5_refused 2 RX5 0 := hX
  show G Z X b 0 [some (.ref (zad Z 0)), some (.int c)] []
  refine g_iload_1 hX dX5_refused_0 ?_
  refine g_bipush hX (-2) dX5_refused_1 (by decide) ?_
  refine g_icmp_ne hX 19 dX5_refused_3 (by decide) (fun c3 => ?_) (fun c3 => ?_)
  · refine g_iload_1 hX dX5_refused_19 ?_
    refine g_bipush hX (-3) dX5_refused_20 (by decide) ?_
    refine g_icmp_ne hX 38 dX5_refused_22 (by decide) (fun c22 => ?_) (fun c22 => ?_)
    · refine g_iload_1 hX dX5_refused_38 ?_
      refine g_bipush hX (-4) dX5_refused_39 (by decide) ?_
      refine g_icmp_ne hX 54 dX5_refused_41 (by decide) (fun c41 => ?_) (fun c41 => ?_)
      · refine g_iload_1 hX dX5_refused_54 ?_
        exact hq _ _ _ _ dX5_refused_55 (by first | (unfold refM; rw [if_pos c3]; done) | (unfold refM; rw [if_neg c3, if_pos c22]; done) | (unfold refM; rw [if_neg c3, if_neg c22, if_pos c41]; done) | (unfold refM; rw [if_neg c3, if_neg c22, if_neg c41]; done)) (by rfl)
      · refine g_aload_0 hX dX5_refused_44 ?_
        refine g_dup hX dX5_refused_45 rfl ?_
        refine gt_X5_fulls hX dX5_refused_46 ?_
        refine g_iconst hX 1 dX5_refused_49 (by decide) ?_
        refine g_iadd hX dX5_refused_50 ?_
        refine pt_X5_fulls hX dX5_refused_51 ?_
        refine g_iload_1 hX dX5_refused_54 ?_
        exact hq _ _ _ _ dX5_refused_55 (by first | (unfold refM; rw [if_pos c3]; done) | (unfold refM; rw [if_neg c3, if_pos c22]; done) | (unfold refM; rw [if_neg c3, if_neg c22, if_pos c41]; done) | (unfold refM; rw [if_neg c3, if_neg c22, if_neg c41]; done)) (by rfl)
    · refine g_aload_0 hX dX5_refused_25 ?_
      refine g_dup hX dX5_refused_26 rfl ?_
      refine gt_X5_noes hX dX5_refused_27 ?_
      refine g_iconst hX 1 dX5_refused_30 (by decide) ?_
      refine g_iadd hX dX5_refused_31 ?_
      refine pt_X5_noes hX dX5_refused_32 ?_
      refine g_goto hX 54 dX5_refused_35 (by decide) ?_
      refine g_iload_1 hX dX5_refused_54 ?_
      exact hq _ _ _ _ dX5_refused_55 (by first | (unfold refM; rw [if_pos c3]; done) | (unfold refM; rw [if_neg c3, if_pos c22]; done) | (unfold refM; rw [if_neg c3, if_neg c22, if_pos c41]; done) | (unfold refM; rw [if_neg c3, if_neg c22, if_neg c41]; done)) (by rfl)
  · refine g_aload_0 hX dX5_refused_6 ?_
    refine g_dup hX dX5_refused_7 rfl ?_
    refine gt_X5_bads hX dX5_refused_8 ?_
    refine g_iconst hX 1 dX5_refused_11 (by decide) ?_
    refine g_iadd hX dX5_refused_12 ?_
    refine pt_X5_bads hX dX5_refused_13 ?_
    refine g_goto hX 54 dX5_refused_16 (by decide) ?_
    refine g_iload_1 hX dX5_refused_54 ?_
    exact hq _ _ _ _ dX5_refused_55 (by first | (unfold refM; rw [if_pos c3]; done) | (unfold refM; rw [if_neg c3, if_pos c22]; done) | (unfold refM; rw [if_neg c3, if_neg c22, if_pos c41]; done) | (unfold refM; rw [if_neg c3, if_neg c22, if_neg c41]; done)) (by rfl)
set_option maxRecDepth 100000 in
set_option maxHeartbeats 4000000 in
theorem c_X5_plan_done {Z : Zt} {b : Mem} (h0 : ¬ b 0 7 = 0) : Con Z yX5_plan cX5_plan 2 (some (.object "SnakedBus$Sharing")) 4 [.ref (zad Z 0)] b (some (.ref (zad Z 56))) (b) := by
  refine con_a (by decide) (Nat.le_of_ble_eq_true rfl) rfl (fun X hX hq => ?_)
  have hX : Ok Z X cX5_plan 2 RX5 4 := hX
  show G Z X b 0 [some (.ref (zad Z 0)), none] []
  refine g_aload_0 hX dX5_plan_0 ?_
  refine gt_X5_planned hX dX5_plan_1 ?_
  refine g_if_ne hX 75 dX5_plan_4 (by decide) (fun c4 => ?_) (fun c4 => ?_)
  · refine g_aload_0 hX dX5_plan_75 ?_
    refine gt_X5_byTarget hX dX5_plan_76 ?_
    exact hq _ _ _ _ dX5_plan_79 (by rfl) (by rfl)
  · exact absurd c4 (h0)
set_option maxRecDepth 100000 in
set_option maxHeartbeats 4000000 in
theorem c_X5_plan_fit {Z : Zt} {b : Mem} (hC : CI b) (h0 : b 0 7 = 0) (hb : blN (cv b 1) (cv b 1 5 4 0) = 0) : Con Z yX5_plan cX5_plan 2 (some (.object "SnakedBus$Sharing")) 4 [.ref (zad Z 0)] b (some (.ref (zad Z 56))) (up2 (plL (pl2 b (cv b 1 5 4 0) (nI (blN (cv b 1) (cv b 1 5 4 0)))) (nl (cv b 1)) (np (cv b 1)) (nl (cv b 1))) 0 7 1) := by
  have hn : b 1 6 = nI (nl (cv b 1)) := hC.1.1.1.1
  have hn6 := hC.1.1.1.2
  have hp : b 1 7 = nI (np (cv b 1)) := hC.1.1.2.1.1
  have hp6 := hC.1.1.2.1.2
  obtain ⟨a1, a2, a3, a4, a5, a6⟩ := look_spec (b := b) (q := 56) (o := 1) (t := cv b 1 5 4 0) hC.1.1 (by omega) hC.2.1.1.1 hC.2.1.1.2
  have hbl : (if lookM b 56 1 (cv b 1 5 4 0) 56 6 = 0 then nI (crS (spv (lookM b 56 1 (cv b 1 5 4 0)) 56 (np (cv b 1))) (2 ^ nl (cv b 1) - 1)).1 else lookM b 56 1 (cv b 1 5 4 0) 56 6) = nI (blN (cv b 1) (cv b 1 5 4 0)) := by
    have ht := tooN_lt (cv b 1) (cv b 1 5 4 0) hn6
    rw [a1.2.2.1, a1.cr hp6]
    unfold blN
    by_cases c : tooN (cv b 1) (cv b 1 5 4 0) = 0
    · rw [if_pos c, if_pos ((nI0 (by omega)).mpr c)]
    · rw [if_neg c, if_neg (fun z => c ((nI0 (by omega)).mp z))]
  have two : ∀ j, (j ≤ 55 ∨ 61 ≤ j) → pl2 b (cv b 1 5 4 0) (nI (blN (cv b 1) (cv b 1 5 4 0))) j = b j := fun j hj => by
    unfold pl2; rw [u2c _ _ (by omega)]; exact a6 j (by omega)
  have q4 : pl2 b (cv b 1 5 4 0) (nI (blN (cv b 1) (cv b 1 5 4 0))) 56 4 = nI (nl (cv b 1)) := by unfold pl2; rw [u2k _ _ (by decide)]; exact a1.1
  have q5 : pl2 b (cv b 1 5 4 0) (nI (blN (cv b 1) (cv b 1 5 4 0))) 56 5 = nI (np (cv b 1)) := by unfold pl2; rw [u2k _ _ (by decide)]; exact a1.2.1
  have q7 : pl2 b (cv b 1 5 4 0) (nI (blN (cv b 1) (cv b 1 5 4 0))) 56 7 = nI (blN (cv b 1) (cv b 1 5 4 0)) := by unfold pl2; rw [u2s]
  refine con_a (by decide) (Nat.le_of_ble_eq_true rfl) rfl (fun X hX hq => ?_)
  have hX : Ok Z X cX5_plan 2 RX5 4 := hX
  show G Z X b 0 [some (.ref (zad Z 0)), none] []
  refine g_aload_0 hX dX5_plan_0 ?_
  refine gt_X5_planned hX dX5_plan_1 ?_
  refine g_if_ne hX 75 dX5_plan_4 (by decide) (fun c4 => ?_) (fun c4 => ?_)
  · exact absurd c4 (not_not_intro h0)
  · refine g_aload_0 hX dX5_plan_7 ?_
    refine gt_X5_byTarget hX dX5_plan_8 ?_
    refine g_aload_0 hX dX5_plan_11 ?_
    refine gt_X5_bus hX dX5_plan_12 ?_
    refine g_aload_0 hX dX5_plan_15 ?_
    refine gt_X5_bus hX dX5_plan_16 ?_
    refine g_iconst hX 4 dX5_plan_19 (by decide) ?_
    refine g_cV1r hX mkX0_settingAt ml_X5_108 (c_X0_settingAt (k := 4) (bus_1 Z) (by decide)) ((bus_1 Z).obj _) dX5_plan_20 rfl (by decide) (Nat.le_of_ble_eq_true rfl) ?_
    refine g_cV2v hX mkX3_look ml_X5_191 (c_X3_look (t := cv b 1 5 4 0) (shr_56 Z) (bus_1 Z) hC.1.1 (by omega)) ((shr_56 Z).obj _) dX5_plan_23 rfl (by decide) (Nat.le_of_ble_eq_true rfl) ?_
    refine g_aload_0 hX dX5_plan_26 ?_
    refine gt_X5_byTarget hX dX5_plan_27 ?_
    refine g_cV0v hX mkX3_findBlocked ml_X5_284 (c_X3_findBlocked (shr_56 Z) (n := nl (cv b 1)) (np := np (cv b 1)) a1.1 hn6 a1.2.1 hp6) ((shr_56 Z).obj _) dX5_plan_30 rfl (by decide) (Nat.le_of_ble_eq_true rfl) ?_
    refine g_cast (b' := pl2 b (cv b 1 5 4 0) (nI (blN (cv b 1) (cv b 1 5 4 0)))) ?_ (by unfold pl2; rw [← hbl]) rfl rfl
    refine g_iconst hX 0 dX5_plan_33 (by decide) ?_
    refine g_istore_1 hX dX5_plan_34 rfl ?_
    refine g_loop (nl (cv b 1)) (fun k => plL (pl2 b (cv b 1 5 4 0) (nI (blN (cv b 1) (cv b 1 5 4 0)))) (nl (cv b 1)) (np (cv b 1)) k) (fun k => [some (.ref (zad Z 0)), some (.int (nI k))]) rfl rfl (fun k hk35 ih35 => ?_) ?_
    · show G Z X (plL (pl2 b (cv b 1 5 4 0) (nI (blN (cv b 1) (cv b 1 5 4 0)))) (nl (cv b 1)) (np (cv b 1)) k) 35 ([some (.ref (zad Z 0)), some (.int (nI k))]) _
      refine g_iload_1 hX dX5_plan_35 ?_
      refine g_aload_0 hX dX5_plan_36 ?_
      refine gt_X5_bus hX dX5_plan_37 ?_
      refine g_cV0r hX mkX0_lineCount ml_X5_163 (c_X0_lineCount (bus_1 Z)) ((bus_1 Z).obj _) dX5_plan_40 rfl (by decide) (Nat.le_of_ble_eq_true rfl) ?_
      refine g_icmp_ge hX 70 dX5_plan_43 (by decide) (fun c43 => ?_) (fun c43 => ?_)
      · exact absurd c43 (not_not_intro (by rw [plL_c _ _ _ _ (by decide) (by decide), two _ (by omega), hn]; exact nI_lt hk35 (by omega)))
      · refine g_aload_0 hX dX5_plan_46 ?_
        refine gt_X5_byTarget hX dX5_plan_47 ?_
        refine g_cV0r hX mkX3_allFit ml_X5_152 (c_X3_allFit (shr_56 Z)) ((shr_56 Z).obj _) dX5_plan_50 rfl (by decide) (Nat.le_of_ble_eq_true rfl) ?_
        refine g_if_eq hX 70 dX5_plan_53 (by decide) (fun c53 => ?_) (fun c53 => ?_)
        · replace c53 := bI_z.mp c53
          exact absurd c53 (not_not_intro (by rw [plL_c _ _ _ _ (by decide) (by decide), q7, hb]; rfl))
        · replace c53 := bI_nz.mp c53
          refine g_aload_0 hX dX5_plan_56 ?_
          refine gt_X5_byTarget hX dX5_plan_57 ?_
          refine g_iload_1 hX dX5_plan_60 ?_
          refine g_cV1v hX mkX3_drawLine ml_X5_287 (c_X3_drawLine (shr_56 Z) (n := nl (cv b 1)) (np := np (cv b 1)) (by rw [plL_c _ _ _ _ (by decide) (by decide)]; exact q4) hn6 (by rw [plL_c _ _ _ _ (by decide) (by decide)]; exact q5) hp6 hk35) ((shr_56 Z).obj _) dX5_plan_61 rfl (by decide) (Nat.le_of_ble_eq_true rfl) ?_
          refine g_iinc_1 hX 1 dX5_plan_64 (by decide) rfl ?_
          refine g_goto hX 35 dX5_plan_67 (by decide) ?_
          exact g_cast ih35 rfl (by simp only [nI_succ]) rfl
    · show G Z X (plL (pl2 b (cv b 1 5 4 0) (nI (blN (cv b 1) (cv b 1 5 4 0)))) (nl (cv b 1)) (np (cv b 1)) (nl (cv b 1))) 35 ([some (.ref (zad Z 0)), some (.int (nI (nl (cv b 1))))]) _
      refine g_iload_1 hX dX5_plan_35 ?_
      refine g_aload_0 hX dX5_plan_36 ?_
      refine gt_X5_bus hX dX5_plan_37 ?_
      refine g_cV0r hX mkX0_lineCount ml_X5_163 (c_X0_lineCount (bus_1 Z)) ((bus_1 Z).obj _) dX5_plan_40 rfl (by decide) (Nat.le_of_ble_eq_true rfl) ?_
      refine g_icmp_ge hX 70 dX5_plan_43 (by decide) (fun c43 => ?_) (fun c43 => ?_)
      · refine g_aload_0 hX dX5_plan_70 ?_
        refine g_iconst hX 1 dX5_plan_71 (by decide) ?_
        refine pt_X5_planned hX (by rfl) (by rfl) dX5_plan_72 ?_
        refine g_aload_0 hX dX5_plan_75 ?_
        refine gt_X5_byTarget hX dX5_plan_76 ?_
        exact hq _ _ _ _ dX5_plan_79 (by rfl) (by rfl)
      · exact absurd c43 (by rw [plL_c _ _ _ _ (by decide) (by decide), two _ (by omega), hn]; exact Int32.lt_irrefl)
set_option maxRecDepth 100000 in
set_option maxHeartbeats 4000000 in
theorem c_X5_plan_blk {Z : Zt} {b : Mem} (hC : CI b) (h0 : b 0 7 = 0) (hb : ¬ blN (cv b 1) (cv b 1 5 4 0) = 0) : Con Z yX5_plan cX5_plan 2 (some (.object "SnakedBus$Sharing")) 4 [.ref (zad Z 0)] b (some (.ref (zad Z 56))) (up2 (pl2 b (cv b 1 5 4 0) (nI (blN (cv b 1) (cv b 1 5 4 0)))) 0 7 1) := by
  have hn : b 1 6 = nI (nl (cv b 1)) := hC.1.1.1.1
  have hn6 := hC.1.1.1.2
  have hp : b 1 7 = nI (np (cv b 1)) := hC.1.1.2.1.1
  have hp6 := hC.1.1.2.1.2
  obtain ⟨a1, a2, a3, a4, a5, a6⟩ := look_spec (b := b) (q := 56) (o := 1) (t := cv b 1 5 4 0) hC.1.1 (by omega) hC.2.1.1.1 hC.2.1.1.2
  have hbl : (if lookM b 56 1 (cv b 1 5 4 0) 56 6 = 0 then nI (crS (spv (lookM b 56 1 (cv b 1 5 4 0)) 56 (np (cv b 1))) (2 ^ nl (cv b 1) - 1)).1 else lookM b 56 1 (cv b 1 5 4 0) 56 6) = nI (blN (cv b 1) (cv b 1 5 4 0)) := by
    have ht := tooN_lt (cv b 1) (cv b 1 5 4 0) hn6
    rw [a1.2.2.1, a1.cr hp6]
    unfold blN
    by_cases c : tooN (cv b 1) (cv b 1 5 4 0) = 0
    · rw [if_pos c, if_pos ((nI0 (by omega)).mpr c)]
    · rw [if_neg c, if_neg (fun z => c ((nI0 (by omega)).mp z))]
  have two : ∀ j, (j ≤ 55 ∨ 61 ≤ j) → pl2 b (cv b 1 5 4 0) (nI (blN (cv b 1) (cv b 1 5 4 0))) j = b j := fun j hj => by
    unfold pl2; rw [u2c _ _ (by omega)]; exact a6 j (by omega)
  have q4 : pl2 b (cv b 1 5 4 0) (nI (blN (cv b 1) (cv b 1 5 4 0))) 56 4 = nI (nl (cv b 1)) := by unfold pl2; rw [u2k _ _ (by decide)]; exact a1.1
  have q5 : pl2 b (cv b 1 5 4 0) (nI (blN (cv b 1) (cv b 1 5 4 0))) 56 5 = nI (np (cv b 1)) := by unfold pl2; rw [u2k _ _ (by decide)]; exact a1.2.1
  have q7 : pl2 b (cv b 1 5 4 0) (nI (blN (cv b 1) (cv b 1 5 4 0))) 56 7 = nI (blN (cv b 1) (cv b 1 5 4 0)) := by unfold pl2; rw [u2s]
  refine con_a (by decide) (Nat.le_of_ble_eq_true rfl) rfl (fun X hX hq => ?_)
  have hX : Ok Z X cX5_plan 2 RX5 4 := hX
  show G Z X b 0 [some (.ref (zad Z 0)), none] []
  refine g_aload_0 hX dX5_plan_0 ?_
  refine gt_X5_planned hX dX5_plan_1 ?_
  refine g_if_ne hX 75 dX5_plan_4 (by decide) (fun c4 => ?_) (fun c4 => ?_)
  · exact absurd c4 (not_not_intro h0)
  · refine g_aload_0 hX dX5_plan_7 ?_
    refine gt_X5_byTarget hX dX5_plan_8 ?_
    refine g_aload_0 hX dX5_plan_11 ?_
    refine gt_X5_bus hX dX5_plan_12 ?_
    refine g_aload_0 hX dX5_plan_15 ?_
    refine gt_X5_bus hX dX5_plan_16 ?_
    refine g_iconst hX 4 dX5_plan_19 (by decide) ?_
    refine g_cV1r hX mkX0_settingAt ml_X5_108 (c_X0_settingAt (k := 4) (bus_1 Z) (by decide)) ((bus_1 Z).obj _) dX5_plan_20 rfl (by decide) (Nat.le_of_ble_eq_true rfl) ?_
    refine g_cV2v hX mkX3_look ml_X5_191 (c_X3_look (t := cv b 1 5 4 0) (shr_56 Z) (bus_1 Z) hC.1.1 (by omega)) ((shr_56 Z).obj _) dX5_plan_23 rfl (by decide) (Nat.le_of_ble_eq_true rfl) ?_
    refine g_aload_0 hX dX5_plan_26 ?_
    refine gt_X5_byTarget hX dX5_plan_27 ?_
    refine g_cV0v hX mkX3_findBlocked ml_X5_284 (c_X3_findBlocked (shr_56 Z) (n := nl (cv b 1)) (np := np (cv b 1)) a1.1 hn6 a1.2.1 hp6) ((shr_56 Z).obj _) dX5_plan_30 rfl (by decide) (Nat.le_of_ble_eq_true rfl) ?_
    refine g_cast (b' := pl2 b (cv b 1 5 4 0) (nI (blN (cv b 1) (cv b 1 5 4 0)))) ?_ (by unfold pl2; rw [← hbl]) rfl rfl
    refine g_iconst hX 0 dX5_plan_33 (by decide) ?_
    refine g_istore_1 hX dX5_plan_34 rfl ?_
    refine g_iload_1 hX dX5_plan_35 ?_
    refine g_aload_0 hX dX5_plan_36 ?_
    refine gt_X5_bus hX dX5_plan_37 ?_
    refine g_cV0r hX mkX0_lineCount ml_X5_163 (c_X0_lineCount (bus_1 Z)) ((bus_1 Z).obj _) dX5_plan_40 rfl (by decide) (Nat.le_of_ble_eq_true rfl) ?_
    refine g_icmp_ge hX 70 dX5_plan_43 (by decide) (fun c43 => ?_) (fun c43 => ?_)
    · refine g_aload_0 hX dX5_plan_70 ?_
      refine g_iconst hX 1 dX5_plan_71 (by decide) ?_
      refine pt_X5_planned hX (by rfl) (by rfl) dX5_plan_72 ?_
      refine g_aload_0 hX dX5_plan_75 ?_
      refine gt_X5_byTarget hX dX5_plan_76 ?_
      exact hq _ _ _ _ dX5_plan_79 (by rfl) (by rfl)
    · refine g_aload_0 hX dX5_plan_46 ?_
      refine gt_X5_byTarget hX dX5_plan_47 ?_
      refine g_cV0r hX mkX3_allFit ml_X5_152 (c_X3_allFit (shr_56 Z)) ((shr_56 Z).obj _) dX5_plan_50 rfl (by decide) (Nat.le_of_ble_eq_true rfl) ?_
      refine g_if_eq hX 70 dX5_plan_53 (by decide) (fun c53 => ?_) (fun c53 => ?_)
      · replace c53 := bI_z.mp c53
        refine g_aload_0 hX dX5_plan_70 ?_
        refine g_iconst hX 1 dX5_plan_71 (by decide) ?_
        refine pt_X5_planned hX (by rfl) (by rfl) dX5_plan_72 ?_
        refine g_aload_0 hX dX5_plan_75 ?_
        refine gt_X5_byTarget hX dX5_plan_76 ?_
        exact hq _ _ _ _ dX5_plan_79 (by rfl) (by rfl)
      · replace c53 := bI_nz.mp c53
        exact absurd c53 (fun z => hb ((nI0 (by have := blN_lt (cv b 1) (cv b 1 5 4 0) hn6; omega)).mp (by rw [← q7]; exact z)))
theorem c_X5_plan {Z : Zt} {b : Mem} (hC : CI b) : ConE Z yX5_plan cX5_plan 2 (some (.object "SnakedBus$Sharing")) 4 [.ref (zad Z 0)] b (pR (zad Z 56) (fun b' => GP b 0 b' ∧ b' 0 7 = 1)) := by
  rcases hC.2.2.1 with h0 | ⟨h1, h2⟩
  · obtain ⟨g1, g2⟩ := GP.plan hC h0
    by_cases hb : blN (cv b 1) (cv b 1 5 4 0) = 0
    · exact (c_X5_plan_fit hC h0 hb).toE ⟨rfl, g1 hb, u2s _ _ _ _⟩
    · exact (c_X5_plan_blk hC h0 hb).toE ⟨rfl, g2 hb, u2s _ _ _ _⟩
  · exact (c_X5_plan_done (by rw [h1]; decide)).toE ⟨rfl, GP.rf hC, h1⟩
/-- what is known of byTarget behind plan() -/
theorem GP.pl {b b' : Mem} (h : GP b 0 b' ∧ b' 0 7 = 1) : PLd b' (cv b 1) ∧ b' 56 7 = nI (blN (cv b 1) (cv b 1 5 4 0)) ∧ (b' 56 7 = 0 ↔ blN (cv b 1) (cv b 1 5 4 0) = 0) := by
  obtain ⟨⟨h1, h2, h3⟩, h4⟩ := h
  have e := h2.cv1
  have hp : PLd b' (cv b 1) := by
    rcases h1.2.2.1 with q | ⟨_, q⟩
    · rw [h4] at q; exact absurd q (by decide)
    · rw [e] at q; exact q
  have hn6 : nl (cv b 1) ≤ 6 := by rw [← e]; exact h1.1.1.1.2
  refine ⟨hp, hp.1, ?_⟩
  rw [hp.1, nI0 (by have := blN_lt (cv b 1) (cv b 1 5 4 0) hn6; omega)]
set_option maxRecDepth 100000 in
set_option maxHeartbeats 4000000 in
theorem c_X5_fitsBy {Z : Zt} {b : Mem} {t : Int32} (hC : CI b) : ConE Z yX5_fitsBy cX5_fitsBy 2 (some .boolean) 4 [.ref (zad Z 0), .int t] b (pI (fun x b' => x = bI (blN (cv b 1) t = 0) ∧ GP b 0 b')) := by
  have hn : b 1 6 = nI (nl (cv b 1)) := hC.1.1.1.1
  have hn6 := hC.1.1.1.2
  have hp : b 1 7 = nI (np (cv b 1)) := hC.1.1.2.1.1
  have hp6 := hC.1.1.2.1.2
  obtain ⟨g1, g2⟩ := GP.look hC t
  refine conE_z (by decide) (Nat.le_of_ble_eq_true rfl) rfl (fun X hX hq => ?_)
  have hX : Ok Z X cX5_fitsBy 2 RX5 4 := hX
  show G Z X b 0 [some (.ref (zad Z 0)), some (.int t)] []
  refine g_aload_0 hX dX5_fitsBy_0 ?_
  refine gt_X5_tried hX dX5_fitsBy_1 ?_
  refine g_aload_0 hX dX5_fitsBy_4 ?_
  refine gt_X5_bus hX dX5_fitsBy_5 ?_
  refine g_iload_1 hX dX5_fitsBy_8 ?_
  refine g_cV2v hX mkX3_look ml_X5_191 (c_X3_look (shr_61 Z) (bus_1 Z) hC.1.1 (by omega)) ((shr_61 Z).obj _) dX5_fitsBy_9 rfl (by decide) (Nat.le_of_ble_eq_true rfl) ?_
  refine g_aload_0 hX dX5_fitsBy_12 ?_
  refine gt_X5_tried hX dX5_fitsBy_13 ?_
  refine g_cV0r hX mkX3_fits ml_X5_281 (c_X3_fits (shr_61 Z) (n := nl (cv b 1)) (np := np (cv b 1)) g2.1 hn6 g2.2.1 hp6) ((shr_61 Z).obj _) dX5_fitsBy_16 rfl (by decide) (Nat.le_of_ble_eq_true rfl) ?_
  exact hq _ _ _ _ dX5_fitsBy_19 (bI_n _) (⟨bI_iff (fit_iff g2 hn6 hp6), g1⟩)
set_option maxRecDepth 100000 in
set_option maxHeartbeats 4000000 in
theorem c_X5_of {Z : Zt} {b : Mem} {l w : Int32} (hC : CI b) : ConE Z yX5_of cX5_of 3 (some .int) 4 [.ref (zad Z 0), .int l, .int w] b (pI (fun x b' => x = ofR (cv b 1) l w ∧ GP b (ofC (cv b 1) l w) b')) := by
  have hn : b 1 6 = nI (nl (cv b 1)) := hC.1.1.1.1
  have hn6 := hC.1.1.1.2
  have hp : b 1 7 = nI (np (cv b 1)) := hC.1.1.2.1.1
  have hp6 := hC.1.1.2.1.2
  refine conE_i (by decide) (Nat.le_of_ble_eq_true rfl) rfl (fun X hX hq => ?_)
  have hX : Ok Z X cX5_of 3 RX5 4 := hX
  show G Z X b 0 [some (.ref (zad Z 0)), some (.int l), some (.int w)] []
  refine g_aload_0 hX dX5_of_0 ?_
  refine gt_X5_bus hX dX5_of_1 ?_
  refine g_iload_1 hX dX5_of_4 ?_
  refine g_cV1r hX mkX0_hasLine ml_X5_95 (c_X0_hasLine (bus_1 Z)) ((bus_1 Z).obj _) dX5_of_5 rfl (by decide) (Nat.le_of_ble_eq_true rfl) ?_
  refine g_if_ne hX 18 dX5_of_8 (by decide) (fun c8 => ?_) (fun c8 => ?_)
  · replace c8 := bI_nz.mp c8
    obtain ⟨j, hj, rfl⟩ := in_of c8.1 (by have := c8.2; rw [hn] at this; exact this) (by omega)
    have hjc : (nI j).toNatClampNeg = j := nI_clamp (by omega)
    have hj6 := hC.1.1.l6 hj
    refine g_iload_2 hX dX5_of_18 ?_
    rcases sw7 w with rfl | rfl | rfl | rfl | rfl | rfl | rfl | hsw
    · refine g_tableIn hX 60 dX5_of_19 (by decide) (by decide) rfl (by decide) ?_
      refine g_aload_0 hX dX5_of_60 ?_
      refine gt_X5_bus hX dX5_of_61 ?_
      refine g_iload_1 hX dX5_of_64 ?_
      refine g_cV1r hX mkX0_runsOf ml_X5_102 (c_X0_runsOf (bus_1 Z) hj6) ((bus_1 Z).obj _) dX5_of_65 rfl (by decide) (Nat.le_of_ble_eq_true rfl) ?_
      exact hq _ _ _ _ dX5_of_68 (⟨by rw [ofR, cl_t (show okL (cv b 1) (nI j) ∧ ¬ (0 : Int32) < 0 ∧ ¬ 6 < (0 : Int32) from ⟨c8, by decide⟩), hjc]; rfl, by rw [ofC, cl_t (show okL (cv b 1) (nI j) ∧ ¬ (0 : Int32) < 0 ∧ ¬ 6 < (0 : Int32) from ⟨c8, by decide⟩)]; exact GP.rf hC⟩)
    · refine g_tableIn hX 69 dX5_of_19 (by decide) (by decide) rfl (by decide) ?_
      refine g_aload_0 hX dX5_of_69 ?_
      refine gt_X5_bus hX dX5_of_70 ?_
      refine g_iload_1 hX dX5_of_73 ?_
      refine g_cV1r hX mkX0_baseOf ml_X5_105 (c_X0_baseOf (bus_1 Z) hC.1.1 hj) ((bus_1 Z).obj _) dX5_of_74 rfl (by decide) (Nat.le_of_ble_eq_true rfl) ?_
      exact hq _ _ _ _ dX5_of_77 (⟨by rw [ofR, cl_t (show okL (cv b 1) (nI j) ∧ ¬ (1 : Int32) < 0 ∧ ¬ 6 < (1 : Int32) from ⟨c8, by decide⟩), hjc]; rfl, by rw [ofC, cl_t (show okL (cv b 1) (nI j) ∧ ¬ (1 : Int32) < 0 ∧ ¬ 6 < (1 : Int32) from ⟨c8, by decide⟩)]; exact GP.rf hC⟩)
    · refine g_tableIn hX 78 dX5_of_19 (by decide) (by decide) rfl (by decide) ?_
      refine g_aload_0 hX dX5_of_78 ?_
      refine gt_X5_bus hX dX5_of_79 ?_
      refine g_aload_0 hX dX5_of_82 ?_
      refine gt_X5_bus hX dX5_of_83 ?_
      refine g_iload_1 hX dX5_of_86 ?_
      refine g_cV1r hX mkX0_baseOf ml_X5_105 (c_X0_baseOf (bus_1 Z) hC.1.1 hj) ((bus_1 Z).obj _) dX5_of_87 rfl (by decide) (Nat.le_of_ble_eq_true rfl) ?_
      refine g_aload_0 hX dX5_of_90 ?_
      refine gt_X5_bus hX dX5_of_91 ?_
      refine g_iconst hX 4 dX5_of_94 (by decide) ?_
      refine g_cV1r hX mkX0_settingAt ml_X5_108 (c_X0_settingAt (k := 4) (bus_1 Z) (by decide)) ((bus_1 Z).obj _) dX5_of_95 rfl (by decide) (Nat.le_of_ble_eq_true rfl) ?_
      refine g_cV2r hX mkX0_lackFor ml_X5_111 (c_X0_lackFor (bus_1 Z)) ((bus_1 Z).obj _) dX5_of_98 rfl (by decide) (Nat.le_of_ble_eq_true rfl) ?_
      exact hq _ _ _ _ dX5_of_101 (⟨by rw [ofR, cl_t (show okL (cv b 1) (nI j) ∧ ¬ (2 : Int32) < 0 ∧ ¬ 6 < (2 : Int32) from ⟨c8, by decide⟩), hjc]; rfl, by rw [ofC, cl_t (show okL (cv b 1) (nI j) ∧ ¬ (2 : Int32) < 0 ∧ ¬ 6 < (2 : Int32) from ⟨c8, by decide⟩)]; exact GP.rf hC⟩)
    · refine g_tableIn hX 102 dX5_of_19 (by decide) (by decide) rfl (by decide) ?_
      refine g_aload_0 hX dX5_of_102 ?_
      refine gt_X5_bus hX dX5_of_103 ?_
      refine g_aload_0 hX dX5_of_106 ?_
      refine gt_X5_bus hX dX5_of_107 ?_
      refine g_iload_1 hX dX5_of_110 ?_
      refine g_cV1r hX mkX0_baseOf ml_X5_105 (c_X0_baseOf (bus_1 Z) hC.1.1 hj) ((bus_1 Z).obj _) dX5_of_111 rfl (by decide) (Nat.le_of_ble_eq_true rfl) ?_
      refine g_aload_0 hX dX5_of_114 ?_
      refine gt_X5_bus hX dX5_of_115 ?_
      refine g_iconst hX 4 dX5_of_118 (by decide) ?_
      refine g_cV1r hX mkX0_settingAt ml_X5_108 (c_X0_settingAt (k := 4) (bus_1 Z) (by decide)) ((bus_1 Z).obj _) dX5_of_119 rfl (by decide) (Nat.le_of_ble_eq_true rfl) ?_
      refine g_cV2r hX mkX0_needFor ml_X5_114 (c_X0_needFor (bus_1 Z)) ((bus_1 Z).obj _) dX5_of_122 rfl (by decide) (Nat.le_of_ble_eq_true rfl) ?_
      exact hq _ _ _ _ dX5_of_125 (⟨by rw [ofR, cl_t (show okL (cv b 1) (nI j) ∧ ¬ (3 : Int32) < 0 ∧ ¬ 6 < (3 : Int32) from ⟨c8, by decide⟩), hjc]; rfl, by rw [ofC, cl_t (show okL (cv b 1) (nI j) ∧ ¬ (3 : Int32) < 0 ∧ ¬ 6 < (3 : Int32) from ⟨c8, by decide⟩)]; exact GP.rf hC⟩)
    · refine g_tableIn hX 126 dX5_of_19 (by decide) (by decide) rfl (by decide) ?_
      refine g_aload_0 hX dX5_of_126 ?_
      refine gt_X5_bus hX dX5_of_127 ?_
      refine g_iload_1 hX dX5_of_130 ?_
      refine g_cV1r hX mkX0_reachOf ml_X5_117 (c_X0_reachOf (bus_1 Z) hC.1.1 hj6) ((bus_1 Z).obj _) dX5_of_131 rfl (by decide) (Nat.le_of_ble_eq_true rfl) ?_
      exact hq _ _ _ _ dX5_of_134 (⟨by rw [ofR, cl_t (show okL (cv b 1) (nI j) ∧ ¬ (4 : Int32) < 0 ∧ ¬ 6 < (4 : Int32) from ⟨c8, by decide⟩), hjc]; rfl, by rw [ofC, cl_t (show okL (cv b 1) (nI j) ∧ ¬ (4 : Int32) < 0 ∧ ¬ 6 < (4 : Int32) from ⟨c8, by decide⟩)]; exact GP.rf hC⟩)
    · refine g_tableIn hX 135 dX5_of_19 (by decide) (by decide) rfl (by decide) ?_
      refine g_aload_0 hX dX5_of_135 ?_
      refine gt_X5_bus hX dX5_of_136 ?_
      refine g_iload_1 hX dX5_of_139 ?_
      refine g_iconst hX 1 dX5_of_140 (by decide) ?_
      refine g_cV2r hX mkX0_turnsOf ml_X5_120 (c_X0_turnsOf (bus_1 Z) hC.1.1 hj) ((bus_1 Z).obj _) dX5_of_141 rfl (by decide) (Nat.le_of_ble_eq_true rfl) ?_
      exact hq _ _ _ _ dX5_of_144 (⟨by rw [ofR, cl_t (show okL (cv b 1) (nI j) ∧ ¬ (5 : Int32) < 0 ∧ ¬ 6 < (5 : Int32) from ⟨c8, by decide⟩), hjc]; rfl, by rw [ofC, cl_t (show okL (cv b 1) (nI j) ∧ ¬ (5 : Int32) < 0 ∧ ¬ 6 < (5 : Int32) from ⟨c8, by decide⟩)]; exact GP.rf hC⟩)
    · refine g_tableIn hX 145 dX5_of_19 (by decide) (by decide) rfl (by decide) ?_
      refine g_aload_0 hX dX5_of_145 ?_
      refine gt_X5_bus hX dX5_of_146 ?_
      refine g_iload_1 hX dX5_of_149 ?_
      refine g_iconst hX 0 dX5_of_150 (by decide) ?_
      refine g_cV2r hX mkX0_turnsOf ml_X5_120 (c_X0_turnsOf (bus_1 Z) hC.1.1 hj) ((bus_1 Z).obj _) dX5_of_151 rfl (by decide) (Nat.le_of_ble_eq_true rfl) ?_
      exact hq _ _ _ _ dX5_of_154 (⟨by rw [ofR, cl_t (show okL (cv b 1) (nI j) ∧ ¬ (6 : Int32) < 0 ∧ ¬ 6 < (6 : Int32) from ⟨c8, by decide⟩), hjc]; rfl, by rw [ofC, cl_t (show okL (cv b 1) (nI j) ∧ ¬ (6 : Int32) < 0 ∧ ¬ 6 < (6 : Int32) from ⟨c8, by decide⟩)]; exact GP.rf hC⟩)
    · refine g_tableOut hX 155 dX5_of_19 hsw (by decide) ?_
      refine g_aload_0 hX dX5_of_155 ?_
      refine g_bipush hX (-2) dX5_of_156 (by decide) ?_
      refine g_cV1r hX mkX5_refused ml_X5_99 (c_X5_refused) (ob_0 Z _) dX5_of_158 rfl (by decide) (Nat.le_of_ble_eq_true rfl) ?_
      exact hq _ _ _ _ dX5_of_161 (⟨by rw [ofR, cl_f (fun z => sw_out (n := 6) hsw (by decide) z.2)], by rw [ofC, cl_f (fun z => sw_out (n := 6) hsw (by decide) z.2)]; exact GP.ref hC (-2)⟩)
  · replace c8 := bI_z.mp c8
    refine g_aload_0 hX dX5_of_11 ?_
    refine g_bipush hX (-2) dX5_of_12 (by decide) ?_
    refine g_cV1r hX mkX5_refused ml_X5_99 (c_X5_refused) (ob_0 Z _) dX5_of_14 rfl (by decide) (Nat.le_of_ble_eq_true rfl) ?_
    exact hq _ _ _ _ dX5_of_17 (⟨by rw [ofR, cl_f (fun z => c8 z.1)], by rw [ofC, cl_f (fun z => c8 z.1)]; exact GP.ref hC (-2)⟩)
set_option maxRecDepth 100000 in
set_option maxHeartbeats 4000000 in
theorem c_X5_run {Z : Zt} {b : Mem} {l i w : Int32} (hC : CI b) : ConE Z yX5_run cX5_run 4 (some .int) 4 [.ref (zad Z 0), .int l, .int i, .int w] b (pI (fun x b' => x = runR (cv b 1) l i w ∧ GP b (runC (cv b 1) l i w) b')) := by
  have hn : b 1 6 = nI (nl (cv b 1)) := hC.1.1.1.1
  have hn6 := hC.1.1.1.2
  have hp : b 1 7 = nI (np (cv b 1)) := hC.1.1.2.1.1
  have hp6 := hC.1.1.2.1.2
  have hne := hC.1.1.2.2.2.2 6 (by decide)
  refine conE_i (by decide) (Nat.le_of_ble_eq_true rfl) rfl (fun X hX hq => ?_)
  have hX : Ok Z X cX5_run 4 RX5 4 := hX
  show G Z X b 0 [some (.ref (zad Z 0)), some (.int l), some (.int i), some (.int w)] []
  refine g_aload_0 hX dX5_run_0 ?_
  refine gt_X5_bus hX dX5_run_1 ?_
  refine g_iload_1 hX dX5_run_4 ?_
  refine g_iload_2 hX dX5_run_5 ?_
  refine g_cV2r hX mkX0_hasRun ml_X5_123 (c_X0_hasRun (bus_1 Z) hC.1.1) ((bus_1 Z).obj _) dX5_run_6 rfl (by decide) (Nat.le_of_ble_eq_true rfl) ?_
  refine g_if_ne hX 19 dX5_run_9 (by decide) (fun c9 => ?_) (fun c9 => ?_)
  · replace c9 := bI_nz.mp c9
    obtain ⟨j, hj, rfl⟩ := in_of c9.1 (by have := c9.2.1; rw [hn] at this; exact this) (by omega)
    have hjc : (nI j).toNatClampNeg = j := nI_clamp (by omega)
    have hj6 := hC.1.1.l6 hj
    have hr : b (1 + 1) j = nI (rn (cv b 1) j) := hC.1.1.runs hj
    have hr8 := hC.1.1.r8 hj
    have c9b := c9.2.2.2
    rw [hjc, hr] at c9b
    obtain ⟨k, hk, rfl⟩ := in_of c9.2.2.1 c9b (by omega)
    have hkc : (nI k).toNatClampNeg = k := nI_clamp (by omega)
    have hok : okR (cv b 1) (nI j) (nI k) := ⟨⟨c9.1, c9.2.1⟩, c9.2.2.1, c9.2.2.2⟩
    refine g_iload_3 hX dX5_run_19 ?_
    rcases sw3 w with rfl | rfl | rfl | hsw
    · refine g_tableIn hX 48 dX5_run_20 (by decide) (by decide) rfl (by decide) ?_
      refine g_aload_0 hX dX5_run_48 ?_
      refine gt_X5_bus hX dX5_run_49 ?_
      refine g_iload_1 hX dX5_run_52 ?_
      refine g_iload_2 hX dX5_run_53 ?_
      refine g_cV2r hX mkX0_longOf ml_X5_127 (c_X0_longOf (bus_1 Z) hj6 (by omega)) ((bus_1 Z).obj _) dX5_run_54 rfl (by decide) (Nat.le_of_ble_eq_true rfl) ?_
      exact hq _ _ _ _ dX5_run_57 (⟨by rw [runR, cl_t (show okR (cv b 1) (nI j) (nI k) ∧ ¬ (0 : Int32) < 0 ∧ ¬ 2 < (0 : Int32) from ⟨hok, by decide⟩), hjc, hkc]; rfl, by rw [runC, cl_t (show okR (cv b 1) (nI j) (nI k) ∧ ¬ (0 : Int32) < 0 ∧ ¬ 2 < (0 : Int32) from ⟨hok, by decide⟩)]; exact GP.rf hC⟩)
    · refine g_tableIn hX 58 dX5_run_20 (by decide) (by decide) rfl (by decide) ?_
      refine g_aload_0 hX dX5_run_58 ?_
      refine gt_X5_bus hX dX5_run_59 ?_
      refine g_iload_1 hX dX5_run_62 ?_
      refine g_iload_2 hX dX5_run_63 ?_
      refine g_cV2r hX mkX0_turnAhead ml_X5_130 (c_X0_turnAhead (bus_1 Z) hj6 (by omega)) ((bus_1 Z).obj _) dX5_run_64 rfl (by decide) (Nat.le_of_ble_eq_true rfl) ?_
      exact hq _ _ _ _ dX5_run_67 (⟨by
  rw [runR, cl_t (show okR (cv b 1) (nI j) (nI k) ∧ ¬ (1 : Int32) < 0 ∧ ¬ 2 < (1 : Int32) from ⟨hok, by decide⟩), hjc, hkc]
  show _ = if k = 0 then -1 else cv b 1 2 j k
  by_cases z : k = 0
  · rw [if_pos z, z]; exact hC.1.2 j hj
  · rw [if_neg z]; rfl, by rw [runC, cl_t (show okR (cv b 1) (nI j) (nI k) ∧ ¬ (1 : Int32) < 0 ∧ ¬ 2 < (1 : Int32) from ⟨hok, by decide⟩)]; exact GP.rf hC⟩)
    · refine g_tableIn hX 68 dX5_run_20 (by decide) (by decide) rfl (by decide) ?_
      refine g_aload_0 hX dX5_run_68 ?_
      refine gt_X5_bus hX dX5_run_69 ?_
      refine g_iload_1 hX dX5_run_72 ?_
      refine g_iload_2 hX dX5_run_73 ?_
      refine g_cV2r hX mkX0_bumpRoom ml_X5_133 (c_X0_bumpRoom (bus_1 Z) hj6 (by omega) hne.1) ((bus_1 Z).obj _) dX5_run_74 rfl (by decide) (Nat.le_of_ble_eq_true rfl) ?_
      exact hq _ _ _ _ dX5_run_77 (⟨by rw [runR, cl_t (show okR (cv b 1) (nI j) (nI k) ∧ ¬ (2 : Int32) < 0 ∧ ¬ 2 < (2 : Int32) from ⟨hok, by decide⟩), hjc, hkc]; rfl, by rw [runC, cl_t (show okR (cv b 1) (nI j) (nI k) ∧ ¬ (2 : Int32) < 0 ∧ ¬ 2 < (2 : Int32) from ⟨hok, by decide⟩)]; exact GP.rf hC⟩)
    · refine g_tableOut hX 78 dX5_run_20 hsw (by decide) ?_
      refine g_aload_0 hX dX5_run_78 ?_
      refine g_bipush hX (-2) dX5_run_79 (by decide) ?_
      refine g_cV1r hX mkX5_refused ml_X5_99 (c_X5_refused) (ob_0 Z _) dX5_run_81 rfl (by decide) (Nat.le_of_ble_eq_true rfl) ?_
      exact hq _ _ _ _ dX5_run_84 (⟨by rw [runR, cl_f (fun z => sw_out (n := 2) hsw (by decide) z.2)], by rw [runC, cl_f (fun z => sw_out (n := 2) hsw (by decide) z.2)]; exact GP.ref hC (-2)⟩)
  · replace c9 := bI_z.mp c9
    refine g_aload_0 hX dX5_run_12 ?_
    refine g_bipush hX (-2) dX5_run_13 (by decide) ?_
    refine g_cV1r hX mkX5_refused ml_X5_99 (c_X5_refused) (ob_0 Z _) dX5_run_15 rfl (by decide) (Nat.le_of_ble_eq_true rfl) ?_
    exact hq _ _ _ _ dX5_run_18 (⟨by rw [runR, cl_f (fun z => c9 ⟨z.1.1.1, z.1.1.2, z.1.2.1, z.1.2.2⟩)], by rw [runC, cl_f (fun z => c9 ⟨z.1.1.1, z.1.1.2, z.1.2.1, z.1.2.2⟩)]; exact GP.ref hC (-2)⟩)
set_option maxRecDepth 100000 in
set_option maxHeartbeats 4000000 in
theorem c_X5_about {Z : Zt} {b : Mem} {p w : Int32} (hC : CI b) : ConE Z yX5_about cX5_about 3 (some .int) 5 [.ref (zad Z 0), .int p, .int w] b (pI (fun x b' => x = abR (cv b 1) p w ∧ GP b (abC (cv b 1) p w) b')) := by
  have hn : b 1 6 = nI (nl (cv b 1)) := hC.1.1.1.1
  have hn6 := hC.1.1.1.2
  have hp : b 1 7 = nI (np (cv b 1)) := hC.1.1.2.1.1
  have hp6 := hC.1.1.2.1.2
  have hs := hC.1.1.2.2.2.2 1 (by decide)
  refine conE_i (by decide) (Nat.le_of_ble_eq_true rfl) rfl (fun X hX hq => ?_)
  have hX : Ok Z X cX5_about 3 RX5 5 := hX
  show G Z X b 0 [some (.ref (zad Z 0)), some (.int p), some (.int w)] []
  refine g_aload_0 hX dX5_about_0 ?_
  refine gt_X5_bus hX dX5_about_1 ?_
  refine g_iload_1 hX dX5_about_4 ?_
  refine g_cV1r hX mkX0_hasPocket ml_X5_136 (c_X0_hasPocket (bus_1 Z)) ((bus_1 Z).obj _) dX5_about_5 rfl (by decide) (Nat.le_of_ble_eq_true rfl) ?_
  refine g_if_ne hX 18 dX5_about_8 (by decide) (fun c8 => ?_) (fun c8 => ?_)
  · replace c8 := bI_nz.mp c8
    obtain ⟨j, hj, rfl⟩ := in_of c8.1 (by have := c8.2; rw [hp] at this; exact this) (by omega)
    have hjc : (nI j).toNatClampNeg = j := nI_clamp (by omega)
    have hj6 := hC.1.1.p6 hj
    refine g_iload_2 hX dX5_about_18 ?_
    rcases sw4 w with rfl | rfl | rfl | rfl | hsw
    · refine g_tableIn hX 48 dX5_about_19 (by decide) (by decide) rfl (by decide) ?_
      refine g_aload_0 hX dX5_about_48 ?_
      refine gt_X5_bus hX dX5_about_49 ?_
      refine g_iload_1 hX dX5_about_52 ?_
      refine g_cV1r hX mkX0_wideOf ml_X5_139 (c_X0_wideOf (bus_1 Z) hj6) ((bus_1 Z).obj _) dX5_about_53 rfl (by decide) (Nat.le_of_ble_eq_true rfl) ?_
      exact hq _ _ _ _ dX5_about_56 (⟨by rw [abR, cl_t (show okP (cv b 1) (nI j) ∧ ¬ (0 : Int32) < 0 ∧ ¬ 3 < (0 : Int32) from ⟨c8, by decide⟩), hjc]; rfl, by rw [abC, cl_t (show okP (cv b 1) (nI j) ∧ ¬ (0 : Int32) < 0 ∧ ¬ 3 < (0 : Int32) from ⟨c8, by decide⟩)]; exact GP.rf hC⟩)
    · refine g_tableIn hX 57 dX5_about_19 (by decide) (by decide) rfl (by decide) ?_
      refine g_aload_0 hX dX5_about_57 ?_
      refine gt_X5_bus hX dX5_about_58 ?_
      refine g_iload_1 hX dX5_about_61 ?_
      refine g_cV1r hX mkX0_presentAt ml_X5_142 (c_X0_presentAt (bus_1 Z) hj6) ((bus_1 Z).obj _) dX5_about_62 rfl (by decide) (Nat.le_of_ble_eq_true rfl) ?_
      exact hq _ _ _ _ dX5_about_65 (⟨by rw [abR, cl_t (show okP (cv b 1) (nI j) ∧ ¬ (1 : Int32) < 0 ∧ ¬ 3 < (1 : Int32) from ⟨c8, by decide⟩), hjc]; rfl, by rw [abC, cl_t (show okP (cv b 1) (nI j) ∧ ¬ (1 : Int32) < 0 ∧ ¬ 3 < (1 : Int32) from ⟨c8, by decide⟩)]; exact GP.rf hC⟩)
    · refine g_tableIn hX 66 dX5_about_19 (by decide) (by decide) rfl (by decide) ?_
      refine g_aload_0 hX dX5_about_66 ?_
      refine gt_X5_bus hX dX5_about_67 ?_
      refine g_iload_1 hX dX5_about_70 ?_
      refine g_cV1r hX mkX0_humpsOf ml_X5_145 (c_X0_humpsOf (bus_1 Z) hj6 hs.1 hs.2) ((bus_1 Z).obj _) dX5_about_71 rfl (by decide) (Nat.le_of_ble_eq_true rfl) ?_
      exact hq _ _ _ _ dX5_about_74 (⟨by rw [abR, cl_t (show okP (cv b 1) (nI j) ∧ ¬ (2 : Int32) < 0 ∧ ¬ 3 < (2 : Int32) from ⟨c8, by decide⟩), hjc]; rfl, by rw [abC, cl_t (show okP (cv b 1) (nI j) ∧ ¬ (2 : Int32) < 0 ∧ ¬ 3 < (2 : Int32) from ⟨c8, by decide⟩)]; exact GP.rf hC⟩)
    · refine g_tableIn hX 75 dX5_about_19 (by decide) (by decide) rfl (by decide) ?_
      refine g_aload_0 hX dX5_about_75 ?_
      refine g_eV0r hX mkX5_plan ml_X5_148 (c_X5_plan hC) (ob_0 Z _) dX5_about_76 rfl (by decide) (Nat.le_of_ble_eq_true rfl) (fun m76 h76 => ?_)
      refine g_cV0r hX mkX3_allFit ml_X5_152 (c_X3_allFit (shr_56 Z)) ((shr_56 Z).obj _) dX5_about_79 rfl (by decide) (Nat.le_of_ble_eq_true rfl) ?_
      refine g_if_eq hX 96 dX5_about_82 (by decide) (fun c82 => ?_) (fun c82 => ?_)
      · replace c82 := bI_z.mp c82
        refine g_iconst hX (-1) dX5_about_96 (by decide) ?_
        exact hq _ _ _ _ dX5_about_97 (⟨by rw [abR, cl_t (show okP (cv b 1) (nI j) ∧ ¬ (3 : Int32) < 0 ∧ ¬ 3 < (3 : Int32) from ⟨c8, by decide⟩), hjc]; show _ = if blN (cv b 1) (cv b 1 5 4 0) = 0 then frV (cv b 1) j else -1; rw [if_neg (fun z => c82 ((GP.pl h76).2.2.mpr z))], by rw [abC, cl_t (show okP (cv b 1) (nI j) ∧ ¬ (3 : Int32) < 0 ∧ ¬ 3 < (3 : Int32) from ⟨c8, by decide⟩)]; exact h76.1⟩)
      · replace c82 := bI_nz.mp c82
        refine g_aload_0 hX dX5_about_85 ?_
        refine g_eV0r hX mkX5_plan ml_X5_148 (c_X5_plan h76.1.1) (ob_0 Z _) dX5_about_86 rfl (by decide) (Nat.le_of_ble_eq_true rfl) (fun m86 h86 => ?_)
        have hv86 : cv m76 1 = cv b 1 := h76.1.2.1.cv1
        refine g_iload_1 hX dX5_about_89 ?_
        refine g_cV1r hX mkX3_freeOf ml_X5_156 (c_X3_freeOf (shr_56 Z) hj6) ((shr_56 Z).obj _) dX5_about_90 rfl (by decide) (Nat.le_of_ble_eq_true rfl) ?_
        refine g_goto hX 97 dX5_about_93 (by decide) ?_
        exact hq _ _ _ _ dX5_about_97 (⟨by rw [abR, cl_t (show okP (cv b 1) (nI j) ∧ ¬ (3 : Int32) < 0 ∧ ¬ 3 < (3 : Int32) from ⟨c8, by decide⟩), hjc]; show _ = if blN (cv b 1) (cv b 1 5 4 0) = 0 then frV (cv b 1) j else -1; rw [if_pos ((GP.pl h76).2.2.mp c82)]; have hp2 := (GP.pl h86).1; rw [hv86] at hp2; exact (hp2.2 ((GP.pl h76).2.2.mp c82)).2 j hj, by rw [abC, cl_t (show okP (cv b 1) (nI j) ∧ ¬ (3 : Int32) < 0 ∧ ¬ 3 < (3 : Int32) from ⟨c8, by decide⟩)]; exact h76.1.tr h86.1⟩)
    · refine g_tableOut hX 98 dX5_about_19 hsw (by decide) ?_
      refine g_aload_0 hX dX5_about_98 ?_
      refine g_bipush hX (-2) dX5_about_99 (by decide) ?_
      refine g_cV1r hX mkX5_refused ml_X5_99 (c_X5_refused) (ob_0 Z _) dX5_about_101 rfl (by decide) (Nat.le_of_ble_eq_true rfl) ?_
      exact hq _ _ _ _ dX5_about_104 (⟨by rw [abR, cl_f (fun z => sw_out (n := 3) hsw (by decide) z.2)], by rw [abC, cl_f (fun z => sw_out (n := 3) hsw (by decide) z.2)]; exact GP.ref hC (-2)⟩)
  · replace c8 := bI_z.mp c8
    refine g_aload_0 hX dX5_about_11 ?_
    refine g_bipush hX (-2) dX5_about_12 (by decide) ?_
    refine g_cV1r hX mkX5_refused ml_X5_99 (c_X5_refused) (ob_0 Z _) dX5_about_14 rfl (by decide) (Nat.le_of_ble_eq_true rfl) ?_
    exact hq _ _ _ _ dX5_about_17 (⟨by rw [abR, cl_f (fun z => c8 z.1)], by rw [abC, cl_f (fun z => c8 z.1)]; exact GP.ref hC (-2)⟩)
