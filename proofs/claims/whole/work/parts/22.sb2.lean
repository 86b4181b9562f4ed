/-! SnakedBus: the other calls that tell -/
set_option maxRecDepth 100000 in
set_option maxHeartbeats 4000000 in
theorem c_X5_setting {Z : Zt} {b : Mem} {k : Int32} (hC : CI b) : ConE Z yX5_setting cX5_setting 2 (some .int) 2 [.ref (zad Z 0), .int k] b (pI (fun x b' => x = seR (cv b 1) k ∧ GP b (seC k) b')) := by
  refine conE_i (by decide) (Nat.le_of_ble_eq_true rfl) rfl (fun X hX hq => ?_)
  have hX : Ok Z X cX5_setting 2 RX5 2 := hX
  show G Z X b 0 [some (.ref (zad Z 0)), some (.int k)] []
  refine g_iload_1 hX dX5_setting_0 ?_
  refine g_iconst hX 0 dX5_setting_1 (by decide) ?_
  refine g_bipush hX 6 dX5_setting_2 (by decide) ?_
  refine g_cS3r hX mkX5_within ml_X5_159 (c_X5_within) dX5_setting_4 rfl (by decide) (Nat.le_of_ble_eq_true rfl) ?_
  refine g_if_eq hX 21 dX5_setting_7 (by decide) (fun c7 => ?_) (fun c7 => ?_)
  · replace c7 := bI_z.mp c7
    refine g_aload_0 hX dX5_setting_21 ?_
    refine g_bipush hX (-2) dX5_setting_22 (by decide) ?_
    refine g_cV1r hX mkX5_refused ml_X5_99 (c_X5_refused) (ob_0 Z _) dX5_setting_24 rfl (by decide) (Nat.le_of_ble_eq_true rfl) ?_
    exact hq _ _ _ _ dX5_setting_27 (⟨by rw [seR, cl_f c7], by rw [seC, cl_f c7]; exact GP.ref hC (-2)⟩)
  · replace c7 := bI_nz.mp c7
    obtain ⟨j, hj, rfl⟩ := in_of6 (n := 6) c7.1 c7.2 (by decide)
    have hjc : (nI j).toNatClampNeg = j := nI_clamp (by omega)
    refine g_aload_0 hX dX5_setting_10 ?_
    refine gt_X5_bus hX dX5_setting_11 ?_
    refine g_iload_1 hX dX5_setting_14 ?_
    refine g_cV1r hX mkX0_settingAt ml_X5_108 (c_X0_settingAt (bus_1 Z) hj) ((bus_1 Z).obj _) dX5_setting_15 rfl (by decide) (Nat.le_of_ble_eq_true rfl) ?_
    refine g_goto hX 27 dX5_setting_18 (by decide) ?_
    exact hq _ _ _ _ dX5_setting_27 (⟨by rw [seR, cl_t (show ¬ nI j < 0 ∧ ¬ 6 < nI j from c7), hjc]; rfl, by rw [seC, cl_t (show ¬ nI j < 0 ∧ ¬ 6 < nI j from c7)]; exact GP.rf hC⟩)
set_option maxRecDepth 100000 in
set_option maxHeartbeats 4000000 in
theorem c_X5_count {Z : Zt} {b : Mem} {w : Int32} (hC : CI b) : ConE Z yX5_count cX5_count 2 (some .int) 5 [.ref (zad Z 0), .int w] b (pI (fun x b' => x = coR (cv b 1) w ∧ GP b (coC w) b')) := by
  refine conE_i (by decide) (Nat.le_of_ble_eq_true rfl) rfl (fun X hX hq => ?_)
  have hX : Ok Z X cX5_count 2 RX5 5 := hX
  show G Z X b 0 [some (.ref (zad Z 0)), some (.int w)] []
  refine g_iload_1 hX dX5_count_0 ?_
  rcases sw7 w with rfl | rfl | rfl | rfl | rfl | rfl | rfl | hsw
  · refine g_tableIn hX 44 dX5_count_1 (by decide) (by decide) rfl (by decide) ?_
    refine g_aload_0 hX dX5_count_44 ?_
    refine gt_X5_bus hX dX5_count_45 ?_
    refine g_cV0r hX mkX0_lineCount ml_X5_163 (c_X0_lineCount (bus_1 Z)) ((bus_1 Z).obj _) dX5_count_48 rfl (by decide) (Nat.le_of_ble_eq_true rfl) ?_
    exact hq _ _ _ _ dX5_count_51 (⟨by rw [coR, cl_t (show ¬ (0 : Int32) < 0 ∧ ¬ 6 < (0 : Int32) from by decide)]; rfl, by rw [coC, cl_t (show ¬ (0 : Int32) < 0 ∧ ¬ 6 < (0 : Int32) from by decide)]; exact GP.rf hC⟩)
  · refine g_tableIn hX 52 dX5_count_1 (by decide) (by decide) rfl (by decide) ?_
    refine g_aload_0 hX dX5_count_52 ?_
    refine gt_X5_bus hX dX5_count_53 ?_
    refine g_cV0r hX mkX0_pocketCount ml_X5_167 (c_X0_pocketCount (bus_1 Z)) ((bus_1 Z).obj _) dX5_count_56 rfl (by decide) (Nat.le_of_ble_eq_true rfl) ?_
    exact hq _ _ _ _ dX5_count_59 (⟨by rw [coR, cl_t (show ¬ (1 : Int32) < 0 ∧ ¬ 6 < (1 : Int32) from by decide)]; rfl, by rw [coC, cl_t (show ¬ (1 : Int32) < 0 ∧ ¬ 6 < (1 : Int32) from by decide)]; exact GP.rf hC⟩)
  · refine g_tableIn hX 60 dX5_count_1 (by decide) (by decide) rfl (by decide) ?_
    refine g_aload_0 hX dX5_count_60 ?_
    refine gt_X5_bus hX dX5_count_61 ?_
    refine g_cV0r hX mkX0_gain ml_X5_170 (c_X0_gain (bus_1 Z)) ((bus_1 Z).obj _) dX5_count_64 rfl (by decide) (Nat.le_of_ble_eq_true rfl) ?_
    refine g_bipush hX 100 dX5_count_67 (by decide) ?_
    refine g_iadd hX dX5_count_69 ?_
    exact hq _ _ _ _ dX5_count_70 (⟨by rw [coR, cl_t (show ¬ (2 : Int32) < 0 ∧ ¬ 6 < (2 : Int32) from by decide)]; rfl, by rw [coC, cl_t (show ¬ (2 : Int32) < 0 ∧ ¬ 6 < (2 : Int32) from by decide)]; exact GP.rf hC⟩)
  · refine g_tableIn hX 71 dX5_count_1 (by decide) (by decide) rfl (by decide) ?_
    refine g_aload_0 hX dX5_count_71 ?_
    refine g_eV0r hX mkX5_plan ml_X5_148 (c_X5_plan hC) (ob_0 Z _) dX5_count_72 rfl (by decide) (Nat.le_of_ble_eq_true rfl) (fun m72 h72 => ?_)
    refine g_cV0r hX mkX3_allFit ml_X5_152 (c_X3_allFit (shr_56 Z)) ((shr_56 Z).obj _) dX5_count_75 rfl (by decide) (Nat.le_of_ble_eq_true rfl) ?_
    refine g_if_eq hX 85 dX5_count_78 (by decide) (fun c78 => ?_) (fun c78 => ?_)
    · replace c78 := bI_z.mp c78
      refine g_iconst hX 0 dX5_count_85 (by decide) ?_
      exact hq _ _ _ _ dX5_count_86 (⟨by rw [coR, cl_t (show ¬ (3 : Int32) < 0 ∧ ¬ 6 < (3 : Int32) from by decide)]; exact (bI_f (fun z => c78 ((GP.pl h72).2.2.mpr z))).symm, by rw [coC, cl_t (show ¬ (3 : Int32) < 0 ∧ ¬ 6 < (3 : Int32) from by decide)]; exact h72.1⟩)
    · replace c78 := bI_nz.mp c78
      refine g_iconst hX 1 dX5_count_81 (by decide) ?_
      refine g_goto hX 86 dX5_count_82 (by decide) ?_
      exact hq _ _ _ _ dX5_count_86 (⟨by rw [coR, cl_t (show ¬ (3 : Int32) < 0 ∧ ¬ 6 < (3 : Int32) from by decide)]; exact (bI_t ((GP.pl h72).2.2.mp c78)).symm, by rw [coC, cl_t (show ¬ (3 : Int32) < 0 ∧ ¬ 6 < (3 : Int32) from by decide)]; exact h72.1⟩)
  · refine g_tableIn hX 87 dX5_count_1 (by decide) (by decide) rfl (by decide) ?_
    refine g_aload_0 hX dX5_count_87 ?_
    refine gt_X5_bus hX dX5_count_88 ?_
    refine g_cV0r hX mkX0_longestBase ml_X5_173 (c_X0_longestBase (bus_1 Z) hC.1.1) ((bus_1 Z).obj _) dX5_count_91 rfl (by decide) (Nat.le_of_ble_eq_true rfl) ?_
    exact hq _ _ _ _ dX5_count_94 (⟨by rw [coR, cl_t (show ¬ (4 : Int32) < 0 ∧ ¬ 6 < (4 : Int32) from by decide)]; rfl, by rw [coC, cl_t (show ¬ (4 : Int32) < 0 ∧ ¬ 6 < (4 : Int32) from by decide)]; exact GP.rf hC⟩)
  · refine g_tableIn hX 95 dX5_count_1 (by decide) (by decide) rfl (by decide) ?_
    refine g_aload_0 hX dX5_count_95 ?_
    refine gt_X5_bus hX dX5_count_96 ?_
    refine g_cV0r hX mkX0_allHumps ml_X5_176 (c_X0_allHumps (bus_1 Z) hC.1.1) ((bus_1 Z).obj _) dX5_count_99 rfl (by decide) (Nat.le_of_ble_eq_true rfl) ?_
    exact hq _ _ _ _ dX5_count_102 (⟨by rw [coR, cl_t (show ¬ (5 : Int32) < 0 ∧ ¬ 6 < (5 : Int32) from by decide)]; rfl, by rw [coC, cl_t (show ¬ (5 : Int32) < 0 ∧ ¬ 6 < (5 : Int32) from by decide)]; exact GP.rf hC⟩)
  · refine g_tableIn hX 103 dX5_count_1 (by decide) (by decide) rfl (by decide) ?_
    refine g_aload_0 hX dX5_count_103 ?_
    refine gt_X5_bus hX dX5_count_104 ?_
    refine g_aload_0 hX dX5_count_107 ?_
    refine gt_X5_bus hX dX5_count_108 ?_
    refine g_iconst hX 4 dX5_count_111 (by decide) ?_
    refine g_cV1r hX mkX0_settingAt ml_X5_108 (c_X0_settingAt (k := 4) (bus_1 Z) (by decide)) ((bus_1 Z).obj _) dX5_count_112 rfl (by decide) (Nat.le_of_ble_eq_true rfl) ?_
    refine g_cV1r hX mkX0_allNeeds ml_X5_179 (c_X0_allNeeds (bus_1 Z) hC.1.1) ((bus_1 Z).obj _) dX5_count_115 rfl (by decide) (Nat.le_of_ble_eq_true rfl) ?_
    exact hq _ _ _ _ dX5_count_118 (⟨by rw [coR, cl_t (show ¬ (6 : Int32) < 0 ∧ ¬ 6 < (6 : Int32) from by decide)]; rfl, by rw [coC, cl_t (show ¬ (6 : Int32) < 0 ∧ ¬ 6 < (6 : Int32) from by decide)]; exact GP.rf hC⟩)
  · refine g_tableOut hX 119 dX5_count_1 hsw (by decide) ?_
    refine g_aload_0 hX dX5_count_119 ?_
    refine g_bipush hX (-2) dX5_count_120 (by decide) ?_
    refine g_cV1r hX mkX5_refused ml_X5_99 (c_X5_refused) (ob_0 Z _) dX5_count_122 rfl (by decide) (Nat.le_of_ble_eq_true rfl) ?_
    exact hq _ _ _ _ dX5_count_125 (⟨by rw [coR, cl_f (show ¬ (¬ w < 0 ∧ ¬ 6 < w) from sw_out (n := 6) hsw (by decide))], by rw [coC, cl_f (show ¬ (¬ w < 0 ∧ ¬ 6 < w) from sw_out (n := 6) hsw (by decide))]; exact GP.ref hC (-2)⟩)
set_option maxRecDepth 100000 in
set_option maxHeartbeats 4000000 in
theorem c_X5_draws {Z : Zt} {b : Mem} {l q : Int32} (hC : CI b) : ConE Z yX5_draws cX5_draws 3 (some .int) 5 [.ref (zad Z 0), .int l, .int q] b (pI (fun x b' => x = drR (cv b 1) l q ∧ GP b (drC (cv b 1) l q) b')) := by
  have hn : b 1 6 = nI (nl (cv b 1)) := hC.1.1.1.1
  have hn6 := hC.1.1.1.2
  have hp : b 1 7 = nI (np (cv b 1)) := hC.1.1.2.1.1
  have hp6 := hC.1.1.2.1.2
  refine conE_i (by decide) (Nat.le_of_ble_eq_true rfl) rfl (fun X hX hq => ?_)
  have hX : Ok Z X cX5_draws 3 RX5 5 := hX
  show G Z X b 0 [some (.ref (zad Z 0)), some (.int l), some (.int q)] []
  refine g_aload_0 hX dX5_draws_0 ?_
  refine gt_X5_bus hX dX5_draws_1 ?_
  refine g_iload_1 hX dX5_draws_4 ?_
  refine g_cV1r hX mkX0_hasLine ml_X5_95 (c_X0_hasLine (bus_1 Z)) ((bus_1 Z).obj _) dX5_draws_5 rfl (by decide) (Nat.le_of_ble_eq_true rfl) ?_
  refine g_if_eq hX 22 dX5_draws_8 (by decide) (fun c8 => ?_) (fun c8 => ?_)
  · replace c8 := bI_z.mp c8
    refine g_aload_0 hX dX5_draws_22 ?_
    refine g_bipush hX (-2) dX5_draws_23 (by decide) ?_
    refine g_cV1r hX mkX5_refused ml_X5_99 (c_X5_refused) (ob_0 Z _) dX5_draws_25 rfl (by decide) (Nat.le_of_ble_eq_true rfl) ?_
    exact hq _ _ _ _ dX5_draws_28 (⟨by rw [drR, cl_f (fun z => c8 z.1)], by rw [drC, cl_f (fun z => c8 z.1)]; exact GP.ref hC (-2)⟩)
  · replace c8 := bI_nz.mp c8
    obtain ⟨j, hj, rfl⟩ := in_of c8.1 (by have := c8.2; rw [hn] at this; exact this) (by omega)
    have hjc : (nI j).toNatClampNeg = j := nI_clamp (by omega)
    have hj6 := hC.1.1.l6 hj
    refine g_aload_0 hX dX5_draws_11 ?_
    refine gt_X5_bus hX dX5_draws_12 ?_
    refine g_iload_2 hX dX5_draws_15 ?_
    refine g_cV1r hX mkX0_hasPocket ml_X5_136 (c_X0_hasPocket (bus_1 Z)) ((bus_1 Z).obj _) dX5_draws_16 rfl (by decide) (Nat.le_of_ble_eq_true rfl) ?_
    refine g_if_ne hX 29 dX5_draws_19 (by decide) (fun c19 => ?_) (fun c19 => ?_)
    · replace c19 := bI_nz.mp c19
      obtain ⟨p, hpp, rfl⟩ := in_of c19.1 (by have := c19.2; rw [hp] at this; exact this) (by omega)
      have hpc : (nI p).toNatClampNeg = p := nI_clamp (by omega)
      have hpp6 := hC.1.1.p6 hpp
      refine g_aload_0 hX dX5_draws_29 ?_
      refine g_eV0r hX mkX5_plan ml_X5_148 (c_X5_plan hC) (ob_0 Z _) dX5_draws_30 rfl (by decide) (Nat.le_of_ble_eq_true rfl) (fun m30 h30 => ?_)
      have hv : cv m30 1 = cv b 1 := h30.1.2.1.cv1
      refine g_cV0r hX mkX3_allFit ml_X5_152 (c_X3_allFit (shr_56 Z)) ((shr_56 Z).obj _) dX5_draws_33 rfl (by decide) (Nat.le_of_ble_eq_true rfl) ?_
      refine g_if_eq hX 51 dX5_draws_36 (by decide) (fun c36 => ?_) (fun c36 => ?_)
      · replace c36 := bI_z.mp c36
        refine g_aload_0 hX dX5_draws_51 ?_
        refine g_bipush hX (-3) dX5_draws_52 (by decide) ?_
        refine g_cV1r hX mkX5_refused ml_X5_99 (c_X5_refused) (ob_0 Z _) dX5_draws_54 rfl (by decide) (Nat.le_of_ble_eq_true rfl) ?_
        exact hq _ _ _ _ dX5_draws_57 (⟨by rw [drR, cl_t (show okL (cv b 1) (nI j) ∧ okP (cv b 1) (nI p) from ⟨c8, c19⟩), if_neg (fun z => c36 ((GP.pl h30).2.2.mpr z))], by rw [drC, cl_t (show okL (cv b 1) (nI j) ∧ okP (cv b 1) (nI p) from ⟨c8, c19⟩), if_neg (fun z => c36 ((GP.pl h30).2.2.mpr z))]; exact h30.1.tr (GP.ref h30.1.1 (-3))⟩)
      · replace c36 := bI_nz.mp c36
        refine g_aload_0 hX dX5_draws_39 ?_
        refine g_eV0r hX mkX5_plan ml_X5_148 (c_X5_plan h30.1.1) (ob_0 Z _) dX5_draws_40 rfl (by decide) (Nat.le_of_ble_eq_true rfl) (fun m40 h40 => ?_)
        refine g_iload_1 hX dX5_draws_43 ?_
        refine g_iload_2 hX dX5_draws_44 ?_
        refine g_cV2r hX mkX3_drawnBy ml_X5_182 (c_X3_drawnBy (shr_56 Z) hj6 hpp6) ((shr_56 Z).obj _) dX5_draws_45 rfl (by decide) (Nat.le_of_ble_eq_true rfl) ?_
        refine g_goto hX 57 dX5_draws_48 (by decide) ?_
        exact hq _ _ _ _ dX5_draws_57 (⟨by rw [drR, cl_t (show okL (cv b 1) (nI j) ∧ okP (cv b 1) (nI p) from ⟨c8, c19⟩), hjc, hpc, if_pos ((GP.pl h30).2.2.mp c36)]; have hp2 := (GP.pl h40).1; rw [hv] at hp2; exact (hp2.2 ((GP.pl h30).2.2.mp c36)).1 j p hj hpp, by rw [drC, cl_t (show okL (cv b 1) (nI j) ∧ okP (cv b 1) (nI p) from ⟨c8, c19⟩), if_pos ((GP.pl h30).2.2.mp c36)]; exact h30.1.tr h40.1⟩)
    · replace c19 := bI_z.mp c19
      refine g_aload_0 hX dX5_draws_22 ?_
      refine g_bipush hX (-2) dX5_draws_23 (by decide) ?_
      refine g_cV1r hX mkX5_refused ml_X5_99 (c_X5_refused) (ob_0 Z _) dX5_draws_25 rfl (by decide) (Nat.le_of_ble_eq_true rfl) ?_
      exact hq _ _ _ _ dX5_draws_28 (⟨by rw [drR, cl_f (fun z => c19 z.2)], by rw [drC, cl_f (fun z => c19 z.2)]; exact GP.ref hC (-2)⟩)
set_option maxRecDepth 100000 in
set_option maxHeartbeats 4000000 in
theorem c_X5_length {Z : Zt} {b : Mem} {l : Int32} (hC : CI b) : ConE Z yX5_length cX5_length 3 (some .int) 5 [.ref (zad Z 0), .int l] b (pI (fun x b' => x = leR (cv b 1) l ∧ GP b (leC (cv b 1) l) b')) := by
  have hn : b 1 6 = nI (nl (cv b 1)) := hC.1.1.1.1
  have hn6 := hC.1.1.1.2
  have hp : b 1 7 = nI (np (cv b 1)) := hC.1.1.2.1.1
  have hp6 := hC.1.1.2.1.2
  refine conE_i (by decide) (Nat.le_of_ble_eq_true rfl) rfl (fun X hX hq => ?_)
  have hX : Ok Z X cX5_length 3 RX5 5 := hX
  show G Z X b 0 [some (.ref (zad Z 0)), some (.int l), none] []
  refine g_aload_0 hX dX5_length_0 ?_
  refine gt_X5_bus hX dX5_length_1 ?_
  refine g_iload_1 hX dX5_length_4 ?_
  refine g_cV1r hX mkX0_hasLine ml_X5_95 (c_X0_hasLine (bus_1 Z)) ((bus_1 Z).obj _) dX5_length_5 rfl (by decide) (Nat.le_of_ble_eq_true rfl) ?_
  refine g_if_ne hX 18 dX5_length_8 (by decide) (fun c8 => ?_) (fun c8 => ?_)
  · replace c8 := bI_nz.mp c8
    obtain ⟨j, hj, rfl⟩ := in_of c8.1 (by have := c8.2; rw [hn] at this; exact this) (by omega)
    have hjc : (nI j).toNatClampNeg = j := nI_clamp (by omega)
    have hj6 := hC.1.1.l6 hj
    refine g_aload_0 hX dX5_length_18 ?_
    refine g_eV0r hX mkX5_plan ml_X5_148 (c_X5_plan hC) (ob_0 Z _) dX5_length_19 rfl (by decide) (Nat.le_of_ble_eq_true rfl) (fun m19 h19 => ?_)
    have hv : cv m19 1 = cv b 1 := h19.1.2.1.cv1
    refine g_cV0r hX mkX3_allFit ml_X5_152 (c_X3_allFit (shr_56 Z)) ((shr_56 Z).obj _) dX5_length_22 rfl (by decide) (Nat.le_of_ble_eq_true rfl) ?_
    refine g_if_ne hX 35 dX5_length_25 (by decide) (fun c25 => ?_) (fun c25 => ?_)
    · replace c25 := bI_nz.mp c25
      refine g_aload_0 hX dX5_length_35 ?_
      refine gt_X5_bus hX dX5_length_36 ?_
      refine g_iload_1 hX dX5_length_39 ?_
      refine g_cV1r hX mkX0_baseOf ml_X5_105 (c_X0_baseOf (bus_1 Z) (by rw [hv]; exact hC.1.1) (by rw [hv]; exact hj)) ((bus_1 Z).obj _) dX5_length_40 rfl (by decide) (Nat.le_of_ble_eq_true rfl) ?_
      refine g_top (baseS (cv b 1) j) (by rw [hv]) ?_
      refine g_istore_2 hX dX5_length_43 rfl ?_
      refine g_iload_2 hX dX5_length_44 ?_
      refine g_aload_0 hX dX5_length_45 ?_
      refine gt_X5_bus hX dX5_length_46 ?_
      refine g_iload_2 hX dX5_length_49 ?_
      refine g_aload_0 hX dX5_length_50 ?_
      refine gt_X5_bus hX dX5_length_51 ?_
      refine g_iconst hX 4 dX5_length_54 (by decide) ?_
      refine g_cV1r hX mkX0_settingAt ml_X5_108 (c_X0_settingAt (k := 4) (bus_1 Z) (by decide)) ((bus_1 Z).obj _) dX5_length_55 rfl (by decide) (Nat.le_of_ble_eq_true rfl) ?_
      refine g_cV2r hX mkX0_lackFor ml_X5_111 (c_X0_lackFor (bus_1 Z)) ((bus_1 Z).obj _) dX5_length_58 rfl (by decide) (Nat.le_of_ble_eq_true rfl) ?_
      refine g_top (lackS (cv b 1) (baseS (cv b 1) j) (cv b 1 5 4 0)) (by rw [← hv]; rfl) ?_
      refine g_iadd hX dX5_length_61 ?_
      exact hq _ _ _ _ dX5_length_62 (⟨by rw [leR, cl_t (show okL (cv b 1) (nI j) from c8), hjc, if_pos ((GP.pl h19).2.2.mp c25)], by rw [leC, cl_t (show okL (cv b 1) (nI j) from c8), if_pos ((GP.pl h19).2.2.mp c25)]; exact h19.1⟩)
    · replace c25 := bI_z.mp c25
      refine g_aload_0 hX dX5_length_28 ?_
      refine g_bipush hX (-3) dX5_length_29 (by decide) ?_
      refine g_cV1r hX mkX5_refused ml_X5_99 (c_X5_refused) (ob_0 Z _) dX5_length_31 rfl (by decide) (Nat.le_of_ble_eq_true rfl) ?_
      exact hq _ _ _ _ dX5_length_34 (⟨by rw [leR, cl_t (show okL (cv b 1) (nI j) from c8), if_neg (fun z => c25 ((GP.pl h19).2.2.mpr z))], by rw [leC, cl_t (show okL (cv b 1) (nI j) from c8), if_neg (fun z => c25 ((GP.pl h19).2.2.mpr z))]; exact h19.1.tr (GP.ref h19.1.1 (-3))⟩)
  · replace c8 := bI_z.mp c8
    refine g_aload_0 hX dX5_length_11 ?_
    refine g_bipush hX (-2) dX5_length_12 (by decide) ?_
    refine g_cV1r hX mkX5_refused ml_X5_99 (c_X5_refused) (ob_0 Z _) dX5_length_14 rfl (by decide) (Nat.le_of_ble_eq_true rfl) ?_
    exact hq _ _ _ _ dX5_length_17 (⟨by rw [leR, cl_f (show ¬ okL (cv b 1) l from c8)], by rw [leC, cl_f (show ¬ okL (cv b 1) l from c8)]; exact GP.ref hC (-2)⟩)
set_option maxRecDepth 100000 in
set_option maxHeartbeats 4000000 in
theorem c_X5_blocked {Z : Zt} {b : Mem} (hC : CI b) : ConE Z yX5_blocked cX5_blocked 1 (some .int) 5 [.ref (zad Z 0)] b (pI (fun x b' => x = nI (blN (cv b 1) (cv b 1 5 4 0)) ∧ GP b 0 b')) := by
  refine conE_i (by decide) (Nat.le_of_ble_eq_true rfl) rfl (fun X hX hq => ?_)
  have hX : Ok Z X cX5_blocked 1 RX5 5 := hX
  show G Z X b 0 [some (.ref (zad Z 0))] []
  refine g_aload_0 hX dX5_blocked_0 ?_
  refine g_eV0r hX mkX5_plan ml_X5_148 (c_X5_plan hC) (ob_0 Z _) dX5_blocked_1 rfl (by decide) (Nat.le_of_ble_eq_true rfl) (fun m1 h1 => ?_)
  refine g_cV0r hX mkX3_blockedLines ml_X5_185 (c_X3_blockedLines (shr_56 Z)) ((shr_56 Z).obj _) dX5_blocked_4 rfl (by decide) (Nat.le_of_ble_eq_true rfl) ?_
  exact hq _ _ _ _ dX5_blocked_7 (⟨(GP.pl h1).2.1, h1.1⟩)
set_option maxRecDepth 100000 in
set_option maxHeartbeats 4000000 in
theorem c_X5_can {Z : Zt} {b : Mem} {t : Int32} (hC : CI b) : ConE Z yX5_can cX5_can 2 (some .int) 5 [.ref (zad Z 0), .int t] b (pI (fun x b' => x = caR (cv b 1) t ∧ GP b (caC t) b')) := by
  refine conE_i (by decide) (Nat.le_of_ble_eq_true rfl) rfl (fun X hX hq => ?_)
  have hX : Ok Z X cX5_can 2 RX5 5 := hX
  show G Z X b 0 [some (.ref (zad Z 0)), some (.int t)] []
  refine g_iload_1 hX dX5_can_0 ?_
  refine g_iconst hX 0 dX5_can_1 (by decide) ?_
  refine g_sipush hX 999 dX5_can_2 (by decide) ?_
  refine g_cS3r hX mkX5_within ml_X5_159 (c_X5_within) dX5_can_5 rfl (by decide) (Nat.le_of_ble_eq_true rfl) ?_
  refine g_if_ne hX 18 dX5_can_8 (by decide) (fun c8 => ?_) (fun c8 => ?_)
  · replace c8 := bI_nz.mp c8
    refine g_aload_0 hX dX5_can_18 ?_
    refine g_iload_1 hX dX5_can_19 ?_
    refine g_eV1i hX mkX5_fitsBy ml_X5_188 (c_X5_fitsBy hC) (ob_0 Z _) dX5_can_20 rfl (by decide) (Nat.le_of_ble_eq_true rfl) (fun x20 m20 h20 => ?_)
    obtain ⟨rfl, h20⟩ := h20
    refine g_if_eq hX 30 dX5_can_23 (by decide) (fun c23 => ?_) (fun c23 => ?_)
    · replace c23 := bI_z.mp c23
      refine g_iconst hX 0 dX5_can_30 (by decide) ?_
      exact hq _ _ _ _ dX5_can_31 (⟨by rw [caR, cl_t (show ¬ t < 0 ∧ ¬ 999 < t from c8)]; exact (bI_f c23).symm, by rw [caC, cl_t (show ¬ t < 0 ∧ ¬ 999 < t from c8)]; exact h20⟩)
    · replace c23 := bI_nz.mp c23
      refine g_iconst hX 1 dX5_can_26 (by decide) ?_
      refine g_goto hX 31 dX5_can_27 (by decide) ?_
      exact hq _ _ _ _ dX5_can_31 (⟨by rw [caR, cl_t (show ¬ t < 0 ∧ ¬ 999 < t from c8)]; exact (bI_t c23).symm, by rw [caC, cl_t (show ¬ t < 0 ∧ ¬ 999 < t from c8)]; exact h20⟩)
  · replace c8 := bI_z.mp c8
    refine g_aload_0 hX dX5_can_11 ?_
    refine g_bipush hX (-2) dX5_can_12 (by decide) ?_
    refine g_cV1r hX mkX5_refused ml_X5_99 (c_X5_refused) (ob_0 Z _) dX5_can_14 rfl (by decide) (Nat.le_of_ble_eq_true rfl) ?_
    exact hq _ _ _ _ dX5_can_17 (⟨by rw [caR, cl_f c8], by rw [caC, cl_f c8]; exact GP.ref hC (-2)⟩)
set_option maxRecDepth 100000 in
set_option maxHeartbeats 4000000 in
theorem c_X5_least {Z : Zt} {b : Mem} (hC : CI b) : ConE Z yX5_least cX5_least 2 (some .int) 5 [.ref (zad Z 0)] b (pI (fun x b' => x = lsR (cv b 1) ∧ GP b 0 b')) := by
  refine conE_i (by decide) (Nat.le_of_ble_eq_true rfl) rfl (fun X hX hq => ?_)
  have hX : Ok Z X cX5_least 2 RX5 5 := hX
  show G Z X b 0 [some (.ref (zad Z 0)), none] []
  refine g_aload_0 hX dX5_least_0 ?_
  refine gt_X5_bus hX dX5_least_1 ?_
  refine g_cV0r hX mkX0_longestBase ml_X5_173 (c_X0_longestBase (bus_1 Z) hC.1.1) ((bus_1 Z).obj _) dX5_least_4 rfl (by decide) (Nat.le_of_ble_eq_true rfl) ?_
  refine g_istore_1 hX dX5_least_7 rfl ?_
  refine g_aload_0 hX dX5_least_8 ?_
  refine g_iload_1 hX dX5_least_9 ?_
  refine g_eV1i hX mkX5_fitsBy ml_X5_188 (c_X5_fitsBy hC) (ob_0 Z _) dX5_least_10 rfl (by decide) (Nat.le_of_ble_eq_true rfl) (fun x10 m10 h10 => ?_)
  obtain ⟨rfl, h10⟩ := h10
  refine g_if_eq hX 20 dX5_least_13 (by decide) (fun c13 => ?_) (fun c13 => ?_)
  · replace c13 := bI_z.mp c13
    refine g_iconst hX (-1) dX5_least_20 (by decide) ?_
    exact hq _ _ _ _ dX5_least_21 (⟨by rw [lsR, if_neg c13], h10⟩)
  · replace c13 := bI_nz.mp c13
    refine g_iload_1 hX dX5_least_16 ?_
    refine g_goto hX 21 dX5_least_17 (by decide) ?_
    exact hq _ _ _ _ dX5_least_21 (⟨by rw [lsR, if_pos c13], h10⟩)
theorem h512 : ∀ k, k < 10 → (0 : Int32) < nI (512 / 2 ^ k) ∧ nI (512 / 2 ^ k) / 2 = nI (512 / 2 ^ (k + 1)) := by decide +kernel
set_option maxRecDepth 100000 in
set_option maxHeartbeats 4000000 in
theorem c_X5_greatest {Z : Zt} {b : Mem} (hC : CI b) : ConE Z yX5_greatest cX5_greatest 3 (some .int) 5 [.ref (zad Z 0)] b (pI (fun x b' => x = grR (cv b 1) ∧ GP b 0 b')) := by
  refine conE_i (by decide) (Nat.le_of_ble_eq_true rfl) rfl (fun X hX hq => ?_)
  have hX : Ok Z X cX5_greatest 3 RX5 5 := hX
  show G Z X b 0 [some (.ref (zad Z 0)), none, none] []
  refine g_aload_0 hX dX5_greatest_0 ?_
  refine gt_X5_bus hX dX5_greatest_1 ?_
  refine g_cV0r hX mkX0_longestBase ml_X5_173 (c_X0_longestBase (bus_1 Z) hC.1.1) ((bus_1 Z).obj _) dX5_greatest_4 rfl (by decide) (Nat.le_of_ble_eq_true rfl) ?_
  refine g_istore_1 hX dX5_greatest_7 rfl ?_
  refine g_aload_0 hX dX5_greatest_8 ?_
  refine g_iload_1 hX dX5_greatest_9 ?_
  refine g_eV1i hX mkX5_fitsBy ml_X5_188 (c_X5_fitsBy hC) (ob_0 Z _) dX5_greatest_10 rfl (by decide) (Nat.le_of_ble_eq_true rfl) (fun x10 m10 h10 => ?_)
  obtain ⟨rfl, h10⟩ := h10
  refine g_if_ne hX 18 dX5_greatest_13 (by decide) (fun c13 => ?_) (fun c13 => ?_)
  · replace c13 := bI_nz.mp c13
    refine g_sipush hX 512 dX5_greatest_18 (by decide) ?_
    refine g_istore_2 hX dX5_greatest_21 rfl ?_
    refine g_loopI (10) (fun k m LL => (GP b 0 m) ∧ LL = [some (.ref (zad Z 0)), some (.int (grK (cv b 1) k)), some (.int (nI (512 / 2 ^ k)))]) ⟨h10, rfl⟩ ?_ ?_
    · rintro k m _ hk22 ⟨hm, rfl⟩ ih22
      refine g_iload_2 hX dX5_greatest_22 ?_
      refine g_if_le hX 56 dX5_greatest_23 (by decide) (fun c23 => ?_) (fun c23 => ?_)
      · exact absurd c23 (not_not_intro (h512 k hk22).1)
      · refine g_iload_1 hX dX5_greatest_26 ?_
        refine g_iload_2 hX dX5_greatest_27 ?_
        refine g_iadd hX dX5_greatest_28 ?_
        refine g_sipush hX 999 dX5_greatest_29 (by decide) ?_
        refine g_icmp_gt hX 49 dX5_greatest_32 (by decide) (fun c32 => ?_) (fun c32 => ?_)
        · refine g_iload_2 hX dX5_greatest_49 ?_
          refine g_iconst hX 2 dX5_greatest_50 (by decide) ?_
          refine g_idiv hX dX5_greatest_51 (by decide) ?_
          refine g_istore_2 hX dX5_greatest_52 rfl ?_
          refine g_goto hX 22 dX5_greatest_53 (by decide) ?_
          exact (ih22 _ _ ⟨hm, by rw [(h512 k hk22).2]; simp only [grK]; rw [if_neg (fun z : (¬ 999 < grK (cv b 1) k + nI (512 / 2 ^ k)) ∧ _ => z.1 c32)]⟩)
        · refine g_aload_0 hX dX5_greatest_35 ?_
          refine g_iload_1 hX dX5_greatest_36 ?_
          refine g_iload_2 hX dX5_greatest_37 ?_
          refine g_iadd hX dX5_greatest_38 ?_
          refine g_eV1i hX mkX5_fitsBy ml_X5_188 (c_X5_fitsBy hm.1) (ob_0 Z _) dX5_greatest_39 rfl (by decide) (Nat.le_of_ble_eq_true rfl) (fun x39 m39 h39 => ?_)
          obtain ⟨rfl, h39⟩ := h39
          rw [hm.2.1.cv1]
          refine g_if_eq hX 49 dX5_greatest_42 (by decide) (fun c42 => ?_) (fun c42 => ?_)
          · replace c42 := bI_z.mp c42
            refine g_iload_2 hX dX5_greatest_49 ?_
            refine g_iconst hX 2 dX5_greatest_50 (by decide) ?_
            refine g_idiv hX dX5_greatest_51 (by decide) ?_
            refine g_istore_2 hX dX5_greatest_52 rfl ?_
            refine g_goto hX 22 dX5_greatest_53 (by decide) ?_
            exact (ih22 _ _ ⟨hm.tr h39, by rw [(h512 k hk22).2]; simp only [grK]; rw [if_neg (fun z : (¬ 999 < grK (cv b 1) k + nI (512 / 2 ^ k)) ∧ _ => c42 z.2)]⟩)
          · replace c42 := bI_nz.mp c42
            refine g_iload_1 hX dX5_greatest_45 ?_
            refine g_iload_2 hX dX5_greatest_46 ?_
            refine g_iadd hX dX5_greatest_47 ?_
            refine g_istore_1 hX dX5_greatest_48 rfl ?_
            refine g_iload_2 hX dX5_greatest_49 ?_
            refine g_iconst hX 2 dX5_greatest_50 (by decide) ?_
            refine g_idiv hX dX5_greatest_51 (by decide) ?_
            refine g_istore_2 hX dX5_greatest_52 rfl ?_
            refine g_goto hX 22 dX5_greatest_53 (by decide) ?_
            exact (ih22 _ _ ⟨hm.tr h39, by rw [(h512 k hk22).2]; simp only [grK]; rw [if_pos ⟨c32, c42⟩]⟩)
    · rintro m _ ⟨hm, rfl⟩
      refine g_iload_2 hX dX5_greatest_22 ?_
      refine g_if_le hX 56 dX5_greatest_23 (by decide) (fun c23 => ?_) (fun c23 => ?_)
      · refine g_iload_1 hX dX5_greatest_56 ?_
        exact hq _ _ _ _ dX5_greatest_57 (⟨by rw [grR, if_pos c13], hm⟩)
      · exact absurd c23 (by decide)
  · replace c13 := bI_z.mp c13
    refine g_iconst hX (-1) dX5_greatest_16 (by decide) ?_
    exact hq _ _ _ _ dX5_greatest_17 (⟨by rw [grR, if_neg c13], h10⟩)
set_option maxRecDepth 100000 in
set_option maxHeartbeats 4000000 in
theorem c_X5_skew {Z : Zt} {b : Mem} {l i : Int32} (hC : CI b) : ConE Z yX5_skew cX5_skew 3 (some .int) 4 [.ref (zad Z 0), .int l, .int i] b (pI (fun x b' => x = cl (okR (cv b 1) l i) (skewS (cv b 1) l.toNatClampNeg i.toNatClampNeg + 100) (-2) ∧ GP b (cl (okR (cv b 1) l i) 0 (-2)) b')) := by
  have hn : b 1 6 = nI (nl (cv b 1)) := hC.1.1.1.1
  have hn6 := hC.1.1.1.2
  have hp : b 1 7 = nI (np (cv b 1)) := hC.1.1.2.1.1
  have hp6 := hC.1.1.2.1.2
  refine conE_i (by decide) (Nat.le_of_ble_eq_true rfl) rfl (fun X hX hq => ?_)
  have hX : Ok Z X cX5_skew 3 RX5 4 := hX
  show G Z X b 0 [some (.ref (zad Z 0)), some (.int l), some (.int i)] []
  refine g_aload_0 hX dX5_skew_0 ?_
  refine gt_X5_bus hX dX5_skew_1 ?_
  refine g_iload_1 hX dX5_skew_4 ?_
  refine g_iload_2 hX dX5_skew_5 ?_
  refine g_cV2r hX mkX0_hasRun ml_X5_123 (c_X0_hasRun (bus_1 Z) hC.1.1) ((bus_1 Z).obj _) dX5_skew_6 rfl (by decide) (Nat.le_of_ble_eq_true rfl) ?_
  refine g_if_eq hX 27 dX5_skew_9 (by decide) (fun c9 => ?_) (fun c9 => ?_)
  · replace c9 := bI_z.mp c9
    refine g_aload_0 hX dX5_skew_27 ?_
    refine g_bipush hX (-2) dX5_skew_28 (by decide) ?_
    refine g_cV1r hX mkX5_refused ml_X5_99 (c_X5_refused) (ob_0 Z _) dX5_skew_30 rfl (by decide) (Nat.le_of_ble_eq_true rfl) ?_
    exact hq _ _ _ _ dX5_skew_33 (⟨by rw [cl_f (fun z => c9 ⟨z.1.1, z.1.2, z.2.1, z.2.2⟩)], by rw [cl_f (fun z => c9 ⟨z.1.1, z.1.2, z.2.1, z.2.2⟩)]; exact GP.ref hC (-2)⟩)
  · replace c9 := bI_nz.mp c9
    obtain ⟨j, hj, rfl⟩ := in_of c9.1 (by have := c9.2.1; rw [hn] at this; exact this) (by omega)
    have hjc : (nI j).toNatClampNeg = j := nI_clamp (by omega)
    have hr : b (1 + 1) j = nI (rn (cv b 1) j) := hC.1.1.runs hj
    have hr8 := hC.1.1.r8 hj
    have c9b := c9.2.2.2
    rw [hjc, hr] at c9b
    obtain ⟨k, hk, rfl⟩ := in_of c9.2.2.1 c9b (by omega)
    have hkc : (nI k).toNatClampNeg = k := nI_clamp (by omega)
    have hok : okR (cv b 1) (nI j) (nI k) := ⟨⟨c9.1, c9.2.1⟩, c9.2.2.1, c9.2.2.2⟩
    refine g_aload_0 hX dX5_skew_12 ?_
    refine gt_X5_bus hX dX5_skew_13 ?_
    refine g_iload_1 hX dX5_skew_16 ?_
    refine g_iload_2 hX dX5_skew_17 ?_
    refine g_cV2r hX mkX0_plainSkew ml_X5_202 (c_X0_plainSkew (bus_1 Z) hC.1.1 hj hk) ((bus_1 Z).obj _) dX5_skew_18 rfl (by decide) (Nat.le_of_ble_eq_true rfl) ?_
    refine g_bipush hX 100 dX5_skew_21 (by decide) ?_
    refine g_iadd hX dX5_skew_23 ?_
    refine g_goto hX 33 dX5_skew_24 (by decide) ?_
    exact hq _ _ _ _ dX5_skew_33 (⟨by rw [cl_t hok, hjc, hkc], by rw [cl_t hok]; exact GP.rf hC⟩)
def toV (b : Mem) (w : Int32) : Int32 := if w = 0 then b 0 8 else if w = 1 then b 0 9 else if w = 2 then b 0 10 else if w = 3 then b 52 3 else b 50 2
noncomputable def toR (b : Mem) (w : Int32) : Int32 := cl (¬ w < 0 ∧ ¬ 4 < w) (toV b w) (-2)
noncomputable def toC (w : Int32) : Int32 := cl (¬ w < 0 ∧ ¬ 4 < w) 0 (-2)
set_option maxRecDepth 100000 in
set_option maxHeartbeats 4000000 in
theorem c_X5_told {Z : Zt} {b : Mem} {w : Int32} (hC : CI b) : ConE Z yX5_told cX5_told 2 (some .int) 1 [.ref (zad Z 0), .int w] b (pI (fun x b' => x = toR b w ∧ GP b (toC w) b')) := by
  refine conE_i (by decide) (Nat.le_of_ble_eq_true rfl) rfl (fun X hX hq => ?_)
  have hX : Ok Z X cX5_told 2 RX5 1 := hX
  show G Z X b 0 [some (.ref (zad Z 0)), some (.int w)] []
  refine g_iload_1 hX dX5_told_0 ?_
  rcases sw5t w with rfl | rfl | rfl | rfl | rfl | hsw
  · refine g_tableIn hX 36 dX5_told_1 (by decide) (by decide) rfl (by decide) ?_
    refine g_aload_0 hX dX5_told_36 ?_
    refine gt_X5_bads hX dX5_told_37 ?_
    exact hq _ _ _ _ dX5_told_40 (⟨by rw [toR, cl_t (show ¬ (0 : Int32) < 0 ∧ ¬ 4 < (0 : Int32) from by decide)]; rfl, by rw [toC, cl_t (show ¬ (0 : Int32) < 0 ∧ ¬ 4 < (0 : Int32) from by decide)]; exact GP.rf hC⟩)
  · refine g_tableIn hX 41 dX5_told_1 (by decide) (by decide) rfl (by decide) ?_
    refine g_aload_0 hX dX5_told_41 ?_
    refine gt_X5_noes hX dX5_told_42 ?_
    exact hq _ _ _ _ dX5_told_45 (⟨by rw [toR, cl_t (show ¬ (1 : Int32) < 0 ∧ ¬ 4 < (1 : Int32) from by decide)]; rfl, by rw [toC, cl_t (show ¬ (1 : Int32) < 0 ∧ ¬ 4 < (1 : Int32) from by decide)]; exact GP.rf hC⟩)
  · refine g_tableIn hX 46 dX5_told_1 (by decide) (by decide) rfl (by decide) ?_
    refine g_aload_0 hX dX5_told_46 ?_
    refine gt_X5_fulls hX dX5_told_47 ?_
    exact hq _ _ _ _ dX5_told_50 (⟨by rw [toR, cl_t (show ¬ (2 : Int32) < 0 ∧ ¬ 4 < (2 : Int32) from by decide)]; rfl, by rw [toC, cl_t (show ¬ (2 : Int32) < 0 ∧ ¬ 4 < (2 : Int32) from by decide)]; exact GP.rf hC⟩)
  · refine g_tableIn hX 51 dX5_told_1 (by decide) (by decide) rfl (by decide) ?_
    refine g_aload_0 hX dX5_told_51 ?_
    refine gt_X5_text hX dX5_told_52 ?_
    refine g_cV0r hX mkX4_size ml_X5_208 (c_X4_size) (ob_52 Z _) dX5_told_55 rfl (by decide) (Nat.le_of_ble_eq_true rfl) ?_
    exact hq _ _ _ _ dX5_told_58 (⟨by rw [toR, cl_t (show ¬ (3 : Int32) < 0 ∧ ¬ 4 < (3 : Int32) from by decide)]; rfl, by rw [toC, cl_t (show ¬ (3 : Int32) < 0 ∧ ¬ 4 < (3 : Int32) from by decide)]; exact GP.rf hC⟩)
  · refine g_tableIn hX 59 dX5_told_1 (by decide) (by decide) rfl (by decide) ?_
    refine g_aload_0 hX dX5_told_59 ?_
    refine gt_X5_past hX dX5_told_60 ?_
    refine g_cV0r hX mkX1_size ml_X5_231 (c_X1_size) (ob_50 Z _) dX5_told_63 rfl (by decide) (Nat.le_of_ble_eq_true rfl) ?_
    exact hq _ _ _ _ dX5_told_66 (⟨by rw [toR, cl_t (show ¬ (4 : Int32) < 0 ∧ ¬ 4 < (4 : Int32) from by decide)]; rfl, by rw [toC, cl_t (show ¬ (4 : Int32) < 0 ∧ ¬ 4 < (4 : Int32) from by decide)]; exact GP.rf hC⟩)
  · refine g_tableOut hX 67 dX5_told_1 hsw (by decide) ?_
    refine g_aload_0 hX dX5_told_67 ?_
    refine g_bipush hX (-2) dX5_told_68 (by decide) ?_
    refine g_cV1r hX mkX5_refused ml_X5_99 (c_X5_refused) (ob_0 Z _) dX5_told_70 rfl (by decide) (Nat.le_of_ble_eq_true rfl) ?_
    exact hq _ _ _ _ dX5_told_73 (⟨by rw [toR, cl_f (show ¬ (¬ w < 0 ∧ ¬ 4 < w) from sw_out (n := 4) hsw (by decide))], by rw [toC, cl_f (show ¬ (¬ w < 0 ∧ ¬ 4 < w) from sw_out (n := 4) hsw (by decide))]; exact GP.ref hC (-2)⟩)
