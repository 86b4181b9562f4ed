/-! the maker SnakedBus() -/
set_option maxRecDepth 100000 in
set_option maxHeartbeats 4000000 in
theorem k_X5_init {l : Launch} {D : va_G} {c : ClassId × ClassId} {tA h0 : Nat} : Mk l D c tA yX5_init cX5_init 1 4 68 1587 [.ref h0] [(h0, .inr (5, [.null, .null, .null, .null, .null, .null, .null, .int 0, .int 0, .int 0, .int 0]))] (sbW c h0) := by
  refine mk_v (by decide) (Nat.le_of_ble_eq_true rfl) rfl (fun X A hX hmn hq => ?_)
  have hX : NOk D c tA A X cX5_init 1 RX5 4 68 1587 := hX
  have hmn : X.2.2.2.2.2.2.2.1.name = "<init>" := hmn
  show NX l D A X ([(h0, .inr (5, [.null, .null, .null, .null, .null, .null, .null, .int 0, .int 0, .int 0, .int 0]))]) 0 0 0 [some (.ref h0)] []
  refine n_aload_0 hX dX5_init_0 ?_
  refine n_obj hX ml_X5_1 oi_i oi_c rfl (Nat.le_of_ble_eq_true rfl) dX5_init_1 ?_
  refine n_aload_0 hX dX5_init_4 ?_
  refine n_makeE (T := TX0) (ty0 := tyX0) (fin := busW c) hX in_X0 tyX0_ok [.null, .null, .null, .null, .null, .null, .int 0, .int 0] rfl (fun j hj => by rcases (show j = 0 ∨ j = 1 ∨ j = 2 ∨ j = 3 ∨ j = 4 ∨ j = 5 ∨ j = 6 ∨ j = 7 by omega) with rfl | rfl | rfl | rfl | rfl | rfl | rfl | rfl <;> rfl) cl_X5_7 is_X0 in1_X0 ic_X0 in1_X0 ⟨by decide, by decide, by decide +kernel⟩ ml_X5_9 ii_X0 rfl (by decide) (fun q => k_X0_init) rfl (by decide) (by decide) (by decide) (by decide) dX5_init_5 dX5_init_8 dX5_init_9 (fun q1 a1 => ?_)
  show NX l D A X ((h0, .inr (5, [.null, .null, .null, .null, .null, .null, .null, .int 0, .int 0, .int 0, .int 0])) :: (busW c q1 a1)) 7 129 12 [some (.ref h0)] [.ref q1, .ref h0]
  refine n_putF (ty0 := tyX5) hX hmn in_X5 tyX5_ok nmX5 rfl 0 (by decide) fl_X5_bus rfl rfl (ty := (.object "SnakedBus$Bus")) (by decide +kernel) rfl rfl (Nat.le_of_ble_eq_true rfl) dX5_init_12 ?_
  show NX l D A X ((h0, .inr (5, [.ref q1, .null, .null, .null, .null, .null, .null, .int 0, .int 0, .int 0, .int 0])) :: (busW c q1 a1)) 7 129 15 [some (.ref h0)] []
  refine n_aload_0 hX dX5_init_15 ?_
  refine n_makeE (T := TX0) (ty0 := tyX0) (fin := busW c) hX in_X0 tyX0_ok [.null, .null, .null, .null, .null, .null, .int 0, .int 0] rfl (fun j hj => by rcases (show j = 0 ∨ j = 1 ∨ j = 2 ∨ j = 3 ∨ j = 4 ∨ j = 5 ∨ j = 6 ∨ j = 7 by omega) with rfl | rfl | rfl | rfl | rfl | rfl | rfl | rfl <;> rfl) cl_X5_7 is_X0 in1_X0 ic_X0 in1_X0 ⟨by decide, by decide, by decide +kernel⟩ ml_X5_9 ii_X0 rfl (by decide) (fun q => k_X0_init) rfl (by decide) (by decide) (by decide) (by decide) dX5_init_16 dX5_init_19 dX5_init_20 (fun q2 a2 => ?_)
  show NX l D A X ((h0, .inr (5, [.ref q1, .null, .null, .null, .null, .null, .null, .int 0, .int 0, .int 0, .int 0])) :: ((busW c q1 a1) ++ busW c q2 a2)) 14 258 23 [some (.ref h0)] [.ref q2, .ref h0]
  refine n_putF (ty0 := tyX5) hX hmn in_X5 tyX5_ok nmX5 rfl 1 (by decide) fl_X5_trial rfl rfl (ty := (.object "SnakedBus$Bus")) (by decide +kernel) rfl rfl (Nat.le_of_ble_eq_true rfl) dX5_init_23 ?_
  show NX l D A X ((h0, .inr (5, [.ref q1, .ref q2, .null, .null, .null, .null, .null, .int 0, .int 0, .int 0, .int 0])) :: ((busW c q1 a1) ++ busW c q2 a2)) 14 258 26 [some (.ref h0)] []
  refine n_aload_0 hX dX5_init_26 ?_
  refine n_makeE (T := TX1) (ty0 := tyX1) (fin := pastW c) hX in_X1 tyX1_ok [.null, .int 0, .int 0] rfl (fun j hj => by rcases (show j = 0 ∨ j = 1 ∨ j = 2 by omega) with rfl | rfl | rfl <;> rfl) cl_X5_19 is_X1 in1_X1 ic_X1 in1_X1 ⟨by decide, by decide, by decide +kernel⟩ ml_X5_21 ii_X1 rfl (by decide) (fun q => k_X1_init) rfl (by decide) (by decide) (by decide) (by decide) dX5_init_27 dX5_init_30 dX5_init_31 (fun q3 a3 => ?_)
  show NX l D A X ((h0, .inr (5, [.ref q1, .ref q2, .null, .null, .null, .null, .null, .int 0, .int 0, .int 0, .int 0])) :: (((busW c q1 a1) ++ busW c q2 a2) ++ pastW c q3 a3)) 51 911 34 [some (.ref h0)] [.ref q3, .ref h0]
  refine n_putF (ty0 := tyX5) hX hmn in_X5 tyX5_ok nmX5 rfl 2 (by decide) fl_X5_past rfl rfl (ty := (.object "SnakedBus$Past")) (by decide +kernel) rfl rfl (Nat.le_of_ble_eq_true rfl) dX5_init_34 ?_
  show NX l D A X ((h0, .inr (5, [.ref q1, .ref q2, .ref q3, .null, .null, .null, .null, .int 0, .int 0, .int 0, .int 0])) :: (((busW c q1 a1) ++ busW c q2 a2) ++ pastW c q3 a3)) 51 911 37 [some (.ref h0)] []
  refine n_aload_0 hX dX5_init_37 ?_
  refine n_makeE (T := TX4) (ty0 := tyX4) (fin := texW c) hX in_X4 tyX4_ok [.null, .null, .null, .int 0, .int 0, .int 0, .int 0, .int 0] rfl (fun j hj => by rcases (show j = 0 ∨ j = 1 ∨ j = 2 ∨ j = 3 ∨ j = 4 ∨ j = 5 ∨ j = 6 ∨ j = 7 by omega) with rfl | rfl | rfl | rfl | rfl | rfl | rfl | rfl <;> rfl) cl_X5_26 is_X4 in1_X4 ic_X4 in1_X4 ⟨by decide, by decide, by decide +kernel⟩ ml_X5_28 ii_X4 rfl (by decide) (fun q => k_X4_init) rfl (by decide) (by decide) (by decide) (by decide) dX5_init_38 dX5_init_41 dX5_init_42 (fun q4 a4 => ?_)
  show NX l D A X ((h0, .inr (5, [.ref q1, .ref q2, .ref q3, .null, .null, .null, .null, .int 0, .int 0, .int 0, .int 0])) :: ((((busW c q1 a1) ++ busW c q2 a2) ++ pastW c q3 a3) ++ texW c q4 a4)) 55 1199 45 [some (.ref h0)] [.ref q4, .ref h0]
  refine n_putF (ty0 := tyX5) hX hmn in_X5 tyX5_ok nmX5 rfl 3 (by decide) fl_X5_text rfl rfl (ty := (.object "SnakedBus$Text")) (by decide +kernel) rfl rfl (Nat.le_of_ble_eq_true rfl) dX5_init_45 ?_
  show NX l D A X ((h0, .inr (5, [.ref q1, .ref q2, .ref q3, .ref q4, .null, .null, .null, .int 0, .int 0, .int 0, .int 0])) :: ((((busW c q1 a1) ++ busW c q2 a2) ++ pastW c q3 a3) ++ texW c q4 a4)) 55 1199 48 [some (.ref h0)] []
  refine n_aload_0 hX dX5_init_48 ?_
  refine n_makeE (T := TX3) (ty0 := tyX3) (fin := shrW c) hX in_X3 tyX3_ok [.null, .null, .null, .null, .int 0, .int 0, .int 0, .int 0] rfl (fun j hj => by rcases (show j = 0 ∨ j = 1 ∨ j = 2 ∨ j = 3 ∨ j = 4 ∨ j = 5 ∨ j = 6 ∨ j = 7 by omega) with rfl | rfl | rfl | rfl | rfl | rfl | rfl | rfl <;> rfl) cl_X5_33 is_X3 in1_X3 ic_X3 in1_X3 ⟨by decide, by decide, by decide +kernel⟩ ml_X5_35 ii_X3 rfl (by decide) (fun q => k_X3_init) rfl (by decide) (by decide) (by decide) (by decide) dX5_init_49 dX5_init_52 dX5_init_53 (fun q5 a5 => ?_)
  show NX l D A X ((h0, .inr (5, [.ref q1, .ref q2, .ref q3, .ref q4, .null, .null, .null, .int 0, .int 0, .int 0, .int 0])) :: (((((busW c q1 a1) ++ busW c q2 a2) ++ pastW c q3 a3) ++ texW c q4 a4) ++ shrW c q5 a5)) 60 1377 56 [some (.ref h0)] [.ref q5, .ref h0]
  refine n_putF (ty0 := tyX5) hX hmn in_X5 tyX5_ok nmX5 rfl 4 (by decide) fl_X5_byTarget rfl rfl (ty := (.object "SnakedBus$Sharing")) (by decide +kernel) rfl rfl (Nat.le_of_ble_eq_true rfl) dX5_init_56 ?_
  show NX l D A X ((h0, .inr (5, [.ref q1, .ref q2, .ref q3, .ref q4, .ref q5, .null, .null, .int 0, .int 0, .int 0, .int 0])) :: (((((busW c q1 a1) ++ busW c q2 a2) ++ pastW c q3 a3) ++ texW c q4 a4) ++ shrW c q5 a5)) 60 1377 59 [some (.ref h0)] []
  refine n_aload_0 hX dX5_init_59 ?_
  refine n_makeE (T := TX3) (ty0 := tyX3) (fin := shrW c) hX in_X3 tyX3_ok [.null, .null, .null, .null, .int 0, .int 0, .int 0, .int 0] rfl (fun j hj => by rcases (show j = 0 ∨ j = 1 ∨ j = 2 ∨ j = 3 ∨ j = 4 ∨ j = 5 ∨ j = 6 ∨ j = 7 by omega) with rfl | rfl | rfl | rfl | rfl | rfl | rfl | rfl <;> rfl) cl_X5_33 is_X3 in1_X3 ic_X3 in1_X3 ⟨by decide, by decide, by decide +kernel⟩ ml_X5_35 ii_X3 rfl (by decide) (fun q => k_X3_init) rfl (by decide) (by decide) (by decide) (by decide) dX5_init_60 dX5_init_63 dX5_init_64 (fun q6 a6 => ?_)
  show NX l D A X ((h0, .inr (5, [.ref q1, .ref q2, .ref q3, .ref q4, .ref q5, .null, .null, .int 0, .int 0, .int 0, .int 0])) :: ((((((busW c q1 a1) ++ busW c q2 a2) ++ pastW c q3 a3) ++ texW c q4 a4) ++ shrW c q5 a5) ++ shrW c q6 a6)) 65 1555 67 [some (.ref h0)] [.ref q6, .ref h0]
  refine n_putF (ty0 := tyX5) hX hmn in_X5 tyX5_ok nmX5 rfl 5 (by decide) fl_X5_tried rfl rfl (ty := (.object "SnakedBus$Sharing")) (by decide +kernel) rfl rfl (Nat.le_of_ble_eq_true rfl) dX5_init_67 ?_
  show NX l D A X ((h0, .inr (5, [.ref q1, .ref q2, .ref q3, .ref q4, .ref q5, .ref q6, .null, .int 0, .int 0, .int 0, .int 0])) :: ((((((busW c q1 a1) ++ busW c q2 a2) ++ pastW c q3 a3) ++ texW c q4 a4) ++ shrW c q5 a5) ++ shrW c q6 a6)) 65 1555 70 [some (.ref h0)] []
  refine n_aload_0 hX dX5_init_70 ?_
  refine n_makeE (T := TX2) (ty0 := tyX2) (fin := phaW c) hX in_X2 tyX2_ok [.null, .null] rfl (fun j hj => by rcases (show j = 0 ∨ j = 1 by omega) with rfl | rfl <;> rfl) cl_X5_43 is_X2 in1_X2 ic_X2 in1_X2 ⟨by decide, by decide, by decide +kernel⟩ ml_X5_45 ii_X2 rfl (by decide) (fun q => k_X2_init) rfl (by decide) (by decide) (by decide) (by decide) dX5_init_71 dX5_init_74 dX5_init_75 (fun q7 a7 => ?_)
  show NX l D A X ((h0, .inr (5, [.ref q1, .ref q2, .ref q3, .ref q4, .ref q5, .ref q6, .null, .int 0, .int 0, .int 0, .int 0])) :: (((((((busW c q1 a1) ++ busW c q2 a2) ++ pastW c q3 a3) ++ texW c q4 a4) ++ shrW c q5 a5) ++ shrW c q6 a6) ++ phaW c q7 a7)) 68 1587 78 [some (.ref h0)] [.ref q7, .ref h0]
  refine n_putF (ty0 := tyX5) hX hmn in_X5 tyX5_ok nmX5 rfl 6 (by decide) fl_X5_phasing rfl rfl (ty := (.object "SnakedBus$Phasing")) (by decide +kernel) rfl rfl (Nat.le_of_ble_eq_true rfl) dX5_init_78 ?_
  show NX l D A X ((h0, .inr (5, [.ref q1, .ref q2, .ref q3, .ref q4, .ref q5, .ref q6, .ref q7, .int 0, .int 0, .int 0, .int 0])) :: (((((((busW c q1 a1) ++ busW c q2 a2) ++ pastW c q3 a3) ++ texW c q4 a4) ++ shrW c q5 a5) ++ shrW c q6 a6) ++ phaW c q7 a7)) 68 1587 81 [some (.ref h0)] []
  refine n_aload_0 hX dX5_init_81 ?_
  refine n_iconst hX 0 dX5_init_82 (by decide) ?_
  refine n_put (ty0 := tyX5) hX in_X5 tyX5_ok nmX5 rfl 7 (by decide) fl_X5_planned rfl rfl (ty := .boolean) (by decide +kernel) rfl rfl (Nat.le_of_ble_eq_true rfl) dX5_init_83 ?_
  show NX l D A X ((h0, .inr (5, [.ref q1, .ref q2, .ref q3, .ref q4, .ref q5, .ref q6, .ref q7, .int 0, .int 0, .int 0, .int 0])) :: (((((((busW c q1 a1) ++ busW c q2 a2) ++ pastW c q3 a3) ++ texW c q4 a4) ++ shrW c q5 a5) ++ shrW c q6 a6) ++ phaW c q7 a7)) 68 1587 86 [some (.ref h0)] []
  refine n_aload_0 hX dX5_init_86 ?_
  refine n_iconst hX 0 dX5_init_87 (by decide) ?_
  refine n_put (ty0 := tyX5) hX in_X5 tyX5_ok nmX5 rfl 8 (by decide) fl_X5_bads rfl rfl (ty := .int) (by decide +kernel) rfl rfl (Nat.le_of_ble_eq_true rfl) dX5_init_88 ?_
  show NX l D A X ((h0, .inr (5, [.ref q1, .ref q2, .ref q3, .ref q4, .ref q5, .ref q6, .ref q7, .int 0, .int 0, .int 0, .int 0])) :: (((((((busW c q1 a1) ++ busW c q2 a2) ++ pastW c q3 a3) ++ texW c q4 a4) ++ shrW c q5 a5) ++ shrW c q6 a6) ++ phaW c q7 a7)) 68 1587 91 [some (.ref h0)] []
  refine n_aload_0 hX dX5_init_91 ?_
  refine n_iconst hX 0 dX5_init_92 (by decide) ?_
  refine n_put (ty0 := tyX5) hX in_X5 tyX5_ok nmX5 rfl 9 (by decide) fl_X5_noes rfl rfl (ty := .int) (by decide +kernel) rfl rfl (Nat.le_of_ble_eq_true rfl) dX5_init_93 ?_
  show NX l D A X ((h0, .inr (5, [.ref q1, .ref q2, .ref q3, .ref q4, .ref q5, .ref q6, .ref q7, .int 0, .int 0, .int 0, .int 0])) :: (((((((busW c q1 a1) ++ busW c q2 a2) ++ pastW c q3 a3) ++ texW c q4 a4) ++ shrW c q5 a5) ++ shrW c q6 a6) ++ phaW c q7 a7)) 68 1587 96 [some (.ref h0)] []
  refine n_aload_0 hX dX5_init_96 ?_
  refine n_iconst hX 0 dX5_init_97 (by decide) ?_
  refine n_put (ty0 := tyX5) hX in_X5 tyX5_ok nmX5 rfl 10 (by decide) fl_X5_fulls rfl rfl (ty := .int) (by decide +kernel) rfl rfl (Nat.le_of_ble_eq_true rfl) dX5_init_98 ?_
  show NX l D A X ((h0, .inr (5, [.ref q1, .ref q2, .ref q3, .ref q4, .ref q5, .ref q6, .ref q7, .int 0, .int 0, .int 0, .int 0])) :: (((((((busW c q1 a1) ++ busW c q2 a2) ++ pastW c q3 a3) ++ texW c q4 a4) ++ shrW c q5 a5) ++ shrW c q6 a6) ++ phaW c q7 a7)) 68 1587 101 [some (.ref h0)] []
  exact hq _ _ _ (fun i => ([h0, q1, a1 1, a1 2, a1 3, a1 4, a1 5, a1 6, q2, a2 1, a2 2, a2 3, a2 4, a2 5, a2 6, a3 0, a3 1, a3 2, a3 3, a3 4, a3 5, a3 6, a3 7, a3 8, a3 9, a3 10, a3 11, a3 12, a3 13, a3 14, a3 15, a3 16, a3 17, a3 18, a3 19, a3 20, a3 21, a3 22, a3 23, a3 24, a3 25, a3 26, a3 27, a3 28, a3 29, a3 30, a3 31, a3 32, a3 33, a3 34, q3, a3 36, q4, a4 1, a4 2, a4 3, q5, a5 1, a5 2, a5 3, a5 4, q6, a6 1, a6 2, a6 3, a6 4, q7, a7 1, a7 2] : List Nat).getD i 0) _ _ dX5_init_101 (List.Perm.refl _) rfl rfl
