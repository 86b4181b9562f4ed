/-! the reference: doing a text -/
def maR (b : Mem) (c x y z : Int32) : Int32 := if c = 108 then addLineR (b 71 0) x else if c = 103 then addRunR (b 71 0) (b 71 (9 + 17 * x.toNatClampNeg)) x y z else if c = 107 then addPocketR (b 71 1) x y else if c = 115 then setR (b 71 (2 + x.toNatClampNeg)) x y else wideR (b 71 1) (b 71 (111 + 2 * x.toNatClampNeg)) x y
def maM (b : Mem) (c x y z : Int32) : Mem := if c = 108 then addLineN b x else if c = 103 then addRunN b x y z else if c = 107 then addPocketN b x y else if c = 115 then setN b x y else wideN b x y
theorem maM_c (b : Mem) (c x y z : Int32) {j : Nat} (h : j ≠ 71) : maM b c x y z j = b j := by
  unfold maM
  (repeat' split)
  · exact addLineN_c _ _ h
  · exact addRunN_c _ _ _ _ h
  · exact addPocketN_c _ _ _ h
  · exact setN_c _ _ _ h
  · exact wideN_c _ _ _ h
abbrev mkR (m : Mem) (k : Nat) : Int32 := maR m (m 80 (4 * k)) (m 80 (4 * k + 1)) (m 80 (4 * k + 2)) (m 80 (4 * k + 3))
abbrev mkM (m : Mem) (k : Nat) : Mem := maM m (m 80 (4 * k)) (m 80 (4 * k + 1)) (m 80 (4 * k + 2)) (m 80 (4 * k + 3))
def mpM (b : Mem) : Nat → Mem
  | 0 => b
  | k + 1 => mkM (mpM b k) k
theorem mpM_c (b : Mem) (k : Nat) {j : Nat} (h : j ≠ 71) : mpM b k j = b j := by
  induction k with
  | zero => rfl
  | succ k ih => exact (maM_c _ _ _ _ _ h).trans ih
theorem ix4 (k : Nat) : (4 : Int32) * nI k = nI (4 * k) := pk_mul 4 k
theorem ix4a (k j : Nat) : (4 : Int32) * nI k + nI j = nI (4 * k + j) := by rw [ix4, nI_add]
set_option maxRecDepth 100000 in
set_option maxHeartbeats 4000000 in
theorem c_X6_acted {Z : Zt} {b : Mem} {k : Nat} (hk : k ≤ 45) (hV : Val (mv b)) : Con Z yX6_acted cX6_acted 5 (some .int) 3 [.ref (zad Z 69), .int (nI k)] b (some (.int (mkR b k))) (mkM b k) := by
  refine con_i (by decide) (Nat.le_of_ble_eq_true rfl) rfl (fun X hX hq => ?_)
  have hX : Ok Z X cX6_acted 5 RX6 3 := hX
  show G Z X b 0 [some (.ref (zad Z 69)), some (.int (nI k)), none, none, none] []
  refine g_aload_0 hX dX6_acted_0 ?_
  refine gt_X6_orders hX dX6_acted_1 ?_
  refine g_iconst hX 4 dX6_acted_4 (by decide) ?_
  refine g_iload_1 hX dX6_acted_5 ?_
  refine g_imul hX dX6_acted_6 ?_
  refine g_top _ (ix4 k) ?_
  refine g_ialdN (k := (4 * k)) hX (ar_80 Z) (by omega) (by decide) dX6_acted_7 ?_
  refine g_istore_2 hX dX6_acted_8 rfl ?_
  refine g_aload_0 hX dX6_acted_9 ?_
  refine gt_X6_orders hX dX6_acted_10 ?_
  refine g_iconst hX 4 dX6_acted_13 (by decide) ?_
  refine g_iload_1 hX dX6_acted_14 ?_
  refine g_imul hX dX6_acted_15 ?_
  refine g_iconst hX 1 dX6_acted_16 (by decide) ?_
  refine g_iadd hX dX6_acted_17 ?_
  refine g_top _ (ix4a k 1) ?_
  refine g_ialdN (k := (4 * k + 1)) hX (ar_80 Z) (by omega) (by decide) dX6_acted_18 ?_
  refine g_istore_3 hX dX6_acted_19 rfl ?_
  refine g_aload_0 hX dX6_acted_20 ?_
  refine gt_X6_orders hX dX6_acted_21 ?_
  refine g_iconst hX 4 dX6_acted_24 (by decide) ?_
  refine g_iload_1 hX dX6_acted_25 ?_
  refine g_imul hX dX6_acted_26 ?_
  refine g_iconst hX 2 dX6_acted_27 (by decide) ?_
  refine g_iadd hX dX6_acted_28 ?_
  refine g_top _ (ix4a k 2) ?_
  refine g_ialdN (k := (4 * k + 2)) hX (ar_80 Z) (by omega) (by decide) dX6_acted_29 ?_
  refine g_istore_4 hX dX6_acted_30 rfl ?_
  refine g_iload_2 hX dX6_acted_32 ?_
  refine g_bipush hX 108 dX6_acted_33 (by decide) ?_
  refine g_icmp_ne hX 46 dX6_acted_35 (by decide) (fun c35 => ?_) (fun c35 => ?_)
  · refine g_iload_2 hX dX6_acted_46 ?_
    refine g_bipush hX 103 dX6_acted_47 (by decide) ?_
    refine g_icmp_ne hX 72 dX6_acted_49 (by decide) (fun c49 => ?_) (fun c49 => ?_)
    · refine g_iload_2 hX dX6_acted_72 ?_
      refine g_bipush hX 107 dX6_acted_73 (by decide) ?_
      refine g_icmp_ne hX 88 dX6_acted_75 (by decide) (fun c75 => ?_) (fun c75 => ?_)
      · refine g_iload_2 hX dX6_acted_88 ?_
        refine g_bipush hX 115 dX6_acted_89 (by decide) ?_
        refine g_icmp_ne hX 104 dX6_acted_91 (by decide) (fun c91 => ?_) (fun c91 => ?_)
        · refine g_aload_0 hX dX6_acted_104 ?_
          refine g_iload_3 hX dX6_acted_105 ?_
          refine g_iload_4 hX dX6_acted_106 ?_
          refine g_cV2r hX mkX6_setWide ml_X6_111 (c_X6_setWide hV) (ob_69 Z _) dX6_acted_108 rfl (by decide) (Nat.le_of_ble_eq_true rfl) ?_
          exact hq _ _ _ _ dX6_acted_111 (by show _ = maM _ _ _ _ _; rw [maM, if_neg c35, if_neg c49, if_neg c75, if_neg c91]) (by show _ = maR _ _ _ _ _; rw [maR, if_neg c35, if_neg c49, if_neg c75, if_neg c91])
        · refine g_aload_0 hX dX6_acted_94 ?_
          refine g_iload_3 hX dX6_acted_95 ?_
          refine g_iload_4 hX dX6_acted_96 ?_
          refine g_cV2r hX mkX6_setSetting ml_X6_117 (c_X6_setSetting) (ob_69 Z _) dX6_acted_98 rfl (by decide) (Nat.le_of_ble_eq_true rfl) ?_
          refine g_goto hX 111 dX6_acted_101 (by decide) ?_
          exact hq _ _ _ _ dX6_acted_111 (by show _ = maM _ _ _ _ _; rw [maM, if_neg c35, if_neg c49, if_neg c75, if_pos c91]) (by show _ = maR _ _ _ _ _; rw [maR, if_neg c35, if_neg c49, if_neg c75, if_pos c91])
      · refine g_aload_0 hX dX6_acted_78 ?_
        refine g_iload_3 hX dX6_acted_79 ?_
        refine g_iload_4 hX dX6_acted_80 ?_
        refine g_cV2r hX mkX6_addPocket ml_X6_108 (c_X6_addPocket hV) (ob_69 Z _) dX6_acted_82 rfl (by decide) (Nat.le_of_ble_eq_true rfl) ?_
        refine g_goto hX 111 dX6_acted_85 (by decide) ?_
        exact hq _ _ _ _ dX6_acted_111 (by show _ = maM _ _ _ _ _; rw [maM, if_neg c35, if_neg c49, if_pos c75]) (by show _ = maR _ _ _ _ _; rw [maR, if_neg c35, if_neg c49, if_pos c75])
    · refine g_aload_0 hX dX6_acted_52 ?_
      refine g_iload_3 hX dX6_acted_53 ?_
      refine g_iload_4 hX dX6_acted_54 ?_
      refine g_aload_0 hX dX6_acted_56 ?_
      refine gt_X6_orders hX dX6_acted_57 ?_
      refine g_iconst hX 4 dX6_acted_60 (by decide) ?_
      refine g_iload_1 hX dX6_acted_61 ?_
      refine g_imul hX dX6_acted_62 ?_
      refine g_iconst hX 3 dX6_acted_63 (by decide) ?_
      refine g_iadd hX dX6_acted_64 ?_
      refine g_top _ (ix4a k 3) ?_
      refine g_ialdN (k := (4 * k + 3)) hX (ar_80 Z) (by omega) (by decide) dX6_acted_65 ?_
      refine g_cV3r hX mkX6_addRun ml_X6_101 (c_X6_addRun hV) (ob_69 Z _) dX6_acted_66 rfl (by decide) (Nat.le_of_ble_eq_true rfl) ?_
      refine g_goto hX 111 dX6_acted_69 (by decide) ?_
      exact hq _ _ _ _ dX6_acted_111 (by show _ = maM _ _ _ _ _; rw [maM, if_neg c35, if_pos c49]) (by show _ = maR _ _ _ _ _; rw [maR, if_neg c35, if_pos c49])
  · refine g_aload_0 hX dX6_acted_38 ?_
    refine g_iload_3 hX dX6_acted_39 ?_
    refine g_cV1r hX mkX6_addLine ml_X6_95 (c_X6_addLine hV) (ob_69 Z _) dX6_acted_40 rfl (by decide) (Nat.le_of_ble_eq_true rfl) ?_
    refine g_goto hX 111 dX6_acted_43 (by decide) ?_
    exact hq _ _ _ _ dX6_acted_111 (by show _ = maM _ _ _ _ _; rw [maM, if_pos c35]) (by show _ = maR _ _ _ _ _; rw [maR, if_pos c35])
