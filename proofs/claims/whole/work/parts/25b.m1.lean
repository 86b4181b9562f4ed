/-! the reference: its counters, copies, changes -/
set_option maxRecDepth 100000 in
set_option maxHeartbeats 4000000 in
theorem c_X6_bad {Z : Zt} {b : Mem}  : Con Z yX6_bad cX6_bad 1 (some .int) 0 [.ref (zad Z 69)] b (some (.int (-2))) (up2 b 70 0 (b 70 0 + 1)) := by
  refine con_i (by decide) (Nat.le_of_ble_eq_true rfl) rfl (fun X hX hq => ?_)
  have hX : Ok Z X cX6_bad 1 RX6 0 := hX
  show G Z X b 0 [some (.ref (zad Z 69))] []
  refine g_aload_0 hX dX6_bad_0 ?_
  refine gt_X6_refused hX dX6_bad_1 ?_
  refine g_iconst hX 0 dX6_bad_4 (by decide) ?_
  refine g_dup2 hX dX6_bad_5 rfl rfl ?_
  refine g_ialdN (k := 0) hX (ar_70 Z) (by decide) (by decide) dX6_bad_6 ?_
  refine g_iconst hX 1 dX6_bad_7 (by decide) ?_
  refine g_iadd hX dX6_bad_8 ?_
  refine g_iastN (k := 0) hX (ar_70 Z) (by decide) (by decide) dX6_bad_9 ?_
  refine g_bipush hX (-2) dX6_bad_10 (by decide) ?_
  exact hq _ _ _ _ dX6_bad_12 (by rfl) (by rfl)
set_option maxRecDepth 100000 in
set_option maxHeartbeats 4000000 in
theorem c_X6_no {Z : Zt} {b : Mem}  : Con Z yX6_no cX6_no 1 (some .int) 0 [.ref (zad Z 69)] b (some (.int (-3))) (up2 b 70 1 (b 70 1 + 1)) := by
  refine con_i (by decide) (Nat.le_of_ble_eq_true rfl) rfl (fun X hX hq => ?_)
  have hX : Ok Z X cX6_no 1 RX6 0 := hX
  show G Z X b 0 [some (.ref (zad Z 69))] []
  refine g_aload_0 hX dX6_no_0 ?_
  refine gt_X6_refused hX dX6_no_1 ?_
  refine g_iconst hX 1 dX6_no_4 (by decide) ?_
  refine g_dup2 hX dX6_no_5 rfl rfl ?_
  refine g_ialdN (k := 1) hX (ar_70 Z) (by decide) (by decide) dX6_no_6 ?_
  refine g_iconst hX 1 dX6_no_7 (by decide) ?_
  refine g_iadd hX dX6_no_8 ?_
  refine g_iastN (k := 1) hX (ar_70 Z) (by decide) (by decide) dX6_no_9 ?_
  refine g_bipush hX (-3) dX6_no_10 (by decide) ?_
  exact hq _ _ _ _ dX6_no_12 (by rfl) (by rfl)
set_option maxRecDepth 100000 in
set_option maxHeartbeats 4000000 in
theorem c_X6_full {Z : Zt} {b : Mem}  : Con Z yX6_full cX6_full 1 (some .int) 0 [.ref (zad Z 69)] b (some (.int (-4))) (up2 b 70 2 (b 70 2 + 1)) := by
  refine con_i (by decide) (Nat.le_of_ble_eq_true rfl) rfl (fun X hX hq => ?_)
  have hX : Ok Z X cX6_full 1 RX6 0 := hX
  show G Z X b 0 [some (.ref (zad Z 69))] []
  refine g_aload_0 hX dX6_full_0 ?_
  refine gt_X6_refused hX dX6_full_1 ?_
  refine g_iconst hX 2 dX6_full_4 (by decide) ?_
  refine g_dup2 hX dX6_full_5 rfl rfl ?_
  refine g_ialdN (k := 2) hX (ar_70 Z) (by decide) (by decide) dX6_full_6 ?_
  refine g_iconst hX 1 dX6_full_7 (by decide) ?_
  refine g_iadd hX dX6_full_8 ?_
  refine g_iastN (k := 2) hX (ar_70 Z) (by decide) (by decide) dX6_full_9 ?_
  refine g_bipush hX (-4) dX6_full_10 (by decide) ?_
  exact hq _ _ _ _ dX6_full_12 (by rfl) (by rfl)
set_option maxRecDepth 100000 in
set_option maxHeartbeats 4000000 in
theorem c_X6_counted {Z : Zt} {b : Mem} {x : Int32} : Con Z yX6_counted cX6_counted 2 (some .int) 1 [.ref (zad Z 69), .int x] b (some (.int (x))) (cnM b x) := by
  refine con_i (by decide) (Nat.le_of_ble_eq_true rfl) rfl (fun X hX hq => ?_)
  have hX : Ok Z X cX6_counted 2 RX6 1 := hX
  show G Z X b 0 [some (.ref (zad Z 69)), some (.int x)] []
  refine g_iload_1 hX dX6_counted_0 ?_
  refine g_bipush hX (-2) dX6_counted_1 (by decide) ?_
  refine g_icmp_ne hX 13 dX6_counted_3 (by decide) (fun c3 => ?_) (fun c3 => ?_)
  · refine g_iload_1 hX dX6_counted_13 ?_
    refine g_bipush hX (-3) dX6_counted_14 (by decide) ?_
    refine g_icmp_ne hX 26 dX6_counted_16 (by decide) (fun c16 => ?_) (fun c16 => ?_)
    · refine g_iload_1 hX dX6_counted_26 ?_
      refine g_bipush hX (-4) dX6_counted_27 (by decide) ?_
      refine g_icmp_ne hX 39 dX6_counted_29 (by decide) (fun c29 => ?_) (fun c29 => ?_)
      · refine g_iload_1 hX dX6_counted_39 ?_
        exact hq _ _ _ _ dX6_counted_40 (by unfold cnM; rw [if_neg c3, if_neg c16, if_neg c29]) (rfl)
      · refine g_aload_0 hX dX6_counted_32 ?_
        refine g_cV0r hX mkX6_full ml_X6_50 (c_X6_full) (ob_69 Z _) dX6_counted_33 rfl (by decide) (Nat.le_of_ble_eq_true rfl) ?_
        refine g_goto hX 40 dX6_counted_36 (by decide) ?_
        exact hq _ _ _ _ dX6_counted_40 (by unfold cnM; rw [if_neg c3, if_neg c16, if_pos c29]) (c29.symm)
    · refine g_aload_0 hX dX6_counted_19 ?_
      refine g_cV0r hX mkX6_no ml_X6_47 (c_X6_no) (ob_69 Z _) dX6_counted_20 rfl (by decide) (Nat.le_of_ble_eq_true rfl) ?_
      refine g_goto hX 40 dX6_counted_23 (by decide) ?_
      exact hq _ _ _ _ dX6_counted_40 (by unfold cnM; rw [if_neg c3, if_pos c16]) (c16.symm)
  · refine g_aload_0 hX dX6_counted_6 ?_
    refine g_cV0r hX mkX6_bad ml_X6_43 (c_X6_bad) (ob_69 Z _) dX6_counted_7 rfl (by decide) (Nat.le_of_ble_eq_true rfl) ?_
    refine g_goto hX 40 dX6_counted_10 (by decide) ?_
    exact hq _ _ _ _ dX6_counted_40 (by unfold cnM; rw [if_pos c3]) (c3.symm)
set_option maxRecDepth 100000 in
set_option maxHeartbeats 4000000 in
theorem c_X6_puts {Z : Zt} {b : Mem} {s : Nat} (hs : s < 6) : Con Z yX6_puts cX6_puts 3 none 0 [.ref (zad Z 69), .int (nI s)] b none (up1 b 72 (cpF (b 71) (b 72) (123 * s) 123)) := by
  refine con_v (by decide) (Nat.le_of_ble_eq_true rfl) rfl (fun X hX hq => ?_)
  have hX : Ok Z X cX6_puts 3 RX6 0 := hX
  show G Z X b 0 [some (.ref (zad Z 69)), some (.int (nI s)), none] []
  refine g_iconst hX 0 dX6_puts_0 (by decide) ?_
  refine g_istore_2 hX dX6_puts_1 rfl ?_
  refine g_loop (123) (fun k => up1 b 72 (cpF (b 71) (b 72) (123 * s) k)) (fun k => [some (.ref (zad Z 69)), some (.int (nI s)), some (.int (nI k))]) (cpF_0 b 72 _ _) rfl (fun k hk2 ih2 => ?_) ?_
  · show G Z X (up1 b 72 (cpF (b 71) (b 72) (123 * s) k)) 2 ([some (.ref (zad Z 69)), some (.int (nI s)), some (.int (nI k))]) _
    refine g_iload_2 hX dX6_puts_2 ?_
    refine g_bipush hX 123 dX6_puts_3 (by decide) ?_
    refine g_icmp_ge hX 31 dX6_puts_5 (by decide) (fun c5 => ?_) (fun c5 => ?_)
    · exact absurd c5 (not_not_intro (nI_lt (b := 123) hk2 (by decide)))
    · refine g_aload_0 hX dX6_puts_8 ?_
      refine gt_X6_kept hX dX6_puts_9 ?_
      refine g_bipush hX 123 dX6_puts_12 (by decide) ?_
      refine g_iload_1 hX dX6_puts_14 ?_
      refine g_imul hX dX6_puts_15 ?_
      refine g_iload_2 hX dX6_puts_16 ?_
      refine g_iadd hX dX6_puts_17 ?_
      refine g_top _ (ix123 s k) ?_
      refine g_aload_0 hX dX6_puts_18 ?_
      refine gt_X6_now hX dX6_puts_19 ?_
      refine g_iload_2 hX dX6_puts_22 ?_
      refine g_ialdN (k := k) hX (ar_71 Z) (hk2) (by decide) dX6_puts_23 ?_
      refine g_iastN (k := (123 * s + k)) hX (ar_72 Z) (by omega) (by decide) dX6_puts_24 ?_
      refine g_iinc_2 hX 1 dX6_puts_25 (by decide) rfl ?_
      refine g_goto hX 2 dX6_puts_28 (by decide) ?_
      exact g_cast ih2 (by rw [u1c _ _ (show (71 : Nat) ≠ 72 by decide)]; exact cpF_s b 72 (b 71) (b 72) _ k) (by simp only [nI_succ]) rfl
  · show G Z X (up1 b 72 (cpF (b 71) (b 72) (123 * s) (123))) 2 ([some (.ref (zad Z 69)), some (.int (nI s)), some (.int (nI (123)))]) _
    refine g_iload_2 hX dX6_puts_2 ?_
    refine g_bipush hX 123 dX6_puts_3 (by decide) ?_
    refine g_icmp_ge hX 31 dX6_puts_5 (by decide) (fun c5 => ?_) (fun c5 => ?_)
    · exact hq _ _ _ dX6_puts_31 (by rfl)
    · exact absurd c5 (Int32.lt_irrefl)
set_option maxRecDepth 100000 in
set_option maxHeartbeats 4000000 in
theorem c_X6_takes {Z : Zt} {b : Mem} {s : Nat} (hs : s < 6) : Con Z yX6_takes cX6_takes 3 none 0 [.ref (zad Z 69), .int (nI s)] b none (up1 b 71 (cpF (fun i => b 72 (123 * s + i)) (b 71) 0 123)) := by
  refine con_v (by decide) (Nat.le_of_ble_eq_true rfl) rfl (fun X hX hq => ?_)
  have hX : Ok Z X cX6_takes 3 RX6 0 := hX
  show G Z X b 0 [some (.ref (zad Z 69)), some (.int (nI s)), none] []
  refine g_iconst hX 0 dX6_takes_0 (by decide) ?_
  refine g_istore_2 hX dX6_takes_1 rfl ?_
  refine g_loop (123) (fun k => up1 b 71 (cpF (fun i => b 72 (123 * s + i)) (b 71) 0 k)) (fun k => [some (.ref (zad Z 69)), some (.int (nI s)), some (.int (nI k))]) (cpF_0 b 71 _ _) rfl (fun k hk2 ih2 => ?_) ?_
  · show G Z X (up1 b 71 (cpF (fun i => b 72 (123 * s + i)) (b 71) 0 k)) 2 ([some (.ref (zad Z 69)), some (.int (nI s)), some (.int (nI k))]) _
    refine g_iload_2 hX dX6_takes_2 ?_
    refine g_bipush hX 123 dX6_takes_3 (by decide) ?_
    refine g_icmp_ge hX 31 dX6_takes_5 (by decide) (fun c5 => ?_) (fun c5 => ?_)
    · exact absurd c5 (not_not_intro (nI_lt (b := 123) hk2 (by decide)))
    · refine g_aload_0 hX dX6_takes_8 ?_
      refine gt_X6_now hX dX6_takes_9 ?_
      refine g_iload_2 hX dX6_takes_12 ?_
      refine g_aload_0 hX dX6_takes_13 ?_
      refine gt_X6_kept hX dX6_takes_14 ?_
      refine g_bipush hX 123 dX6_takes_17 (by decide) ?_
      refine g_iload_1 hX dX6_takes_19 ?_
      refine g_imul hX dX6_takes_20 ?_
      refine g_iload_2 hX dX6_takes_21 ?_
      refine g_iadd hX dX6_takes_22 ?_
      refine g_top _ (ix123 s k) ?_
      refine g_ialdN (k := (123 * s + k)) hX (ar_72 Z) (by omega) (by decide) dX6_takes_23 ?_
      refine g_iastN (k := k) hX (ar_71 Z) (hk2) (by decide) dX6_takes_24 ?_
      refine g_iinc_2 hX 1 dX6_takes_25 (by decide) rfl ?_
      refine g_goto hX 2 dX6_takes_28 (by decide) ?_
      exact g_cast ih2 (by rw [u1c _ _ (show (72 : Nat) ≠ 71 by decide)]; have := cpF_s b 71 (fun i => b 72 (123 * s + i)) (b 71) 0 k; rw [Nat.zero_add] at this; exact this) (by simp only [nI_succ]) rfl
  · show G Z X (up1 b 71 (cpF (fun i => b 72 (123 * s + i)) (b 71) 0 (123))) 2 ([some (.ref (zad Z 69)), some (.int (nI s)), some (.int (nI (123)))]) _
    refine g_iload_2 hX dX6_takes_2 ?_
    refine g_bipush hX 123 dX6_takes_3 (by decide) ?_
    refine g_icmp_ge hX 31 dX6_takes_5 (by decide) (fun c5 => ?_) (fun c5 => ?_)
    · exact hq _ _ _ dX6_takes_31 (by rfl)
    · exact absurd c5 (Int32.lt_irrefl)
def shF (f : Nat → Int32) (k : Nat) : Nat → Int32 := cpF (fun i => f (i + 123)) f 0 k
theorem shF_s (b : Mem) (k : Nat) : up2 (up1 b 72 (shF (b 72) k)) 72 k (b 72 (k + 123)) = up1 b 72 (shF (b 72) (k + 1)) := by
  have := cpF_s b 72 (fun i => b 72 (i + 123)) (b 72) 0 k
  rw [Nat.zero_add] at this
  exact this
def lvF (f : Nat → Int32) (n : Nat) : Nat → Int32 := cpF (fun i => f (615 + i)) f (123 * n) 123
def lvM (b : Mem) (n : Nat) : Mem := if n = 5 then up2 (up1 (up2 (up1 b 72 (shF (b 72) 492)) 69 3 (nI 4)) 72 (lvF (shF (b 72) 492) 4)) 69 3 (nI 5) else up2 (up1 b 72 (lvF (b 72) n)) 69 3 (nI (n + 1))
theorem ix615 (k : Nat) : (615 : Int32) + nI k = nI (615 + k) := by rw [show (615 : Int32) = nI 615 from rfl, nI_add]
theorem ixp123 (k : Nat) : nI k + (123 : Int32) = nI (k + 123) := by rw [show (123 : Int32) = nI 123 from rfl, nI_add]
set_option maxRecDepth 100000 in
set_option maxHeartbeats 4000000 in
theorem c_X6_leaves5 {Z : Zt} {b : Mem} {n : Nat} (hn : n = 5) (hs : b 69 3 = nI 5) : Con Z yX6_leavesState cX6_leavesState 2 none 0 [.ref (zad Z 69)] b none (lvM b n) := by
  refine con_v (by decide) (Nat.le_of_ble_eq_true rfl) rfl (fun X hX hq => ?_)
  have hX : Ok Z X cX6_leavesState 2 RX6 0 := hX
  show G Z X b 0 [some (.ref (zad Z 69)), none] []
  refine g_aload_0 hX dX6_leavesState_0 ?_
  refine gt_X6_states hX dX6_leavesState_1 ?_
  refine g_iconst hX 5 dX6_leavesState_4 (by decide) ?_
  refine g_icmp_ne hX 48 dX6_leavesState_5 (by decide) (fun c5 => ?_) (fun c5 => ?_)
  · exact absurd c5 (not_not_intro hs)
  · refine g_iconst hX 0 dX6_leavesState_8 (by decide) ?_
    refine g_istore_1 hX dX6_leavesState_9 rfl ?_
    refine g_loop (492) (fun k => up1 b 72 (shF (b 72) k)) (fun k => [some (.ref (zad Z 69)), some (.int (nI k))]) (cpF_0 b 72 _ _) rfl (fun k hk10 ih10 => ?_) ?_
    · show G Z X (up1 b 72 (shF (b 72) k)) 10 ([some (.ref (zad Z 69)), some (.int (nI k))]) _
      refine g_iload_1 hX dX6_leavesState_10 ?_
      refine g_sipush hX 492 dX6_leavesState_11 (by decide) ?_
      refine g_icmp_ge hX 38 dX6_leavesState_14 (by decide) (fun c14 => ?_) (fun c14 => ?_)
      · exact absurd c14 (not_not_intro (nI_lt (b := 492) hk10 (by decide)))
      · refine g_aload_0 hX dX6_leavesState_17 ?_
        refine gt_X6_kept hX dX6_leavesState_18 ?_
        refine g_iload_1 hX dX6_leavesState_21 ?_
        refine g_aload_0 hX dX6_leavesState_22 ?_
        refine gt_X6_kept hX dX6_leavesState_23 ?_
        refine g_iload_1 hX dX6_leavesState_26 ?_
        refine g_bipush hX 123 dX6_leavesState_27 (by decide) ?_
        refine g_iadd hX dX6_leavesState_29 ?_
        refine g_top _ (ixp123 k) ?_
        refine g_ialdN (k := (k + 123)) hX (ar_72 Z) (by omega) (by decide) dX6_leavesState_30 ?_
        refine g_top (b 72 (k + 123)) (by rw [u1s]; exact cpF_out (by omega)) ?_
        refine g_iastN (k := k) hX (ar_72 Z) (by omega) (by decide) dX6_leavesState_31 ?_
        refine g_iinc_1 hX 1 dX6_leavesState_32 (by decide) rfl ?_
        refine g_goto hX 10 dX6_leavesState_35 (by decide) ?_
        exact g_cast ih10 (shF_s b k) (by simp only [nI_succ]) rfl
    · show G Z X (up1 b 72 (shF (b 72) (492))) 10 ([some (.ref (zad Z 69)), some (.int (nI (492)))]) _
      refine g_iload_1 hX dX6_leavesState_10 ?_
      refine g_sipush hX 492 dX6_leavesState_11 (by decide) ?_
      refine g_icmp_ge hX 38 dX6_leavesState_14 (by decide) (fun c14 => ?_) (fun c14 => ?_)
      · refine g_aload_0 hX dX6_leavesState_38 ?_
        refine g_dup hX dX6_leavesState_39 rfl ?_
        refine gt_X6_states hX dX6_leavesState_40 ?_
        refine g_top (nI 5) (by rw [u1c _ _ (by decide)]; exact hs) ?_
        refine g_iconst hX 1 dX6_leavesState_43 (by decide) ?_
        refine g_isub hX dX6_leavesState_44 ?_
        refine g_top (nI 4) rfl ?_
        refine pt_X6_states hX dX6_leavesState_45 ?_
        refine g_iconst hX 0 dX6_leavesState_48 (by decide) ?_
        refine g_istore_1 hX dX6_leavesState_49 rfl ?_
        refine g_loopW (lvw_c (lvw_c lvw_nil)) (123) (fun k => up1 (up2 (up1 b 72 (shF (b 72) 492)) 69 3 (nI 4)) 72 (cpF (fun i => (up2 (up1 b 72 (shF (b 72) 492)) 69 3 (nI 4)) 72 (615 + i)) ((up2 (up1 b 72 (shF (b 72) 492)) 69 3 (nI 4)) 72) (123 * 4) k)) (fun k => [some (.ref (zad Z 69)), some (.int (nI k))]) (cpF_0 _ 72 _ _) rfl (fun k hk50 ih50 => ?_) ?_
        · show G Z X (up1 (up2 (up1 b 72 (shF (b 72) 492)) 69 3 (nI 4)) 72 (cpF (fun i => (up2 (up1 b 72 (shF (b 72) 492)) 69 3 (nI 4)) 72 (615 + i)) ((up2 (up1 b 72 (shF (b 72) 492)) 69 3 (nI 4)) 72) (123 * 4) k)) 50 ([some (.ref (zad Z 69)), some (.int (nI k))]) _
          refine g_iload_1 hX dX6_leavesState_50 ?_
          refine g_bipush hX 123 dX6_leavesState_51 (by decide) ?_
          refine g_icmp_ge hX 86 dX6_leavesState_53 (by decide) (fun c53 => ?_) (fun c53 => ?_)
          · exact absurd c53 (not_not_intro (nI_lt (b := 123) hk50 (by decide)))
          · refine g_aload_0 hX dX6_leavesState_56 ?_
            refine gt_X6_kept hX dX6_leavesState_57 ?_
            refine g_bipush hX 123 dX6_leavesState_60 (by decide) ?_
            refine g_aload_0 hX dX6_leavesState_62 ?_
            refine gt_X6_states hX dX6_leavesState_63 ?_
            refine g_top (nI 4) (by rw [u1c _ _ (by decide), u2s]) ?_
            refine g_imul hX dX6_leavesState_66 ?_
            refine g_iload_1 hX dX6_leavesState_67 ?_
            refine g_iadd hX dX6_leavesState_68 ?_
            refine g_top _ (ix123 4 k) ?_
            refine g_aload_0 hX dX6_leavesState_69 ?_
            refine gt_X6_kept hX dX6_leavesState_70 ?_
            refine g_sipush hX 615 dX6_leavesState_73 (by decide) ?_
            refine g_iload_1 hX dX6_leavesState_76 ?_
            refine g_iadd hX dX6_leavesState_77 ?_
            refine g_top _ (ix615 k) ?_
            refine g_ialdN (k := (615 + k)) hX (ar_72 Z) (by omega) (by decide) dX6_leavesState_78 ?_
            refine g_top ((up2 (up1 b 72 (shF (b 72) 492)) 69 3 (nI 4)) 72 (615 + k)) (by rw [u1s]; exact cpF_out (by omega)) ?_
            refine g_iastN (k := (123 * 4 + k)) hX (ar_72 Z) (by omega) (by decide) dX6_leavesState_79 ?_
            refine g_iinc_1 hX 1 dX6_leavesState_80 (by decide) rfl ?_
            refine g_goto hX 50 dX6_leavesState_83 (by decide) ?_
            exact g_back ih50 (by have := cpF_s (up2 (up1 b 72 (shF (b 72) 492)) 69 3 (nI 4)) 72 (fun i => (up2 (up1 b 72 (shF (b 72) 492)) 69 3 (nI 4)) 72 (615 + i)) ((up2 (up1 b 72 (shF (b 72) 492)) 69 3 (nI 4)) 72) (123 * 4) k; exact this) (by simp only [nI_succ]) (lvw_c (lvw_c lvw_nil))
        · show G Z X (up1 (up2 (up1 b 72 (shF (b 72) 492)) 69 3 (nI 4)) 72 (cpF (fun i => (up2 (up1 b 72 (shF (b 72) 492)) 69 3 (nI 4)) 72 (615 + i)) ((up2 (up1 b 72 (shF (b 72) 492)) 69 3 (nI 4)) 72) (123 * 4) (123))) 50 ([some (.ref (zad Z 69)), some (.int (nI (123)))]) _
          refine g_iload_1 hX dX6_leavesState_50 ?_
          refine g_bipush hX 123 dX6_leavesState_51 (by decide) ?_
          refine g_icmp_ge hX 86 dX6_leavesState_53 (by decide) (fun c53 => ?_) (fun c53 => ?_)
          · refine g_aload_0 hX dX6_leavesState_86 ?_
            refine g_dup hX dX6_leavesState_87 rfl ?_
            refine gt_X6_states hX dX6_leavesState_88 ?_
            refine g_top (nI 4) (by rw [u1c _ _ (by decide), u2s]) ?_
            refine g_iconst hX 1 dX6_leavesState_91 (by decide) ?_
            refine g_iadd hX dX6_leavesState_92 ?_
            refine g_top (nI (4 + 1)) (nI_1 _) ?_
            refine pt_X6_states hX dX6_leavesState_93 ?_
            exact hq _ _ _ dX6_leavesState_96 (by unfold lvM; rw [if_pos hn, u2c _ _ (show (72 : Nat) ≠ 69 by decide), u1s]; rfl)
          · exact absurd c53 (Int32.lt_irrefl)
      · exact absurd c14 (Int32.lt_irrefl)
set_option maxRecDepth 100000 in
set_option maxHeartbeats 4000000 in
theorem c_X6_leavesN {Z : Zt} {b : Mem} {n : Nat} (hn : ¬ n = 5) (hs : b 69 3 = nI n) (h5 : n ≤ 5) : Con Z yX6_leavesState cX6_leavesState 2 none 0 [.ref (zad Z 69)] b none (lvM b n) := by
  refine con_v (by decide) (Nat.le_of_ble_eq_true rfl) rfl (fun X hX hq => ?_)
  have hX : Ok Z X cX6_leavesState 2 RX6 0 := hX
  show G Z X b 0 [some (.ref (zad Z 69)), none] []
  refine g_aload_0 hX dX6_leavesState_0 ?_
  refine gt_X6_states hX dX6_leavesState_1 ?_
  refine g_iconst hX 5 dX6_leavesState_4 (by decide) ?_
  refine g_icmp_ne hX 48 dX6_leavesState_5 (by decide) (fun c5 => ?_) (fun c5 => ?_)
  · refine g_iconst hX 0 dX6_leavesState_48 (by decide) ?_
    refine g_istore_1 hX dX6_leavesState_49 rfl ?_
    refine g_loopW (lvw_c (lvw_c lvw_nil)) (123) (fun k => up1 (b) 72 (cpF (fun i => (b) 72 (615 + i)) ((b) 72) (123 * n) k)) (fun k => [some (.ref (zad Z 69)), some (.int (nI k))]) (cpF_0 _ 72 _ _) rfl (fun k hk50 ih50 => ?_) ?_
    · show G Z X (up1 (b) 72 (cpF (fun i => (b) 72 (615 + i)) ((b) 72) (123 * n) k)) 50 ([some (.ref (zad Z 69)), some (.int (nI k))]) _
      refine g_iload_1 hX dX6_leavesState_50 ?_
      refine g_bipush hX 123 dX6_leavesState_51 (by decide) ?_
      refine g_icmp_ge hX 86 dX6_leavesState_53 (by decide) (fun c53 => ?_) (fun c53 => ?_)
      · exact absurd c53 (not_not_intro (nI_lt (b := 123) hk50 (by decide)))
      · refine g_aload_0 hX dX6_leavesState_56 ?_
        refine gt_X6_kept hX dX6_leavesState_57 ?_
        refine g_bipush hX 123 dX6_leavesState_60 (by decide) ?_
        refine g_aload_0 hX dX6_leavesState_62 ?_
        refine gt_X6_states hX dX6_leavesState_63 ?_
        refine g_top (nI n) (by rw [u1c _ _ (by decide)]; exact hs) ?_
        refine g_imul hX dX6_leavesState_66 ?_
        refine g_iload_1 hX dX6_leavesState_67 ?_
        refine g_iadd hX dX6_leavesState_68 ?_
        refine g_top _ (ix123 n k) ?_
        refine g_aload_0 hX dX6_leavesState_69 ?_
        refine gt_X6_kept hX dX6_leavesState_70 ?_
        refine g_sipush hX 615 dX6_leavesState_73 (by decide) ?_
        refine g_iload_1 hX dX6_leavesState_76 ?_
        refine g_iadd hX dX6_leavesState_77 ?_
        refine g_top _ (ix615 k) ?_
        refine g_ialdN (k := (615 + k)) hX (ar_72 Z) (by omega) (by decide) dX6_leavesState_78 ?_
        refine g_top ((b) 72 (615 + k)) (by rw [u1s]; exact cpF_out (by omega)) ?_
        refine g_iastN (k := (123 * n + k)) hX (ar_72 Z) (by omega) (by decide) dX6_leavesState_79 ?_
        refine g_iinc_1 hX 1 dX6_leavesState_80 (by decide) rfl ?_
        refine g_goto hX 50 dX6_leavesState_83 (by decide) ?_
        exact g_back ih50 (by have := cpF_s (b) 72 (fun i => (b) 72 (615 + i)) ((b) 72) (123 * n) k; exact this) (by simp only [nI_succ]) (lvw_c (lvw_c lvw_nil))
    · show G Z X (up1 (b) 72 (cpF (fun i => (b) 72 (615 + i)) ((b) 72) (123 * n) (123))) 50 ([some (.ref (zad Z 69)), some (.int (nI (123)))]) _
      refine g_iload_1 hX dX6_leavesState_50 ?_
      refine g_bipush hX 123 dX6_leavesState_51 (by decide) ?_
      refine g_icmp_ge hX 86 dX6_leavesState_53 (by decide) (fun c53 => ?_) (fun c53 => ?_)
      · refine g_aload_0 hX dX6_leavesState_86 ?_
        refine g_dup hX dX6_leavesState_87 rfl ?_
        refine gt_X6_states hX dX6_leavesState_88 ?_
        refine g_top (nI n) (by rw [u1c _ _ (by decide)]; exact hs) ?_
        refine g_iconst hX 1 dX6_leavesState_91 (by decide) ?_
        refine g_iadd hX dX6_leavesState_92 ?_
        refine g_top (nI (n + 1)) (nI_1 _) ?_
        refine pt_X6_states hX dX6_leavesState_93 ?_
        exact hq _ _ _ dX6_leavesState_96 (by unfold lvM; rw [if_neg hn]; rfl)
      · exact absurd c53 (Int32.lt_irrefl)
  · exact absurd c5 (fun z => hn ((nI_eq (b := 5) (by omega) (by decide)).mp (by rw [← hs]; exact z)))
theorem c_X6_leavesState {Z : Zt} {b : Mem} {n : Nat} (hs : b 69 3 = nI n) (h5 : n ≤ 5) : Con Z yX6_leavesState cX6_leavesState 2 none 0 [.ref (zad Z 69)] b none (lvM b n) := by
  by_cases hn : n = 5
  · exact c_X6_leaves5 hn (by rw [hs, hn])
  · exact c_X6_leavesN hn hs h5
set_option maxRecDepth 100000 in
set_option maxHeartbeats 4000000 in
theorem c_X6_back {Z : Zt} {b : Mem} {n : Nat} (hs : b 69 3 = nI n) (h5 : n ≤ 5) : Con Z yX6_back cX6_back 1 (some .int) 1 [.ref (zad Z 69)] b (some (.int (if n = 0 then -3 else nI (n - 1)))) (if n = 0 then up2 b 70 1 (b 70 1 + 1) else up1 (up2 b 69 3 (nI (n - 1))) 71 (cpF (fun i => b 72 (123 * (n - 1) + i)) (b 71) 0 123)) := by
  have h0 : b 69 3 = 0 ↔ n = 0 := by rw [hs]; exact nI0 (by omega)
  refine con_i (by decide) (Nat.le_of_ble_eq_true rfl) rfl (fun X hX hq => ?_)
  have hX : Ok Z X cX6_back 1 RX6 1 := hX
  show G Z X b 0 [some (.ref (zad Z 69))] []
  refine g_aload_0 hX dX6_back_0 ?_
  refine gt_X6_states hX dX6_back_1 ?_
  refine g_if_ne hX 12 dX6_back_4 (by decide) (fun c4 => ?_) (fun c4 => ?_)
  · have hn0 : ¬ n = 0 := fun z => c4 (h0.mpr z)
    refine g_aload_0 hX dX6_back_12 ?_
    refine g_dup hX dX6_back_13 rfl ?_
    refine gt_X6_states hX dX6_back_14 ?_
    refine g_top _ hs ?_
    refine g_iconst hX 1 dX6_back_17 (by decide) ?_
    refine g_isub hX dX6_back_18 ?_
    refine g_top (nI (n - 1)) (nI_sub1 (by omega)) ?_
    refine pt_X6_states hX dX6_back_19 ?_
    refine g_aload_0 hX dX6_back_22 ?_
    refine g_aload_0 hX dX6_back_23 ?_
    refine gt_X6_states hX dX6_back_24 ?_
    refine g_top (nI (n - 1)) (u2s _ _ _ _) ?_
    refine g_cV1v hX mkX6_takes ml_X6_57 (c_X6_takes (by omega)) (ob_69 Z _) dX6_back_27 rfl (by decide) (Nat.le_of_ble_eq_true rfl) ?_
    refine g_aload_0 hX dX6_back_30 ?_
    refine gt_X6_states hX dX6_back_31 ?_
    refine g_top (nI (n - 1)) (by rw [u1c _ _ (by decide), u2s]) ?_
    exact hq _ _ _ _ dX6_back_34 (by rw [if_neg hn0]; rfl) (by rw [if_neg hn0])
  · refine g_aload_0 hX dX6_back_7 ?_
    refine g_cV0r hX mkX6_no ml_X6_47 (c_X6_no) (ob_69 Z _) dX6_back_8 rfl (by decide) (Nat.le_of_ble_eq_true rfl) ?_
    exact hq _ _ _ _ dX6_back_11 (by rw [if_pos (h0.mp c4)]) (by rw [if_pos (h0.mp c4)])
set_option maxRecDepth 100000 in
set_option maxHeartbeats 4000000 in
theorem c_X6_isLine {Z : Zt} {b : Mem} {l : Int32} (hV : Val (mv b))  : Con Z yX6_isLine cX6_isLine 2 (some .boolean) 1 [.ref (zad Z 69), .int l] b (some (.int (bI (¬ l < 0 ∧ l < b 71 0)))) (b) := by
  have hn : b 71 0 = nI (nl (mv b)) := hV.1.1
  have hn6 := hV.1.2
  refine con_z (by decide) (Nat.le_of_ble_eq_true rfl) rfl (bI_n _) (fun X hX hq => ?_)
  have hX : Ok Z X cX6_isLine 2 RX6 1 := hX
  show G Z X b 0 [some (.ref (zad Z 69)), some (.int l)] []
  refine g_iload_1 hX dX6_isLine_0 ?_
  refine g_iconst hX 0 dX6_isLine_1 (by decide) ?_
  refine g_aload_0 hX dX6_isLine_2 ?_
  refine gt_X6_now hX dX6_isLine_3 ?_
  refine g_iconst hX 0 dX6_isLine_6 (by decide) ?_
  refine g_ialdN (k := 0) hX (ar_71 Z) (by decide) (by decide) dX6_isLine_7 ?_
  refine g_iconst hX 1 dX6_isLine_8 (by decide) ?_
  refine g_isub hX dX6_isLine_9 ?_
  refine g_cS3r hX mkX6_in ml_X6_61 (c_X6_in) dX6_isLine_10 rfl (by decide) (Nat.le_of_ble_eq_true rfl) ?_
  exact hq _ _ _ _ dX6_isLine_13 (by rfl) (by rw [hn]; exact bI_iff (and_congr Iff.rfl (lt_pred (by omega))))
set_option maxRecDepth 100000 in
set_option maxHeartbeats 4000000 in
theorem c_X6_isPocket {Z : Zt} {b : Mem} {l : Int32} (hV : Val (mv b))  : Con Z yX6_isPocket cX6_isPocket 2 (some .boolean) 1 [.ref (zad Z 69), .int l] b (some (.int (bI (¬ l < 0 ∧ l < b 71 1)))) (b) := by
  have hp : b 71 1 = nI (np (mv b)) := hV.2.1.1
  have hp6 := hV.2.1.2
  refine con_z (by decide) (Nat.le_of_ble_eq_true rfl) rfl (bI_n _) (fun X hX hq => ?_)
  have hX : Ok Z X cX6_isPocket 2 RX6 1 := hX
  show G Z X b 0 [some (.ref (zad Z 69)), some (.int l)] []
  refine g_iload_1 hX dX6_isPocket_0 ?_
  refine g_iconst hX 0 dX6_isPocket_1 (by decide) ?_
  refine g_aload_0 hX dX6_isPocket_2 ?_
  refine gt_X6_now hX dX6_isPocket_3 ?_
  refine g_iconst hX 1 dX6_isPocket_6 (by decide) ?_
  refine g_ialdN (k := 1) hX (ar_71 Z) (by decide) (by decide) dX6_isPocket_7 ?_
  refine g_iconst hX 1 dX6_isPocket_8 (by decide) ?_
  refine g_isub hX dX6_isPocket_9 ?_
  refine g_cS3r hX mkX6_in ml_X6_61 (c_X6_in) dX6_isPocket_10 rfl (by decide) (Nat.le_of_ble_eq_true rfl) ?_
  exact hq _ _ _ _ dX6_isPocket_13 (by rfl) (by rw [hp]; exact bI_iff (and_congr Iff.rfl (lt_pred (by omega))))
set_option maxRecDepth 100000 in
set_option maxHeartbeats 4000000 in
theorem c_X6_runsOf {Z : Zt} {b : Mem} {l : Nat} (hl : l < 6) : Con Z yX6_runsOf cX6_runsOf 2 (some .int) 0 [.ref (zad Z 69), .int (nI l)] b (some (.int (b 71 (9 + 17 * l)))) (b) := by
  refine con_i (by decide) (Nat.le_of_ble_eq_true rfl) rfl (fun X hX hq => ?_)
  have hX : Ok Z X cX6_runsOf 2 RX6 0 := hX
  show G Z X b 0 [some (.ref (zad Z 69)), some (.int (nI l))] []
  refine g_aload_0 hX dX6_runsOf_0 ?_
  refine gt_X6_now hX dX6_runsOf_1 ?_
  refine g_bipush hX 9 dX6_runsOf_4 (by decide) ?_
  refine g_bipush hX 17 dX6_runsOf_6 (by decide) ?_
  refine g_iload_1 hX dX6_runsOf_8 ?_
  refine g_imul hX dX6_runsOf_9 ?_
  refine g_iadd hX dX6_runsOf_10 ?_
  refine g_top _ (ix17 l) ?_
  refine g_ialdN (k := (9 + 17 * l)) hX (ar_71 Z) (by omega) (by decide) dX6_runsOf_11 ?_
  exact hq _ _ _ _ dX6_runsOf_12 (by rfl) (by rfl)
set_option maxRecDepth 100000 in
set_option maxHeartbeats 4000000 in
theorem c_X6_longOf {Z : Zt} {b : Mem} {l i : Nat} (hl : l < 6) (hi : i < 8) : Con Z yX6_longOf cX6_longOf 3 (some .int) 0 [.ref (zad Z 69), .int (nI l), .int (nI i)] b (some (.int (b 71 (9 + 17 * l + 1 + i)))) (b) := by
  refine con_i (by decide) (Nat.le_of_ble_eq_true rfl) rfl (fun X hX hq => ?_)
  have hX : Ok Z X cX6_longOf 3 RX6 0 := hX
  show G Z X b 0 [some (.ref (zad Z 69)), some (.int (nI l)), some (.int (nI i))] []
  refine g_aload_0 hX dX6_longOf_0 ?_
  refine gt_X6_now hX dX6_longOf_1 ?_
  refine g_bipush hX 9 dX6_longOf_4 (by decide) ?_
  refine g_bipush hX 17 dX6_longOf_6 (by decide) ?_
  refine g_iload_1 hX dX6_longOf_8 ?_
  refine g_imul hX dX6_longOf_9 ?_
  refine g_iadd hX dX6_longOf_10 ?_
  refine g_iconst hX 1 dX6_longOf_11 (by decide) ?_
  refine g_iadd hX dX6_longOf_12 ?_
  refine g_iload_2 hX dX6_longOf_13 ?_
  refine g_iadd hX dX6_longOf_14 ?_
  refine g_top _ (ix17a l i) ?_
  refine g_ialdN (k := (9 + 17 * l + 1 + i)) hX (ar_71 Z) (by omega) (by decide) dX6_longOf_15 ?_
  exact hq _ _ _ _ dX6_longOf_16 (by rfl) (by rfl)
set_option maxRecDepth 100000 in
set_option maxHeartbeats 4000000 in
theorem c_X6_turnOf {Z : Zt} {b : Mem} {l i : Nat} (hl : l < 6) (hi : i < 8) : Con Z yX6_turnOf cX6_turnOf 3 (some .int) 0 [.ref (zad Z 69), .int (nI l), .int (nI i)] b (some (.int (b 71 (9 + 17 * l + 9 + i)))) (b) := by
  refine con_i (by decide) (Nat.le_of_ble_eq_true rfl) rfl (fun X hX hq => ?_)
  have hX : Ok Z X cX6_turnOf 3 RX6 0 := hX
  show G Z X b 0 [some (.ref (zad Z 69)), some (.int (nI l)), some (.int (nI i))] []
  refine g_aload_0 hX dX6_turnOf_0 ?_
  refine gt_X6_now hX dX6_turnOf_1 ?_
  refine g_bipush hX 9 dX6_turnOf_4 (by decide) ?_
  refine g_bipush hX 17 dX6_turnOf_6 (by decide) ?_
  refine g_iload_1 hX dX6_turnOf_8 ?_
  refine g_imul hX dX6_turnOf_9 ?_
  refine g_iadd hX dX6_turnOf_10 ?_
  refine g_bipush hX 9 dX6_turnOf_11 (by decide) ?_
  refine g_iadd hX dX6_turnOf_13 ?_
  refine g_iload_2 hX dX6_turnOf_14 ?_
  refine g_iadd hX dX6_turnOf_15 ?_
  refine g_top _ (ix17b l i) ?_
  refine g_ialdN (k := (9 + 17 * l + 9 + i)) hX (ar_71 Z) (by omega) (by decide) dX6_turnOf_16 ?_
  exact hq _ _ _ _ dX6_turnOf_17 (by rfl) (by rfl)
