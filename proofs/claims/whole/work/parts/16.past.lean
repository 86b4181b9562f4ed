/-! SnakedBus$Past -/
theorem kept_bus (Z : Zt) {k : Nat} (h : k < 5) : isBus Z (15 + 7 * k) := by
  rcases (show k = 0 ∨ k = 1 ∨ k = 2 ∨ k = 3 ∨ k = 4 by omega) with rfl | rfl | rfl | rfl | rfl
  · exact bus_15 Z
  · exact bus_22 Z
  · exact bus_29 Z
  · exact bus_36 Z
  · exact bus_43 Z
theorem tk_c (b : Mem) {o p j : Nat} (h : j < o ∨ o + 6 < j) : tk b o p j = b j := by
  unfold tk cp6
  rw [u2c _ _ (by omega), u2c _ _ (by omega), u1c _ _ (by omega), u1c _ _ (by omega), u1c _ _ (by omega), u1c _ _ (by omega), u1c _ _ (by omega), u1c _ _ (by omega)]
theorem rem5 {a : Nat} (h : a < 1000) : jrem (nI a) 5 = nI (a % 5) := pk_rem (d := 5) (by omega) (by decide) (by decide)
theorem nI_s1 (a : Nat) : nI a + 1 = nI (a + 1) := nI_1 a
def keepM (b : Mem) (k h o : Nat) : Mem := up2 (up2 (tk b (15 + 7 * k) o) 50 1 (nI ((k + 1) % 5))) 50 2 (nI (min 5 (h + 1)))
def giveM (b : Mem) (k h o : Nat) : Mem := if h = 0 then b else up2 (up2 (tk b o (15 + 7 * ((k + 4) % 5))) 50 1 (nI ((k + 4) % 5))) 50 2 (nI h - 1)
set_option maxRecDepth 100000 in
set_option maxHeartbeats 4000000 in
theorem c_X1_size {Z : Zt} {b : Mem}  : Con Z yX1_size cX1_size 1 (some .int) 0 [.ref (zad Z 50)] b (some (.int (b 50 2))) (b) := by
  refine con_i (by decide) (Nat.le_of_ble_eq_true rfl) rfl (fun X hX hq => ?_)
  have hX : Ok Z X cX1_size 1 RX1 0 := hX
  show G Z X b 0 [some (.ref (zad Z 50))] []
  refine g_aload_0 hX dX1_size_0 ?_
  refine gt_X1_held hX dX1_size_1 ?_
  exact hq _ _ _ _ dX1_size_4 (by rfl) (by rfl)
set_option maxRecDepth 100000 in
set_option maxHeartbeats 4000000 in
theorem c_X1_slotAt {Z : Zt} {b : Mem} {k : Nat} (hk : k < 5) : Con Z yX1_slotAt cX1_slotAt 2 (some (.object "SnakedBus$Bus")) 0 [.ref (zad Z 50), .int (nI k)] b (some (.ref (zad Z (15 + 7 * k)))) (b) := by
  refine con_a (by decide) (Nat.le_of_ble_eq_true rfl) rfl (fun X hX hq => ?_)
  have hX : Ok Z X cX1_slotAt 2 RX1 0 := hX
  show G Z X b 0 [some (.ref (zad Z 50)), some (.int (nI k))] []
  refine g_iload_1 hX dX1_slotAt_0 ?_
  refine g_if_lt hX 22 dX1_slotAt_1 (by decide) (fun c1 => ?_) (fun c1 => ?_)
  · exact absurd c1 (nI_pos (by omega))
  · refine g_iload_1 hX dX1_slotAt_4 ?_
    refine g_aload_0 hX dX1_slotAt_5 ?_
    refine gt_X1_kept hX dX1_slotAt_6 ?_
    refine g_alenB hX dX1_slotAt_9 ?_
    refine g_icmp_ge hX 22 dX1_slotAt_10 (by decide) (fun c10 => ?_) (fun c10 => ?_)
    · exact absurd c10 (not_not_intro (nI_lt (b := 5) hk (by decide)))
    · refine g_aload_0 hX dX1_slotAt_13 ?_
      refine gt_X1_kept hX dX1_slotAt_14 ?_
      refine g_iload_1 hX dX1_slotAt_17 ?_
      refine g_aaload hX (vin hk (by decide)) dX1_slotAt_18 ?_
      refine g_goto hX 23 dX1_slotAt_19 (by decide) ?_
      exact hq _ _ _ _ dX1_slotAt_23 (by rfl) (by rw [nI_clamp (by omega)])
set_option maxRecDepth 100000 in
set_option maxHeartbeats 4000000 in
theorem c_X1_keep {Z : Zt} {b : Mem} {o k h : Nat} (h_o : isBus Z o) (hp : b 50 1 = nI k) (hk : k < 5) (hh : b 50 2 = nI h) (h5 : h ≤ 5) (ho : o + 6 < 15) : Con Z yX1_keep cX1_keep 3 none 3 [.ref (zad Z 50), .ref (zad Z o)] b none (keepM b k h o) := by
  refine con_v (by decide) (Nat.le_of_ble_eq_true rfl) rfl (fun X hX hq => ?_)
  have hX : Ok Z X cX1_keep 3 RX1 3 := hX
  show G Z X b 0 [some (.ref (zad Z 50)), some (.ref (zad Z o)), none] []
  refine g_aload_0 hX dX1_keep_0 ?_
  refine g_aload_0 hX dX1_keep_1 ?_
  refine gt_X1_place hX dX1_keep_2 ?_
  refine g_top _ hp ?_
  refine g_cV1r hX mkX1_slotAt ml_X1_25 (c_X1_slotAt hk) (ob_50 Z _) dX1_keep_5 rfl (by decide) (Nat.le_of_ble_eq_true rfl) ?_
  refine g_astore_2 hX dX1_keep_8 rfl ?_
  refine g_aload_2 hX dX1_keep_9 ?_
  refine g_ifnull hX dX1_keep_10 ?_
  refine g_aload_2 hX dX1_keep_13 ?_
  refine g_aload_1 hX dX1_keep_14 ?_
  refine g_cV1v hX mkX0_takeFrom ml_X1_29 (c_X0_takeFrom (kept_bus Z hk) h_o (by omega)) ((kept_bus Z hk).obj _) dX1_keep_15 rfl (by decide) (Nat.le_of_ble_eq_true rfl) ?_
  refine g_aload_0 hX dX1_keep_18 ?_
  refine g_aload_0 hX dX1_keep_19 ?_
  refine gt_X1_place hX dX1_keep_20 ?_
  refine g_iconst hX 1 dX1_keep_23 (by decide) ?_
  refine g_iadd hX dX1_keep_24 ?_
  refine g_iconst hX 5 dX1_keep_25 (by decide) ?_
  refine g_cast (st' := [.int 5, .int (nI (k + 1)), .ref (zad Z 50)]) ?_ rfl rfl (by rw [tk_c _ (by omega), hp, nI_s1])
  refine g_irem hX dX1_keep_26 (by decide) ?_
  refine g_top _ (rem5 (by omega)) ?_
  refine pt_X1_place hX dX1_keep_27 ?_
  refine g_aload_0 hX dX1_keep_30 ?_
  refine g_iconst hX 5 dX1_keep_31 (by decide) ?_
  refine g_aload_0 hX dX1_keep_32 ?_
  refine gt_X1_held hX dX1_keep_33 ?_
  refine g_iconst hX 1 dX1_keep_36 (by decide) ?_
  refine g_iadd hX dX1_keep_37 ?_
  refine g_top (nI (h + 1)) (by rw [u2k _ _ (by decide), tk_c _ (by omega), hh, nI_s1]) ?_
  refine g_min hX ml_X1_33 mm_min_s mm_ini mm_min_c dX1_keep_38 rfl (by decide) (Nat.le_of_ble_eq_true rfl) ?_
  refine g_top (nI (min 5 (h + 1))) (by
    show (if nI (h + 1) < nI 5 then nI (h + 1) else nI 5) = _
    by_cases q : h + 1 < 5
    · rw [if_pos (nI_lt (b := 5) q (by decide)), Nat.min_eq_right (by omega)]
    · rw [if_neg (nI_nlt (a := h + 1) (b := 5) (by omega) (by omega)), Nat.min_eq_left (by omega)]) ?_
  refine pt_X1_held hX dX1_keep_41 ?_
  exact hq _ _ _ dX1_keep_44 (by rfl)
set_option maxRecDepth 100000 in
set_option maxHeartbeats 4000000 in
theorem c_X1_giveBack {Z : Zt} {b : Mem} {o k h : Nat} (h_o : isBus Z o) (hp : b 50 1 = nI k) (hk : k < 5) (hh : b 50 2 = nI h) (h5 : h ≤ 5) (ho : o + 6 < 15) : Con Z yX1_giveBack cX1_giveBack 4 (some .boolean) 3 [.ref (zad Z 50), .ref (zad Z o)] b (some (.int (bI (¬ h = 0)))) (giveM b k h o) := by
  have hk2 : (k + 4) % 5 < 5 := Nat.mod_lt _ (by decide)
  have h0 : b 50 2 = 0 ↔ h = 0 := by rw [hh]; exact nI0 (by omega)
  refine con_z (by decide) (Nat.le_of_ble_eq_true rfl) rfl (bI_n _) (fun X hX hq => ?_)
  have hX : Ok Z X cX1_giveBack 4 RX1 3 := hX
  show G Z X b 0 [some (.ref (zad Z 50)), some (.ref (zad Z o)), none, none] []
  refine g_aload_0 hX dX1_giveBack_0 ?_
  refine gt_X1_place hX dX1_giveBack_1 ?_
  refine g_iconst hX 5 dX1_giveBack_4 (by decide) ?_
  refine g_iadd hX dX1_giveBack_5 ?_
  refine g_iconst hX 1 dX1_giveBack_6 (by decide) ?_
  refine g_isub hX dX1_giveBack_7 ?_
  refine g_iconst hX 5 dX1_giveBack_8 (by decide) ?_
  refine g_cast (st' := [.int 5, .int (nI (k + 4))]) ?_ rfl rfl (by rw [hp, show (5 : Int32) = nI 5 from rfl, nI_add, show (1 : Int32) = nI 1 from rfl, pk_sub (by omega)]; rfl)
  refine g_irem hX dX1_giveBack_9 (by decide) ?_
  refine g_top _ (rem5 (by omega)) ?_
  refine g_istore_2 hX dX1_giveBack_10 rfl ?_
  refine g_aload_0 hX dX1_giveBack_11 ?_
  refine g_iload_2 hX dX1_giveBack_12 ?_
  refine g_cV1r hX mkX1_slotAt ml_X1_25 (c_X1_slotAt hk2) (ob_50 Z _) dX1_giveBack_13 rfl (by decide) (Nat.le_of_ble_eq_true rfl) ?_
  refine g_astore_3 hX dX1_giveBack_16 rfl ?_
  refine g_aload_0 hX dX1_giveBack_17 ?_
  refine gt_X1_held hX dX1_giveBack_18 ?_
  refine g_if_eq hX 28 dX1_giveBack_21 (by decide) (fun c21 => ?_) (fun c21 => ?_)
  · refine g_iconst hX 0 dX1_giveBack_28 (by decide) ?_
    exact hq _ _ _ _ dX1_giveBack_29 (by rw [giveM, if_pos (h0.mp c21)]) (by rw [bI_f (not_not_intro (h0.mp c21))])
  · refine g_aload_3 hX dX1_giveBack_24 ?_
    refine g_ifnonnull hX 30 dX1_giveBack_25 (by decide) ?_
    refine g_aload_1 hX dX1_giveBack_30 ?_
    refine g_aload_3 hX dX1_giveBack_31 ?_
    refine g_cV1v hX mkX0_takeFrom ml_X1_29 (c_X0_takeFrom h_o (kept_bus Z hk2) (by omega)) (h_o.obj _) dX1_giveBack_32 rfl (by decide) (Nat.le_of_ble_eq_true rfl) ?_
    refine g_aload_0 hX dX1_giveBack_35 ?_
    refine g_iload_2 hX dX1_giveBack_36 ?_
    refine pt_X1_place hX dX1_giveBack_37 ?_
    refine g_aload_0 hX dX1_giveBack_40 ?_
    refine g_dup hX dX1_giveBack_41 rfl ?_
    refine gt_X1_held hX dX1_giveBack_42 ?_
    refine g_top (nI h) (by rw [u2k _ _ (by decide), tk_c _ (by omega), hh]) ?_
    refine g_iconst hX 1 dX1_giveBack_45 (by decide) ?_
    refine g_isub hX dX1_giveBack_46 ?_
    refine pt_X1_held hX dX1_giveBack_47 ?_
    refine g_iconst hX 1 dX1_giveBack_50 (by decide) ?_
    exact hq _ _ _ _ dX1_giveBack_51 (by rw [giveM, if_neg (fun q => c21 (h0.mpr q))]) (by rw [bI_t (show ¬ h = 0 from fun q => c21 (h0.mpr q))])
