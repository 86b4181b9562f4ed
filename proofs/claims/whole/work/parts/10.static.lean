/-! the static helpers -/
theorem vin {k n : Nat} (h : k < n) (hn : n < 2 ^ 31) : vp_in (nI k) n := vp_in_nI h hn
set_option maxRecDepth 100000 in
set_option maxHeartbeats 4000000 in
theorem c_X5_within {Z : Zt} {b : Mem} {v lo hi : Int32} : Con Z yX5_within cX5_within 3 (some .boolean) 0 [.int v, .int lo, .int hi] b (some (.int (bI (¬ v < lo ∧ ¬ hi < v)))) (b) := by
  refine con_z (by decide) (Nat.le_of_ble_eq_true rfl) rfl (bI_n _) (fun X hX hq => ?_)
  have hX : Ok Z X cX5_within 3 RX5 0 := hX
  show G Z X b 0 [some (.int v), some (.int lo), some (.int hi)] []
  refine g_iload_0 hX dX5_within_0 ?_
  refine g_iload_1 hX dX5_within_1 ?_
  refine g_icmp_lt hX 14 dX5_within_2 (by decide) (fun c2 => ?_) (fun c2 => ?_)
  · refine g_iconst hX 0 dX5_within_14 (by decide) ?_
    exact hq _ _ _ _ dX5_within_15 (by rfl) (by simp [bI, *])
  · refine g_iload_0 hX dX5_within_5 ?_
    refine g_iload_2 hX dX5_within_6 ?_
    refine g_icmp_gt hX 14 dX5_within_7 (by decide) (fun c7 => ?_) (fun c7 => ?_)
    · refine g_iconst hX 0 dX5_within_14 (by decide) ?_
      exact hq _ _ _ _ dX5_within_15 (by rfl) (by simp [bI, *])
    · refine g_iconst hX 1 dX5_within_10 (by decide) ?_
      refine g_goto hX 15 dX5_within_11 (by decide) ?_
      exact hq _ _ _ _ dX5_within_15 (by rfl) (by simp [bI, *])
set_option maxRecDepth 100000 in
set_option maxHeartbeats 4000000 in
theorem c_X6_in {Z : Zt} {b : Mem} {v lo hi : Int32} : Con Z yX6_in cX6_in 3 (some .boolean) 0 [.int v, .int lo, .int hi] b (some (.int (bI (¬ v < lo ∧ ¬ hi < v)))) (b) := by
  refine con_z (by decide) (Nat.le_of_ble_eq_true rfl) rfl (bI_n _) (fun X hX hq => ?_)
  have hX : Ok Z X cX6_in 3 RX6 0 := hX
  show G Z X b 0 [some (.int v), some (.int lo), some (.int hi)] []
  refine g_iload_0 hX dX6_in_0 ?_
  refine g_iload_1 hX dX6_in_1 ?_
  refine g_icmp_lt hX 14 dX6_in_2 (by decide) (fun c2 => ?_) (fun c2 => ?_)
  · refine g_iconst hX 0 dX6_in_14 (by decide) ?_
    exact hq _ _ _ _ dX6_in_15 (by rfl) (by simp [bI, *])
  · refine g_iload_0 hX dX6_in_5 ?_
    refine g_iload_2 hX dX6_in_6 ?_
    refine g_icmp_gt hX 14 dX6_in_7 (by decide) (fun c7 => ?_) (fun c7 => ?_)
    · refine g_iconst hX 0 dX6_in_14 (by decide) ?_
      exact hq _ _ _ _ dX6_in_15 (by rfl) (by simp [bI, *])
    · refine g_iconst hX 1 dX6_in_10 (by decide) ?_
      refine g_goto hX 15 dX6_in_11 (by decide) ?_
      exact hq _ _ _ _ dX6_in_15 (by rfl) (by simp [bI, *])
set_option maxRecDepth 100000 in
set_option maxHeartbeats 4000000 in
theorem c_X5_at {Z : Zt} {b : Mem} {j n k : Nat} (hA : isArr Z j n) (hk : k < n) (hn : n < 2 ^ 31) : Con Z yX5_at cX5_at 2 (some .int) 0 [.ref (zad Z j), .int (nI k)] b (some (.int (b j k))) (b) := by
  refine con_i (by decide) (Nat.le_of_ble_eq_true rfl) rfl (fun X hX hq => ?_)
  have hX : Ok Z X cX5_at 2 RX5 0 := hX
  show G Z X b 0 [some (.ref (zad Z j)), some (.int (nI k))] []
  refine g_iload_1 hX dX5_at_0 ?_
  refine g_if_lt hX 16 dX5_at_1 (by decide) (fun c1 => ?_) (fun c1 => ?_)
  · exact absurd c1 (nI_pos (by omega))
  · refine g_iload_1 hX dX5_at_4 ?_
    refine g_aload_0 hX dX5_at_5 ?_
    refine g_alen hX hA dX5_at_6 ?_
    refine g_icmp_ge hX 16 dX5_at_7 (by decide) (fun c7 => ?_) (fun c7 => ?_)
    · exact absurd c7 (not_not_intro (nI_lt hk hn))
    · refine g_aload_0 hX dX5_at_10 ?_
      refine g_iload_1 hX dX5_at_11 ?_
      refine g_iald hX hA (vin hk hn) dX5_at_12 ?_
      refine g_goto hX 17 dX5_at_13 (by decide) ?_
      exact hq _ _ _ _ dX5_at_17 (by rfl) (by rw [nI_clamp (by omega)])
set_option maxRecDepth 100000 in
set_option maxHeartbeats 4000000 in
theorem c_X5_put {Z : Zt} {b : Mem} {j n k : Nat} {x : Int32} (hA : isArr Z j n) (hk : k < n) (hn : n < 2 ^ 31) : Con Z yX5_put cX5_put 3 none 0 [.ref (zad Z j), .int (nI k), .int x] b none (up2 b j k x) := by
  refine con_v (by decide) (Nat.le_of_ble_eq_true rfl) rfl (fun X hX hq => ?_)
  have hX : Ok Z X cX5_put 3 RX5 0 := hX
  show G Z X b 0 [some (.ref (zad Z j)), some (.int (nI k)), some (.int x)] []
  refine g_iload_1 hX dX5_put_0 ?_
  refine g_if_lt hX 14 dX5_put_1 (by decide) (fun c1 => ?_) (fun c1 => ?_)
  · exact absurd c1 (nI_pos (by omega))
  · refine g_iload_1 hX dX5_put_4 ?_
    refine g_aload_0 hX dX5_put_5 ?_
    refine g_alen hX hA dX5_put_6 ?_
    refine g_icmp_ge hX 14 dX5_put_7 (by decide) (fun c7 => ?_) (fun c7 => ?_)
    · exact absurd c7 (not_not_intro (nI_lt hk hn))
    · refine g_aload_0 hX dX5_put_10 ?_
      refine g_iload_1 hX dX5_put_11 ?_
      refine g_iload_2 hX dX5_put_12 ?_
      refine g_iast hX hA (vin hk hn) dX5_put_13 ?_
      exact hq _ _ _ dX5_put_14 (by rw [nI_clamp (by omega)])
set_option maxRecDepth 100000 in
set_option maxHeartbeats 4000000 in
theorem c_X5_cell {Z : Zt} {b : Mem} {r k w : Nat} (hk : k < w) (hn : w < 2 ^ 31) : Con Z yX5_cell cX5_cell 3 (some .int) 0 [.int (nI r), .int (nI k), .int (nI w)] b (some (.int (nI (r * w + k)))) (b) := by
  refine con_i (by decide) (Nat.le_of_ble_eq_true rfl) rfl (fun X hX hq => ?_)
  have hX : Ok Z X cX5_cell 3 RX5 0 := hX
  show G Z X b 0 [some (.int (nI r)), some (.int (nI k)), some (.int (nI w))] []
  refine g_iload_1 hX dX5_cell_0 ?_
  refine g_if_lt hX 17 dX5_cell_1 (by decide) (fun c1 => ?_) (fun c1 => ?_)
  · exact absurd c1 (nI_pos (by omega))
  · refine g_iload_1 hX dX5_cell_4 ?_
    refine g_iload_2 hX dX5_cell_5 ?_
    refine g_icmp_ge hX 17 dX5_cell_6 (by decide) (fun c6 => ?_) (fun c6 => ?_)
    · exact absurd c6 (not_not_intro (nI_lt hk hn))
    · refine g_iload_0 hX dX5_cell_9 ?_
      refine g_iload_2 hX dX5_cell_10 ?_
      refine g_imul hX dX5_cell_11 ?_
      refine g_iload_1 hX dX5_cell_12 ?_
      refine g_iadd hX dX5_cell_13 ?_
      refine g_goto hX 18 dX5_cell_14 (by decide) ?_
      exact hq _ _ _ _ dX5_cell_18 (by rfl) (by rw [pk_mul, nI_add])
theorem tb_shr (x : Int32) {k : Nat} (hk : k < 31) : (x >>> (nI k &&& 31) &&& 1 = 1) ↔ tbI x k = true := by
  rw [and_one, b_sshr k (by omega) x (by omega)]
  simp only [Nat.add_zero, show k < 32 by omega, if_true]
  rfl
set_option maxRecDepth 100000 in
set_option maxHeartbeats 4000000 in
theorem c_X5_hasBit {Z : Zt} {b : Mem} {x : Int32} {k : Nat} (hk : k < 31) : Con Z yX5_hasBit cX5_hasBit 2 (some .boolean) 0 [.int x, .int (nI k)] b (some (.int (bI (tbI x k = true)))) (b) := by
  refine con_z (by decide) (Nat.le_of_ble_eq_true rfl) rfl (bI_n _) (fun X hX hq => ?_)
  have hX : Ok Z X cX5_hasBit 2 RX5 0 := hX
  show G Z X b 0 [some (.int x), some (.int (nI k))] []
  refine g_iload_0 hX dX5_hasBit_0 ?_
  refine g_iload_1 hX dX5_hasBit_1 ?_
  refine g_ishr hX dX5_hasBit_2 ?_
  refine g_iconst hX 1 dX5_hasBit_3 (by decide) ?_
  refine g_iand hX dX5_hasBit_4 ?_
  refine g_iconst hX 1 dX5_hasBit_5 (by decide) ?_
  refine g_icmp_ne hX 13 dX5_hasBit_6 (by decide) (fun c6 => ?_) (fun c6 => ?_)
  · refine g_iconst hX 0 dX5_hasBit_13 (by decide) ?_
    exact hq _ _ _ _ dX5_hasBit_14 (by rfl) (by simp [bI, (tb_shr x hk).symm, *])
  · refine g_iconst hX 1 dX5_hasBit_9 (by decide) ?_
    refine g_goto hX 14 dX5_hasBit_10 (by decide) ?_
    exact hq _ _ _ _ dX5_hasBit_14 (by rfl) (by simp [bI, (tb_shr x hk).symm, *])
set_option maxRecDepth 100000 in
set_option maxHeartbeats 4000000 in
theorem c_X5_copy {Z : Zt} {b : Mem} {i j n : Nat} (hA : isArr Z i n) (hB : isArr Z j n) (hn : n < 2 ^ 31) : Con Z yX5_copy cX5_copy 2 none 1 [.ref (zad Z i), .ref (zad Z j)] b none (up1 b j (va_cpy (b i) (b j) 0 0 n)) := by
  refine con_v (by decide) (Nat.le_of_ble_eq_true rfl) rfl (fun X hX hq => ?_)
  have hX : Ok Z X cX5_copy 2 RX5 1 := hX
  show G Z X b 0 [some (.ref (zad Z i)), some (.ref (zad Z j))] []
  refine g_aload_0 hX dX5_copy_0 ?_
  refine g_iconst hX 0 dX5_copy_1 (by decide) ?_
  refine g_aload_1 hX dX5_copy_2 ?_
  refine g_iconst hX 0 dX5_copy_3 (by decide) ?_
  refine g_aload_0 hX dX5_copy_4 ?_
  refine g_alen hX hA dX5_copy_5 ?_
  refine g_aload_1 hX dX5_copy_6 ?_
  refine g_alen hX hB dX5_copy_7 ?_
  refine g_min hX ml_X5_291 mm_min_s mm_ini mm_min_c dX5_copy_8 rfl (by decide) (Nat.le_of_ble_eq_true rfl) ?_
  have e0 : (if nI n < nI n then nI n else nI n) = nI n := by split <;> rfl
  refine g_cast (st' := [.int (nI n), .int 0, .ref (zad Z j), .int 0, .ref (zad Z i)]) ?_ rfl rfl (by rw [e0])
  refine g_copy hX hA hB ml_X5_296 sy_nat sy_sta sy_ini (nI_pos hn) (by rw [nI_clamp hn]; omega) (by rw [nI_clamp hn]; omega) rfl (by decide) (Nat.le_of_ble_eq_true rfl) dX5_copy_11 ?_
  exact hq _ _ _ dX5_copy_14 (by rw [nI_clamp hn])
set_option maxRecDepth 100000 in
set_option maxHeartbeats 4000000 in
theorem c_X5_at_low {Z : Zt} {b : Mem} {k : Nat} (hk : k < 7) : Con Z yX5_at cX5_at 2 (some .int) 0 [.ref (ztL Z), .int (nI k)] b (some (.int (lowF k))) (b) := by
  refine con_i (by decide) (Nat.le_of_ble_eq_true rfl) rfl (fun X hX hq => ?_)
  have hX : Ok Z X cX5_at 2 RX5 0 := hX
  show G Z X b 0 [some (.ref (ztL Z)), some (.int (nI k))] []
  refine g_iload_1 hX dX5_at_0 ?_
  refine g_if_lt hX 16 dX5_at_1 (by decide) (fun c1 => ?_) (fun c1 => ?_)
  · exact absurd c1 (nI_pos (by omega))
  · refine g_iload_1 hX dX5_at_4 ?_
    refine g_aload_0 hX dX5_at_5 ?_
    refine g_slenL hX dX5_at_6 ?_
    refine g_icmp_ge hX 16 dX5_at_7 (by decide) (fun c7 => ?_) (fun c7 => ?_)
    · exact absurd c7 (not_not_intro (nI_lt hk (by decide)))
    · refine g_aload_0 hX dX5_at_10 ?_
      refine g_iload_1 hX dX5_at_11 ?_
      refine g_sldL hX (vin hk (by decide)) dX5_at_12 ?_
      refine g_goto hX 17 dX5_at_13 (by decide) ?_
      exact hq _ _ _ _ dX5_at_17 (by rfl) (by rw [nI_clamp (by omega)])
set_option maxRecDepth 100000 in
set_option maxHeartbeats 4000000 in
theorem c_X5_at_hig {Z : Zt} {b : Mem} {k : Nat} (hk : k < 7) : Con Z yX5_at cX5_at 2 (some .int) 0 [.ref (ztH Z), .int (nI k)] b (some (.int (higF k))) (b) := by
  refine con_i (by decide) (Nat.le_of_ble_eq_true rfl) rfl (fun X hX hq => ?_)
  have hX : Ok Z X cX5_at 2 RX5 0 := hX
  show G Z X b 0 [some (.ref (ztH Z)), some (.int (nI k))] []
  refine g_iload_1 hX dX5_at_0 ?_
  refine g_if_lt hX 16 dX5_at_1 (by decide) (fun c1 => ?_) (fun c1 => ?_)
  · exact absurd c1 (nI_pos (by omega))
  · refine g_iload_1 hX dX5_at_4 ?_
    refine g_aload_0 hX dX5_at_5 ?_
    refine g_slenH hX dX5_at_6 ?_
    refine g_icmp_ge hX 16 dX5_at_7 (by decide) (fun c7 => ?_) (fun c7 => ?_)
    · exact absurd c7 (not_not_intro (nI_lt hk (by decide)))
    · refine g_aload_0 hX dX5_at_10 ?_
      refine g_iload_1 hX dX5_at_11 ?_
      refine g_sldH hX (vin hk (by decide)) dX5_at_12 ?_
      refine g_goto hX 17 dX5_at_13 (by decide) ?_
      exact hq _ _ _ _ dX5_at_17 (by rfl) (by rw [nI_clamp (by omega)])
