/-! SnakedBus$Bus: what it answers, what it changes -/
theorem Val.l6 {v : View} (h : Val v) {l : Nat} (hl : l < nl v) : l < 6 := by have := h.1.2; omega
theorem Val.p6 {v : View} (h : Val v) {l : Nat} (hl : l < np v) : l < 6 := by have := h.2.1.2; omega
theorem Val.runs {v : View} (h : Val v) {l : Nat} (hl : l < nl v) : v 0 l 0 = nI (rn v l) := (h.2.2.1 l hl).1
theorem Val.r8 {v : View} (h : Val v) {l : Nat} (hl : l < nl v) : rn v l ≤ 8 := (h.2.2.1 l hl).2.2.1
theorem Val.r1 {v : View} (h : Val v) {l : Nat} (hl : l < nl v) : 1 ≤ rn v l := (h.2.2.1 l hl).2.1
theorem not_lt1 {x : Int32} (h : ¬ x < 1) : ¬ x = 0 := by rintro rfl; exact h (by decide)
theorem lt_trans32 {x y z : Int32} (h : x < y) (h2 : y < z) : x < z := Int32.lt_trans h h2
theorem in_of {x : Int32} {n : Nat} (h0 : ¬ x < 0) (h : x < nI n) (hn : n < 2 ^ 31) : ∃ k, k < n ∧ x = nI k := by
  obtain ⟨j, hj, rfl⟩ := nI_of h0
  exact ⟨j, (nI_ltI hj hn).mp h, rfl⟩
theorem in_of6 {x : Int32} {n : Nat} (h0 : ¬ x < 0) (h : ¬ nI n < x) (hn : n + 1 < 2 ^ 31) : ∃ k, k < n + 1 ∧ x = nI k := by
  obtain ⟨j, hj, rfl⟩ := nI_of h0
  refine ⟨j, ?_, rfl⟩
  rcases Nat.lt_or_ge n j with q | q
  · exact absurd (nI_lt q hj) h
  · omega
theorem two_mul_ne {x : Int32} (h : ¬ x < 1) (h2 : ¬ 4 < x) : ¬ 2 * x = 0 := by
  obtain ⟨j, hj, rfl⟩ := nI_of (x := x) (fun q => h (Int32.lt_trans q (by decide)))
  have h3 : j ≤ 4 := by
    rcases Nat.lt_or_ge 4 j with q | q
    · exact absurd (nI_lt q hj) h2
    · exact q
  have h1 : 1 ≤ j := by
    rcases Nat.lt_or_ge j 1 with q | q
    · exact absurd (nI_lt q (by decide)) h
    · exact q
  rw [show (2 : Int32) = nI 2 from rfl, pk_mul]
  exact nI_ne0 (by omega) (by omega)
set_option maxRecDepth 100000 in
set_option maxHeartbeats 4000000 in
theorem c_X0_lineCount {Z : Zt} {b : Mem} {o : Nat} (h_o : isBus Z o)  : Con Z yX0_lineCount cX0_lineCount 1 (some .int) 0 [.ref (zad Z o)] b (some (.int (b o 6))) (b) := by
  refine con_i (by decide) (Nat.le_of_ble_eq_true rfl) rfl (fun X hX hq => ?_)
  have hX : Ok Z X cX0_lineCount 1 RX0 0 := hX
  show G Z X b 0 [some (.ref (zad Z o))] []
  refine g_aload_0 hX dX0_lineCount_0 ?_
  refine gt_X0_lines hX h_o dX0_lineCount_1 ?_
  exact hq _ _ _ _ dX0_lineCount_4 (by rfl) (by rfl)
set_option maxRecDepth 100000 in
set_option maxHeartbeats 4000000 in
theorem c_X0_pocketCount {Z : Zt} {b : Mem} {o : Nat} (h_o : isBus Z o)  : Con Z yX0_pocketCount cX0_pocketCount 1 (some .int) 0 [.ref (zad Z o)] b (some (.int (b o 7))) (b) := by
  refine con_i (by decide) (Nat.le_of_ble_eq_true rfl) rfl (fun X hX hq => ?_)
  have hX : Ok Z X cX0_pocketCount 1 RX0 0 := hX
  show G Z X b 0 [some (.ref (zad Z o))] []
  refine g_aload_0 hX dX0_pocketCount_0 ?_
  refine gt_X0_pockets hX h_o dX0_pocketCount_1 ?_
  exact hq _ _ _ _ dX0_pocketCount_4 (by rfl) (by rfl)
set_option maxRecDepth 100000 in
set_option maxHeartbeats 4000000 in
theorem c_X0_hasLine {Z : Zt} {b : Mem} {o : Nat} (h_o : isBus Z o) {l : Int32} : Con Z yX0_hasLine cX0_hasLine 2 (some .boolean) 0 [.ref (zad Z o), .int l] b (some (.int (bI (¬ l < 0 ∧ l < b o 6)))) (b) := by
  refine con_z (by decide) (Nat.le_of_ble_eq_true rfl) rfl (bI_n _) (fun X hX hq => ?_)
  have hX : Ok Z X cX0_hasLine 2 RX0 0 := hX
  show G Z X b 0 [some (.ref (zad Z o)), some (.int l)] []
  refine g_iload_1 hX dX0_hasLine_0 ?_
  refine g_if_lt hX 16 dX0_hasLine_1 (by decide) (fun c1 => ?_) (fun c1 => ?_)
  · refine g_iconst hX 0 dX0_hasLine_16 (by decide) ?_
    exact hq _ _ _ _ dX0_hasLine_17 (by rfl) (by simp [bI, *])
  · refine g_iload_1 hX dX0_hasLine_4 ?_
    refine g_aload_0 hX dX0_hasLine_5 ?_
    refine gt_X0_lines hX h_o dX0_hasLine_6 ?_
    refine g_icmp_ge hX 16 dX0_hasLine_9 (by decide) (fun c9 => ?_) (fun c9 => ?_)
    · refine g_iconst hX 0 dX0_hasLine_16 (by decide) ?_
      exact hq _ _ _ _ dX0_hasLine_17 (by rfl) (by simp [bI, *])
    · refine g_iconst hX 1 dX0_hasLine_12 (by decide) ?_
      refine g_goto hX 17 dX0_hasLine_13 (by decide) ?_
      exact hq _ _ _ _ dX0_hasLine_17 (by rfl) (by simp [bI, *])
set_option maxRecDepth 100000 in
set_option maxHeartbeats 4000000 in
theorem c_X0_hasPocket {Z : Zt} {b : Mem} {o : Nat} (h_o : isBus Z o) {l : Int32} : Con Z yX0_hasPocket cX0_hasPocket 2 (some .boolean) 0 [.ref (zad Z o), .int l] b (some (.int (bI (¬ l < 0 ∧ l < b o 7)))) (b) := by
  refine con_z (by decide) (Nat.le_of_ble_eq_true rfl) rfl (bI_n _) (fun X hX hq => ?_)
  have hX : Ok Z X cX0_hasPocket 2 RX0 0 := hX
  show G Z X b 0 [some (.ref (zad Z o)), some (.int l)] []
  refine g_iload_1 hX dX0_hasPocket_0 ?_
  refine g_if_lt hX 16 dX0_hasPocket_1 (by decide) (fun c1 => ?_) (fun c1 => ?_)
  · refine g_iconst hX 0 dX0_hasPocket_16 (by decide) ?_
    exact hq _ _ _ _ dX0_hasPocket_17 (by rfl) (by simp [bI, *])
  · refine g_iload_1 hX dX0_hasPocket_4 ?_
    refine g_aload_0 hX dX0_hasPocket_5 ?_
    refine gt_X0_pockets hX h_o dX0_hasPocket_6 ?_
    refine g_icmp_ge hX 16 dX0_hasPocket_9 (by decide) (fun c9 => ?_) (fun c9 => ?_)
    · refine g_iconst hX 0 dX0_hasPocket_16 (by decide) ?_
      exact hq _ _ _ _ dX0_hasPocket_17 (by rfl) (by simp [bI, *])
    · refine g_iconst hX 1 dX0_hasPocket_12 (by decide) ?_
      refine g_goto hX 17 dX0_hasPocket_13 (by decide) ?_
      exact hq _ _ _ _ dX0_hasPocket_17 (by rfl) (by simp [bI, *])
set_option maxRecDepth 100000 in
set_option maxHeartbeats 4000000 in
theorem c_X0_settingAt {Z : Zt} {b : Mem} {o : Nat} (h_o : isBus Z o) {k : Nat} (hk : k < 7) : Con Z yX0_settingAt cX0_settingAt 2 (some .int) 1 [.ref (zad Z o), .int (nI k)] b (some (.int (b (o + 6) k))) (b) := by
  refine con_i (by decide) (Nat.le_of_ble_eq_true rfl) rfl (fun X hX hq => ?_)
  have hX : Ok Z X cX0_settingAt 2 RX0 1 := hX
  show G Z X b 0 [some (.ref (zad Z o)), some (.int (nI k))] []
  refine g_aload_0 hX dX0_settingAt_0 ?_
  refine gt_X0_chosen hX h_o dX0_settingAt_1 ?_
  refine g_iload_1 hX dX0_settingAt_4 ?_
  refine g_cN2r hX mkX5_at nl_X0_70 (c_X5_at h_o.2.2.2.2.2.2.2 hk (by decide)) dX0_settingAt_5 rfl (by decide) (Nat.le_of_ble_eq_true rfl) ?_
  exact hq _ _ _ _ dX0_settingAt_8 (by rfl) (by rfl)
set_option maxRecDepth 100000 in
set_option maxHeartbeats 4000000 in
theorem c_X0_runsOf {Z : Zt} {b : Mem} {o : Nat} (h_o : isBus Z o) {k : Nat} (hk : k < 6) : Con Z yX0_runsOf cX0_runsOf 2 (some .int) 1 [.ref (zad Z o), .int (nI k)] b (some (.int (b (o + 1) k))) (b) := by
  refine con_i (by decide) (Nat.le_of_ble_eq_true rfl) rfl (fun X hX hq => ?_)
  have hX : Ok Z X cX0_runsOf 2 RX0 1 := hX
  show G Z X b 0 [some (.ref (zad Z o)), some (.int (nI k))] []
  refine g_aload_0 hX dX0_runsOf_0 ?_
  refine gt_X0_runs hX h_o dX0_runsOf_1 ?_
  refine g_iload_1 hX dX0_runsOf_4 ?_
  refine g_cN2r hX mkX5_at nl_X0_70 (c_X5_at h_o.2.2.1 hk (by decide)) dX0_runsOf_5 rfl (by decide) (Nat.le_of_ble_eq_true rfl) ?_
  exact hq _ _ _ _ dX0_runsOf_8 (by rfl) (by rfl)
set_option maxRecDepth 100000 in
set_option maxHeartbeats 4000000 in
theorem c_X0_wideOf {Z : Zt} {b : Mem} {o : Nat} (h_o : isBus Z o) {k : Nat} (hk : k < 6) : Con Z yX0_wideOf cX0_wideOf 2 (some .int) 1 [.ref (zad Z o), .int (nI k)] b (some (.int (b (o + 4) k))) (b) := by
  refine con_i (by decide) (Nat.le_of_ble_eq_true rfl) rfl (fun X hX hq => ?_)
  have hX : Ok Z X cX0_wideOf 2 RX0 1 := hX
  show G Z X b 0 [some (.ref (zad Z o)), some (.int (nI k))] []
  refine g_aload_0 hX dX0_wideOf_0 ?_
  refine gt_X0_wides hX h_o dX0_wideOf_1 ?_
  refine g_iload_1 hX dX0_wideOf_4 ?_
  refine g_cN2r hX mkX5_at nl_X0_70 (c_X5_at h_o.2.2.2.2.2.1 hk (by decide)) dX0_wideOf_5 rfl (by decide) (Nat.le_of_ble_eq_true rfl) ?_
  exact hq _ _ _ _ dX0_wideOf_8 (by rfl) (by rfl)
set_option maxRecDepth 100000 in
set_option maxHeartbeats 4000000 in
theorem c_X0_longOf {Z : Zt} {b : Mem} {o : Nat} (h_o : isBus Z o) {l k : Nat} (hl : l < 6) (hk : k < 8) : Con Z yX0_longOf cX0_longOf 3 (some .int) 1 [.ref (zad Z o), .int (nI l), .int (nI k)] b (some (.int (b (o + 2) (l * 8 + k)))) (b) := by
  refine con_i (by decide) (Nat.le_of_ble_eq_true rfl) rfl (fun X hX hq => ?_)
  have hX : Ok Z X cX0_longOf 3 RX0 1 := hX
  show G Z X b 0 [some (.ref (zad Z o)), some (.int (nI l)), some (.int (nI k))] []
  refine g_aload_0 hX dX0_longOf_0 ?_
  refine gt_X0_longs hX h_o dX0_longOf_1 ?_
  refine g_iload_1 hX dX0_longOf_4 ?_
  refine g_iload_2 hX dX0_longOf_5 ?_
  refine g_bipush hX 8 dX0_longOf_6 (by decide) ?_
  refine g_cN3r hX mkX5_cell nl_X0_52 (c_X5_cell (w := 8) hk (by decide)) dX0_longOf_8 rfl (by decide) (Nat.le_of_ble_eq_true rfl) ?_
  refine g_cN2r hX mkX5_at nl_X0_70 (c_X5_at h_o.2.2.2.1 (by omega) (by decide)) dX0_longOf_11 rfl (by decide) (Nat.le_of_ble_eq_true rfl) ?_
  exact hq _ _ _ _ dX0_longOf_14 (by rfl) (by rfl)
set_option maxRecDepth 100000 in
set_option maxHeartbeats 4000000 in
theorem c_X0_turnAhead {Z : Zt} {b : Mem} {o : Nat} (h_o : isBus Z o) {l k : Nat} (hl : l < 6) (hk : k < 8) : Con Z yX0_turnAhead cX0_turnAhead 3 (some .int) 1 [.ref (zad Z o), .int (nI l), .int (nI k)] b (some (.int (b (o + 3) (l * 8 + k)))) (b) := by
  refine con_i (by decide) (Nat.le_of_ble_eq_true rfl) rfl (fun X hX hq => ?_)
  have hX : Ok Z X cX0_turnAhead 3 RX0 1 := hX
  show G Z X b 0 [some (.ref (zad Z o)), some (.int (nI l)), some (.int (nI k))] []
  refine g_aload_0 hX dX0_turnAhead_0 ?_
  refine gt_X0_turns hX h_o dX0_turnAhead_1 ?_
  refine g_iload_1 hX dX0_turnAhead_4 ?_
  refine g_iload_2 hX dX0_turnAhead_5 ?_
  refine g_bipush hX 8 dX0_turnAhead_6 (by decide) ?_
  refine g_cN3r hX mkX5_cell nl_X0_52 (c_X5_cell (w := 8) hk (by decide)) dX0_turnAhead_8 rfl (by decide) (Nat.le_of_ble_eq_true rfl) ?_
  refine g_cN2r hX mkX5_at nl_X0_70 (c_X5_at h_o.2.2.2.2.1 (by omega) (by decide)) dX0_turnAhead_11 rfl (by decide) (Nat.le_of_ble_eq_true rfl) ?_
  exact hq _ _ _ _ dX0_turnAhead_14 (by rfl) (by rfl)
set_option maxRecDepth 100000 in
set_option maxHeartbeats 4000000 in
theorem c_X0_hasRun {Z : Zt} {b : Mem} {o : Nat} (h_o : isBus Z o) {l i : Int32} (hV : Val (cv b o))  : Con Z yX0_hasRun cX0_hasRun 3 (some .boolean) 2 [.ref (zad Z o), .int l, .int i] b (some (.int (bI (¬ l < 0 ∧ l < b o 6 ∧ ¬ i < 0 ∧ i < b (o + 1) l.toNatClampNeg)))) (b) := by
  refine con_z (by decide) (Nat.le_of_ble_eq_true rfl) rfl (bI_n _) (fun X hX hq => ?_)
  have hX : Ok Z X cX0_hasRun 3 RX0 2 := hX
  show G Z X b 0 [some (.ref (zad Z o)), some (.int l), some (.int i)] []
  refine g_aload_0 hX dX0_hasRun_0 ?_
  refine g_iload_1 hX dX0_hasRun_1 ?_
  refine g_cV1r hX mkX0_hasLine ml_X0_56 (c_X0_hasLine h_o) (h_o.obj _) dX0_hasRun_2 rfl (by decide) (Nat.le_of_ble_eq_true rfl) ?_
  refine g_if_eq hX 25 dX0_hasRun_5 (by decide) (fun c5 => ?_) (fun c5 => ?_)
  · replace c5 := bI_z.mp c5
    refine g_iconst hX 0 dX0_hasRun_25 (by decide) ?_
    exact hq _ _ _ _ dX0_hasRun_26 (by rfl) (by clear hq hX; unfold bI; split <;> simp_all)
  · replace c5 := bI_nz.mp c5
    obtain ⟨j, hj, rfl⟩ := in_of c5.1 (by have := c5.2; rw [show b o 6 = nI (nl (cv b o)) from hV.1.1] at this; exact this) (by have := hV.1.2; omega)
    rw [nI_clamp (by have := hV.1.2; omega)] at hq
    refine g_iload_2 hX dX0_hasRun_8 ?_
    refine g_if_lt hX 25 dX0_hasRun_9 (by decide) (fun c9 => ?_) (fun c9 => ?_)
    · refine g_iconst hX 0 dX0_hasRun_25 (by decide) ?_
      exact hq _ _ _ _ dX0_hasRun_26 (by rfl) (by clear hq hX; unfold bI; split <;> simp_all)
    · refine g_iload_2 hX dX0_hasRun_12 ?_
      refine g_aload_0 hX dX0_hasRun_13 ?_
      refine g_iload_1 hX dX0_hasRun_14 ?_
      refine g_cV1r hX mkX0_runsOf ml_X0_60 (c_X0_runsOf h_o (hV.l6 hj)) (h_o.obj _) dX0_hasRun_15 rfl (by decide) (Nat.le_of_ble_eq_true rfl) ?_
      refine g_icmp_ge hX 25 dX0_hasRun_18 (by decide) (fun c18 => ?_) (fun c18 => ?_)
      · refine g_iconst hX 0 dX0_hasRun_25 (by decide) ?_
        exact hq _ _ _ _ dX0_hasRun_26 (by rfl) (by clear hq hX; unfold bI; split <;> simp_all)
      · refine g_iconst hX 1 dX0_hasRun_21 (by decide) ?_
        refine g_goto hX 26 dX0_hasRun_22 (by decide) ?_
        exact hq _ _ _ _ dX0_hasRun_26 (by rfl) (by clear hq hX; unfold bI; split <;> simp_all)
set_option maxRecDepth 100000 in
set_option maxHeartbeats 4000000 in
theorem c_X0_bumpRoom {Z : Zt} {b : Mem} {o : Nat} (h_o : isBus Z o) {l k : Nat} (hl : l < 6) (hk : k < 8) (hn : ¬ b (o + 6) 6 < 1) : Con Z yX0_bumpRoom cX0_bumpRoom 4 (some .int) 2 [.ref (zad Z o), .int (nI l), .int (nI k)] b (some (.int (roomS (cv b o) l k))) (b) := by
  refine con_i (by decide) (Nat.le_of_ble_eq_true rfl) rfl (fun X hX hq => ?_)
  have hX : Ok Z X cX0_bumpRoom 4 RX0 2 := hX
  show G Z X b 0 [some (.ref (zad Z o)), some (.int (nI l)), some (.int (nI k)), none] []
  refine g_aload_0 hX dX0_bumpRoom_0 ?_
  refine gt_X0_chosen hX h_o dX0_bumpRoom_1 ?_
  refine g_bipush hX 6 dX0_bumpRoom_4 (by decide) ?_
  refine g_cN2r hX mkX5_at nl_X0_70 (c_X5_at (k := 6) h_o.2.2.2.2.2.2.2 (by decide) (by decide)) dX0_bumpRoom_6 rfl (by decide) (Nat.le_of_ble_eq_true rfl) ?_
  refine g_istore_3 hX dX0_bumpRoom_9 rfl ?_
  refine g_iload_3 hX dX0_bumpRoom_10 ?_
  refine g_iconst hX 1 dX0_bumpRoom_11 (by decide) ?_
  refine g_icmp_ge hX 19 dX0_bumpRoom_12 (by decide) (fun c12 => ?_) (fun c12 => ?_)
  · refine g_aload_0 hX dX0_bumpRoom_19 ?_
    refine g_iload_1 hX dX0_bumpRoom_20 ?_
    refine g_iload_2 hX dX0_bumpRoom_21 ?_
    refine g_cV2r hX mkX0_longOf ml_X0_80 (c_X0_longOf h_o hl hk) (h_o.obj _) dX0_bumpRoom_22 rfl (by decide) (Nat.le_of_ble_eq_true rfl) ?_
    refine g_iload_3 hX dX0_bumpRoom_25 ?_
    refine g_idiv hX dX0_bumpRoom_26 (not_lt1 hn) ?_
    exact hq _ _ _ _ dX0_bumpRoom_27 (by rfl) (by rfl)
  · exact absurd c12 (hn)
set_option maxRecDepth 100000 in
set_option maxHeartbeats 4000000 in
theorem c_X0_turnsOf {Z : Zt} {b : Mem} {o : Nat} (h_o : isBus Z o) {l : Nat} {sd : Int32} (hV : Val (cv b o)) (hl : l < nl (cv b o)) : Con Z yX0_turnsOf cX0_turnsOf 5 (some .int) 2 [.ref (zad Z o), .int (nI l), .int sd] b (some (.int (turnsS (cv b o) l sd))) (b) := by
  have hr : b (o + 1) l = nI (rn (cv b o) l) := hV.runs hl
  have hr8 := hV.r8 hl
  have hr1 := hV.r1 hl
  have hl6 := hV.l6 hl
  refine con_i (by decide) (Nat.le_of_ble_eq_true rfl) rfl (fun X hX hq => ?_)
  have hX : Ok Z X cX0_turnsOf 5 RX0 2 := hX
  show G Z X b 0 [some (.ref (zad Z o)), some (.int (nI l)), some (.int sd), none, none] []
  refine g_iconst hX 0 dX0_turnsOf_0 (by decide) ?_
  refine g_istore_3 hX dX0_turnsOf_1 rfl ?_
  refine g_iconst hX 1 dX0_turnsOf_2 (by decide) ?_
  refine g_istore_4 hX dX0_turnsOf_3 rfl ?_
  refine g_loop (rn (cv b o) l - 1) (fun k => b) (fun k => [some (.ref (zad Z o)), some (.int (nI l)), some (.int sd), some (.int (cntI (fun i => cv b o 2 l (i + 1) = sd) k)), some (.int (nI (k + 1)))]) rfl rfl (fun k hk5 ih5 => ?_) ?_
  · show G Z X (b) 5 ([some (.ref (zad Z o)), some (.int (nI l)), some (.int sd), some (.int (cntI (fun i => cv b o 2 l (i + 1) = sd) k)), some (.int (nI (k + 1)))]) _
    refine g_iload_4 hX dX0_turnsOf_5 ?_
    refine g_aload_0 hX dX0_turnsOf_7 ?_
    refine g_iload_1 hX dX0_turnsOf_8 ?_
    refine g_cV1r hX mkX0_runsOf ml_X0_60 (c_X0_runsOf h_o hl6) (h_o.obj _) dX0_turnsOf_9 rfl (by decide) (Nat.le_of_ble_eq_true rfl) ?_
    refine g_icmp_ge hX 35 dX0_turnsOf_12 (by decide) (fun c12 => ?_) (fun c12 => ?_)
    · exact absurd c12 (not_not_intro (by rw [hr]; exact nI_lt (by omega) (by omega)))
    · refine g_aload_0 hX dX0_turnsOf_15 ?_
      refine g_iload_1 hX dX0_turnsOf_16 ?_
      refine g_iload_4 hX dX0_turnsOf_17 ?_
      refine g_cV2r hX mkX0_turnAhead ml_X0_84 (c_X0_turnAhead h_o hl6 (by omega)) (h_o.obj _) dX0_turnsOf_19 rfl (by decide) (Nat.le_of_ble_eq_true rfl) ?_
      refine g_iload_2 hX dX0_turnsOf_22 ?_
      refine g_icmp_ne hX 29 dX0_turnsOf_23 (by decide) (fun c23 => ?_) (fun c23 => ?_)
      · refine g_iinc_4 hX 1 dX0_turnsOf_29 (by decide) rfl ?_
        refine g_goto hX 5 dX0_turnsOf_32 (by decide) ?_
        exact g_cast ih5 rfl (by first | (simp only [nI_succ, cntI, if_pos (show cv b o 2 l (k + 1) = sd from c23)]) | (simp only [nI_succ, cntI, if_neg (show ¬ cv b o 2 l (k + 1) = sd from c23)])) rfl
      · refine g_iinc_3 hX 1 dX0_turnsOf_26 (by decide) rfl ?_
        refine g_iinc_4 hX 1 dX0_turnsOf_29 (by decide) rfl ?_
        refine g_goto hX 5 dX0_turnsOf_32 (by decide) ?_
        exact g_cast ih5 rfl (by first | (simp only [nI_succ, cntI, if_pos (show cv b o 2 l (k + 1) = sd from c23)]) | (simp only [nI_succ, cntI, if_neg (show ¬ cv b o 2 l (k + 1) = sd from c23)])) rfl
  · show G Z X (b) 5 ([some (.ref (zad Z o)), some (.int (nI l)), some (.int sd), some (.int (cntI (fun i => cv b o 2 l (i + 1) = sd) (rn (cv b o) l - 1))), some (.int (nI ((rn (cv b o) l - 1) + 1)))]) _
    refine g_iload_4 hX dX0_turnsOf_5 ?_
    refine g_aload_0 hX dX0_turnsOf_7 ?_
    refine g_iload_1 hX dX0_turnsOf_8 ?_
    refine g_cV1r hX mkX0_runsOf ml_X0_60 (c_X0_runsOf h_o hl6) (h_o.obj _) dX0_turnsOf_9 rfl (by decide) (Nat.le_of_ble_eq_true rfl) ?_
    refine g_icmp_ge hX 35 dX0_turnsOf_12 (by decide) (fun c12 => ?_) (fun c12 => ?_)
    · refine g_iload_3 hX dX0_turnsOf_35 ?_
      exact hq _ _ _ _ dX0_turnsOf_36 (by rfl) (by rfl)
    · exact absurd c12 (by rw [hr, Nat.sub_add_cancel hr1]; exact Int32.lt_irrefl)
set_option maxRecDepth 100000 in
set_option maxHeartbeats 4000000 in
theorem c_X0_plainSkew {Z : Zt} {b : Mem} {o : Nat} (h_o : isBus Z o) {l m : Nat} (hV : Val (cv b o)) (hl : l < nl (cv b o)) (hm : m < rn (cv b o) l) : Con Z yX0_plainSkew cX0_plainSkew 5 (some .int) 2 [.ref (zad Z o), .int (nI l), .int (nI m)] b (some (.int (skewS (cv b o) l m))) (b) := by
  have hr : b (o + 1) l = nI (rn (cv b o) l) := hV.runs hl
  have hr8 := hV.r8 hl
  have hr1 := hV.r1 hl
  have hl6 := hV.l6 hl
  refine con_i (by decide) (Nat.le_of_ble_eq_true rfl) rfl (fun X hX hq => ?_)
  have hX : Ok Z X cX0_plainSkew 5 RX0 2 := hX
  show G Z X b 0 [some (.ref (zad Z o)), some (.int (nI l)), some (.int (nI m)), none, none] []
  refine g_iconst hX 0 dX0_plainSkew_0 (by decide) ?_
  refine g_istore_3 hX dX0_plainSkew_1 rfl ?_
  refine g_iconst hX 1 dX0_plainSkew_2 (by decide) ?_
  refine g_istore_4 hX dX0_plainSkew_3 rfl ?_
  refine g_loop (m) (fun k => b) (fun k => [some (.ref (zad Z o)), some (.int (nI l)), some (.int (nI m)), some (.int (sumI (fun i => if cv b o 2 l (i + 1) = 1 then 2 else -2) k)), some (.int (nI (k + 1)))]) rfl rfl (fun k hk5 ih5 => ?_) ?_
  · show G Z X (b) 5 ([some (.ref (zad Z o)), some (.int (nI l)), some (.int (nI m)), some (.int (sumI (fun i => if cv b o 2 l (i + 1) = 1 then 2 else -2) k)), some (.int (nI (k + 1)))]) _
    refine g_iload_4 hX dX0_plainSkew_5 ?_
    refine g_iload_2 hX dX0_plainSkew_7 ?_
    refine g_icmp_gt hX 47 dX0_plainSkew_8 (by decide) (fun c8 => ?_) (fun c8 => ?_)
    · exact absurd c8 (nI_nlt (by omega) (by omega))
    · refine g_iload_4 hX dX0_plainSkew_11 ?_
      refine g_aload_0 hX dX0_plainSkew_13 ?_
      refine g_iload_1 hX dX0_plainSkew_14 ?_
      refine g_cV1r hX mkX0_runsOf ml_X0_60 (c_X0_runsOf h_o hl6) (h_o.obj _) dX0_plainSkew_15 rfl (by decide) (Nat.le_of_ble_eq_true rfl) ?_
      refine g_icmp_ge hX 47 dX0_plainSkew_18 (by decide) (fun c18 => ?_) (fun c18 => ?_)
      · exact absurd c18 (not_not_intro (by rw [hr]; exact nI_lt (by omega) (by omega)))
      · refine g_iload_3 hX dX0_plainSkew_21 ?_
        refine g_aload_0 hX dX0_plainSkew_22 ?_
        refine g_iload_1 hX dX0_plainSkew_23 ?_
        refine g_iload_4 hX dX0_plainSkew_24 ?_
        refine g_cV2r hX mkX0_turnAhead ml_X0_84 (c_X0_turnAhead h_o hl6 (by omega)) (h_o.obj _) dX0_plainSkew_26 rfl (by decide) (Nat.le_of_ble_eq_true rfl) ?_
        refine g_iconst hX 1 dX0_plainSkew_29 (by decide) ?_
        refine g_icmp_ne hX 37 dX0_plainSkew_30 (by decide) (fun c30 => ?_) (fun c30 => ?_)
        · refine g_bipush hX (-2) dX0_plainSkew_37 (by decide) ?_
          refine g_iadd hX dX0_plainSkew_39 ?_
          refine g_istore_3 hX dX0_plainSkew_40 rfl ?_
          refine g_iinc_4 hX 1 dX0_plainSkew_41 (by decide) rfl ?_
          refine g_goto hX 5 dX0_plainSkew_44 (by decide) ?_
          exact g_cast ih5 rfl (by first | (simp only [nI_succ, sumI, if_pos (show cv b o 2 l (k + 1) = 1 from c30)]) | (simp only [nI_succ, sumI, if_neg (show ¬ cv b o 2 l (k + 1) = 1 from c30)])) rfl
        · refine g_iconst hX 2 dX0_plainSkew_33 (by decide) ?_
          refine g_goto hX 39 dX0_plainSkew_34 (by decide) ?_
          refine g_iadd hX dX0_plainSkew_39 ?_
          refine g_istore_3 hX dX0_plainSkew_40 rfl ?_
          refine g_iinc_4 hX 1 dX0_plainSkew_41 (by decide) rfl ?_
          refine g_goto hX 5 dX0_plainSkew_44 (by decide) ?_
          exact g_cast ih5 rfl (by first | (simp only [nI_succ, sumI, if_pos (show cv b o 2 l (k + 1) = 1 from c30)]) | (simp only [nI_succ, sumI, if_neg (show ¬ cv b o 2 l (k + 1) = 1 from c30)])) rfl
  · show G Z X (b) 5 ([some (.ref (zad Z o)), some (.int (nI l)), some (.int (nI m)), some (.int (sumI (fun i => if cv b o 2 l (i + 1) = 1 then 2 else -2) (m))), some (.int (nI ((m) + 1)))]) _
    refine g_iload_4 hX dX0_plainSkew_5 ?_
    refine g_iload_2 hX dX0_plainSkew_7 ?_
    refine g_icmp_gt hX 47 dX0_plainSkew_8 (by decide) (fun c8 => ?_) (fun c8 => ?_)
    · refine g_iload_3 hX dX0_plainSkew_47 ?_
      exact hq _ _ _ _ dX0_plainSkew_48 (by rfl) (by rfl)
    · exact absurd c8 (not_not_intro (nI_lt (by omega) (by omega)))
set_option maxRecDepth 100000 in
set_option maxHeartbeats 4000000 in
theorem c_X0_baseOf {Z : Zt} {b : Mem} {o : Nat} (h_o : isBus Z o) {l : Nat} (hV : Val (cv b o)) (hl : l < nl (cv b o)) : Con Z yX0_baseOf cX0_baseOf 4 (some .int) 2 [.ref (zad Z o), .int (nI l)] b (some (.int (baseS (cv b o) l))) (b) := by
  have hr : b (o + 1) l = nI (rn (cv b o) l) := hV.runs hl
  have hr8 := hV.r8 hl
  have hr1 := hV.r1 hl
  have hl6 := hV.l6 hl
  refine con_i (by decide) (Nat.le_of_ble_eq_true rfl) rfl (fun X hX hq => ?_)
  have hX : Ok Z X cX0_baseOf 4 RX0 2 := hX
  show G Z X b 0 [some (.ref (zad Z o)), some (.int (nI l)), none, none] []
  refine g_iconst hX 0 dX0_baseOf_0 (by decide) ?_
  refine g_istore_2 hX dX0_baseOf_1 rfl ?_
  refine g_iconst hX 0 dX0_baseOf_2 (by decide) ?_
  refine g_istore_3 hX dX0_baseOf_3 rfl ?_
  refine g_loop (rn (cv b o) l) (fun k => b) (fun k => [some (.ref (zad Z o)), some (.int (nI l)), some (.int (sumI (cv b o 1 l) k)), some (.int (nI k))]) rfl rfl (fun k hk4 ih4 => ?_) ?_
  · show G Z X (b) 4 ([some (.ref (zad Z o)), some (.int (nI l)), some (.int (sumI (cv b o 1 l) k)), some (.int (nI k))]) _
    refine g_iload_3 hX dX0_baseOf_4 ?_
    refine g_aload_0 hX dX0_baseOf_5 ?_
    refine g_iload_1 hX dX0_baseOf_6 ?_
    refine g_cV1r hX mkX0_runsOf ml_X0_60 (c_X0_runsOf h_o hl6) (h_o.obj _) dX0_baseOf_7 rfl (by decide) (Nat.le_of_ble_eq_true rfl) ?_
    refine g_icmp_ge hX 28 dX0_baseOf_10 (by decide) (fun c10 => ?_) (fun c10 => ?_)
    · exact absurd c10 (not_not_intro (by rw [hr]; exact nI_lt hk4 (by omega)))
    · refine g_iload_2 hX dX0_baseOf_13 ?_
      refine g_aload_0 hX dX0_baseOf_14 ?_
      refine g_iload_1 hX dX0_baseOf_15 ?_
      refine g_iload_3 hX dX0_baseOf_16 ?_
      refine g_cV2r hX mkX0_longOf ml_X0_80 (c_X0_longOf h_o hl6 (by omega)) (h_o.obj _) dX0_baseOf_17 rfl (by decide) (Nat.le_of_ble_eq_true rfl) ?_
      refine g_iadd hX dX0_baseOf_20 ?_
      refine g_istore_2 hX dX0_baseOf_21 rfl ?_
      refine g_iinc_3 hX 1 dX0_baseOf_22 (by decide) rfl ?_
      refine g_goto hX 4 dX0_baseOf_25 (by decide) ?_
      exact g_cast ih4 rfl (by simp only [nI_succ, sumI] <;> rfl) rfl
  · show G Z X (b) 4 ([some (.ref (zad Z o)), some (.int (nI l)), some (.int (sumI (cv b o 1 l) (rn (cv b o) l))), some (.int (nI (rn (cv b o) l)))]) _
    refine g_iload_3 hX dX0_baseOf_4 ?_
    refine g_aload_0 hX dX0_baseOf_5 ?_
    refine g_iload_1 hX dX0_baseOf_6 ?_
    refine g_cV1r hX mkX0_runsOf ml_X0_60 (c_X0_runsOf h_o hl6) (h_o.obj _) dX0_baseOf_7 rfl (by decide) (Nat.le_of_ble_eq_true rfl) ?_
    refine g_icmp_ge hX 28 dX0_baseOf_10 (by decide) (fun c10 => ?_) (fun c10 => ?_)
    · refine g_iconst hX 0 dX0_baseOf_28 (by decide) ?_
      refine g_iload_2 hX dX0_baseOf_29 ?_
      refine g_aload_0 hX dX0_baseOf_30 ?_
      refine gt_X0_chosen hX h_o dX0_baseOf_31 ?_
      refine g_iconst hX 2 dX0_baseOf_34 (by decide) ?_
      refine g_cN2r hX mkX5_at nl_X0_70 (c_X5_at (k := 2) h_o.2.2.2.2.2.2.2 (by decide) (by decide)) dX0_baseOf_35 rfl (by decide) (Nat.le_of_ble_eq_true rfl) ?_
      refine g_aload_0 hX dX0_baseOf_38 ?_
      refine g_iload_1 hX dX0_baseOf_39 ?_
      refine g_cV1r hX mkX0_runsOf ml_X0_60 (c_X0_runsOf h_o hl6) (h_o.obj _) dX0_baseOf_40 rfl (by decide) (Nat.le_of_ble_eq_true rfl) ?_
      refine g_iconst hX 1 dX0_baseOf_43 (by decide) ?_
      refine g_isub hX dX0_baseOf_44 ?_
      refine g_imul hX dX0_baseOf_45 ?_
      refine g_isub hX dX0_baseOf_46 ?_
      refine g_max hX ml_X0_87 mm_max_s mm_ini mm_max_c dX0_baseOf_47 rfl (by decide) (Nat.le_of_ble_eq_true rfl) ?_
      exact hq _ _ _ _ dX0_baseOf_50 (by rfl) (by rfl)
    · exact absurd c10 (by rw [hr]; exact Int32.lt_irrefl)
set_option maxRecDepth 100000 in
set_option maxHeartbeats 4000000 in
theorem c_X0_longestBase {Z : Zt} {b : Mem} {o : Nat} (h_o : isBus Z o) (hV : Val (cv b o))  : Con Z yX0_longestBase cX0_longestBase 3 (some .int) 3 [.ref (zad Z o)] b (some (.int (longestS (cv b o)))) (b) := by
  have hn : b o 6 = nI (nl (cv b o)) := hV.1.1
  have hn6 := hV.1.2
  refine con_i (by decide) (Nat.le_of_ble_eq_true rfl) rfl (fun X hX hq => ?_)
  have hX : Ok Z X cX0_longestBase 3 RX0 3 := hX
  show G Z X b 0 [some (.ref (zad Z o)), none, none] []
  refine g_iconst hX 0 dX0_longestBase_0 (by decide) ?_
  refine g_istore_1 hX dX0_longestBase_1 rfl ?_
  refine g_iconst hX 0 dX0_longestBase_2 (by decide) ?_
  refine g_istore_2 hX dX0_longestBase_3 rfl ?_
  refine g_loop (nl (cv b o)) (fun k => b) (fun k => [some (.ref (zad Z o)), some (.int (maxI (baseS (cv b o)) k)), some (.int (nI k))]) rfl rfl (fun k hk4 ih4 => ?_) ?_
  · show G Z X (b) 4 ([some (.ref (zad Z o)), some (.int (maxI (baseS (cv b o)) k)), some (.int (nI k))]) _
    refine g_iload_2 hX dX0_longestBase_4 ?_
    refine g_aload_0 hX dX0_longestBase_5 ?_
    refine gt_X0_lines hX h_o dX0_longestBase_6 ?_
    refine g_icmp_ge hX 28 dX0_longestBase_9 (by decide) (fun c9 => ?_) (fun c9 => ?_)
    · exact absurd c9 (not_not_intro (by rw [hn]; exact nI_lt hk4 (by omega)))
    · refine g_iload_1 hX dX0_longestBase_12 ?_
      refine g_aload_0 hX dX0_longestBase_13 ?_
      refine g_iload_2 hX dX0_longestBase_14 ?_
      refine g_cV1r hX mkX0_baseOf ml_X0_92 (c_X0_baseOf h_o hV hk4) (h_o.obj _) dX0_longestBase_15 rfl (by decide) (Nat.le_of_ble_eq_true rfl) ?_
      refine g_max hX ml_X0_87 mm_max_s mm_ini mm_max_c dX0_longestBase_18 rfl (by decide) (Nat.le_of_ble_eq_true rfl) ?_
      refine g_istore_1 hX dX0_longestBase_21 rfl ?_
      refine g_iinc_2 hX 1 dX0_longestBase_22 (by decide) rfl ?_
      refine g_goto hX 4 dX0_longestBase_25 (by decide) ?_
      exact g_cast ih4 rfl (by simp only [nI_succ, maxI]) rfl
  · show G Z X (b) 4 ([some (.ref (zad Z o)), some (.int (maxI (baseS (cv b o)) (nl (cv b o)))), some (.int (nI (nl (cv b o))))]) _
    refine g_iload_2 hX dX0_longestBase_4 ?_
    refine g_aload_0 hX dX0_longestBase_5 ?_
    refine gt_X0_lines hX h_o dX0_longestBase_6 ?_
    refine g_icmp_ge hX 28 dX0_longestBase_9 (by decide) (fun c9 => ?_) (fun c9 => ?_)
    · refine g_iload_1 hX dX0_longestBase_28 ?_
      exact hq _ _ _ _ dX0_longestBase_29 (by rfl) (by rfl)
    · exact absurd c9 (by rw [hn]; exact Int32.lt_irrefl)
set_option maxRecDepth 100000 in
set_option maxHeartbeats 4000000 in
theorem c_X0_lackFor {Z : Zt} {b : Mem} {o : Nat} (h_o : isBus Z o) {bs t : Int32} : Con Z yX0_lackFor cX0_lackFor 4 (some .int) 1 [.ref (zad Z o), .int bs, .int t] b (some (.int (lackS (cv b o) bs t))) (b) := by
  refine con_i (by decide) (Nat.le_of_ble_eq_true rfl) rfl (fun X hX hq => ?_)
  have hX : Ok Z X cX0_lackFor 4 RX0 1 := hX
  show G Z X b 0 [some (.ref (zad Z o)), some (.int bs), some (.int t), none] []
  refine g_iconst hX 0 dX0_lackFor_0 (by decide) ?_
  refine g_iload_2 hX dX0_lackFor_1 ?_
  refine g_aload_0 hX dX0_lackFor_2 ?_
  refine gt_X0_chosen hX h_o dX0_lackFor_3 ?_
  refine g_iconst hX 3 dX0_lackFor_6 (by decide) ?_
  refine g_cN2r hX mkX5_at nl_X0_70 (c_X5_at (k := 3) h_o.2.2.2.2.2.2.2 (by decide) (by decide)) dX0_lackFor_7 rfl (by decide) (Nat.le_of_ble_eq_true rfl) ?_
  refine g_isub hX dX0_lackFor_10 ?_
  refine g_iload_1 hX dX0_lackFor_11 ?_
  refine g_isub hX dX0_lackFor_12 ?_
  refine g_max hX ml_X0_87 mm_max_s mm_ini mm_max_c dX0_lackFor_13 rfl (by decide) (Nat.le_of_ble_eq_true rfl) ?_
  refine g_istore_3 hX dX0_lackFor_16 rfl ?_
  refine g_iload_3 hX dX0_lackFor_17 ?_
  refine g_iload_3 hX dX0_lackFor_18 ?_
  refine g_iconst hX 1 dX0_lackFor_19 (by decide) ?_
  refine g_iand hX dX0_lackFor_20 ?_
  refine g_iadd hX dX0_lackFor_21 ?_
  exact hq _ _ _ _ dX0_lackFor_22 (by rfl) (by rfl)
set_option maxRecDepth 100000 in
set_option maxHeartbeats 4000000 in
theorem c_X0_gain {Z : Zt} {b : Mem} {o : Nat} (h_o : isBus Z o)  : Con Z yX0_gain cX0_gain 1 (some .int) 1 [.ref (zad Z o)] b (some (.int (gainS (cv b o)))) (b) := by
  refine con_i (by decide) (Nat.le_of_ble_eq_true rfl) rfl (fun X hX hq => ?_)
  have hX : Ok Z X cX0_gain 1 RX0 1 := hX
  show G Z X b 0 [some (.ref (zad Z o))] []
  refine g_iconst hX 2 dX0_gain_0 (by decide) ?_
  refine g_aload_0 hX dX0_gain_1 ?_
  refine gt_X0_chosen hX h_o dX0_gain_2 ?_
  refine g_iconst hX 0 dX0_gain_5 (by decide) ?_
  refine g_cN2r hX mkX5_at nl_X0_70 (c_X5_at (k := 0) h_o.2.2.2.2.2.2.2 (by decide) (by decide)) dX0_gain_6 rfl (by decide) (Nat.le_of_ble_eq_true rfl) ?_
  refine g_aload_0 hX dX0_gain_9 ?_
  refine gt_X0_chosen hX h_o dX0_gain_10 ?_
  refine g_iconst hX 1 dX0_gain_13 (by decide) ?_
  refine g_cN2r hX mkX5_at nl_X0_70 (c_X5_at (k := 1) h_o.2.2.2.2.2.2.2 (by decide) (by decide)) dX0_gain_14 rfl (by decide) (Nat.le_of_ble_eq_true rfl) ?_
  refine g_isub hX dX0_gain_17 ?_
  refine g_imul hX dX0_gain_18 ?_
  refine g_iconst hX 4 dX0_gain_19 (by decide) ?_
  refine g_aload_0 hX dX0_gain_20 ?_
  refine gt_X0_chosen hX h_o dX0_gain_21 ?_
  refine g_iconst hX 2 dX0_gain_24 (by decide) ?_
  refine g_cN2r hX mkX5_at nl_X0_70 (c_X5_at (k := 2) h_o.2.2.2.2.2.2.2 (by decide) (by decide)) dX0_gain_25 rfl (by decide) (Nat.le_of_ble_eq_true rfl) ?_
  refine g_imul hX dX0_gain_28 ?_
  refine g_isub hX dX0_gain_29 ?_
  exact hq _ _ _ _ dX0_gain_30 (by rfl) (by rfl)
set_option maxRecDepth 100000 in
set_option maxHeartbeats 4000000 in
theorem c_X0_needFor {Z : Zt} {b : Mem} {o : Nat} (h_o : isBus Z o) {bs t : Int32} : Con Z yX0_needFor cX0_needFor 5 (some .int) 2 [.ref (zad Z o), .int bs, .int t] b (some (.int (needS (cv b o) bs t))) (b) := by
  refine con_i (by decide) (Nat.le_of_ble_eq_true rfl) rfl (fun X hX hq => ?_)
  have hX : Ok Z X cX0_needFor 5 RX0 2 := hX
  show G Z X b 0 [some (.ref (zad Z o)), some (.int bs), some (.int t), none, none] []
  refine g_aload_0 hX dX0_needFor_0 ?_
  refine g_iload_1 hX dX0_needFor_1 ?_
  refine g_iload_2 hX dX0_needFor_2 ?_
  refine g_cV2r hX mkX0_lackFor ml_X0_95 (c_X0_lackFor h_o) (h_o.obj _) dX0_needFor_3 rfl (by decide) (Nat.le_of_ble_eq_true rfl) ?_
  refine g_istore_3 hX dX0_needFor_6 rfl ?_
  refine g_iload_3 hX dX0_needFor_7 ?_
  refine g_if_ne hX 13 dX0_needFor_8 (by decide) (fun c8 => ?_) (fun c8 => ?_)
  · refine g_aload_0 hX dX0_needFor_13 ?_
    refine g_cV0r hX mkX0_gain ml_X0_98 (c_X0_gain h_o) (h_o.obj _) dX0_needFor_14 rfl (by decide) (Nat.le_of_ble_eq_true rfl) ?_
    refine g_istore_4 hX dX0_needFor_17 rfl ?_
    refine g_iload_4 hX dX0_needFor_19 ?_
    refine g_iconst hX 2 dX0_needFor_21 (by decide) ?_
    refine g_icmp_ge hX 31 dX0_needFor_22 (by decide) (fun c22 => ?_) (fun c22 => ?_)
    · refine g_iload_3 hX dX0_needFor_31 ?_
      refine g_iload_4 hX dX0_needFor_32 ?_
      refine g_iadd hX dX0_needFor_34 ?_
      refine g_iconst hX 1 dX0_needFor_35 (by decide) ?_
      refine g_isub hX dX0_needFor_36 ?_
      refine g_iload_4 hX dX0_needFor_37 ?_
      refine g_idiv hX dX0_needFor_39 (by intro e; rw [e] at c22; exact c22 (by decide)) ?_
      exact hq _ _ _ _ dX0_needFor_40 (by rfl) (by first | rw [needS, if_neg c8, if_pos c22] | rw [needS, if_neg c8, if_neg c22])
    · refine g_sipush hX 1000 dX0_needFor_25 (by decide) ?_
      refine g_goto hX 40 dX0_needFor_28 (by decide) ?_
      exact hq _ _ _ _ dX0_needFor_40 (by rfl) (by first | rw [needS, if_neg c8, if_pos c22] | rw [needS, if_neg c8, if_neg c22])
  · refine g_iconst hX 0 dX0_needFor_11 (by decide) ?_
    exact hq _ _ _ _ dX0_needFor_12 (by rfl) (by rw [needS, if_pos c8])
set_option maxRecDepth 100000 in
set_option maxHeartbeats 4000000 in
theorem c_X0_allNeeds {Z : Zt} {b : Mem} {o : Nat} (h_o : isBus Z o) {t : Int32} (hV : Val (cv b o))  : Con Z yX0_allNeeds cX0_allNeeds 4 (some .int) 3 [.ref (zad Z o), .int t] b (some (.int (sumI (fun l => needS (cv b o) (baseS (cv b o) l) t) (nl (cv b o))))) (b) := by
  have hn : b o 6 = nI (nl (cv b o)) := hV.1.1
  have hn6 := hV.1.2
  refine con_i (by decide) (Nat.le_of_ble_eq_true rfl) rfl (fun X hX hq => ?_)
  have hX : Ok Z X cX0_allNeeds 4 RX0 3 := hX
  show G Z X b 0 [some (.ref (zad Z o)), some (.int t), none, none] []
  refine g_iconst hX 0 dX0_allNeeds_0 (by decide) ?_
  refine g_istore_2 hX dX0_allNeeds_1 rfl ?_
  refine g_iconst hX 0 dX0_allNeeds_2 (by decide) ?_
  refine g_istore_3 hX dX0_allNeeds_3 rfl ?_
  refine g_loop (nl (cv b o)) (fun k => b) (fun k => [some (.ref (zad Z o)), some (.int t), some (.int (sumI (fun l => needS (cv b o) (baseS (cv b o) l) t) k)), some (.int (nI k))]) rfl rfl (fun k hk4 ih4 => ?_) ?_
  · show G Z X (b) 4 ([some (.ref (zad Z o)), some (.int t), some (.int (sumI (fun l => needS (cv b o) (baseS (cv b o) l) t) k)), some (.int (nI k))]) _
    refine g_iload_3 hX dX0_allNeeds_4 ?_
    refine g_aload_0 hX dX0_allNeeds_5 ?_
    refine gt_X0_lines hX h_o dX0_allNeeds_6 ?_
    refine g_icmp_ge hX 31 dX0_allNeeds_9 (by decide) (fun c9 => ?_) (fun c9 => ?_)
    · exact absurd c9 (not_not_intro (by rw [hn]; exact nI_lt hk4 (by omega)))
    · refine g_iload_2 hX dX0_allNeeds_12 ?_
      refine g_aload_0 hX dX0_allNeeds_13 ?_
      refine g_aload_0 hX dX0_allNeeds_14 ?_
      refine g_iload_3 hX dX0_allNeeds_15 ?_
      refine g_cV1r hX mkX0_baseOf ml_X0_92 (c_X0_baseOf h_o hV hk4) (h_o.obj _) dX0_allNeeds_16 rfl (by decide) (Nat.le_of_ble_eq_true rfl) ?_
      refine g_iload_1 hX dX0_allNeeds_19 ?_
      refine g_cV2r hX mkX0_needFor ml_X0_102 (c_X0_needFor h_o) (h_o.obj _) dX0_allNeeds_20 rfl (by decide) (Nat.le_of_ble_eq_true rfl) ?_
      refine g_iadd hX dX0_allNeeds_23 ?_
      refine g_istore_2 hX dX0_allNeeds_24 rfl ?_
      refine g_iinc_3 hX 1 dX0_allNeeds_25 (by decide) rfl ?_
      refine g_goto hX 4 dX0_allNeeds_28 (by decide) ?_
      exact g_cast ih4 rfl (by simp only [nI_succ, sumI]) rfl
  · show G Z X (b) 4 ([some (.ref (zad Z o)), some (.int t), some (.int (sumI (fun l => needS (cv b o) (baseS (cv b o) l) t) (nl (cv b o)))), some (.int (nI (nl (cv b o))))]) _
    refine g_iload_3 hX dX0_allNeeds_4 ?_
    refine g_aload_0 hX dX0_allNeeds_5 ?_
    refine gt_X0_lines hX h_o dX0_allNeeds_6 ?_
    refine g_icmp_ge hX 31 dX0_allNeeds_9 (by decide) (fun c9 => ?_) (fun c9 => ?_)
    · refine g_iload_2 hX dX0_allNeeds_31 ?_
      exact hq _ _ _ _ dX0_allNeeds_32 (by rfl) (by rfl)
    · exact absurd c9 (by rw [hn]; exact Int32.lt_irrefl)
set_option maxRecDepth 100000 in
set_option maxHeartbeats 4000000 in
theorem c_X0_presentAt {Z : Zt} {b : Mem} {o : Nat} (h_o : isBus Z o) {k : Nat} (hk : k < 6) : Con Z yX0_presentAt cX0_presentAt 2 (some .int) 1 [.ref (zad Z o), .int (nI k)] b (some (.int (cv b o 4 k 0 &&& ((1 <<< (cv b o 6 0 0 &&& 31)) - 1)))) (b) := by
  refine con_i (by decide) (Nat.le_of_ble_eq_true rfl) rfl (fun X hX hq => ?_)
  have hX : Ok Z X cX0_presentAt 2 RX0 1 := hX
  show G Z X b 0 [some (.ref (zad Z o)), some (.int (nI k))] []
  refine g_aload_0 hX dX0_presentAt_0 ?_
  refine gt_X0_touching hX h_o dX0_presentAt_1 ?_
  refine g_iload_1 hX dX0_presentAt_4 ?_
  refine g_cN2r hX mkX5_at nl_X0_70 (c_X5_at h_o.2.2.2.2.2.2.1 hk (by decide)) dX0_presentAt_5 rfl (by decide) (Nat.le_of_ble_eq_true rfl) ?_
  refine g_iconst hX 1 dX0_presentAt_8 (by decide) ?_
  refine g_aload_0 hX dX0_presentAt_9 ?_
  refine gt_X0_lines hX h_o dX0_presentAt_10 ?_
  refine g_ishl hX dX0_presentAt_13 ?_
  refine g_iconst hX 1 dX0_presentAt_14 (by decide) ?_
  refine g_isub hX dX0_presentAt_15 ?_
  refine g_iand hX dX0_presentAt_16 ?_
  exact hq _ _ _ _ dX0_presentAt_17 (by rfl) (by rfl)
theorem bits_lt (f : Nat → Bool) (n : Nat) : bitsN f n < 2 ^ n := by
  induction n with
  | zero => simp [bitsN]
  | succ n ih =>
    simp only [bitsN]
    split <;> (rw [Nat.pow_succ]; omega)
theorem one_shl {n : Nat} (hn : n < 31) : (1 : Int32) <<< (nI n &&& 31) = nI (2 ^ n) := by
  exact (by decide +kernel : ∀ n, n < 31 → (1 : Int32) <<< (nI n &&& 31) = nI (2 ^ n)) n hn
theorem bt_nI {a i : Nat} (hi : i < 32) : bt (nI a) i = a.testBit i := by
  show (BitVec.ofNat 32 a).getLsbD i = _
  rw [BitVec.getLsbD_ofNat]
  simp [hi]
theorem or_bit {a n : Nat} (ha : a < 2 ^ n) (hn : n < 31) : nI a ||| nI (2 ^ n) = nI (a + 2 ^ n) := by
  apply b_ext
  intro i hi
  rw [b_or, bt_nI hi, bt_nI hi, bt_nI hi, Nat.testBit_two_pow, Nat.add_comm a]
  by_cases e : n = i
  · subst e
    rw [Nat.testBit_two_pow_add_eq, Nat.testBit_lt_two_pow ha]
    simp
  · rcases Nat.lt_or_ge i n with q | q
    · rw [Nat.testBit_two_pow_add_gt q]
      simp [e]
    · have hlt : n < i := by omega
      rw [Nat.testBit_lt_two_pow (Nat.lt_of_lt_of_le ha (Nat.pow_le_pow_right (by omega) q)), Nat.testBit_lt_two_pow (by
        have : 2 ^ (n + 1) ≤ 2 ^ i := Nat.pow_le_pow_right (by omega) hlt
        rw [Nat.pow_succ] at this
        omega)]
      simp [e]
set_option maxRecDepth 100000 in
set_option maxHeartbeats 4000000 in
theorem c_X0_reachOf {Z : Zt} {b : Mem} {o : Nat} (h_o : isBus Z o) {l : Nat} (hV : Val (cv b o)) (hl : l < 6) : Con Z yX0_reachOf cX0_reachOf 4 (some .int) 1 [.ref (zad Z o), .int (nI l)] b (some (.int (nI (reachN (cv b o) l)))) (b) := by
  have hn : b o 7 = nI (np (cv b o)) := hV.2.1.1
  have hn6 := hV.2.1.2
  refine con_i (by decide) (Nat.le_of_ble_eq_true rfl) rfl (fun X hX hq => ?_)
  have hX : Ok Z X cX0_reachOf 4 RX0 1 := hX
  show G Z X b 0 [some (.ref (zad Z o)), some (.int (nI l)), none, none] []
  refine g_iconst hX 0 dX0_reachOf_0 (by decide) ?_
  refine g_istore_2 hX dX0_reachOf_1 rfl ?_
  refine g_iconst hX 0 dX0_reachOf_2 (by decide) ?_
  refine g_istore_3 hX dX0_reachOf_3 rfl ?_
  refine g_loop (np (cv b o)) (fun k => b) (fun k => [some (.ref (zad Z o)), some (.int (nI l)), some (.int (nI (bitsN (fun p => tbI (cv b o 4 p 0) l) k))), some (.int (nI k))]) rfl rfl (fun k hk4 ih4 => ?_) ?_
  · show G Z X (b) 4 ([some (.ref (zad Z o)), some (.int (nI l)), some (.int (nI (bitsN (fun p => tbI (cv b o 4 p 0) l) k))), some (.int (nI k))]) _
    refine g_iload_3 hX dX0_reachOf_4 ?_
    refine g_aload_0 hX dX0_reachOf_5 ?_
    refine gt_X0_pockets hX h_o dX0_reachOf_6 ?_
    refine g_icmp_ge hX 39 dX0_reachOf_9 (by decide) (fun c9 => ?_) (fun c9 => ?_)
    · exact absurd c9 (not_not_intro (by rw [hn]; exact nI_lt hk4 (by omega)))
    · refine g_aload_0 hX dX0_reachOf_12 ?_
      refine gt_X0_touching hX h_o dX0_reachOf_13 ?_
      refine g_iload_3 hX dX0_reachOf_16 ?_
      refine g_cN2r hX mkX5_at nl_X0_70 (c_X5_at h_o.2.2.2.2.2.2.1 (by omega) (by decide)) dX0_reachOf_17 rfl (by decide) (Nat.le_of_ble_eq_true rfl) ?_
      refine g_iload_1 hX dX0_reachOf_20 ?_
      refine g_cN2r hX mkX5_hasBit nl_X0_105 (c_X5_hasBit (by omega)) dX0_reachOf_21 rfl (by decide) (Nat.le_of_ble_eq_true rfl) ?_
      refine g_if_eq hX 33 dX0_reachOf_24 (by decide) (fun c24 => ?_) (fun c24 => ?_)
      · replace c24 := bI_z.mp c24
        refine g_iinc_3 hX 1 dX0_reachOf_33 (by decide) rfl ?_
        refine g_goto hX 4 dX0_reachOf_36 (by decide) ?_
        exact g_cast ih4 rfl (by first | (simp only [nI_succ, bitsN, if_pos (show tbI (cv b o 4 k 0) l = true from c24)]; rw [one_shl (by omega), or_bit (bits_lt _ _) (by omega)]) | (simp only [nI_succ, bitsN, if_neg (show ¬ tbI (cv b o 4 k 0) l = true from c24), Nat.add_zero])) rfl
      · replace c24 := bI_nz.mp c24
        refine g_iload_2 hX dX0_reachOf_27 ?_
        refine g_iconst hX 1 dX0_reachOf_28 (by decide) ?_
        refine g_iload_3 hX dX0_reachOf_29 ?_
        refine g_ishl hX dX0_reachOf_30 ?_
        refine g_ior hX dX0_reachOf_31 ?_
        refine g_istore_2 hX dX0_reachOf_32 rfl ?_
        refine g_iinc_3 hX 1 dX0_reachOf_33 (by decide) rfl ?_
        refine g_goto hX 4 dX0_reachOf_36 (by decide) ?_
        exact g_cast ih4 rfl (by first | (simp only [nI_succ, bitsN, if_pos (show tbI (cv b o 4 k 0) l = true from c24)]; rw [one_shl (by omega), or_bit (bits_lt _ _) (by omega)]) | (simp only [nI_succ, bitsN, if_neg (show ¬ tbI (cv b o 4 k 0) l = true from c24), Nat.add_zero])) rfl
  · show G Z X (b) 4 ([some (.ref (zad Z o)), some (.int (nI l)), some (.int (nI (bitsN (fun p => tbI (cv b o 4 p 0) l) (np (cv b o))))), some (.int (nI (np (cv b o))))]) _
    refine g_iload_3 hX dX0_reachOf_4 ?_
    refine g_aload_0 hX dX0_reachOf_5 ?_
    refine gt_X0_pockets hX h_o dX0_reachOf_6 ?_
    refine g_icmp_ge hX 39 dX0_reachOf_9 (by decide) (fun c9 => ?_) (fun c9 => ?_)
    · refine g_iload_2 hX dX0_reachOf_39 ?_
      exact hq _ _ _ _ dX0_reachOf_40 (by rfl) (by rfl)
    · exact absurd c9 (by rw [hn]; exact Int32.lt_irrefl)
set_option maxRecDepth 100000 in
set_option maxHeartbeats 4000000 in
theorem c_X0_humpsOf {Z : Zt} {b : Mem} {o : Nat} (h_o : isBus Z o) {k : Nat} (hk : k < 6) (hs : ¬ b (o + 6) 1 < 1) (hs2 : ¬ 4 < b (o + 6) 1) : Con Z yX0_humpsOf cX0_humpsOf 3 (some .int) 2 [.ref (zad Z o), .int (nI k)] b (some (.int (humpsS (cv b o) k))) (b) := by
  refine con_i (by decide) (Nat.le_of_ble_eq_true rfl) rfl (fun X hX hq => ?_)
  have hX : Ok Z X cX0_humpsOf 3 RX0 2 := hX
  show G Z X b 0 [some (.ref (zad Z o)), some (.int (nI k)), none] []
  refine g_aload_0 hX dX0_humpsOf_0 ?_
  refine gt_X0_chosen hX h_o dX0_humpsOf_1 ?_
  refine g_iconst hX 1 dX0_humpsOf_4 (by decide) ?_
  refine g_cN2r hX mkX5_at nl_X0_70 (c_X5_at (k := 1) h_o.2.2.2.2.2.2.2 (by decide) (by decide)) dX0_humpsOf_5 rfl (by decide) (Nat.le_of_ble_eq_true rfl) ?_
  refine g_istore_2 hX dX0_humpsOf_8 rfl ?_
  refine g_iload_2 hX dX0_humpsOf_9 ?_
  refine g_iconst hX 1 dX0_humpsOf_10 (by decide) ?_
  refine g_icmp_lt hX 22 dX0_humpsOf_11 (by decide) (fun c11 => ?_) (fun c11 => ?_)
  · exact absurd c11 (hs)
  · refine g_aload_0 hX dX0_humpsOf_14 ?_
    refine g_cV0r hX mkX0_gain ml_X0_98 (c_X0_gain h_o) (h_o.obj _) dX0_humpsOf_15 rfl (by decide) (Nat.le_of_ble_eq_true rfl) ?_
    refine g_iconst hX 2 dX0_humpsOf_18 (by decide) ?_
    refine g_icmp_ge hX 26 dX0_humpsOf_19 (by decide) (fun c19 => ?_) (fun c19 => ?_)
    · refine g_aload_0 hX dX0_humpsOf_26 ?_
      refine g_iload_1 hX dX0_humpsOf_27 ?_
      refine g_cV1r hX mkX0_wideOf ml_X0_67 (c_X0_wideOf h_o hk) (h_o.obj _) dX0_humpsOf_28 rfl (by decide) (Nat.le_of_ble_eq_true rfl) ?_
      refine g_iload_2 hX dX0_humpsOf_31 ?_
      refine g_iadd hX dX0_humpsOf_32 ?_
      refine g_iconst hX 2 dX0_humpsOf_33 (by decide) ?_
      refine g_iload_2 hX dX0_humpsOf_34 ?_
      refine g_imul hX dX0_humpsOf_35 ?_
      refine g_idiv hX dX0_humpsOf_36 (two_mul_ne hs hs2) ?_
      exact hq _ _ _ _ dX0_humpsOf_37 (by rfl) (by first | rw [humpsS, if_pos c19] | (rw [humpsS, if_neg c19]; rfl))
    · refine g_iconst hX 0 dX0_humpsOf_22 (by decide) ?_
      refine g_goto hX 37 dX0_humpsOf_23 (by decide) ?_
      exact hq _ _ _ _ dX0_humpsOf_37 (by rfl) (by first | rw [humpsS, if_pos c19] | (rw [humpsS, if_neg c19]; rfl))
set_option maxRecDepth 100000 in
set_option maxHeartbeats 4000000 in
theorem c_X0_allHumps {Z : Zt} {b : Mem} {o : Nat} (h_o : isBus Z o) (hV : Val (cv b o))  : Con Z yX0_allHumps cX0_allHumps 3 (some .int) 3 [.ref (zad Z o)] b (some (.int (sumI (humpsS (cv b o)) (np (cv b o))))) (b) := by
  have hn : b o 7 = nI (np (cv b o)) := hV.2.1.1
  have hn6 := hV.2.1.2
  have hs := hV.2.2.2.2 1 (by decide)
  refine con_i (by decide) (Nat.le_of_ble_eq_true rfl) rfl (fun X hX hq => ?_)
  have hX : Ok Z X cX0_allHumps 3 RX0 3 := hX
  show G Z X b 0 [some (.ref (zad Z o)), none, none] []
  refine g_iconst hX 0 dX0_allHumps_0 (by decide) ?_
  refine g_istore_1 hX dX0_allHumps_1 rfl ?_
  refine g_iconst hX 0 dX0_allHumps_2 (by decide) ?_
  refine g_istore_2 hX dX0_allHumps_3 rfl ?_
  refine g_loop (np (cv b o)) (fun k => b) (fun k => [some (.ref (zad Z o)), some (.int (sumI (humpsS (cv b o)) k)), some (.int (nI k))]) rfl rfl (fun k hk4 ih4 => ?_) ?_
  · show G Z X (b) 4 ([some (.ref (zad Z o)), some (.int (sumI (humpsS (cv b o)) k)), some (.int (nI k))]) _
    refine g_iload_2 hX dX0_allHumps_4 ?_
    refine g_aload_0 hX dX0_allHumps_5 ?_
    refine gt_X0_pockets hX h_o dX0_allHumps_6 ?_
    refine g_icmp_ge hX 26 dX0_allHumps_9 (by decide) (fun c9 => ?_) (fun c9 => ?_)
    · exact absurd c9 (not_not_intro (by rw [hn]; exact nI_lt hk4 (by omega)))
    · refine g_iload_1 hX dX0_allHumps_12 ?_
      refine g_aload_0 hX dX0_allHumps_13 ?_
      refine g_iload_2 hX dX0_allHumps_14 ?_
      refine g_cV1r hX mkX0_humpsOf ml_X0_109 (c_X0_humpsOf h_o (by omega) hs.1 hs.2) (h_o.obj _) dX0_allHumps_15 rfl (by decide) (Nat.le_of_ble_eq_true rfl) ?_
      refine g_iadd hX dX0_allHumps_18 ?_
      refine g_istore_1 hX dX0_allHumps_19 rfl ?_
      refine g_iinc_2 hX 1 dX0_allHumps_20 (by decide) rfl ?_
      refine g_goto hX 4 dX0_allHumps_23 (by decide) ?_
      exact g_cast ih4 rfl (by simp only [nI_succ, sumI]) rfl
  · show G Z X (b) 4 ([some (.ref (zad Z o)), some (.int (sumI (humpsS (cv b o)) (np (cv b o)))), some (.int (nI (np (cv b o))))]) _
    refine g_iload_2 hX dX0_allHumps_4 ?_
    refine g_aload_0 hX dX0_allHumps_5 ?_
    refine gt_X0_pockets hX h_o dX0_allHumps_6 ?_
    refine g_icmp_ge hX 26 dX0_allHumps_9 (by decide) (fun c9 => ?_) (fun c9 => ?_)
    · refine g_iload_1 hX dX0_allHumps_26 ?_
      exact hq _ _ _ _ dX0_allHumps_27 (by rfl) (by rfl)
    · exact absurd c9 (by rw [hn]; exact Int32.lt_irrefl)
