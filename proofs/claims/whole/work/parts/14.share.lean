/-! SnakedBus$Sharing -/
def spv (b : Mem) (q np s : Nat) : Int32 := -b (q + 1) s + sumI (fun p => if tbI (b (q + 2) s) p = true then b (q + 3) p else 0) np
def crS (sp : Nat → Int32) : Nat → Nat × Nat
  | 0 => (0, 7)
  | k + 1 => if popN (k + 1) < (crS sp k).2 ∧ sp (k + 1) < 0 then (k + 1, popN (k + 1)) else crS sp k
theorem pop_le (s : Nat) : popN s ≤ 6 := by unfold popN; omega
theorem crS_b (sp : Nat → Int32) (k : Nat) : (crS sp k).1 ≤ k ∧ (crS sp k).2 ≤ 7 := by
  induction k with
  | zero => simp [crS]
  | succ k ih =>
    simp only [crS]
    split
    · have := pop_le (k + 1); simp; omega
    · omega
def moS (b : Mem) (q np st p : Nat) : Nat → Int32
  | 0 => b (q + 3) p
  | k + 1 => if tbI (b (q + 2) (st * (k + 1))) p = true then minI (moS b q np st p k) (spv b q np (st * (k + 1))) else moS b q np st p k
def pkS (m : Mem) (q n np l : Nat) (nd : Int32) (k : Nat) : Int32 := if tbI (m (q + 2) (2 ^ l)) k = true then minI nd (moS m q np (2 ^ (l + 1)) k (2 ^ (n - (l + 1)) - 1)) else 0
def drT (m : Mem) (q n np l : Nat) (nd : Int32) (k : Nat) : Mem × Int32 := (up2 (up2 m (q + 4) (l * 6 + k) (pkS m q n np l nd k)) (q + 3) k (m (q + 3) k - pkS m q n np l nd k), nd - pkS m q n np l nd k)
def drS (b : Mem) (q n np l : Nat) : Nat → Mem × Int32
  | 0 => (b, b (q + 1) (2 ^ l))
  | k + 1 => drT (drS b q n np l k).1 q n np l (drS b q n np l k).2 k
theorem drS_c (b : Mem) (q n np l k : Nat) {j : Nat} (h : j ≠ q + 3) (h2 : j ≠ q + 4) : (drS b q n np l k).1 j = b j := by
  induction k with
  | zero => rfl
  | succ k ih => simp only [drS, drT]; rw [u2c _ _ h, u2c _ _ h2, ih]
def lk0 (b : Mem) (q o : Nat) : Mem := up2 (up2 (up2 b q 4 (b o 6)) q 5 (b o 7)) q 6 0
def lkS (m : Mem) (v : View) (q : Nat) (t : Int32) (k : Nat) : Mem := up2 (up2 m (q + 1) (2 ^ k) (needS v (baseS v k) t)) (q + 2) (2 ^ k) (nI (reachN v k))
def lkT (m : Mem) (v : View) (q : Nat) (t : Int32) (k : Nat) : Mem := if t < baseS v k then up2 (lkS m v q t k) q 6 (m q 6 ||| nI (2 ^ k)) else lkS m v q t k
def lkL (b : Mem) (q o : Nat) (t : Int32) : Nat → Mem
  | 0 => lk0 b q o
  | k + 1 => lkT (lkL b q o t k) (cv b o) q t k
def lkR (m : Mem) (v : View) (q : Nat) : Nat → Mem
  | 0 => m
  | k + 1 => up2 (lkR m v q k) (q + 3) k (humpsS v k)
def jnS (m : Mem) (q k : Nat) : Mem := up2 (up2 m (q + 1) (k + 1) (m (q + 1) ((k + 1) &&& k) + m (q + 1) ((k + 1) ^^^ ((k + 1) &&& k)))) (q + 2) (k + 1) (m (q + 2) ((k + 1) &&& k) ||| m (q + 2) ((k + 1) ^^^ ((k + 1) &&& k)))
def jn (m : Mem) (q : Nat) : Nat → Mem
  | 0 => m
  | k + 1 => jnS (jn m q k) q k
theorem lkS_c (m : Mem) (v : View) (q : Nat) (t : Int32) (k : Nat) {j : Nat} (h1 : j ≠ q + 1) (h2 : j ≠ q + 2) : lkS m v q t k j = m j := by
  unfold lkS; rw [u2c _ _ h2, u2c _ _ h1]
theorem lkT_c (m : Mem) (v : View) (q : Nat) (t : Int32) (k : Nat) {j : Nat} (h0 : j ≠ q) (h1 : j ≠ q + 1) (h2 : j ≠ q + 2) : lkT m v q t k j = m j := by
  unfold lkT
  split
  · rw [u2c _ _ h0, lkS_c _ _ _ _ _ h1 h2]
  · rw [lkS_c _ _ _ _ _ h1 h2]
theorem lkT_q (m : Mem) (v : View) (q : Nat) (t : Int32) (k : Nat) {i : Nat} (h : i ≠ 6) : lkT m v q t k q i = m q i := by
  unfold lkT
  split
  · rw [u2k _ _ h, lkS_c _ _ _ _ _ (by omega) (by omega)]
  · rw [lkS_c _ _ _ _ _ (by omega) (by omega)]
theorem lkL_c (b : Mem) (q o : Nat) (t : Int32) (k : Nat) {j : Nat} (h0 : j ≠ q) (h1 : j ≠ q + 1) (h2 : j ≠ q + 2) : lkL b q o t k j = b j := by
  induction k with
  | zero => simp only [lkL, lk0]; rw [u2c _ _ h0, u2c _ _ h0, u2c _ _ h0]
  | succ k ih => simp only [lkL]; rw [lkT_c _ _ _ _ _ h0 h1 h2, ih]
theorem lkL_q (b : Mem) (q o : Nat) (t : Int32) (k : Nat) {i : Nat} (h : i ≠ 6) : lkL b q o t k q i = lk0 b q o q i := by
  induction k with
  | zero => rfl
  | succ k ih => simp only [lkL]; rw [lkT_q _ _ _ _ _ h, ih]
theorem lkR_c (m : Mem) (v : View) (q k : Nat) {j : Nat} (h : j ≠ q + 3) : lkR m v q k j = m j := by
  induction k with
  | zero => rfl
  | succ k ih => simp only [lkR]; rw [u2c _ _ h, ih]
theorem jn_c (m : Mem) (q k : Nat) {j : Nat} (h1 : j ≠ q + 1) (h2 : j ≠ q + 2) : jn m q k j = m j := by
  induction k with
  | zero => rfl
  | succ k ih => simp only [jn, jnS]; rw [u2c _ _ h2, u2c _ _ h1, ih]
theorem lkL_cv (b : Mem) (q o : Nat) (t : Int32) (k : Nat) (hd : q + 4 < o ∨ o + 6 < q) : cv (lkL b q o t k) o = cv b o := cv_same (fun j h1 h2 => lkL_c b q o t k (by omega) (by omega) (by omega))
theorem lkR_cv (m : Mem) (v : View) (q o k : Nat) (hd : q + 4 < o ∨ o + 6 < q) : cv (lkR m v q k) o = cv m o := cv_same (fun j h1 h2 => lkR_c m v q k (by omega))
theorem xor64 {a b : Nat} (ha : a < 64) (hb : b < 64) : a ^^^ b < 64 := Nat.xor_lt_two_pow (n := 6) ha hb
def lookM (b : Mem) (q o : Nat) (t : Int32) : Mem := jn (lkR (lkL b q o t (nl (cv b o))) (cv b o) q (np (cv b o))) q (2 ^ nl (cv b o) - 1)
set_option maxRecDepth 100000 in
set_option maxHeartbeats 4000000 in
theorem c_X3_allFit {Z : Zt} {b : Mem} {q : Nat} (h_q : isShr Z q)  : Con Z yX3_allFit cX3_allFit 1 (some .boolean) 0 [.ref (zad Z q)] b (some (.int (bI (b q 7 = 0)))) (b) := by
  refine con_z (by decide) (Nat.le_of_ble_eq_true rfl) rfl (bI_n _) (fun X hX hq => ?_)
  have hX : Ok Z X cX3_allFit 1 RX3 0 := hX
  show G Z X b 0 [some (.ref (zad Z q))] []
  refine g_aload_0 hX dX3_allFit_0 ?_
  refine gt_X3_inTheWay hX h_q dX3_allFit_1 ?_
  refine g_if_ne hX 11 dX3_allFit_4 (by decide) (fun c4 => ?_) (fun c4 => ?_)
  · refine g_iconst hX 0 dX3_allFit_11 (by decide) ?_
    exact hq _ _ _ _ dX3_allFit_12 (by rfl) (by simp [bI, *])
  · refine g_iconst hX 1 dX3_allFit_7 (by decide) ?_
    refine g_goto hX 12 dX3_allFit_8 (by decide) ?_
    exact hq _ _ _ _ dX3_allFit_12 (by rfl) (by simp [bI, *])
set_option maxRecDepth 100000 in
set_option maxHeartbeats 4000000 in
theorem c_X3_blockedLines {Z : Zt} {b : Mem} {q : Nat} (h_q : isShr Z q)  : Con Z yX3_blockedLines cX3_blockedLines 1 (some .int) 0 [.ref (zad Z q)] b (some (.int (b q 7))) (b) := by
  refine con_i (by decide) (Nat.le_of_ble_eq_true rfl) rfl (fun X hX hq => ?_)
  have hX : Ok Z X cX3_blockedLines 1 RX3 0 := hX
  show G Z X b 0 [some (.ref (zad Z q))] []
  refine g_aload_0 hX dX3_blockedLines_0 ?_
  refine gt_X3_inTheWay hX h_q dX3_blockedLines_1 ?_
  exact hq _ _ _ _ dX3_blockedLines_4 (by rfl) (by rfl)
set_option maxRecDepth 100000 in
set_option maxHeartbeats 4000000 in
theorem c_X3_freeOf {Z : Zt} {b : Mem} {q : Nat} (h_q : isShr Z q) {k : Nat} (hk : k < 6) : Con Z yX3_freeOf cX3_freeOf 2 (some .int) 1 [.ref (zad Z q), .int (nI k)] b (some (.int (b (q + 3) k))) (b) := by
  refine con_i (by decide) (Nat.le_of_ble_eq_true rfl) rfl (fun X hX hq => ?_)
  have hX : Ok Z X cX3_freeOf 2 RX3 1 := hX
  show G Z X b 0 [some (.ref (zad Z q)), some (.int (nI k))] []
  refine g_aload_0 hX dX3_freeOf_0 ?_
  refine gt_X3_rooms hX h_q dX3_freeOf_1 ?_
  refine g_iload_1 hX dX3_freeOf_4 ?_
  refine g_cN2r hX mkX5_at nl_X3_67 (c_X5_at h_q.2.2.2.2.1 hk (by decide)) dX3_freeOf_5 rfl (by decide) (Nat.le_of_ble_eq_true rfl) ?_
  exact hq _ _ _ _ dX3_freeOf_8 (by rfl) (by rfl)
set_option maxRecDepth 100000 in
set_option maxHeartbeats 4000000 in
theorem c_X3_drawnBy {Z : Zt} {b : Mem} {q : Nat} (h_q : isShr Z q) {l k : Nat} (hl : l < 6) (hk : k < 6) : Con Z yX3_drawnBy cX3_drawnBy 3 (some .int) 1 [.ref (zad Z q), .int (nI l), .int (nI k)] b (some (.int (b (q + 4) (l * 6 + k)))) (b) := by
  refine con_i (by decide) (Nat.le_of_ble_eq_true rfl) rfl (fun X hX hq => ?_)
  have hX : Ok Z X cX3_drawnBy 3 RX3 1 := hX
  show G Z X b 0 [some (.ref (zad Z q)), some (.int (nI l)), some (.int (nI k))] []
  refine g_aload_0 hX dX3_drawnBy_0 ?_
  refine gt_X3_drawn hX h_q dX3_drawnBy_1 ?_
  refine g_iload_1 hX dX3_drawnBy_4 ?_
  refine g_iload_2 hX dX3_drawnBy_5 ?_
  refine g_bipush hX 6 dX3_drawnBy_6 (by decide) ?_
  refine g_cN3r hX mkX5_cell nl_X3_90 (c_X5_cell (w := 6) hk (by decide)) dX3_drawnBy_8 rfl (by decide) (Nat.le_of_ble_eq_true rfl) ?_
  refine g_cN2r hX mkX5_at nl_X3_67 (c_X5_at h_q.2.2.2.2.2 (by omega) (by decide)) dX3_drawnBy_11 rfl (by decide) (Nat.le_of_ble_eq_true rfl) ?_
  exact hq _ _ _ _ dX3_drawnBy_14 (by rfl) (by rfl)
set_option maxRecDepth 100000 in
set_option maxHeartbeats 4000000 in
theorem c_X3_spare {Z : Zt} {b : Mem} {q : Nat} (h_q : isShr Z q) {s : Nat} (hs : s < 64) {np : Nat} (hp : b q 5 = nI np) (hp6 : np ≤ 6)  : Con Z yX3_spare cX3_spare 4 (some .int) 1 [.ref (zad Z q), .int (nI s)] b (some (.int (spv b q np s))) (b) := by
  refine con_i (by decide) (Nat.le_of_ble_eq_true rfl) rfl (fun X hX hq => ?_)
  have hX : Ok Z X cX3_spare 4 RX3 1 := hX
  show G Z X b 0 [some (.ref (zad Z q)), some (.int (nI s)), none, none] []
  refine g_aload_0 hX dX3_spare_0 ?_
  refine gt_X3_needs hX h_q dX3_spare_1 ?_
  refine g_iload_1 hX dX3_spare_4 ?_
  refine g_cN2r hX mkX5_at nl_X3_67 (c_X5_at h_q.2.2.1 hs (by decide)) dX3_spare_5 rfl (by decide) (Nat.le_of_ble_eq_true rfl) ?_
  refine g_ineg hX dX3_spare_8 ?_
  refine g_istore_2 hX dX3_spare_9 rfl ?_
  refine g_iconst hX 0 dX3_spare_10 (by decide) ?_
  refine g_istore_3 hX dX3_spare_11 rfl ?_
  refine g_loop (np) (fun k => b) (fun k => [some (.ref (zad Z q)), some (.int (nI s)), some (.int (spv b q k s)), some (.int (nI k))]) rfl (by simp only [spv, sumI, Int32.add_zero] <;> rfl) (fun k hk12 ih12 => ?_) ?_
  · show G Z X (b) 12 ([some (.ref (zad Z q)), some (.int (nI s)), some (.int (spv b q k s)), some (.int (nI k))]) _
    refine g_iload_3 hX dX3_spare_12 ?_
    refine g_aload_0 hX dX3_spare_13 ?_
    refine gt_X3_pockets hX h_q dX3_spare_14 ?_
    refine g_icmp_ge hX 52 dX3_spare_17 (by decide) (fun c17 => ?_) (fun c17 => ?_)
    · exact absurd c17 (not_not_intro (by rw [hp]; exact nI_lt hk12 (by omega)))
    · refine g_aload_0 hX dX3_spare_20 ?_
      refine gt_X3_reach hX h_q dX3_spare_21 ?_
      refine g_iload_1 hX dX3_spare_24 ?_
      refine g_cN2r hX mkX5_at nl_X3_67 (c_X5_at h_q.2.2.2.1 hs (by decide)) dX3_spare_25 rfl (by decide) (Nat.le_of_ble_eq_true rfl) ?_
      refine g_iload_3 hX dX3_spare_28 ?_
      refine g_cN2r hX mkX5_hasBit nl_X3_78 (c_X5_hasBit (by omega)) dX3_spare_29 rfl (by decide) (Nat.le_of_ble_eq_true rfl) ?_
      refine g_if_eq hX 46 dX3_spare_32 (by decide) (fun c32 => ?_) (fun c32 => ?_)
      · replace c32 := bI_z.mp c32
        refine g_iinc_3 hX 1 dX3_spare_46 (by decide) rfl ?_
        refine g_goto hX 12 dX3_spare_49 (by decide) ?_
        exact g_cast ih12 rfl (by first | (simp only [nI_succ, spv, sumI, if_pos c32, Int32.add_assoc]; done) | (simp only [nI_succ, spv, sumI, if_neg c32, Int32.add_zero]; done)) rfl
      · replace c32 := bI_nz.mp c32
        refine g_iload_2 hX dX3_spare_35 ?_
        refine g_aload_0 hX dX3_spare_36 ?_
        refine gt_X3_rooms hX h_q dX3_spare_37 ?_
        refine g_iload_3 hX dX3_spare_40 ?_
        refine g_cN2r hX mkX5_at nl_X3_67 (c_X5_at h_q.2.2.2.2.1 (by omega) (by decide)) dX3_spare_41 rfl (by decide) (Nat.le_of_ble_eq_true rfl) ?_
        refine g_iadd hX dX3_spare_44 ?_
        refine g_istore_2 hX dX3_spare_45 rfl ?_
        refine g_iinc_3 hX 1 dX3_spare_46 (by decide) rfl ?_
        refine g_goto hX 12 dX3_spare_49 (by decide) ?_
        exact g_cast ih12 rfl (by first | (simp only [nI_succ, spv, sumI, if_pos c32, Int32.add_assoc]; done) | (simp only [nI_succ, spv, sumI, if_neg c32, Int32.add_zero]; done)) rfl
  · show G Z X (b) 12 ([some (.ref (zad Z q)), some (.int (nI s)), some (.int (spv b q (np) s)), some (.int (nI (np)))]) _
    refine g_iload_3 hX dX3_spare_12 ?_
    refine g_aload_0 hX dX3_spare_13 ?_
    refine gt_X3_pockets hX h_q dX3_spare_14 ?_
    refine g_icmp_ge hX 52 dX3_spare_17 (by decide) (fun c17 => ?_) (fun c17 => ?_)
    · refine g_iload_2 hX dX3_spare_52 ?_
      exact hq _ _ _ _ dX3_spare_53 (by rfl) (by rfl)
    · exact absurd c17 (by rw [hp]; exact Int32.lt_irrefl)
set_option maxRecDepth 100000 in
set_option maxHeartbeats 4000000 in
theorem c_X3_crowd {Z : Zt} {b : Mem} {q : Nat} (h_q : isShr Z q) {n np : Nat} (hn : b q 4 = nI n) (hn6 : n ≤ 6) (hp : b q 5 = nI np) (hp6 : np ≤ 6)  : Con Z yX3_crowd cX3_crowd 5 (some .int) 2 [.ref (zad Z q)] b (some (.int (nI (crS (spv b q np) (2 ^ n - 1)).1))) (b) := by
  have h64 := pow64 hn6
  have h1 := pow1 n
  refine con_i (by decide) (Nat.le_of_ble_eq_true rfl) rfl (fun X hX hq => ?_)
  have hX : Ok Z X cX3_crowd 5 RX3 2 := hX
  show G Z X b 0 [some (.ref (zad Z q)), none, none, none, none] []
  refine g_iconst hX 0 dX3_crowd_0 (by decide) ?_
  refine g_istore_1 hX dX3_crowd_1 rfl ?_
  refine g_bipush hX 7 dX3_crowd_2 (by decide) ?_
  refine g_istore_2 hX dX3_crowd_4 rfl ?_
  refine g_iconst hX 1 dX3_crowd_5 (by decide) ?_
  refine g_istore_3 hX dX3_crowd_6 rfl ?_
  refine g_loopW (lvw_c (lvw_c (lvw_c (lvw_c (lvw_n lvw_nil))))) (2 ^ n - 1) (fun k => b) (fun k => [some (.ref (zad Z q)), some (.int (nI (crS (spv b q np) k).1)), some (.int (nI (crS (spv b q np) k).2)), some (.int (nI (k + 1))), none]) rfl rfl (fun k hk7 ih7 => ?_) ?_
  · show G Z X (b) 7 ([some (.ref (zad Z q)), some (.int (nI (crS (spv b q np) k).1)), some (.int (nI (crS (spv b q np) k).2)), some (.int (nI (k + 1))), none]) _
    have hb7 := crS_b (spv b q np) k
    have hpl := pop_le (k + 1)
    have hc26 : nI (popN (k + 1)) < nI (crS (spv b q np) k).2 ↔ popN (k + 1) < (crS (spv b q np) k).2 := nI_ltI (by omega) (by omega)
    refine g_iload_3 hX dX3_crowd_7 ?_
    refine g_iconst hX 1 dX3_crowd_8 (by decide) ?_
    refine g_aload_0 hX dX3_crowd_9 ?_
    refine gt_X3_lines hX h_q dX3_crowd_10 ?_
    refine g_ishl hX dX3_crowd_13 ?_
    refine g_top (nI (2 ^ n)) (by rw [hn, one_shl (by omega)]) ?_
    refine g_icmp_ge hX 48 dX3_crowd_14 (by decide) (fun c14 => ?_) (fun c14 => ?_)
    · exact absurd c14 (not_not_intro (ltN (by omega) h64))
    · refine g_iload_3 hX dX3_crowd_17 ?_
      refine g_cS1r hX mkJ6_bitCount_0f7a4 ml_X3_94 (c_J6_bitCount_0f7a4 (by omega)) dX3_crowd_18 rfl (by decide) (Nat.le_of_ble_eq_true rfl) ?_
      refine g_istore_4 hX dX3_crowd_21 rfl ?_
      refine g_iload_4 hX dX3_crowd_23 ?_
      refine g_iload_2 hX dX3_crowd_25 ?_
      refine g_icmp_ge hX 42 dX3_crowd_26 (by decide) (fun c26 => ?_) (fun c26 => ?_)
      · refine g_iinc_3 hX 1 dX3_crowd_42 (by decide) rfl ?_
        refine g_goto hX 7 dX3_crowd_45 (by decide) ?_
        exact g_back ih7 rfl (by first | (simp only [nI_succ, crS, if_pos (And.intro (hc26.mp c26) c34)]; done) | (simp only [nI_succ, crS, if_neg (fun hh : popN (k + 1) < (crS (spv b q np) k).2 ∧ spv b q np (k + 1) < 0 => c34 hh.2)]; done) | (simp only [nI_succ, crS, if_neg (fun hh : popN (k + 1) < (crS (spv b q np) k).2 ∧ spv b q np (k + 1) < 0 => c26 (hc26.mpr hh.1))]; done)) (lvw_c (lvw_c (lvw_c (lvw_c (lvw_n lvw_nil)))))
      · refine g_aload_0 hX dX3_crowd_29 ?_
        refine g_iload_3 hX dX3_crowd_30 ?_
        refine g_cV1r hX mkX3_spare ml_X3_99 (c_X3_spare h_q (by omega) hp hp6) (h_q.obj _) dX3_crowd_31 rfl (by decide) (Nat.le_of_ble_eq_true rfl) ?_
        refine g_if_ge hX 42 dX3_crowd_34 (by decide) (fun c34 => ?_) (fun c34 => ?_)
        · refine g_iinc_3 hX 1 dX3_crowd_42 (by decide) rfl ?_
          refine g_goto hX 7 dX3_crowd_45 (by decide) ?_
          exact g_back ih7 rfl (by first | (simp only [nI_succ, crS, if_pos (And.intro (hc26.mp c26) c34)]; done) | (simp only [nI_succ, crS, if_neg (fun hh : popN (k + 1) < (crS (spv b q np) k).2 ∧ spv b q np (k + 1) < 0 => c34 hh.2)]; done) | (simp only [nI_succ, crS, if_neg (fun hh : popN (k + 1) < (crS (spv b q np) k).2 ∧ spv b q np (k + 1) < 0 => c26 (hc26.mpr hh.1))]; done)) (lvw_c (lvw_c (lvw_c (lvw_c (lvw_n lvw_nil)))))
        · refine g_iload_3 hX dX3_crowd_37 ?_
          refine g_istore_1 hX dX3_crowd_38 rfl ?_
          refine g_iload_4 hX dX3_crowd_39 ?_
          refine g_istore_2 hX dX3_crowd_41 rfl ?_
          refine g_iinc_3 hX 1 dX3_crowd_42 (by decide) rfl ?_
          refine g_goto hX 7 dX3_crowd_45 (by decide) ?_
          exact g_back ih7 rfl (by first | (simp only [nI_succ, crS, if_pos (And.intro (hc26.mp c26) c34)]; done) | (simp only [nI_succ, crS, if_neg (fun hh : popN (k + 1) < (crS (spv b q np) k).2 ∧ spv b q np (k + 1) < 0 => c34 hh.2)]; done) | (simp only [nI_succ, crS, if_neg (fun hh : popN (k + 1) < (crS (spv b q np) k).2 ∧ spv b q np (k + 1) < 0 => c26 (hc26.mpr hh.1))]; done)) (lvw_c (lvw_c (lvw_c (lvw_c (lvw_n lvw_nil)))))
  · show G Z X (b) 7 ([some (.ref (zad Z q)), some (.int (nI (crS (spv b q np) (2 ^ n - 1)).1)), some (.int (nI (crS (spv b q np) (2 ^ n - 1)).2)), some (.int (nI ((2 ^ n - 1) + 1))), none]) _
    refine g_iload_3 hX dX3_crowd_7 ?_
    refine g_iconst hX 1 dX3_crowd_8 (by decide) ?_
    refine g_aload_0 hX dX3_crowd_9 ?_
    refine gt_X3_lines hX h_q dX3_crowd_10 ?_
    refine g_ishl hX dX3_crowd_13 ?_
    refine g_top (nI (2 ^ n)) (by rw [hn, one_shl (by omega)]) ?_
    refine g_icmp_ge hX 48 dX3_crowd_14 (by decide) (fun c14 => ?_) (fun c14 => ?_)
    · refine g_iload_1 hX dX3_crowd_48 ?_
      exact hq _ _ _ _ dX3_crowd_49 (by rfl) (by rfl)
    · exact absurd c14 (by rw [Nat.sub_add_cancel h1]; exact Int32.lt_irrefl)
theorem nI0 {n : Nat} (h : n < 2 ^ 31) : nI n = 0 ↔ n = 0 := nI_eq (b := 0) h (by decide)
theorem crS_lt (sp : Nat → Int32) (k : Nat) (h : k ≤ 64) : (crS sp k).1 < 2 ^ 31 := by have := crS_b sp k; omega
set_option maxRecDepth 100000 in
set_option maxHeartbeats 4000000 in
theorem c_X3_fits {Z : Zt} {b : Mem} {q : Nat} (h_q : isShr Z q) {n np : Nat} (hn : b q 4 = nI n) (hn6 : n ≤ 6) (hp : b q 5 = nI np) (hp6 : np ≤ 6)  : Con Z yX3_fits cX3_fits 1 (some .boolean) 3 [.ref (zad Z q)] b (some (.int (bI (b q 6 = 0 ∧ (crS (spv b q np) (2 ^ n - 1)).1 = 0)))) (b) := by
  have h64 := pow64 hn6
  have h1 := pow1 n
  have hz := nI0 (crS_lt (spv b q np) (2 ^ n - 1) (by omega))
  refine con_z (by decide) (Nat.le_of_ble_eq_true rfl) rfl (bI_n _) (fun X hX hq => ?_)
  have hX : Ok Z X cX3_fits 1 RX3 3 := hX
  show G Z X b 0 [some (.ref (zad Z q))] []
  refine g_aload_0 hX dX3_fits_0 ?_
  refine gt_X3_tooLong hX h_q dX3_fits_1 ?_
  refine g_if_ne hX 18 dX3_fits_4 (by decide) (fun c4 => ?_) (fun c4 => ?_)
  · try rw [hz] at c11
    refine g_iconst hX 0 dX3_fits_18 (by decide) ?_
    exact hq _ _ _ _ dX3_fits_19 (by rfl) (by clear hq hX; unfold bI; split <;> simp_all)
  · refine g_aload_0 hX dX3_fits_7 ?_
    refine g_cV0r hX mkX3_crowd ml_X3_71 (c_X3_crowd h_q hn hn6 hp hp6) (h_q.obj _) dX3_fits_8 rfl (by decide) (Nat.le_of_ble_eq_true rfl) ?_
    refine g_if_ne hX 18 dX3_fits_11 (by decide) (fun c11 => ?_) (fun c11 => ?_)
    · try rw [hz] at c11
      refine g_iconst hX 0 dX3_fits_18 (by decide) ?_
      exact hq _ _ _ _ dX3_fits_19 (by rfl) (by clear hq hX; unfold bI; split <;> simp_all)
    · rw [hz] at c11
      refine g_iconst hX 1 dX3_fits_14 (by decide) ?_
      refine g_goto hX 19 dX3_fits_15 (by decide) ?_
      exact hq _ _ _ _ dX3_fits_19 (by rfl) (by clear hq hX; unfold bI; split <;> simp_all)
set_option maxRecDepth 100000 in
set_option maxHeartbeats 4000000 in
theorem c_X3_findBlocked {Z : Zt} {b : Mem} {q : Nat} (h_q : isShr Z q) {n np : Nat} (hn : b q 4 = nI n) (hn6 : n ≤ 6) (hp : b q 5 = nI np) (hp6 : np ≤ 6)  : Con Z yX3_findBlocked cX3_findBlocked 1 none 3 [.ref (zad Z q)] b none (up2 b q 7 (if b q 6 = 0 then nI (crS (spv b q np) (2 ^ n - 1)).1 else b q 6)) := by
  refine con_v (by decide) (Nat.le_of_ble_eq_true rfl) rfl (fun X hX hq => ?_)
  have hX : Ok Z X cX3_findBlocked 1 RX3 3 := hX
  show G Z X b 0 [some (.ref (zad Z q))] []
  refine g_aload_0 hX dX3_findBlocked_0 ?_
  refine g_aload_0 hX dX3_findBlocked_1 ?_
  refine gt_X3_tooLong hX h_q dX3_findBlocked_2 ?_
  refine g_if_eq hX 15 dX3_findBlocked_5 (by decide) (fun c5 => ?_) (fun c5 => ?_)
  · refine g_aload_0 hX dX3_findBlocked_15 ?_
    refine g_cV0r hX mkX3_crowd ml_X3_71 (c_X3_crowd h_q hn hn6 hp hp6) (h_q.obj _) dX3_findBlocked_16 rfl (by decide) (Nat.le_of_ble_eq_true rfl) ?_
    refine pt_X3_inTheWay hX h_q dX3_findBlocked_19 ?_
    exact hq _ _ _ dX3_findBlocked_22 (by first | rw [if_pos c5] | rw [if_neg c5])
  · refine g_aload_0 hX dX3_findBlocked_8 ?_
    refine gt_X3_tooLong hX h_q dX3_findBlocked_9 ?_
    refine g_goto hX 19 dX3_findBlocked_12 (by decide) ?_
    refine pt_X3_inTheWay hX h_q dX3_findBlocked_19 ?_
    exact hq _ _ _ dX3_findBlocked_22 (by first | rw [if_pos c5] | rw [if_neg c5])
set_option maxRecDepth 100000 in
set_option maxHeartbeats 4000000 in
theorem c_X3_fitsWithOneMore {Z : Zt} {b : Mem} {q : Nat} (h_q : isShr Z q) {p : Nat} (hk : p < 6) {n np : Nat} (hn : b q 4 = nI n) (hn6 : n ≤ 6) (hp : b q 5 = nI np) (hp6 : np ≤ 6)  : Con Z yX3_fitsWithOneMore cX3_fitsWithOneMore 4 (some .boolean) 4 [.ref (zad Z q), .int (nI p)] b (some (.int (bI (b q 6 = 0 ∧ (crS (spv (up2 b (q + 3) p (b (q + 3) p + 1)) q np) (2 ^ n - 1)).1 = 0)))) (b) := by
  refine con_z (by decide) (Nat.le_of_ble_eq_true rfl) rfl (bI_n _) (fun X hX hq => ?_)
  have hX : Ok Z X cX3_fitsWithOneMore 4 RX3 4 := hX
  show G Z X b 0 [some (.ref (zad Z q)), some (.int (nI p)), none, none] []
  refine g_aload_0 hX dX3_fitsWithOneMore_0 ?_
  refine gt_X3_rooms hX h_q dX3_fitsWithOneMore_1 ?_
  refine g_iload_1 hX dX3_fitsWithOneMore_4 ?_
  refine g_cN2r hX mkX5_at nl_X3_67 (c_X5_at h_q.2.2.2.2.1 hk (by decide)) dX3_fitsWithOneMore_5 rfl (by decide) (Nat.le_of_ble_eq_true rfl) ?_
  refine g_istore_2 hX dX3_fitsWithOneMore_8 rfl ?_
  refine g_aload_0 hX dX3_fitsWithOneMore_9 ?_
  refine gt_X3_rooms hX h_q dX3_fitsWithOneMore_10 ?_
  refine g_iload_1 hX dX3_fitsWithOneMore_13 ?_
  refine g_iload_2 hX dX3_fitsWithOneMore_14 ?_
  refine g_iconst hX 1 dX3_fitsWithOneMore_15 (by decide) ?_
  refine g_iadd hX dX3_fitsWithOneMore_16 ?_
  refine g_cN3v hX mkX5_put nl_X3_54 (c_X5_put h_q.2.2.2.2.1 hk (by decide)) dX3_fitsWithOneMore_17 rfl (by decide) (Nat.le_of_ble_eq_true rfl) ?_
  refine g_aload_0 hX dX3_fitsWithOneMore_20 ?_
  refine g_cV0r hX mkX3_fits ml_X3_74 (c_X3_fits h_q (n := n) (np := np) (by rw [u2c _ _ (by omega)]; exact hn) hn6 (by rw [u2c _ _ (by omega)]; exact hp) hp6) (h_q.obj _) dX3_fitsWithOneMore_21 rfl (by decide) (Nat.le_of_ble_eq_true rfl) ?_
  refine g_istore_3 hX dX3_fitsWithOneMore_24 rfl ?_
  refine g_aload_0 hX dX3_fitsWithOneMore_25 ?_
  refine gt_X3_rooms hX h_q dX3_fitsWithOneMore_26 ?_
  refine g_iload_1 hX dX3_fitsWithOneMore_29 ?_
  refine g_iload_2 hX dX3_fitsWithOneMore_30 ?_
  refine g_cN3v hX mkX5_put nl_X3_54 (c_X5_put h_q.2.2.2.2.1 hk (by decide)) dX3_fitsWithOneMore_31 rfl (by decide) (Nat.le_of_ble_eq_true rfl) ?_
  refine g_iload_3 hX dX3_fitsWithOneMore_34 ?_
  exact hq _ _ _ _ dX3_fitsWithOneMore_35 (up2_id _ _ _ _) (by rw [u2c _ _ (show q ≠ q + 3 by omega)])
set_option maxRecDepth 100000 in
set_option maxHeartbeats 4000000 in
theorem c_X3_mostFor {Z : Zt} {b : Mem} {q : Nat} (h_q : isShr Z q) {l p : Nat} (hk : p < 6) {n np : Nat} (hn : b q 4 = nI n) (hn6 : n ≤ 6) (hp : b q 5 = nI np) (hp6 : np ≤ 6) (hl : l < n) : Con Z yX3_mostFor cX3_mostFor 6 (some .int) 2 [.ref (zad Z q), .int (nI l), .int (nI p)] b (some (.int (moS b q np (2 ^ (l + 1)) p (2 ^ (n - (l + 1)) - 1)))) (b) := by
  have h64 := pow64 hn6
  have h1 := pow1 n
  have hpw : 2 ^ (l + 1) * 2 ^ (n - (l + 1)) = 2 ^ n := by rw [← Nat.pow_add]; congr 1; omega
  have h1b := pow1 (n - (l + 1))
  have hmul : ∀ k, k < 2 ^ (n - (l + 1)) - 1 → 2 ^ (l + 1) * (k + 1) < 2 ^ n := fun k hk0 => by rw [← hpw]; exact Nat.mul_lt_mul_of_pos_left (by omega) (pow1 _)
  have h2l : (2 : Int32) <<< (nI l &&& 31) = nI (2 ^ (l + 1)) := (by decide +kernel : ∀ l, l < 6 → (2 : Int32) <<< (nI l &&& 31) = nI (2 ^ (l + 1))) l (by omega)
  refine con_i (by decide) (Nat.le_of_ble_eq_true rfl) rfl (fun X hX hq => ?_)
  have hX : Ok Z X cX3_mostFor 6 RX3 2 := hX
  show G Z X b 0 [some (.ref (zad Z q)), some (.int (nI l)), some (.int (nI p)), none, none, none] []
  refine g_aload_0 hX dX3_mostFor_0 ?_
  refine gt_X3_rooms hX h_q dX3_mostFor_1 ?_
  refine g_iload_2 hX dX3_mostFor_4 ?_
  refine g_cN2r hX mkX5_at nl_X3_67 (c_X5_at h_q.2.2.2.2.1 hk (by decide)) dX3_mostFor_5 rfl (by decide) (Nat.le_of_ble_eq_true rfl) ?_
  refine g_istore_3 hX dX3_mostFor_8 rfl ?_
  refine g_iconst hX 2 dX3_mostFor_9 (by decide) ?_
  refine g_iload_1 hX dX3_mostFor_10 ?_
  refine g_ishl hX dX3_mostFor_11 ?_
  refine g_top _ h2l ?_
  refine g_istore_4 hX dX3_mostFor_12 rfl ?_
  refine g_iload_4 hX dX3_mostFor_14 ?_
  refine g_istore_5 hX dX3_mostFor_16 rfl ?_
  refine g_loop (2 ^ (n - (l + 1)) - 1) (fun k => b) (fun k => [some (.ref (zad Z q)), some (.int (nI l)), some (.int (nI p)), some (.int (moS b q np (2 ^ (l + 1)) p k)), some (.int (nI (2 ^ (l + 1)))), some (.int (nI (2 ^ (l + 1) * (k + 1))))]) rfl (by simp only [Nat.zero_add, Nat.mul_one] <;> rfl) (fun k hk18 ih18 => ?_) ?_
  · show G Z X (b) 18 ([some (.ref (zad Z q)), some (.int (nI l)), some (.int (nI p)), some (.int (moS b q np (2 ^ (l + 1)) p k)), some (.int (nI (2 ^ (l + 1)))), some (.int (nI (2 ^ (l + 1) * (k + 1))))]) _
    have hm := hmul k hk18
    have hst : nI (2 ^ (l + 1) * (k + 1)) + nI (2 ^ (l + 1)) = nI (2 ^ (l + 1) * (k + 1 + 1)) := by rw [nI_add]; rfl
    refine g_iload_5 hX dX3_mostFor_18 ?_
    refine g_iconst hX 1 dX3_mostFor_20 (by decide) ?_
    refine g_aload_0 hX dX3_mostFor_21 ?_
    refine gt_X3_lines hX h_q dX3_mostFor_22 ?_
    refine g_ishl hX dX3_mostFor_25 ?_
    refine g_top (nI (2 ^ n)) (by rw [hn, one_shl (by omega)]) ?_
    refine g_icmp_ge hX 66 dX3_mostFor_26 (by decide) (fun c26 => ?_) (fun c26 => ?_)
    · exact absurd c26 (not_not_intro (ltN (hmul k hk18) h64))
    · refine g_aload_0 hX dX3_mostFor_29 ?_
      refine gt_X3_reach hX h_q dX3_mostFor_30 ?_
      refine g_iload_5 hX dX3_mostFor_33 ?_
      refine g_cN2r hX mkX5_at nl_X3_67 (c_X5_at h_q.2.2.2.1 (by omega) (by decide)) dX3_mostFor_35 rfl (by decide) (Nat.le_of_ble_eq_true rfl) ?_
      refine g_iload_2 hX dX3_mostFor_38 ?_
      refine g_cN2r hX mkX5_hasBit nl_X3_78 (c_X5_hasBit (by omega)) dX3_mostFor_39 rfl (by decide) (Nat.le_of_ble_eq_true rfl) ?_
      refine g_if_eq hX 56 dX3_mostFor_42 (by decide) (fun c42 => ?_) (fun c42 => ?_)
      · replace c42 := bI_z.mp c42
        refine g_iload_5 hX dX3_mostFor_56 ?_
        refine g_iload_4 hX dX3_mostFor_58 ?_
        refine g_iadd hX dX3_mostFor_60 ?_
        refine g_istore_5 hX dX3_mostFor_61 rfl ?_
        refine g_goto hX 18 dX3_mostFor_63 (by decide) ?_
        exact g_cast ih18 rfl (by first | (simp only [moS, if_pos c42, minI, hst]; done) | (simp only [moS, if_neg c42, hst]; done)) rfl
      · replace c42 := bI_nz.mp c42
        refine g_iload_3 hX dX3_mostFor_45 ?_
        refine g_aload_0 hX dX3_mostFor_46 ?_
        refine g_iload_5 hX dX3_mostFor_47 ?_
        refine g_cV1r hX mkX3_spare ml_X3_99 (c_X3_spare h_q (by omega) hp hp6) (h_q.obj _) dX3_mostFor_49 rfl (by decide) (Nat.le_of_ble_eq_true rfl) ?_
        refine g_min hX ml_X3_85 mm_min_s mm_ini mm_min_c dX3_mostFor_52 rfl (by decide) (Nat.le_of_ble_eq_true rfl) ?_
        refine g_istore_3 hX dX3_mostFor_55 rfl ?_
        refine g_iload_5 hX dX3_mostFor_56 ?_
        refine g_iload_4 hX dX3_mostFor_58 ?_
        refine g_iadd hX dX3_mostFor_60 ?_
        refine g_istore_5 hX dX3_mostFor_61 rfl ?_
        refine g_goto hX 18 dX3_mostFor_63 (by decide) ?_
        exact g_cast ih18 rfl (by first | (simp only [moS, if_pos c42, minI, hst]; done) | (simp only [moS, if_neg c42, hst]; done)) rfl
  · show G Z X (b) 18 ([some (.ref (zad Z q)), some (.int (nI l)), some (.int (nI p)), some (.int (moS b q np (2 ^ (l + 1)) p (2 ^ (n - (l + 1)) - 1))), some (.int (nI (2 ^ (l + 1)))), some (.int (nI (2 ^ (l + 1) * ((2 ^ (n - (l + 1)) - 1) + 1))))]) _
    refine g_iload_5 hX dX3_mostFor_18 ?_
    refine g_iconst hX 1 dX3_mostFor_20 (by decide) ?_
    refine g_aload_0 hX dX3_mostFor_21 ?_
    refine gt_X3_lines hX h_q dX3_mostFor_22 ?_
    refine g_ishl hX dX3_mostFor_25 ?_
    refine g_top (nI (2 ^ n)) (by rw [hn, one_shl (by omega)]) ?_
    refine g_icmp_ge hX 66 dX3_mostFor_26 (by decide) (fun c26 => ?_) (fun c26 => ?_)
    · refine g_iload_3 hX dX3_mostFor_66 ?_
      exact hq _ _ _ _ dX3_mostFor_67 (by rfl) (by rfl)
    · exact absurd c26 (by rw [Nat.sub_add_cancel h1b, hpw]; exact Int32.lt_irrefl)
set_option maxRecDepth 100000 in
set_option maxHeartbeats 4000000 in
theorem c_X3_drawLine {Z : Zt} {b : Mem} {q : Nat} (h_q : isShr Z q) {l : Nat} {n np : Nat} (hn : b q 4 = nI n) (hn6 : n ≤ 6) (hp : b q 5 = nI np) (hp6 : np ≤ 6) (hl : l < n) : Con Z yX3_drawLine cX3_drawLine 6 none 3 [.ref (zad Z q), .int (nI l)] b none ((drS b q n np l np).1) := by
  have h2l : 2 ^ l < 64 := Nat.lt_of_lt_of_le (Nat.pow_lt_pow_right (by omega) hl) (pow64 hn6)
  refine con_v (by decide) (Nat.le_of_ble_eq_true rfl) rfl (fun X hX hq => ?_)
  have hX : Ok Z X cX3_drawLine 6 RX3 3 := hX
  show G Z X b 0 [some (.ref (zad Z q)), some (.int (nI l)), none, none, none, none] []
  refine g_aload_0 hX dX3_drawLine_0 ?_
  refine gt_X3_needs hX h_q dX3_drawLine_1 ?_
  refine g_iconst hX 1 dX3_drawLine_4 (by decide) ?_
  refine g_iload_1 hX dX3_drawLine_5 ?_
  refine g_ishl hX dX3_drawLine_6 ?_
  refine g_top _ (one_shl (by omega)) ?_
  refine g_cN2r hX mkX5_at nl_X3_67 (c_X5_at h_q.2.2.1 h2l (by decide)) dX3_drawLine_7 rfl (by decide) (Nat.le_of_ble_eq_true rfl) ?_
  refine g_istore_2 hX dX3_drawLine_10 rfl ?_
  refine g_iconst hX 0 dX3_drawLine_11 (by decide) ?_
  refine g_istore_3 hX dX3_drawLine_12 rfl ?_
  refine g_loopW (lvw_c (lvw_c (lvw_c (lvw_c (lvw_n (lvw_n lvw_nil)))))) (np) (fun k => (drS b q n np l k).1) (fun k => [some (.ref (zad Z q)), some (.int (nI l)), some (.int (drS b q n np l k).2), some (.int (nI k)), none, none]) rfl rfl (fun k hk13 ih13 => ?_) ?_
  · show G Z X ((drS b q n np l k).1) 13 ([some (.ref (zad Z q)), some (.int (nI l)), some (.int (drS b q n np l k).2), some (.int (nI k)), none, none]) _
    have hq4 : (drS b q n np l k).1 q 4 = nI n := by rw [drS_c _ _ _ _ _ _ (by omega) (by omega)]; exact hn
    have hq5 : (drS b q n np l k).1 q 5 = nI np := by rw [drS_c _ _ _ _ _ _ (by omega) (by omega)]; exact hp
    refine g_iload_3 hX dX3_drawLine_13 ?_
    refine g_aload_0 hX dX3_drawLine_14 ?_
    refine gt_X3_pockets hX h_q dX3_drawLine_15 ?_
    refine g_icmp_ge hX 104 dX3_drawLine_18 (by decide) (fun c18 => ?_) (fun c18 => ?_)
    · exact absurd c18 (not_not_intro (by rw [hq5]; exact nI_lt hk13 (by omega)))
    · refine g_aload_0 hX dX3_drawLine_21 ?_
      refine gt_X3_reach hX h_q dX3_drawLine_22 ?_
      refine g_iconst hX 1 dX3_drawLine_25 (by decide) ?_
      refine g_iload_1 hX dX3_drawLine_26 ?_
      refine g_ishl hX dX3_drawLine_27 ?_
      refine g_top _ (one_shl (by omega)) ?_
      refine g_cN2r hX mkX5_at nl_X3_67 (c_X5_at h_q.2.2.2.1 h2l (by decide)) dX3_drawLine_28 rfl (by decide) (Nat.le_of_ble_eq_true rfl) ?_
      refine g_iload_3 hX dX3_drawLine_31 ?_
      refine g_cN2r hX mkX5_hasBit nl_X3_78 (c_X5_hasBit (by omega)) dX3_drawLine_32 rfl (by decide) (Nat.le_of_ble_eq_true rfl) ?_
      refine g_istore_4 hX dX3_drawLine_35 rfl ?_
      refine g_iload_4 hX dX3_drawLine_37 ?_
      refine g_if_eq hX 55 dX3_drawLine_39 (by decide) (fun c39 => ?_) (fun c39 => ?_)
      · replace c39 := bI_z.mp c39
        refine g_iconst hX 0 dX3_drawLine_55 (by decide) ?_
        refine g_istore_5 hX dX3_drawLine_56 rfl ?_
        refine g_aload_0 hX dX3_drawLine_58 ?_
        refine gt_X3_drawn hX h_q dX3_drawLine_59 ?_
        refine g_iload_1 hX dX3_drawLine_62 ?_
        refine g_iload_3 hX dX3_drawLine_63 ?_
        refine g_bipush hX 6 dX3_drawLine_64 (by decide) ?_
        refine g_cN3r hX mkX5_cell nl_X3_90 (c_X5_cell (w := 6) (by omega) (by decide)) dX3_drawLine_66 rfl (by decide) (Nat.le_of_ble_eq_true rfl) ?_
        refine g_iload_5 hX dX3_drawLine_69 ?_
        refine g_cN3v hX mkX5_put nl_X3_54 (c_X5_put h_q.2.2.2.2.2 (by omega) (by decide)) dX3_drawLine_71 rfl (by decide) (Nat.le_of_ble_eq_true rfl) ?_
        refine g_aload_0 hX dX3_drawLine_74 ?_
        refine gt_X3_rooms hX h_q dX3_drawLine_75 ?_
        refine g_iload_3 hX dX3_drawLine_78 ?_
        refine g_aload_0 hX dX3_drawLine_79 ?_
        refine gt_X3_rooms hX h_q dX3_drawLine_80 ?_
        refine g_iload_3 hX dX3_drawLine_83 ?_
        refine g_cN2r hX mkX5_at nl_X3_67 (c_X5_at h_q.2.2.2.2.1 (by omega) (by decide)) dX3_drawLine_84 rfl (by decide) (Nat.le_of_ble_eq_true rfl) ?_
        refine g_top ((drS b q n np l k).1 (q + 3) k) (by rw [u2c _ _ (by omega)]) ?_
        refine g_iload_5 hX dX3_drawLine_87 ?_
        refine g_isub hX dX3_drawLine_89 ?_
        refine g_cN3v hX mkX5_put nl_X3_54 (c_X5_put h_q.2.2.2.2.1 (by omega) (by decide)) dX3_drawLine_90 rfl (by decide) (Nat.le_of_ble_eq_true rfl) ?_
        refine g_iload_2 hX dX3_drawLine_93 ?_
        refine g_iload_5 hX dX3_drawLine_94 ?_
        refine g_isub hX dX3_drawLine_96 ?_
        refine g_istore_2 hX dX3_drawLine_97 rfl ?_
        refine g_iinc_3 hX 1 dX3_drawLine_98 (by decide) rfl ?_
        refine g_goto hX 13 dX3_drawLine_101 (by decide) ?_
        exact g_back ih13 (by first | (simp only [drS, drT, pkS, if_pos c39, minI]; done) | (simp only [drS, drT, pkS, if_neg c39]; done)) (by first | (simp only [nI_succ, drS, drT, pkS, if_pos c39, minI]; done) | (simp only [nI_succ, drS, drT, pkS, if_neg c39]; done)) (lvw_c (lvw_c (lvw_c (lvw_c (lvw_n (lvw_n lvw_nil))))))
      · replace c39 := bI_nz.mp c39
        refine g_iload_2 hX dX3_drawLine_42 ?_
        refine g_aload_0 hX dX3_drawLine_43 ?_
        refine g_iload_1 hX dX3_drawLine_44 ?_
        refine g_iload_3 hX dX3_drawLine_45 ?_
        refine g_cV2r hX mkX3_mostFor ml_X3_82 (c_X3_mostFor h_q (by omega) hq4 hn6 hq5 hp6 hl) (h_q.obj _) dX3_drawLine_46 rfl (by decide) (Nat.le_of_ble_eq_true rfl) ?_
        refine g_min hX ml_X3_85 mm_min_s mm_ini mm_min_c dX3_drawLine_49 rfl (by decide) (Nat.le_of_ble_eq_true rfl) ?_
        refine g_goto hX 56 dX3_drawLine_52 (by decide) ?_
        refine g_istore_5 hX dX3_drawLine_56 rfl ?_
        refine g_aload_0 hX dX3_drawLine_58 ?_
        refine gt_X3_drawn hX h_q dX3_drawLine_59 ?_
        refine g_iload_1 hX dX3_drawLine_62 ?_
        refine g_iload_3 hX dX3_drawLine_63 ?_
        refine g_bipush hX 6 dX3_drawLine_64 (by decide) ?_
        refine g_cN3r hX mkX5_cell nl_X3_90 (c_X5_cell (w := 6) (by omega) (by decide)) dX3_drawLine_66 rfl (by decide) (Nat.le_of_ble_eq_true rfl) ?_
        refine g_iload_5 hX dX3_drawLine_69 ?_
        refine g_cN3v hX mkX5_put nl_X3_54 (c_X5_put h_q.2.2.2.2.2 (by omega) (by decide)) dX3_drawLine_71 rfl (by decide) (Nat.le_of_ble_eq_true rfl) ?_
        refine g_aload_0 hX dX3_drawLine_74 ?_
        refine gt_X3_rooms hX h_q dX3_drawLine_75 ?_
        refine g_iload_3 hX dX3_drawLine_78 ?_
        refine g_aload_0 hX dX3_drawLine_79 ?_
        refine gt_X3_rooms hX h_q dX3_drawLine_80 ?_
        refine g_iload_3 hX dX3_drawLine_83 ?_
        refine g_cN2r hX mkX5_at nl_X3_67 (c_X5_at h_q.2.2.2.2.1 (by omega) (by decide)) dX3_drawLine_84 rfl (by decide) (Nat.le_of_ble_eq_true rfl) ?_
        refine g_top ((drS b q n np l k).1 (q + 3) k) (by rw [u2c _ _ (by omega)]) ?_
        refine g_iload_5 hX dX3_drawLine_87 ?_
        refine g_isub hX dX3_drawLine_89 ?_
        refine g_cN3v hX mkX5_put nl_X3_54 (c_X5_put h_q.2.2.2.2.1 (by omega) (by decide)) dX3_drawLine_90 rfl (by decide) (Nat.le_of_ble_eq_true rfl) ?_
        refine g_iload_2 hX dX3_drawLine_93 ?_
        refine g_iload_5 hX dX3_drawLine_94 ?_
        refine g_isub hX dX3_drawLine_96 ?_
        refine g_istore_2 hX dX3_drawLine_97 rfl ?_
        refine g_iinc_3 hX 1 dX3_drawLine_98 (by decide) rfl ?_
        refine g_goto hX 13 dX3_drawLine_101 (by decide) ?_
        exact g_back ih13 (by first | (simp only [drS, drT, pkS, if_pos c39, minI]; done) | (simp only [drS, drT, pkS, if_neg c39]; done)) (by first | (simp only [nI_succ, drS, drT, pkS, if_pos c39, minI]; done) | (simp only [nI_succ, drS, drT, pkS, if_neg c39]; done)) (lvw_c (lvw_c (lvw_c (lvw_c (lvw_n (lvw_n lvw_nil))))))
  · show G Z X ((drS b q n np l (np)).1) 13 ([some (.ref (zad Z q)), some (.int (nI l)), some (.int (drS b q n np l (np)).2), some (.int (nI (np))), none, none]) _
    refine g_iload_3 hX dX3_drawLine_13 ?_
    refine g_aload_0 hX dX3_drawLine_14 ?_
    refine gt_X3_pockets hX h_q dX3_drawLine_15 ?_
    refine g_icmp_ge hX 104 dX3_drawLine_18 (by decide) (fun c18 => ?_) (fun c18 => ?_)
    · exact hq _ _ _ dX3_drawLine_104 (by rfl)
    · exact absurd c18 (by rw [drS_c _ _ _ _ _ _ (by omega) (by omega), hp]; exact Int32.lt_irrefl)
set_option maxRecDepth 100000 in
set_option maxHeartbeats 4000000 in
theorem c_X3_joinSets {Z : Zt} {b : Mem} {q : Nat} (h_q : isShr Z q) {n : Nat} (hn : b q 4 = nI n) (hn6 : n ≤ 6) : Con Z yX3_joinSets cX3_joinSets 4 none 1 [.ref (zad Z q)] b none (jn b q (2 ^ n - 1)) := by
  have h64 := pow64 hn6
  have h1 := pow1 n
  refine con_v (by decide) (Nat.le_of_ble_eq_true rfl) rfl (fun X hX hq => ?_)
  have hX : Ok Z X cX3_joinSets 4 RX3 1 := hX
  show G Z X b 0 [some (.ref (zad Z q)), none, none, none] []
  refine g_iconst hX 1 dX3_joinSets_0 (by decide) ?_
  refine g_istore_1 hX dX3_joinSets_1 rfl ?_
  refine g_loopW (lvw_c (lvw_c (lvw_n (lvw_n lvw_nil)))) (2 ^ n - 1) (fun k => jn b q k) (fun k => [some (.ref (zad Z q)), some (.int (nI (k + 1))), none, none]) rfl rfl (fun k hk2 ih2 => ?_) ?_
  · show G Z X (jn b q k) 2 ([some (.ref (zad Z q)), some (.int (nI (k + 1))), none, none]) _
    have ha : (k + 1) &&& k < 64 := Nat.lt_of_le_of_lt Nat.and_le_left (by omega)
    have hx : (k + 1) ^^^ ((k + 1) &&& k) < 64 := xor64 (by omega) ha
    refine g_iload_1 hX dX3_joinSets_2 ?_
    refine g_iconst hX 1 dX3_joinSets_3 (by decide) ?_
    refine g_aload_0 hX dX3_joinSets_4 ?_
    refine gt_X3_lines hX h_q dX3_joinSets_5 ?_
    refine g_ishl hX dX3_joinSets_8 ?_
    refine g_top (nI (2 ^ n)) (by rw [jn_c _ _ _ (by omega) (by omega), hn, one_shl (by omega)]) ?_
    refine g_icmp_ge hX 78 dX3_joinSets_9 (by decide) (fun c9 => ?_) (fun c9 => ?_)
    · exact absurd c9 (not_not_intro (ltN (by omega) h64))
    · refine g_iload_1 hX dX3_joinSets_12 ?_
      refine g_iload_1 hX dX3_joinSets_13 ?_
      refine g_iconst hX 1 dX3_joinSets_14 (by decide) ?_
      refine g_isub hX dX3_joinSets_15 ?_
      refine g_iand hX dX3_joinSets_16 ?_
      refine g_top (nI ((k + 1) &&& k)) (by rw [nI_pred, nx_and]) ?_
      refine g_istore_2 hX dX3_joinSets_17 rfl ?_
      refine g_iload_1 hX dX3_joinSets_18 ?_
      refine g_iload_2 hX dX3_joinSets_19 ?_
      refine g_ixor hX dX3_joinSets_20 ?_
      refine g_top (nI ((k + 1) ^^^ ((k + 1) &&& k))) (by rw [nx_xor]) ?_
      refine g_istore_3 hX dX3_joinSets_21 rfl ?_
      refine g_aload_0 hX dX3_joinSets_22 ?_
      refine gt_X3_needs hX h_q dX3_joinSets_23 ?_
      refine g_iload_1 hX dX3_joinSets_26 ?_
      refine g_aload_0 hX dX3_joinSets_27 ?_
      refine gt_X3_needs hX h_q dX3_joinSets_28 ?_
      refine g_iload_2 hX dX3_joinSets_31 ?_
      refine g_cN2r hX mkX5_at nl_X3_67 (c_X5_at h_q.2.2.1 ha (by decide)) dX3_joinSets_32 rfl (by decide) (Nat.le_of_ble_eq_true rfl) ?_
      refine g_aload_0 hX dX3_joinSets_35 ?_
      refine gt_X3_needs hX h_q dX3_joinSets_36 ?_
      refine g_iload_3 hX dX3_joinSets_39 ?_
      refine g_cN2r hX mkX5_at nl_X3_67 (c_X5_at h_q.2.2.1 hx (by decide)) dX3_joinSets_40 rfl (by decide) (Nat.le_of_ble_eq_true rfl) ?_
      refine g_iadd hX dX3_joinSets_43 ?_
      refine g_cN3v hX mkX5_put nl_X3_54 (c_X5_put h_q.2.2.1 (by omega) (by decide)) dX3_joinSets_44 rfl (by decide) (Nat.le_of_ble_eq_true rfl) ?_
      refine g_aload_0 hX dX3_joinSets_47 ?_
      refine gt_X3_reach hX h_q dX3_joinSets_48 ?_
      refine g_iload_1 hX dX3_joinSets_51 ?_
      refine g_aload_0 hX dX3_joinSets_52 ?_
      refine gt_X3_reach hX h_q dX3_joinSets_53 ?_
      refine g_iload_2 hX dX3_joinSets_56 ?_
      refine g_cN2r hX mkX5_at nl_X3_67 (c_X5_at h_q.2.2.2.1 ha (by decide)) dX3_joinSets_57 rfl (by decide) (Nat.le_of_ble_eq_true rfl) ?_
      refine g_top (jn b q k (q + 2) ((k + 1) &&& k)) (by rw [u2c _ _ (by omega)]) ?_
      refine g_aload_0 hX dX3_joinSets_60 ?_
      refine gt_X3_reach hX h_q dX3_joinSets_61 ?_
      refine g_iload_3 hX dX3_joinSets_64 ?_
      refine g_cN2r hX mkX5_at nl_X3_67 (c_X5_at h_q.2.2.2.1 hx (by decide)) dX3_joinSets_65 rfl (by decide) (Nat.le_of_ble_eq_true rfl) ?_
      refine g_top (jn b q k (q + 2) ((k + 1) ^^^ ((k + 1) &&& k))) (by rw [u2c _ _ (by omega)]) ?_
      refine g_ior hX dX3_joinSets_68 ?_
      refine g_cN3v hX mkX5_put nl_X3_54 (c_X5_put h_q.2.2.2.1 (by omega) (by decide)) dX3_joinSets_69 rfl (by decide) (Nat.le_of_ble_eq_true rfl) ?_
      refine g_iinc_1 hX 1 dX3_joinSets_72 (by decide) rfl ?_
      refine g_goto hX 2 dX3_joinSets_75 (by decide) ?_
      exact g_back ih2 (by simp only [jn, jnS]) (by simp only [nI_succ]) (lvw_c (lvw_c (lvw_n (lvw_n lvw_nil))))
  · show G Z X (jn b q (2 ^ n - 1)) 2 ([some (.ref (zad Z q)), some (.int (nI ((2 ^ n - 1) + 1))), none, none]) _
    refine g_iload_1 hX dX3_joinSets_2 ?_
    refine g_iconst hX 1 dX3_joinSets_3 (by decide) ?_
    refine g_aload_0 hX dX3_joinSets_4 ?_
    refine gt_X3_lines hX h_q dX3_joinSets_5 ?_
    refine g_ishl hX dX3_joinSets_8 ?_
    refine g_top (nI (2 ^ n)) (by rw [jn_c _ _ _ (by omega) (by omega), hn, one_shl (by omega)]) ?_
    refine g_icmp_ge hX 78 dX3_joinSets_9 (by decide) (fun c9 => ?_) (fun c9 => ?_)
    · exact hq _ _ _ dX3_joinSets_78 (by rfl)
    · exact absurd c9 (by rw [Nat.sub_add_cancel h1]; exact Int32.lt_irrefl)
set_option maxRecDepth 100000 in
set_option maxHeartbeats 4000000 in
theorem c_X3_look {Z : Zt} {b : Mem} {q : Nat} (h_q : isShr Z q) {o : Nat} (h_o : isBus Z o) {t : Int32} (hV : Val (cv b o)) (hd : q + 4 < o ∨ o + 6 < q) : Con Z yX3_look cX3_look 5 none 3 [.ref (zad Z q), .ref (zad Z o), .int t] b none (lookM b q o t) := by
  have hn : b o 6 = nI (nl (cv b o)) := hV.1.1
  have hn6 := hV.1.2
  have hp : b o 7 = nI (np (cv b o)) := hV.2.1.1
  have hp6 := hV.2.1.2
  have hs := hV.2.2.2.2 1 (by decide)
  have q4 : ∀ k, lkL b q o t k q 4 = nI (nl (cv b o)) := fun k => by rw [lkL_q _ _ _ _ _ (by decide), lk0, u2k _ _ (by decide), u2k _ _ (by decide), u2s, hn]
  have q5 : ∀ k, lkL b q o t k q 5 = nI (np (cv b o)) := fun k => by rw [lkL_q _ _ _ _ _ (by decide), lk0, u2k _ _ (by decide), u2s, hp]
  have hcv : ∀ k, cv (lkL b q o t k) o = cv b o := fun k => lkL_cv b q o t k hd
  refine con_v (by decide) (Nat.le_of_ble_eq_true rfl) rfl (fun X hX hq => ?_)
  have hX : Ok Z X cX3_look 5 RX3 3 := hX
  show G Z X b 0 [some (.ref (zad Z q)), some (.ref (zad Z o)), some (.int t), none, none] []
  refine g_aload_0 hX dX3_look_0 ?_
  refine g_aload_1 hX dX3_look_1 ?_
  refine g_cV0r hX mkX0_lineCount ml_X3_37 (c_X0_lineCount h_o) (h_o.obj _) dX3_look_2 rfl (by decide) (Nat.le_of_ble_eq_true rfl) ?_
  refine pt_X3_lines hX h_q dX3_look_5 ?_
  refine g_aload_0 hX dX3_look_8 ?_
  refine g_aload_1 hX dX3_look_9 ?_
  refine g_cV0r hX mkX0_pocketCount ml_X3_43 (c_X0_pocketCount h_o) (h_o.obj _) dX3_look_10 rfl (by decide) (Nat.le_of_ble_eq_true rfl) ?_
  refine g_top (b o 7) (by rw [u2c _ _ (by omega)]) ?_
  refine pt_X3_pockets hX h_q dX3_look_13 ?_
  refine g_aload_0 hX dX3_look_16 ?_
  refine g_iconst hX 0 dX3_look_17 (by decide) ?_
  refine pt_X3_tooLong hX h_q dX3_look_18 ?_
  refine g_iconst hX 0 dX3_look_21 (by decide) ?_
  refine g_istore_3 hX dX3_look_22 rfl ?_
  refine g_loopW (lvw_c (lvw_c (lvw_c (lvw_c (lvw_n lvw_nil))))) (nl (cv b o)) (fun k => (lkL b q o t k)) (fun k => [some (.ref (zad Z q)), some (.ref (zad Z o)), some (.int t), some (.int (nI k)), none]) rfl rfl (fun k hk23 ih23 => ?_) ?_
  · show G Z X ((lkL b q o t k)) 23 ([some (.ref (zad Z q)), some (.ref (zad Z o)), some (.int t), some (.int (nI k)), none]) _
    have h2k : 2 ^ k < 64 := Nat.lt_of_lt_of_le (Nat.pow_lt_pow_right (by omega) hk23) (pow64 hn6)
    refine g_iload_3 hX dX3_look_23 ?_
    refine g_aload_0 hX dX3_look_24 ?_
    refine gt_X3_lines hX h_q dX3_look_25 ?_
    refine g_icmp_ge hX 94 dX3_look_28 (by decide) (fun c28 => ?_) (fun c28 => ?_)
    · exact absurd c28 (not_not_intro (by rw [q4]; exact nI_lt hk23 (by omega)))
    · refine g_aload_1 hX dX3_look_31 ?_
      refine g_iload_3 hX dX3_look_32 ?_
      refine g_cV1r hX mkX0_baseOf ml_X3_46 (c_X0_baseOf h_o (by rw [hcv]; exact hV) (by rw [hcv]; exact hk23)) (h_o.obj _) dX3_look_33 rfl (by decide) (Nat.le_of_ble_eq_true rfl) ?_
      refine g_top (baseS (cv b o) k) (by rw [hcv]) ?_
      refine g_istore_4 hX dX3_look_36 rfl ?_
      refine g_aload_0 hX dX3_look_38 ?_
      refine gt_X3_needs hX h_q dX3_look_39 ?_
      refine g_iconst hX 1 dX3_look_42 (by decide) ?_
      refine g_iload_3 hX dX3_look_43 ?_
      refine g_ishl hX dX3_look_44 ?_
      refine g_aload_1 hX dX3_look_45 ?_
      refine g_iload_4 hX dX3_look_46 ?_
      refine g_iload_2 hX dX3_look_48 ?_
      refine g_cV2r hX mkX0_needFor ml_X3_50 (c_X0_needFor h_o) (h_o.obj _) dX3_look_49 rfl (by decide) (Nat.le_of_ble_eq_true rfl) ?_
      refine g_top (needS (cv b o) (baseS (cv b o) k) t) (by rw [hcv]) ?_
      refine g_cast (st' := [.int (needS (cv b o) (baseS (cv b o) k) t), .int (nI (2 ^ k)), .ref (zad Z (q + 1))]) ?_ rfl rfl (by rw [one_shl (by omega)])
      refine g_cN3v hX mkX5_put nl_X3_54 (c_X5_put h_q.2.2.1 h2k (by decide)) dX3_look_52 rfl (by decide) (Nat.le_of_ble_eq_true rfl) ?_
      refine g_aload_0 hX dX3_look_55 ?_
      refine gt_X3_reach hX h_q dX3_look_56 ?_
      refine g_iconst hX 1 dX3_look_59 (by decide) ?_
      refine g_iload_3 hX dX3_look_60 ?_
      refine g_ishl hX dX3_look_61 ?_
      refine g_aload_1 hX dX3_look_62 ?_
      refine g_iload_3 hX dX3_look_63 ?_
      refine g_cV1r hX mkX0_reachOf ml_X3_58 (c_X0_reachOf h_o (by rw [cv_up2 _ _ _ (by omega), hcv]; exact hV) (by omega)) (h_o.obj _) dX3_look_64 rfl (by decide) (Nat.le_of_ble_eq_true rfl) ?_
      refine g_top (nI (reachN (cv b o) k)) (by rw [cv_up2 _ _ _ (by omega), hcv]) ?_
      refine g_cast (st' := [.int (nI (reachN (cv b o) k)), .int (nI (2 ^ k)), .ref (zad Z (q + 2))]) ?_ rfl rfl (by rw [one_shl (by omega)])
      refine g_cN3v hX mkX5_put nl_X3_54 (c_X5_put h_q.2.2.2.1 h2k (by decide)) dX3_look_67 rfl (by decide) (Nat.le_of_ble_eq_true rfl) ?_
      refine g_iload_4 hX dX3_look_70 ?_
      refine g_iload_2 hX dX3_look_72 ?_
      refine g_icmp_le hX 88 dX3_look_73 (by decide) (fun c73 => ?_) (fun c73 => ?_)
      · refine g_iinc_3 hX 1 dX3_look_88 (by decide) rfl ?_
        refine g_goto hX 23 dX3_look_91 (by decide) ?_
        exact g_back ih23 (by first | (simp only [lkL, lkT, if_pos c73, lkS]; done) | (simp only [lkL, lkT, if_neg c73, lkS]; done)) (by simp only [nI_succ]) (lvw_c (lvw_c (lvw_c (lvw_c (lvw_n lvw_nil)))))
      · refine g_aload_0 hX dX3_look_76 ?_
        refine g_dup hX dX3_look_77 rfl ?_
        refine gt_X3_tooLong hX h_q dX3_look_78 ?_
        refine g_iconst hX 1 dX3_look_81 (by decide) ?_
        refine g_iload_3 hX dX3_look_82 ?_
        refine g_ishl hX dX3_look_83 ?_
        refine g_cast (st' := [.int (nI (2 ^ k)), .int (lkL b q o t k q 6), .ref (zad Z q)]) ?_ rfl rfl (by rw [one_shl (by omega), u2c _ _ (by omega), u2c _ _ (by omega)])
        refine g_ior hX dX3_look_84 ?_
        refine pt_X3_tooLong hX h_q dX3_look_85 ?_
        refine g_iinc_3 hX 1 dX3_look_88 (by decide) rfl ?_
        refine g_goto hX 23 dX3_look_91 (by decide) ?_
        exact g_back ih23 (by first | (simp only [lkL, lkT, if_pos c73, lkS]; done) | (simp only [lkL, lkT, if_neg c73, lkS]; done)) (by simp only [nI_succ]) (lvw_c (lvw_c (lvw_c (lvw_c (lvw_n lvw_nil)))))
  · show G Z X ((lkL b q o t (nl (cv b o)))) 23 ([some (.ref (zad Z q)), some (.ref (zad Z o)), some (.int t), some (.int (nI (nl (cv b o)))), none]) _
    refine g_iload_3 hX dX3_look_23 ?_
    refine g_aload_0 hX dX3_look_24 ?_
    refine gt_X3_lines hX h_q dX3_look_25 ?_
    refine g_icmp_ge hX 94 dX3_look_28 (by decide) (fun c28 => ?_) (fun c28 => ?_)
    · refine g_iconst hX 0 dX3_look_94 (by decide) ?_
      refine g_istore_3 hX dX3_look_95 rfl ?_
      refine g_loop (np (cv b o)) (fun k => lkR (lkL b q o t (nl (cv b o))) (cv b o) q k) (fun k => [some (.ref (zad Z q)), some (.ref (zad Z o)), some (.int t), some (.int (nI k)), none]) rfl rfl (fun k hk96 ih96 => ?_) ?_
      · show G Z X (lkR (lkL b q o t (nl (cv b o))) (cv b o) q k) 96 ([some (.ref (zad Z q)), some (.ref (zad Z o)), some (.int t), some (.int (nI k)), none]) _
        have hc2 : cv (lkR (lkL b q o t (nl (cv b o))) (cv b o) q k) o = cv b o := by rw [lkR_cv _ _ _ _ _ hd, hcv]
        have e61 : lkR (lkL b q o t (nl (cv b o))) (cv b o) q k (o + 6) = b (o + 6) := by rw [lkR_c _ _ _ _ (by omega), lkL_c _ _ _ _ _ (by omega) (by omega) (by omega)]
        refine g_iload_3 hX dX3_look_96 ?_
        refine g_aload_0 hX dX3_look_97 ?_
        refine gt_X3_pockets hX h_q dX3_look_98 ?_
        refine g_icmp_ge hX 123 dX3_look_101 (by decide) (fun c101 => ?_) (fun c101 => ?_)
        · exact absurd c101 (not_not_intro (by rw [lkR_c _ _ _ _ (by omega), q5]; exact nI_lt hk96 (by omega)))
        · refine g_aload_0 hX dX3_look_104 ?_
          refine gt_X3_rooms hX h_q dX3_look_105 ?_
          refine g_iload_3 hX dX3_look_108 ?_
          refine g_aload_1 hX dX3_look_109 ?_
          refine g_iload_3 hX dX3_look_110 ?_
          refine g_cV1r hX mkX0_humpsOf ml_X3_61 (c_X0_humpsOf h_o (by omega) (by rw [e61]; exact hs.1) (by rw [e61]; exact hs.2)) (h_o.obj _) dX3_look_111 rfl (by decide) (Nat.le_of_ble_eq_true rfl) ?_
          refine g_top (humpsS (cv b o) k) (by rw [hc2]) ?_
          refine g_cN3v hX mkX5_put nl_X3_54 (c_X5_put h_q.2.2.2.2.1 (by omega) (by decide)) dX3_look_114 rfl (by decide) (Nat.le_of_ble_eq_true rfl) ?_
          refine g_iinc_3 hX 1 dX3_look_117 (by decide) rfl ?_
          refine g_goto hX 96 dX3_look_120 (by decide) ?_
          exact g_cast ih96 (by simp only [lkR]) (by simp only [nI_succ]) rfl
      · show G Z X (lkR (lkL b q o t (nl (cv b o))) (cv b o) q (np (cv b o))) 96 ([some (.ref (zad Z q)), some (.ref (zad Z o)), some (.int t), some (.int (nI (np (cv b o)))), none]) _
        refine g_iload_3 hX dX3_look_96 ?_
        refine g_aload_0 hX dX3_look_97 ?_
        refine gt_X3_pockets hX h_q dX3_look_98 ?_
        refine g_icmp_ge hX 123 dX3_look_101 (by decide) (fun c101 => ?_) (fun c101 => ?_)
        · refine g_aload_0 hX dX3_look_123 ?_
          refine g_cV0v hX mkX3_joinSets ml_X3_64 (c_X3_joinSets h_q (n := nl (cv b o)) (by rw [lkR_c _ _ _ _ (by omega), q4]) hn6) (h_q.obj _) dX3_look_124 rfl (by decide) (Nat.le_of_ble_eq_true rfl) ?_
          exact hq _ _ _ dX3_look_127 (by rfl)
        · exact absurd c101 (by rw [lkR_c _ _ _ _ (by omega), q5]; exact Int32.lt_irrefl)
    · exact absurd c28 (by rw [q4]; exact Int32.lt_irrefl)
