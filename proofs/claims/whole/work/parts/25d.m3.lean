/-! the reference: what it tells of lines and runs -/
noncomputable def skR (v : View) (l i : Int32) : Int32 := cl (okR v l i) (skewS v l.toNatClampNeg i.toNatClampNeg + 100) (-2)
noncomputable def skC (v : View) (l i : Int32) : Int32 := cl (okR v l i) 0 (-2)
def MG (b : Mem) (c : Int32) (b' : Mem) : Prop := (∀ j, (j ≤ 69 ∨ j = 71 ∨ j = 72 ∨ j = 79) → b' j = b j) ∧ b' 70 0 = b 70 0 + bI (c = -2) ∧ b' 70 1 = b 70 1 + bI (c = -3) ∧ b' 70 2 = b 70 2 + bI (c = -4)
theorem MG.same {b b' : Mem} (h : ∀ j, (j ≤ 72 ∨ j = 79) → b' j = b j) : MG b 0 b' := ⟨fun j hj => h j (by omega), by rw [bI0 (by decide), h 70 (by decide)], by rw [bI0 (by decide), h 70 (by decide)], by rw [bI0 (by decide), h 70 (by decide)]⟩
theorem MG.rf (b : Mem) : MG b 0 b := MG.same (fun _ _ => rfl)
theorem MG.tr {a b c : Mem} {x : Int32} (h1 : MG a 0 b) (h2 : MG b x c) : MG a x c := by
  obtain ⟨p0, p1, p2, p3⟩ := h1
  obtain ⟨q0, q1, q2, q3⟩ := h2
  rw [bI0 (by decide)] at p1 p2 p3
  exact ⟨fun j hj => by rw [q0 j hj, p0 j hj], by rw [q1, p1], by rw [q2, p2], by rw [q3, p3]⟩
theorem MG.bad (b : Mem) : MG b (-2) (up2 b 70 0 (b 70 0 + 1)) := ⟨fun j hj => u2c _ _ (by omega), u2s _ _ _ _, by rw [u2k _ _ (by decide), bI0 (by decide)], by rw [u2k _ _ (by decide), bI0 (by decide)]⟩
theorem MG.no (b : Mem) : MG b (-3) (up2 b 70 1 (b 70 1 + 1)) := ⟨fun j hj => u2c _ _ (by omega), by rw [u2k _ _ (by decide), bI0 (by decide)], u2s _ _ _ _, by rw [u2k _ _ (by decide), bI0 (by decide)]⟩
theorem MG.v {b b' : Mem} {c : Int32} (h : MG b c b') : mv b' = mv b := by unfold mv; rw [h.1 71 (by omega)]
theorem MG.val {b b' : Mem} {c : Int32} (h : MG b c b') (hV : Val (mv b)) : Val (mv b') := by rw [h.v]; exact hV
theorem sw6 (x : Int32) : x = 0 ∨ x = 1 ∨ x = 2 ∨ x = 3 ∨ x = 4 ∨ x = 5 ∨ (x.toInt < 0 ∨ 5 < x.toInt) := by
  rcases sw7 x with h | h | h | h | h | h | h | h
  · exact Or.inl h
  · exact Or.inr (Or.inl h)
  · exact Or.inr (Or.inr (Or.inl h))
  · exact Or.inr (Or.inr (Or.inr (Or.inl h)))
  · exact Or.inr (Or.inr (Or.inr (Or.inr (Or.inl h))))
  · exact Or.inr (Or.inr (Or.inr (Or.inr (Or.inr (Or.inl h)))))
  all_goals (first | (subst h; exact Or.inr (Or.inr (Or.inr (Or.inr (Or.inr (Or.inr (Or.inr (by decide)))))))) | exact Or.inr (Or.inr (Or.inr (Or.inr (Or.inr (Or.inr (by omega)))))))
theorem ofV_d {v : View} {l : Nat} {w : Int32} (h : w.toInt < 0 ∨ 5 < w.toInt) : ofV v l w = turnsS v l 0 := by
  have k : ∀ n : Int32, (0 ≤ n.toInt ∧ n.toInt ≤ 5) → ¬ w = n := fun n hn e => by subst e; omega
  unfold ofV
  rw [if_neg (k 0 (by decide)), if_neg (k 1 (by decide)), if_neg (k 2 (by decide)), if_neg (k 3 (by decide)), if_neg (k 4 (by decide)), if_neg (k 5 (by decide))]
set_option maxRecDepth 100000 in
set_option maxHeartbeats 4000000 in
theorem c_X6_base {Z : Zt} {b : Mem} {l : Nat} (hV : Val (mv b)) (hl : l < nl (mv b))  : Con Z yX6_base cX6_base 4 (some .int) 1 [.ref (zad Z 69), .int (nI l)] b (some (.int (baseS (mv b) l))) (b) := by
  have hr : b 71 (9 + 17 * l) = nI (rn (mv b) l) := hV.runs hl
  have hr8 := hV.r8 hl
  have hr1 := hV.r1 hl
  have hl6 := hV.l6 hl
  refine con_i (by decide) (Nat.le_of_ble_eq_true rfl) rfl (fun X hX hq => ?_)
  have hX : Ok Z X cX6_base 4 RX6 1 := hX
  show G Z X b 0 [some (.ref (zad Z 69)), some (.int (nI l)), none, none] []
  refine g_iconst hX 0 dX6_base_0 (by decide) ?_
  refine g_istore_2 hX dX6_base_1 rfl ?_
  refine g_iconst hX 0 dX6_base_2 (by decide) ?_
  refine g_istore_3 hX dX6_base_3 rfl ?_
  refine g_loop (rn (mv b) l) (fun k => b) (fun k => [some (.ref (zad Z 69)), some (.int (nI l)), some (.int (sumI (mv b 1 l) k)), some (.int (nI k))]) rfl rfl (fun k hk4 ih4 => ?_) ?_
  · show G Z X (b) 4 ([some (.ref (zad Z 69)), some (.int (nI l)), some (.int (sumI (mv b 1 l) k)), some (.int (nI k))]) _
    refine g_iload_3 hX dX6_base_4 ?_
    refine g_aload_0 hX dX6_base_5 ?_
    refine g_iload_1 hX dX6_base_6 ?_
    refine g_cV1r hX mkX6_runsOf ml_X6_69 (c_X6_runsOf hl6) (ob_69 Z _) dX6_base_7 rfl (by decide) (Nat.le_of_ble_eq_true rfl) ?_
    refine g_icmp_ge hX 28 dX6_base_10 (by decide) (fun c10 => ?_) (fun c10 => ?_)
    · exact absurd c10 (not_not_intro (by rw [hr]; exact nI_lt hk4 (by omega)))
    · refine g_iload_2 hX dX6_base_13 ?_
      refine g_aload_0 hX dX6_base_14 ?_
      refine g_iload_1 hX dX6_base_15 ?_
      refine g_iload_3 hX dX6_base_16 ?_
      refine g_cV2r hX mkX6_longOf ml_X6_120 (c_X6_longOf hl6 (by omega)) (ob_69 Z _) dX6_base_17 rfl (by decide) (Nat.le_of_ble_eq_true rfl) ?_
      refine g_iadd hX dX6_base_20 ?_
      refine g_istore_2 hX dX6_base_21 rfl ?_
      refine g_iinc_3 hX 1 dX6_base_22 (by decide) rfl ?_
      refine g_goto hX 4 dX6_base_25 (by decide) ?_
      exact g_cast ih4 rfl (by simp only [nI_succ, sumI] <;> rfl) rfl
  · show G Z X (b) 4 ([some (.ref (zad Z 69)), some (.int (nI l)), some (.int (sumI (mv b 1 l) (rn (mv b) l))), some (.int (nI (rn (mv b) l)))]) _
    refine g_iload_3 hX dX6_base_4 ?_
    refine g_aload_0 hX dX6_base_5 ?_
    refine g_iload_1 hX dX6_base_6 ?_
    refine g_cV1r hX mkX6_runsOf ml_X6_69 (c_X6_runsOf hl6) (ob_69 Z _) dX6_base_7 rfl (by decide) (Nat.le_of_ble_eq_true rfl) ?_
    refine g_icmp_ge hX 28 dX6_base_10 (by decide) (fun c10 => ?_) (fun c10 => ?_)
    · refine g_iload_2 hX dX6_base_28 ?_
      refine g_aload_0 hX dX6_base_29 ?_
      refine gt_X6_now hX dX6_base_30 ?_
      refine g_iconst hX 4 dX6_base_33 (by decide) ?_
      refine g_ialdN (k := 4) hX (ar_71 Z) (by decide) (by decide) dX6_base_34 ?_
      refine g_aload_0 hX dX6_base_35 ?_
      refine g_iload_1 hX dX6_base_36 ?_
      refine g_cV1r hX mkX6_runsOf ml_X6_69 (c_X6_runsOf hl6) (ob_69 Z _) dX6_base_37 rfl (by decide) (Nat.le_of_ble_eq_true rfl) ?_
      refine g_iconst hX 1 dX6_base_40 (by decide) ?_
      refine g_isub hX dX6_base_41 ?_
      refine g_imul hX dX6_base_42 ?_
      refine g_isub hX dX6_base_43 ?_
      refine g_istore_2 hX dX6_base_44 rfl ?_
      refine g_iload_2 hX dX6_base_45 ?_
      refine g_if_ge hX 53 dX6_base_46 (by decide) (fun c46 => ?_) (fun c46 => ?_)
      · refine g_iload_2 hX dX6_base_53 ?_
        exact hq _ _ _ _ dX6_base_54 (by rfl) ((pos0_f c46).symm)
      · refine g_iconst hX 0 dX6_base_49 (by decide) ?_
        refine g_goto hX 54 dX6_base_50 (by decide) ?_
        exact hq _ _ _ _ dX6_base_54 (by rfl) ((pos0_t c46).symm)
    · exact absurd c10 (by rw [hr]; exact Int32.lt_irrefl)
set_option maxRecDepth 100000 in
set_option maxHeartbeats 4000000 in
theorem c_X6_gain {Z : Zt} {b : Mem}  : Con Z yX6_gain cX6_gain 1 (some .int) 0 [.ref (zad Z 69)] b (some (.int (gainS (mv b)))) (b) := by
  refine con_i (by decide) (Nat.le_of_ble_eq_true rfl) rfl (fun X hX hq => ?_)
  have hX : Ok Z X cX6_gain 1 RX6 0 := hX
  show G Z X b 0 [some (.ref (zad Z 69))] []
  refine g_iconst hX 2 dX6_gain_0 (by decide) ?_
  refine g_aload_0 hX dX6_gain_1 ?_
  refine gt_X6_now hX dX6_gain_2 ?_
  refine g_iconst hX 2 dX6_gain_5 (by decide) ?_
  refine g_ialdN (k := 2) hX (ar_71 Z) (by decide) (by decide) dX6_gain_6 ?_
  refine g_aload_0 hX dX6_gain_7 ?_
  refine gt_X6_now hX dX6_gain_8 ?_
  refine g_iconst hX 3 dX6_gain_11 (by decide) ?_
  refine g_ialdN (k := 3) hX (ar_71 Z) (by decide) (by decide) dX6_gain_12 ?_
  refine g_isub hX dX6_gain_13 ?_
  refine g_imul hX dX6_gain_14 ?_
  refine g_iconst hX 4 dX6_gain_15 (by decide) ?_
  refine g_aload_0 hX dX6_gain_16 ?_
  refine gt_X6_now hX dX6_gain_17 ?_
  refine g_iconst hX 4 dX6_gain_20 (by decide) ?_
  refine g_ialdN (k := 4) hX (ar_71 Z) (by decide) (by decide) dX6_gain_21 ?_
  refine g_imul hX dX6_gain_22 ?_
  refine g_isub hX dX6_gain_23 ?_
  exact hq _ _ _ _ dX6_gain_24 (by rfl) (by rfl)
set_option maxRecDepth 100000 in
set_option maxHeartbeats 4000000 in
theorem c_X6_humps {Z : Zt} {b : Mem} {p : Nat} (hp : p < 6) (hV : Val (mv b))  : Con Z yX6_humps cX6_humps 2 (some .int) 1 [.ref (zad Z 69), .int (nI p)] b (some (.int (humpsS (mv b) p))) (b) := by
  have hs := hV.2.2.2.2 1 (by decide)
  refine con_i (by decide) (Nat.le_of_ble_eq_true rfl) rfl (fun X hX hq => ?_)
  have hX : Ok Z X cX6_humps 2 RX6 1 := hX
  show G Z X b 0 [some (.ref (zad Z 69)), some (.int (nI p))] []
  refine g_aload_0 hX dX6_humps_0 ?_
  refine g_cV0r hX mkX6_gain ml_X6_123 (c_X6_gain) (ob_69 Z _) dX6_humps_1 rfl (by decide) (Nat.le_of_ble_eq_true rfl) ?_
  refine g_iconst hX 2 dX6_humps_4 (by decide) ?_
  refine g_icmp_ge hX 12 dX6_humps_5 (by decide) (fun c5 => ?_) (fun c5 => ?_)
  · refine g_aload_0 hX dX6_humps_12 ?_
    refine gt_X6_now hX dX6_humps_13 ?_
    refine g_bipush hX 111 dX6_humps_16 (by decide) ?_
    refine g_iconst hX 2 dX6_humps_18 (by decide) ?_
    refine g_iload_1 hX dX6_humps_19 ?_
    refine g_imul hX dX6_humps_20 ?_
    refine g_iadd hX dX6_humps_21 ?_
    refine g_top _ (ix2 p) ?_
    refine g_ialdN (k := (111 + 2 * p)) hX (ar_71 Z) (by omega) (by decide) dX6_humps_22 ?_
    refine g_aload_0 hX dX6_humps_23 ?_
    refine gt_X6_now hX dX6_humps_24 ?_
    refine g_iconst hX 3 dX6_humps_27 (by decide) ?_
    refine g_ialdN (k := 3) hX (ar_71 Z) (by decide) (by decide) dX6_humps_28 ?_
    refine g_iadd hX dX6_humps_29 ?_
    refine g_iconst hX 2 dX6_humps_30 (by decide) ?_
    refine g_aload_0 hX dX6_humps_31 ?_
    refine gt_X6_now hX dX6_humps_32 ?_
    refine g_iconst hX 3 dX6_humps_35 (by decide) ?_
    refine g_ialdN (k := 3) hX (ar_71 Z) (by decide) (by decide) dX6_humps_36 ?_
    refine g_imul hX dX6_humps_37 ?_
    refine g_idiv hX dX6_humps_38 (two_mul_ne hs.1 hs.2) ?_
    exact hq _ _ _ _ dX6_humps_39 (by rfl) (by first | rw [humpsS, if_pos c5] | (rw [humpsS, if_neg c5]; rfl))
  · refine g_iconst hX 0 dX6_humps_8 (by decide) ?_
    refine g_goto hX 39 dX6_humps_9 (by decide) ?_
    exact hq _ _ _ _ dX6_humps_39 (by rfl) (by first | rw [humpsS, if_pos c5] | (rw [humpsS, if_neg c5]; rfl))
set_option maxRecDepth 100000 in
set_option maxHeartbeats 4000000 in
theorem c_X6_lack {Z : Zt} {b : Mem} {l : Nat} {t : Int32} (hV : Val (mv b)) (hl : l < nl (mv b)) : Con Z yX6_lack cX6_lack 4 (some .int) 2 [.ref (zad Z 69), .int (nI l), .int t] b (some (.int (lackS (mv b) (baseS (mv b) l) t))) (b) := by
  refine con_i (by decide) (Nat.le_of_ble_eq_true rfl) rfl (fun X hX hq => ?_)
  have hX : Ok Z X cX6_lack 4 RX6 2 := hX
  show G Z X b 0 [some (.ref (zad Z 69)), some (.int (nI l)), some (.int t), none] []
  refine g_iload_2 hX dX6_lack_0 ?_
  refine g_aload_0 hX dX6_lack_1 ?_
  refine gt_X6_now hX dX6_lack_2 ?_
  refine g_iconst hX 5 dX6_lack_5 (by decide) ?_
  refine g_ialdN (k := 5) hX (ar_71 Z) (by decide) (by decide) dX6_lack_6 ?_
  refine g_isub hX dX6_lack_7 ?_
  refine g_aload_0 hX dX6_lack_8 ?_
  refine g_iload_1 hX dX6_lack_9 ?_
  refine g_cV1r hX mkX6_base ml_X6_126 (c_X6_base hV hl) (ob_69 Z _) dX6_lack_10 rfl (by decide) (Nat.le_of_ble_eq_true rfl) ?_
  refine g_isub hX dX6_lack_13 ?_
  refine g_istore_3 hX dX6_lack_14 rfl ?_
  refine g_iload_3 hX dX6_lack_15 ?_
  refine g_if_gt hX 23 dX6_lack_16 (by decide) (fun c16 => ?_) (fun c16 => ?_)
  · refine g_iload_3 hX dX6_lack_23 ?_
    refine g_iconst hX 2 dX6_lack_24 (by decide) ?_
    refine g_irem hX dX6_lack_25 (by decide) ?_
    refine g_if_ne hX 33 dX6_lack_26 (by decide) (fun c26 => ?_) (fun c26 => ?_)
    · refine g_iload_3 hX dX6_lack_33 ?_
      refine g_iconst hX 1 dX6_lack_34 (by decide) ?_
      refine g_iadd hX dX6_lack_35 ?_
      exact hq _ _ _ _ dX6_lack_36 (by rfl) (by show _ = evenUp (pos0 (t - b 71 5 - baseS (mv b) l)); rw [pos0_p c16]; exact ((ev_lem c16).2 c26).symm)
    · refine g_iload_3 hX dX6_lack_29 ?_
      refine g_goto hX 36 dX6_lack_30 (by decide) ?_
      exact hq _ _ _ _ dX6_lack_36 (by rfl) (by show _ = evenUp (pos0 (t - b 71 5 - baseS (mv b) l)); rw [pos0_p c16]; exact ((ev_lem c16).1 c26).symm)
  · refine g_iconst hX 0 dX6_lack_19 (by decide) ?_
    refine g_goto hX 36 dX6_lack_20 (by decide) ?_
    exact hq _ _ _ _ dX6_lack_36 (by rfl) (by show _ = evenUp (pos0 (t - b 71 5 - baseS (mv b) l)); rw [pos0_n c16]; rfl)
set_option maxRecDepth 100000 in
set_option maxHeartbeats 4000000 in
theorem c_X6_needBy {Z : Zt} {b : Mem} {l : Nat} {t : Int32} (hV : Val (mv b)) (hl : l < nl (mv b)) : Con Z yX6_needBy cX6_needBy 4 (some .int) 3 [.ref (zad Z 69), .int (nI l), .int t] b (some (.int (ndV (mv b) t l))) (b) := by
  refine con_i (by decide) (Nat.le_of_ble_eq_true rfl) rfl (fun X hX hq => ?_)
  have hX : Ok Z X cX6_needBy 4 RX6 3 := hX
  show G Z X b 0 [some (.ref (zad Z 69)), some (.int (nI l)), some (.int t), none] []
  refine g_aload_0 hX dX6_needBy_0 ?_
  refine g_iload_1 hX dX6_needBy_1 ?_
  refine g_iload_2 hX dX6_needBy_2 ?_
  refine g_cV2r hX mkX6_lack ml_X6_129 (c_X6_lack hV hl) (ob_69 Z _) dX6_needBy_3 rfl (by decide) (Nat.le_of_ble_eq_true rfl) ?_
  refine g_istore_3 hX dX6_needBy_6 rfl ?_
  refine g_iload_3 hX dX6_needBy_7 ?_
  refine g_if_ne hX 15 dX6_needBy_8 (by decide) (fun c8 => ?_) (fun c8 => ?_)
  · refine g_aload_0 hX dX6_needBy_15 ?_
    refine g_cV0r hX mkX6_gain ml_X6_123 (c_X6_gain) (ob_69 Z _) dX6_needBy_16 rfl (by decide) (Nat.le_of_ble_eq_true rfl) ?_
    refine g_iconst hX 2 dX6_needBy_19 (by decide) ?_
    refine g_icmp_ge hX 29 dX6_needBy_20 (by decide) (fun c20 => ?_) (fun c20 => ?_)
    · refine g_iload_3 hX dX6_needBy_29 ?_
      refine g_aload_0 hX dX6_needBy_30 ?_
      refine g_cV0r hX mkX6_gain ml_X6_123 (c_X6_gain) (ob_69 Z _) dX6_needBy_31 rfl (by decide) (Nat.le_of_ble_eq_true rfl) ?_
      refine g_iadd hX dX6_needBy_34 ?_
      refine g_iconst hX 1 dX6_needBy_35 (by decide) ?_
      refine g_isub hX dX6_needBy_36 ?_
      refine g_aload_0 hX dX6_needBy_37 ?_
      refine g_cV0r hX mkX6_gain ml_X6_123 (c_X6_gain) (ob_69 Z _) dX6_needBy_38 rfl (by decide) (Nat.le_of_ble_eq_true rfl) ?_
      refine g_idiv hX dX6_needBy_41 (by intro e; rw [e] at c20; exact c20 (by decide)) ?_
      exact hq _ _ _ _ dX6_needBy_42 (by rfl) (by unfold ndV; first | rw [needS, if_pos c8] | rw [needS, if_neg c8, if_pos c20] | rw [needS, if_neg c8, if_neg c20])
    · refine g_sipush hX 1000 dX6_needBy_23 (by decide) ?_
      refine g_goto hX 42 dX6_needBy_26 (by decide) ?_
      exact hq _ _ _ _ dX6_needBy_42 (by rfl) (by unfold ndV; first | rw [needS, if_pos c8] | rw [needS, if_neg c8, if_pos c20] | rw [needS, if_neg c8, if_neg c20])
  · refine g_iconst hX 0 dX6_needBy_11 (by decide) ?_
    refine g_goto hX 42 dX6_needBy_12 (by decide) ?_
    exact hq _ _ _ _ dX6_needBy_42 (by rfl) (by unfold ndV; first | rw [needS, if_pos c8] | rw [needS, if_neg c8, if_pos c20] | rw [needS, if_neg c8, if_neg c20])
set_option maxRecDepth 100000 in
set_option maxHeartbeats 4000000 in
theorem c_X6_pocketsOf {Z : Zt} {b : Mem} {l : Nat} (hV : Val (mv b)) (hl : l < 6) : Con Z yX6_pocketsOf cX6_pocketsOf 4 (some .int) 0 [.ref (zad Z 69), .int (nI l)] b (some (.int (nI (reachN (mv b) l)))) (b) := by
  have hp : b 71 1 = nI (np (mv b)) := hV.2.1.1
  have hp6 := hV.2.1.2
  refine con_i (by decide) (Nat.le_of_ble_eq_true rfl) rfl (fun X hX hq => ?_)
  have hX : Ok Z X cX6_pocketsOf 4 RX6 0 := hX
  show G Z X b 0 [some (.ref (zad Z 69)), some (.int (nI l)), none, none] []
  refine g_iconst hX 0 dX6_pocketsOf_0 (by decide) ?_
  refine g_istore_2 hX dX6_pocketsOf_1 rfl ?_
  refine g_iconst hX 0 dX6_pocketsOf_2 (by decide) ?_
  refine g_istore_3 hX dX6_pocketsOf_3 rfl ?_
  refine g_loop (np (mv b)) (fun k => b) (fun k => [some (.ref (zad Z 69)), some (.int (nI l)), some (.int (nI (bitsN (fun p => tbI (mv b 4 p 0) l) k))), some (.int (nI k))]) rfl rfl (fun k hk4 ih4 => ?_) ?_
  · show G Z X (b) 4 ([some (.ref (zad Z 69)), some (.int (nI l)), some (.int (nI (bitsN (fun p => tbI (mv b 4 p 0) l) k))), some (.int (nI k))]) _
    refine g_iload_3 hX dX6_pocketsOf_4 ?_
    refine g_aload_0 hX dX6_pocketsOf_5 ?_
    refine gt_X6_now hX dX6_pocketsOf_6 ?_
    refine g_iconst hX 1 dX6_pocketsOf_9 (by decide) ?_
    refine g_ialdN (k := 1) hX (ar_71 Z) (by decide) (by decide) dX6_pocketsOf_10 ?_
    refine g_icmp_ge hX 42 dX6_pocketsOf_11 (by decide) (fun c11 => ?_) (fun c11 => ?_)
    · exact absurd c11 (not_not_intro (by rw [hp]; exact nI_lt hk4 (by omega)))
    · refine g_iload_2 hX dX6_pocketsOf_14 ?_
      refine g_aload_0 hX dX6_pocketsOf_15 ?_
      refine gt_X6_now hX dX6_pocketsOf_16 ?_
      refine g_bipush hX 111 dX6_pocketsOf_19 (by decide) ?_
      refine g_iconst hX 2 dX6_pocketsOf_21 (by decide) ?_
      refine g_iload_3 hX dX6_pocketsOf_22 ?_
      refine g_imul hX dX6_pocketsOf_23 ?_
      refine g_iadd hX dX6_pocketsOf_24 ?_
      refine g_iconst hX 1 dX6_pocketsOf_25 (by decide) ?_
      refine g_iadd hX dX6_pocketsOf_26 ?_
      refine g_top _ (ix2a k) ?_
      refine g_ialdN (k := (111 + 2 * k + 1)) hX (ar_71 Z) (by omega) (by decide) dX6_pocketsOf_27 ?_
      refine g_iload_1 hX dX6_pocketsOf_28 ?_
      refine g_ishr hX dX6_pocketsOf_29 ?_
      refine g_iconst hX 1 dX6_pocketsOf_30 (by decide) ?_
      refine g_iand hX dX6_pocketsOf_31 ?_
      refine g_iload_3 hX dX6_pocketsOf_32 ?_
      refine g_ishl hX dX6_pocketsOf_33 ?_
      refine g_ior hX dX6_pocketsOf_34 ?_
      refine g_top (nI (bitsN (fun p => tbI (mv b 4 p 0) l) (k + 1))) (by rw [and1 _ (by omega), shl01 (by omega), or01 (bits_lt _ _) (by omega)]; rfl) ?_
      refine g_istore_2 hX dX6_pocketsOf_35 rfl ?_
      refine g_iinc_3 hX 1 dX6_pocketsOf_36 (by decide) rfl ?_
      refine g_goto hX 4 dX6_pocketsOf_39 (by decide) ?_
      exact g_cast ih4 rfl (by simp only [nI_succ]) rfl
  · show G Z X (b) 4 ([some (.ref (zad Z 69)), some (.int (nI l)), some (.int (nI (bitsN (fun p => tbI (mv b 4 p 0) l) (np (mv b))))), some (.int (nI (np (mv b))))]) _
    refine g_iload_3 hX dX6_pocketsOf_4 ?_
    refine g_aload_0 hX dX6_pocketsOf_5 ?_
    refine gt_X6_now hX dX6_pocketsOf_6 ?_
    refine g_iconst hX 1 dX6_pocketsOf_9 (by decide) ?_
    refine g_ialdN (k := 1) hX (ar_71 Z) (by decide) (by decide) dX6_pocketsOf_10 ?_
    refine g_icmp_ge hX 42 dX6_pocketsOf_11 (by decide) (fun c11 => ?_) (fun c11 => ?_)
    · refine g_iload_2 hX dX6_pocketsOf_42 ?_
      exact hq _ _ _ _ dX6_pocketsOf_43 (by rfl) (by rfl)
    · exact absurd c11 (by rw [hp]; exact Int32.lt_irrefl)
set_option maxRecDepth 100000 in
set_option maxHeartbeats 4000000 in
theorem c_X6_turns {Z : Zt} {b : Mem} {l : Nat} {sd : Int32} (hV : Val (mv b)) (hl : l < nl (mv b)) : Con Z yX6_turns cX6_turns 5 (some .int) 1 [.ref (zad Z 69), .int (nI l), .int sd] b (some (.int (turnsS (mv b) l sd))) (b) := by
  have hr : b 71 (9 + 17 * l) = nI (rn (mv b) l) := hV.runs hl
  have hr8 := hV.r8 hl
  have hr1 := hV.r1 hl
  have hl6 := hV.l6 hl
  refine con_i (by decide) (Nat.le_of_ble_eq_true rfl) rfl (fun X hX hq => ?_)
  have hX : Ok Z X cX6_turns 5 RX6 1 := hX
  show G Z X b 0 [some (.ref (zad Z 69)), some (.int (nI l)), some (.int sd), none, none] []
  refine g_iconst hX 0 dX6_turns_0 (by decide) ?_
  refine g_istore_3 hX dX6_turns_1 rfl ?_
  refine g_iconst hX 1 dX6_turns_2 (by decide) ?_
  refine g_istore_4 hX dX6_turns_3 rfl ?_
  refine g_loop (rn (mv b) l - 1) (fun k => b) (fun k => [some (.ref (zad Z 69)), some (.int (nI l)), some (.int sd), some (.int (cntI (fun i => mv b 2 l (i + 1) = sd) k)), some (.int (nI (k + 1)))]) rfl rfl (fun k hk5 ih5 => ?_) ?_
  · show G Z X (b) 5 ([some (.ref (zad Z 69)), some (.int (nI l)), some (.int sd), some (.int (cntI (fun i => mv b 2 l (i + 1) = sd) k)), some (.int (nI (k + 1)))]) _
    refine g_iload_4 hX dX6_turns_5 ?_
    refine g_aload_0 hX dX6_turns_7 ?_
    refine g_iload_1 hX dX6_turns_8 ?_
    refine g_cV1r hX mkX6_runsOf ml_X6_69 (c_X6_runsOf hl6) (ob_69 Z _) dX6_turns_9 rfl (by decide) (Nat.le_of_ble_eq_true rfl) ?_
    refine g_icmp_ge hX 40 dX6_turns_12 (by decide) (fun c12 => ?_) (fun c12 => ?_)
    · exact absurd c12 (not_not_intro (by rw [hr]; exact nI_lt (by omega) (by omega)))
    · refine g_iload_3 hX dX6_turns_15 ?_
      refine g_aload_0 hX dX6_turns_16 ?_
      refine g_iload_1 hX dX6_turns_17 ?_
      refine g_iload_4 hX dX6_turns_18 ?_
      refine g_cV2r hX mkX6_turnOf ml_X6_132 (c_X6_turnOf hl6 (by omega)) (ob_69 Z _) dX6_turns_20 rfl (by decide) (Nat.le_of_ble_eq_true rfl) ?_
      refine g_iload_2 hX dX6_turns_23 ?_
      refine g_icmp_ne hX 31 dX6_turns_24 (by decide) (fun c24 => ?_) (fun c24 => ?_)
      · refine g_iconst hX 0 dX6_turns_31 (by decide) ?_
        refine g_iadd hX dX6_turns_32 ?_
        refine g_istore_3 hX dX6_turns_33 rfl ?_
        refine g_iinc_4 hX 1 dX6_turns_34 (by decide) rfl ?_
        refine g_goto hX 5 dX6_turns_37 (by decide) ?_
        exact g_cast ih5 rfl (by simp only [nI_succ, cntI, if_neg (show ¬ mv b 2 l (k + 1) = sd from c24), Int32.add_zero]) rfl
      · refine g_iconst hX 1 dX6_turns_27 (by decide) ?_
        refine g_goto hX 32 dX6_turns_28 (by decide) ?_
        refine g_iadd hX dX6_turns_32 ?_
        refine g_istore_3 hX dX6_turns_33 rfl ?_
        refine g_iinc_4 hX 1 dX6_turns_34 (by decide) rfl ?_
        refine g_goto hX 5 dX6_turns_37 (by decide) ?_
        exact g_cast ih5 rfl (by simp only [nI_succ, cntI, if_pos (show mv b 2 l (k + 1) = sd from c24)]) rfl
  · show G Z X (b) 5 ([some (.ref (zad Z 69)), some (.int (nI l)), some (.int sd), some (.int (cntI (fun i => mv b 2 l (i + 1) = sd) (rn (mv b) l - 1))), some (.int (nI ((rn (mv b) l - 1) + 1)))]) _
    refine g_iload_4 hX dX6_turns_5 ?_
    refine g_aload_0 hX dX6_turns_7 ?_
    refine g_iload_1 hX dX6_turns_8 ?_
    refine g_cV1r hX mkX6_runsOf ml_X6_69 (c_X6_runsOf hl6) (ob_69 Z _) dX6_turns_9 rfl (by decide) (Nat.le_of_ble_eq_true rfl) ?_
    refine g_icmp_ge hX 40 dX6_turns_12 (by decide) (fun c12 => ?_) (fun c12 => ?_)
    · refine g_iload_3 hX dX6_turns_40 ?_
      exact hq _ _ _ _ dX6_turns_41 (by rfl) (by rfl)
    · exact absurd c12 (by rw [hr, Nat.sub_add_cancel hr1]; exact Int32.lt_irrefl)
set_option maxRecDepth 100000 in
set_option maxHeartbeats 4000000 in
theorem c_X6_toldLine {Z : Zt} {b : Mem} {l : Nat} {w : Int32} (hV : Val (mv b)) (hl : l < nl (mv b)) : Con Z yX6_toldLine cX6_toldLine 3 (some .int) 4 [.ref (zad Z 69), .int (nI l), .int w] b (some (.int (ofV (mv b) l w))) (b) := by
  refine con_i (by decide) (Nat.le_of_ble_eq_true rfl) rfl (fun X hX hq => ?_)
  have hX : Ok Z X cX6_toldLine 3 RX6 4 := hX
  show G Z X b 0 [some (.ref (zad Z 69)), some (.int (nI l)), some (.int w)] []
  refine g_iload_2 hX dX6_toldLine_0 ?_
  rcases sw6 w with rfl | rfl | rfl | rfl | rfl | rfl | hsw
  · refine g_tableIn hX 40 dX6_toldLine_1 (by decide) (by decide) rfl (by decide) ?_
    refine g_aload_0 hX dX6_toldLine_40 ?_
    refine g_iload_1 hX dX6_toldLine_41 ?_
    refine g_cV1r hX mkX6_runsOf ml_X6_69 (c_X6_runsOf (hV.l6 hl)) (ob_69 Z _) dX6_toldLine_42 rfl (by decide) (Nat.le_of_ble_eq_true rfl) ?_
    exact hq _ _ _ _ dX6_toldLine_45 (by rfl) (by rfl)
  · refine g_tableIn hX 46 dX6_toldLine_1 (by decide) (by decide) rfl (by decide) ?_
    refine g_aload_0 hX dX6_toldLine_46 ?_
    refine g_iload_1 hX dX6_toldLine_47 ?_
    refine g_cV1r hX mkX6_base ml_X6_126 (c_X6_base hV hl) (ob_69 Z _) dX6_toldLine_48 rfl (by decide) (Nat.le_of_ble_eq_true rfl) ?_
    exact hq _ _ _ _ dX6_toldLine_51 (by rfl) (by rfl)
  · refine g_tableIn hX 52 dX6_toldLine_1 (by decide) (by decide) rfl (by decide) ?_
    refine g_aload_0 hX dX6_toldLine_52 ?_
    refine g_iload_1 hX dX6_toldLine_53 ?_
    refine g_aload_0 hX dX6_toldLine_54 ?_
    refine gt_X6_now hX dX6_toldLine_55 ?_
    refine g_bipush hX 6 dX6_toldLine_58 (by decide) ?_
    refine g_ialdN (k := 6) hX (ar_71 Z) (by decide) (by decide) dX6_toldLine_60 ?_
    refine g_cV2r hX mkX6_lack ml_X6_129 (c_X6_lack hV hl) (ob_69 Z _) dX6_toldLine_61 rfl (by decide) (Nat.le_of_ble_eq_true rfl) ?_
    exact hq _ _ _ _ dX6_toldLine_64 (by rfl) (by rfl)
  · refine g_tableIn hX 65 dX6_toldLine_1 (by decide) (by decide) rfl (by decide) ?_
    refine g_aload_0 hX dX6_toldLine_65 ?_
    refine g_iload_1 hX dX6_toldLine_66 ?_
    refine g_aload_0 hX dX6_toldLine_67 ?_
    refine gt_X6_now hX dX6_toldLine_68 ?_
    refine g_bipush hX 6 dX6_toldLine_71 (by decide) ?_
    refine g_ialdN (k := 6) hX (ar_71 Z) (by decide) (by decide) dX6_toldLine_73 ?_
    refine g_cV2r hX mkX6_needBy ml_X6_135 (c_X6_needBy hV hl) (ob_69 Z _) dX6_toldLine_74 rfl (by decide) (Nat.le_of_ble_eq_true rfl) ?_
    exact hq _ _ _ _ dX6_toldLine_77 (by rfl) (by rfl)
  · refine g_tableIn hX 78 dX6_toldLine_1 (by decide) (by decide) rfl (by decide) ?_
    refine g_aload_0 hX dX6_toldLine_78 ?_
    refine g_iload_1 hX dX6_toldLine_79 ?_
    refine g_cV1r hX mkX6_pocketsOf ml_X6_138 (c_X6_pocketsOf hV (hV.l6 hl)) (ob_69 Z _) dX6_toldLine_80 rfl (by decide) (Nat.le_of_ble_eq_true rfl) ?_
    exact hq _ _ _ _ dX6_toldLine_83 (by rfl) (by rfl)
  · refine g_tableIn hX 84 dX6_toldLine_1 (by decide) (by decide) rfl (by decide) ?_
    refine g_aload_0 hX dX6_toldLine_84 ?_
    refine g_iload_1 hX dX6_toldLine_85 ?_
    refine g_iconst hX 1 dX6_toldLine_86 (by decide) ?_
    refine g_cV2r hX mkX6_turns ml_X6_141 (c_X6_turns hV hl) (ob_69 Z _) dX6_toldLine_87 rfl (by decide) (Nat.le_of_ble_eq_true rfl) ?_
    exact hq _ _ _ _ dX6_toldLine_90 (by rfl) (by rfl)
  · refine g_tableOut hX 91 dX6_toldLine_1 hsw (by decide) ?_
    refine g_aload_0 hX dX6_toldLine_91 ?_
    refine g_iload_1 hX dX6_toldLine_92 ?_
    refine g_iconst hX 0 dX6_toldLine_93 (by decide) ?_
    refine g_cV2r hX mkX6_turns ml_X6_141 (c_X6_turns hV hl) (ob_69 Z _) dX6_toldLine_94 rfl (by decide) (Nat.le_of_ble_eq_true rfl) ?_
    exact hq _ _ _ _ dX6_toldLine_97 (by rfl) ((ofV_d hsw).symm)
set_option maxRecDepth 100000 in
set_option maxHeartbeats 4000000 in
theorem c_X6_of {Z : Zt} {b : Mem} {l w : Int32} (hV : Val (mv b))  : ConE Z yX6_of cX6_of 3 (some .int) 5 [.ref (zad Z 69), .int l, .int w] b (pI (fun x b' => x = ofR (mv b) l w ∧ MG b (ofC (mv b) l w) b')) := by
  have hn : b 71 0 = nI (nl (mv b)) := hV.1.1
  have hn6 := hV.1.2
  refine conE_i (by decide) (Nat.le_of_ble_eq_true rfl) rfl (fun X hX hq => ?_)
  have hX : Ok Z X cX6_of 3 RX6 5 := hX
  show G Z X b 0 [some (.ref (zad Z 69)), some (.int l), some (.int w)] []
  refine g_aload_0 hX dX6_of_0 ?_
  refine g_iload_1 hX dX6_of_1 ?_
  refine g_cV1r hX mkX6_isLine ml_X6_65 (c_X6_isLine hV) (ob_69 Z _) dX6_of_2 rfl (by decide) (Nat.le_of_ble_eq_true rfl) ?_
  refine g_if_eq hX 27 dX6_of_5 (by decide) (fun c5 => ?_) (fun c5 => ?_)
  · replace c5 := bI_z.mp c5
    refine g_aload_0 hX dX6_of_27 ?_
    refine g_cV0r hX mkX6_bad ml_X6_43 (c_X6_bad) (ob_69 Z _) dX6_of_28 rfl (by decide) (Nat.le_of_ble_eq_true rfl) ?_
    exact hq _ _ _ _ dX6_of_31 (⟨by rw [ofR, cl_f (fun z => c5 z.1)], by rw [ofC, cl_f (fun z => c5 z.1)]; exact MG.bad b⟩)
  · replace c5 := bI_nz.mp c5
    refine g_iload_2 hX dX6_of_8 ?_
    refine g_iconst hX 0 dX6_of_9 (by decide) ?_
    refine g_bipush hX 6 dX6_of_10 (by decide) ?_
    refine g_cS3r hX mkX6_in ml_X6_61 (c_X6_in) dX6_of_12 rfl (by decide) (Nat.le_of_ble_eq_true rfl) ?_
    refine g_if_eq hX 27 dX6_of_15 (by decide) (fun c15 => ?_) (fun c15 => ?_)
    · replace c15 := bI_z.mp c15
      refine g_aload_0 hX dX6_of_27 ?_
      refine g_cV0r hX mkX6_bad ml_X6_43 (c_X6_bad) (ob_69 Z _) dX6_of_28 rfl (by decide) (Nat.le_of_ble_eq_true rfl) ?_
      exact hq _ _ _ _ dX6_of_31 (⟨by rw [ofR, cl_f (fun z => c15 z.2)], by rw [ofC, cl_f (fun z => c15 z.2)]; exact MG.bad b⟩)
    · replace c15 := bI_nz.mp c15
      obtain ⟨j, hj, rfl⟩ := in_of c5.1 (by have := c5.2; rw [hn] at this; exact this) (by omega)
      have hjc : (nI j).toNatClampNeg = j := nI_clamp (by omega)
      have hj6 := hV.l6 hj
      refine g_aload_0 hX dX6_of_18 ?_
      refine g_iload_1 hX dX6_of_19 ?_
      refine g_iload_2 hX dX6_of_20 ?_
      refine g_cV2r hX mkX6_toldLine ml_X6_144 (c_X6_toldLine hV hj) (ob_69 Z _) dX6_of_21 rfl (by decide) (Nat.le_of_ble_eq_true rfl) ?_
      refine g_goto hX 31 dX6_of_24 (by decide) ?_
      exact hq _ _ _ _ dX6_of_31 (⟨by rw [ofR, cl_t (show okL (mv b) (nI j) ∧ ¬ w < 0 ∧ ¬ 6 < w from ⟨c5, c15⟩), hjc], by rw [ofC, cl_t (show okL (mv b) (nI j) ∧ ¬ w < 0 ∧ ¬ 6 < w from ⟨c5, c15⟩)]; exact MG.rf b⟩)
set_option maxRecDepth 100000 in
set_option maxHeartbeats 4000000 in
theorem c_X6_toldRun {Z : Zt} {b : Mem} {l i : Nat} {w : Int32} (hV : Val (mv b)) (hl : l < 6) (hi : i < 8) : Con Z yX6_toldRun cX6_toldRun 4 (some .int) 1 [.ref (zad Z 69), .int (nI l), .int (nI i), .int w] b (some (.int (runV (mv b) l i w))) (b) := by
  have hs := hV.2.2.2.2 6 (by decide)
  have h0 : nI i = 0 ↔ i = 0 := nI0 (by omega)
  refine con_i (by decide) (Nat.le_of_ble_eq_true rfl) rfl (fun X hX hq => ?_)
  have hX : Ok Z X cX6_toldRun 4 RX6 1 := hX
  show G Z X b 0 [some (.ref (zad Z 69)), some (.int (nI l)), some (.int (nI i)), some (.int w)] []
  refine g_iload_3 hX dX6_toldRun_0 ?_
  refine g_if_ne hX 13 dX6_toldRun_1 (by decide) (fun c1 => ?_) (fun c1 => ?_)
  · refine g_iload_3 hX dX6_toldRun_13 ?_
    refine g_iconst hX 1 dX6_toldRun_14 (by decide) ?_
    refine g_icmp_ne hX 35 dX6_toldRun_15 (by decide) (fun c15 => ?_) (fun c15 => ?_)
    · refine g_aload_0 hX dX6_toldRun_35 ?_
      refine g_iload_1 hX dX6_toldRun_36 ?_
      refine g_iload_2 hX dX6_toldRun_37 ?_
      refine g_cV2r hX mkX6_longOf ml_X6_120 (c_X6_longOf hl hi) (ob_69 Z _) dX6_toldRun_38 rfl (by decide) (Nat.le_of_ble_eq_true rfl) ?_
      refine g_aload_0 hX dX6_toldRun_41 ?_
      refine gt_X6_now hX dX6_toldRun_42 ?_
      refine g_bipush hX 8 dX6_toldRun_45 (by decide) ?_
      refine g_ialdN (k := 8) hX (ar_71 Z) (by decide) (by decide) dX6_toldRun_47 ?_
      refine g_idiv hX dX6_toldRun_48 (not_lt1 hs.1) ?_
      exact hq _ _ _ _ dX6_toldRun_49 (by rfl) (by rw [runV, if_neg c1, if_neg c15]; rfl)
    · refine g_iload_2 hX dX6_toldRun_18 ?_
      refine g_if_ne hX 26 dX6_toldRun_19 (by decide) (fun c19 => ?_) (fun c19 => ?_)
      · refine g_aload_0 hX dX6_toldRun_26 ?_
        refine g_iload_1 hX dX6_toldRun_27 ?_
        refine g_iload_2 hX dX6_toldRun_28 ?_
        refine g_cV2r hX mkX6_turnOf ml_X6_132 (c_X6_turnOf hl hi) (ob_69 Z _) dX6_toldRun_29 rfl (by decide) (Nat.le_of_ble_eq_true rfl) ?_
        refine g_goto hX 49 dX6_toldRun_32 (by decide) ?_
        exact hq _ _ _ _ dX6_toldRun_49 (by rfl) (by rw [runV, if_neg c1, if_pos c15, if_neg (fun z => c19 (h0.mpr z))]; rfl)
      · refine g_iconst hX (-1) dX6_toldRun_22 (by decide) ?_
        refine g_goto hX 49 dX6_toldRun_23 (by decide) ?_
        exact hq _ _ _ _ dX6_toldRun_49 (by rfl) (by rw [runV, if_neg c1, if_pos c15, if_pos (h0.mp c19)])
  · refine g_aload_0 hX dX6_toldRun_4 ?_
    refine g_iload_1 hX dX6_toldRun_5 ?_
    refine g_iload_2 hX dX6_toldRun_6 ?_
    refine g_cV2r hX mkX6_longOf ml_X6_120 (c_X6_longOf hl hi) (ob_69 Z _) dX6_toldRun_7 rfl (by decide) (Nat.le_of_ble_eq_true rfl) ?_
    refine g_goto hX 49 dX6_toldRun_10 (by decide) ?_
    exact hq _ _ _ _ dX6_toldRun_49 (by rfl) (by rw [runV, if_pos c1]; rfl)
theorem okR_dec (v : View) (l i : Int32) : (okR v l i) ↔ ((¬ l < 0 ∧ l < v 6 0 0) ∧ ¬ i < 0 ∧ i < v 0 l.toNatClampNeg 0) := Iff.rfl
set_option maxRecDepth 100000 in
set_option maxHeartbeats 4000000 in
theorem c_X6_isRun {Z : Zt} {b : Mem} {l i : Int32} (hV : Val (mv b))  : Con Z yX6_isRun cX6_isRun 3 (some .boolean) 2 [.ref (zad Z 69), .int l, .int i] b (some (.int (bI ((¬ l < 0 ∧ l < b 71 0) ∧ ¬ i < 0 ∧ i < b 71 (9 + 17 * l.toNatClampNeg))))) (b) := by
  have hn : b 71 0 = nI (nl (mv b)) := hV.1.1
  have hn6 := hV.1.2
  refine con_z (by decide) (Nat.le_of_ble_eq_true rfl) rfl (bI_n _) (fun X hX hq => ?_)
  have hX : Ok Z X cX6_isRun 3 RX6 2 := hX
  show G Z X b 0 [some (.ref (zad Z 69)), some (.int l), some (.int i)] []
  refine g_aload_0 hX dX6_isRun_0 ?_
  refine g_iload_1 hX dX6_isRun_1 ?_
  refine g_cV1r hX mkX6_isLine ml_X6_65 (c_X6_isLine hV) (ob_69 Z _) dX6_isRun_2 rfl (by decide) (Nat.le_of_ble_eq_true rfl) ?_
  refine g_if_eq hX 27 dX6_isRun_5 (by decide) (fun c5 => ?_) (fun c5 => ?_)
  · replace c5 := bI_z.mp c5
    refine g_iconst hX 0 dX6_isRun_27 (by decide) ?_
    exact hq _ _ _ _ dX6_isRun_28 (by rfl) ((bI_f (fun z => c5 z.1)).symm)
  · replace c5 := bI_nz.mp c5
    obtain ⟨j, hj, rfl⟩ := in_of c5.1 (by have := c5.2; rw [hn] at this; exact this) (by omega)
    have hjc : (nI j).toNatClampNeg = j := nI_clamp (by omega)
    have hj6 := hV.l6 hj
    have hr : b 71 (9 + 17 * j) = nI (rn (mv b) j) := hV.runs hj
    have hr8 := hV.r8 hj
    rw [hjc] at hq
    refine g_iload_2 hX dX6_isRun_8 ?_
    refine g_iconst hX 0 dX6_isRun_9 (by decide) ?_
    refine g_aload_0 hX dX6_isRun_10 ?_
    refine g_iload_1 hX dX6_isRun_11 ?_
    refine g_cV1r hX mkX6_runsOf ml_X6_69 (c_X6_runsOf hj6) (ob_69 Z _) dX6_isRun_12 rfl (by decide) (Nat.le_of_ble_eq_true rfl) ?_
    refine g_iconst hX 1 dX6_isRun_15 (by decide) ?_
    refine g_isub hX dX6_isRun_16 ?_
    refine g_cS3r hX mkX6_in ml_X6_61 (c_X6_in) dX6_isRun_17 rfl (by decide) (Nat.le_of_ble_eq_true rfl) ?_
    have hcr : (¬ i < 0 ∧ ¬ b 71 (9 + 17 * j) - 1 < i) ↔ (¬ i < 0 ∧ i < b 71 (9 + 17 * j)) := by rw [hr]; exact and_congr Iff.rfl (lt_pred (by omega))
    refine g_if_eq hX 27 dX6_isRun_20 (by decide) (fun c20 => ?_) (fun c20 => ?_)
    · replace c20 := bI_z.mp c20
      refine g_iconst hX 0 dX6_isRun_27 (by decide) ?_
      exact hq _ _ _ _ dX6_isRun_28 (by rfl) ((bI_f (fun z => c20 (hcr.mpr z.2))).symm)
    · replace c20 := bI_nz.mp c20
      refine g_iconst hX 1 dX6_isRun_23 (by decide) ?_
      refine g_goto hX 28 dX6_isRun_24 (by decide) ?_
      exact hq _ _ _ _ dX6_isRun_28 (by rfl) ((bI_t ⟨c5, hcr.mp c20⟩).symm)
set_option maxRecDepth 100000 in
set_option maxHeartbeats 4000000 in
theorem c_X6_run {Z : Zt} {b : Mem} {l i w : Int32} (hV : Val (mv b))  : ConE Z yX6_run cX6_run 4 (some .int) 3 [.ref (zad Z 69), .int l, .int i, .int w] b (pI (fun x b' => x = runR (mv b) l i w ∧ MG b (runC (mv b) l i w) b')) := by
  have hn : b 71 0 = nI (nl (mv b)) := hV.1.1
  have hn6 := hV.1.2
  refine conE_i (by decide) (Nat.le_of_ble_eq_true rfl) rfl (fun X hX hq => ?_)
  have hX : Ok Z X cX6_run 4 RX6 3 := hX
  show G Z X b 0 [some (.ref (zad Z 69)), some (.int l), some (.int i), some (.int w)] []
  refine g_aload_0 hX dX6_run_0 ?_
  refine g_iload_1 hX dX6_run_1 ?_
  refine g_iload_2 hX dX6_run_2 ?_
  refine g_cV2r hX mkX6_isRun ml_X6_147 (c_X6_isRun hV) (ob_69 Z _) dX6_run_3 rfl (by decide) (Nat.le_of_ble_eq_true rfl) ?_
  refine g_if_eq hX 28 dX6_run_6 (by decide) (fun c6 => ?_) (fun c6 => ?_)
  · replace c6 := bI_z.mp c6
    refine g_aload_0 hX dX6_run_28 ?_
    refine g_cV0r hX mkX6_bad ml_X6_43 (c_X6_bad) (ob_69 Z _) dX6_run_29 rfl (by decide) (Nat.le_of_ble_eq_true rfl) ?_
    exact hq _ _ _ _ dX6_run_32 (⟨by rw [runR, cl_f (fun z => c6 z.1)], by rw [runC, cl_f (fun z => c6 z.1)]; exact MG.bad b⟩)
  · replace c6 := bI_nz.mp c6
    refine g_iload_3 hX dX6_run_9 ?_
    refine g_iconst hX 0 dX6_run_10 (by decide) ?_
    refine g_iconst hX 2 dX6_run_11 (by decide) ?_
    refine g_cS3r hX mkX6_in ml_X6_61 (c_X6_in) dX6_run_12 rfl (by decide) (Nat.le_of_ble_eq_true rfl) ?_
    refine g_if_eq hX 28 dX6_run_15 (by decide) (fun c15 => ?_) (fun c15 => ?_)
    · replace c15 := bI_z.mp c15
      refine g_aload_0 hX dX6_run_28 ?_
      refine g_cV0r hX mkX6_bad ml_X6_43 (c_X6_bad) (ob_69 Z _) dX6_run_29 rfl (by decide) (Nat.le_of_ble_eq_true rfl) ?_
      exact hq _ _ _ _ dX6_run_32 (⟨by rw [runR, cl_f (fun z => c15 z.2)], by rw [runC, cl_f (fun z => c15 z.2)]; exact MG.bad b⟩)
    · replace c15 := bI_nz.mp c15
      have hok : okR (mv b) l i := c6
      obtain ⟨j, hj, rfl⟩ := in_of c6.1.1 (by have := c6.1.2; rw [hn] at this; exact this) (by omega)
      have hjc : (nI j).toNatClampNeg = j := nI_clamp (by omega)
      have hj6 := hV.l6 hj
      have hr : b 71 (9 + 17 * j) = nI (rn (mv b) j) := hV.runs hj
      have hr8 := hV.r8 hj
      have c6b := c6.2.2
      rw [hjc, hr] at c6b
      obtain ⟨k, hk, rfl⟩ := in_of c6.2.1 c6b (by omega)
      have hkc : (nI k).toNatClampNeg = k := nI_clamp (by omega)
      refine g_aload_0 hX dX6_run_18 ?_
      refine g_iload_1 hX dX6_run_19 ?_
      refine g_iload_2 hX dX6_run_20 ?_
      refine g_iload_3 hX dX6_run_21 ?_
      refine g_cV3r hX mkX6_toldRun ml_X6_151 (c_X6_toldRun hV hj6 (by omega)) (ob_69 Z _) dX6_run_22 rfl (by decide) (Nat.le_of_ble_eq_true rfl) ?_
      refine g_goto hX 32 dX6_run_25 (by decide) ?_
      exact hq _ _ _ _ dX6_run_32 (⟨by rw [runR, cl_t (show okR (mv b) (nI j) (nI k) ∧ ¬ w < 0 ∧ ¬ 2 < w from ⟨hok, c15⟩), hjc, hkc], by rw [runC, cl_t (show okR (mv b) (nI j) (nI k) ∧ ¬ w < 0 ∧ ¬ 2 < w from ⟨hok, c15⟩)]; exact MG.rf b⟩)
set_option maxRecDepth 100000 in
set_option maxHeartbeats 4000000 in
theorem c_X6_longest {Z : Zt} {b : Mem} (hV : Val (mv b))  : Con Z yX6_longest cX6_longest 3 (some .int) 2 [.ref (zad Z 69)] b (some (.int (longestS (mv b)))) (b) := by
  have hn : b 71 0 = nI (nl (mv b)) := hV.1.1
  have hn6 := hV.1.2
  refine con_i (by decide) (Nat.le_of_ble_eq_true rfl) rfl (fun X hX hq => ?_)
  have hX : Ok Z X cX6_longest 3 RX6 2 := hX
  show G Z X b 0 [some (.ref (zad Z 69)), none, none] []
  refine g_iconst hX 0 dX6_longest_0 (by decide) ?_
  refine g_istore_1 hX dX6_longest_1 rfl ?_
  refine g_iconst hX 0 dX6_longest_2 (by decide) ?_
  refine g_istore_2 hX dX6_longest_3 rfl ?_
  refine g_loop (nl (mv b)) (fun k => b) (fun k => [some (.ref (zad Z 69)), some (.int (maxI (baseS (mv b)) k)), some (.int (nI k))]) rfl rfl (fun k hk4 ih4 => ?_) ?_
  · show G Z X (b) 4 ([some (.ref (zad Z 69)), some (.int (maxI (baseS (mv b)) k)), some (.int (nI k))]) _
    refine g_iload_2 hX dX6_longest_4 ?_
    refine g_aload_0 hX dX6_longest_5 ?_
    refine gt_X6_now hX dX6_longest_6 ?_
    refine g_iconst hX 0 dX6_longest_9 (by decide) ?_
    refine g_ialdN (k := 0) hX (ar_71 Z) (by decide) (by decide) dX6_longest_10 ?_
    refine g_icmp_ge hX 39 dX6_longest_11 (by decide) (fun c11 => ?_) (fun c11 => ?_)
    · exact absurd c11 (not_not_intro (by rw [hn]; exact nI_lt hk4 (by omega)))
    · refine g_aload_0 hX dX6_longest_14 ?_
      refine g_iload_2 hX dX6_longest_15 ?_
      refine g_cV1r hX mkX6_base ml_X6_126 (c_X6_base hV hk4) (ob_69 Z _) dX6_longest_16 rfl (by decide) (Nat.le_of_ble_eq_true rfl) ?_
      refine g_iload_1 hX dX6_longest_19 ?_
      refine g_icmp_le hX 31 dX6_longest_20 (by decide) (fun c20 => ?_) (fun c20 => ?_)
      · refine g_iload_1 hX dX6_longest_31 ?_
        refine g_istore_1 hX dX6_longest_32 rfl ?_
        refine g_iinc_2 hX 1 dX6_longest_33 (by decide) rfl ?_
        refine g_goto hX 4 dX6_longest_36 (by decide) ?_
        exact g_cast ih4 rfl (by simp only [nI_succ, maxI, if_neg c20]) rfl
      · refine g_aload_0 hX dX6_longest_23 ?_
        refine g_iload_2 hX dX6_longest_24 ?_
        refine g_cV1r hX mkX6_base ml_X6_126 (c_X6_base hV hk4) (ob_69 Z _) dX6_longest_25 rfl (by decide) (Nat.le_of_ble_eq_true rfl) ?_
        refine g_goto hX 32 dX6_longest_28 (by decide) ?_
        refine g_istore_1 hX dX6_longest_32 rfl ?_
        refine g_iinc_2 hX 1 dX6_longest_33 (by decide) rfl ?_
        refine g_goto hX 4 dX6_longest_36 (by decide) ?_
        exact g_cast ih4 rfl (by simp only [nI_succ, maxI, if_pos c20]) rfl
  · show G Z X (b) 4 ([some (.ref (zad Z 69)), some (.int (maxI (baseS (mv b)) (nl (mv b)))), some (.int (nI (nl (mv b))))]) _
    refine g_iload_2 hX dX6_longest_4 ?_
    refine g_aload_0 hX dX6_longest_5 ?_
    refine gt_X6_now hX dX6_longest_6 ?_
    refine g_iconst hX 0 dX6_longest_9 (by decide) ?_
    refine g_ialdN (k := 0) hX (ar_71 Z) (by decide) (by decide) dX6_longest_10 ?_
    refine g_icmp_ge hX 39 dX6_longest_11 (by decide) (fun c11 => ?_) (fun c11 => ?_)
    · refine g_iload_1 hX dX6_longest_39 ?_
      exact hq _ _ _ _ dX6_longest_40 (by rfl) (by rfl)
    · exact absurd c11 (by rw [hn]; exact Int32.lt_irrefl)
set_option maxRecDepth 100000 in
set_option maxHeartbeats 4000000 in
theorem c_X6_setting {Z : Zt} {b : Mem} {k : Int32} : ConE Z yX6_setting cX6_setting 2 (some .int) 1 [.ref (zad Z 69), .int k] b (pI (fun x b' => x = seR (mv b) k ∧ MG b (seC k) b')) := by
  refine conE_i (by decide) (Nat.le_of_ble_eq_true rfl) rfl (fun X hX hq => ?_)
  have hX : Ok Z X cX6_setting 2 RX6 1 := hX
  show G Z X b 0 [some (.ref (zad Z 69)), some (.int k)] []
  refine g_iload_1 hX dX6_setting_0 ?_
  refine g_iconst hX 0 dX6_setting_1 (by decide) ?_
  refine g_bipush hX 6 dX6_setting_2 (by decide) ?_
  refine g_cS3r hX mkX6_in ml_X6_61 (c_X6_in) dX6_setting_4 rfl (by decide) (Nat.le_of_ble_eq_true rfl) ?_
  refine g_if_eq hX 21 dX6_setting_7 (by decide) (fun c7 => ?_) (fun c7 => ?_)
  · replace c7 := bI_z.mp c7
    refine g_aload_0 hX dX6_setting_21 ?_
    refine g_cV0r hX mkX6_bad ml_X6_43 (c_X6_bad) (ob_69 Z _) dX6_setting_22 rfl (by decide) (Nat.le_of_ble_eq_true rfl) ?_
    exact hq _ _ _ _ dX6_setting_25 (⟨by rw [seR, cl_f c7], by rw [seC, cl_f c7]; exact MG.bad b⟩)
  · replace c7 := bI_nz.mp c7
    obtain ⟨j, hj, rfl⟩ := in_of6 (n := 6) c7.1 c7.2 (by decide)
    have hjc : (nI j).toNatClampNeg = j := nI_clamp (by omega)
    refine g_aload_0 hX dX6_setting_10 ?_
    refine gt_X6_now hX dX6_setting_11 ?_
    refine g_iconst hX 2 dX6_setting_14 (by decide) ?_
    refine g_iload_1 hX dX6_setting_15 ?_
    refine g_iadd hX dX6_setting_16 ?_
    refine g_top _ (ixS j) ?_
    refine g_ialdN (k := (2 + j)) hX (ar_71 Z) (by omega) (by decide) dX6_setting_17 ?_
    refine g_goto hX 25 dX6_setting_18 (by decide) ?_
    exact hq _ _ _ _ dX6_setting_25 (⟨by rw [seR, cl_t c7, hjc]; rfl, by rw [seC, cl_t c7]; exact MG.rf b⟩)
set_option maxRecDepth 100000 in
set_option maxHeartbeats 4000000 in
theorem c_X6_skewOf {Z : Zt} {b : Mem} {l m : Nat} (hl : l < 6) (hm : m < 8) : Con Z yX6_skewOf cX6_skewOf 5 (some .int) 1 [.ref (zad Z 69), .int (nI l), .int (nI m)] b (some (.int (skewS (mv b) l m))) (b) := by
  refine con_i (by decide) (Nat.le_of_ble_eq_true rfl) rfl (fun X hX hq => ?_)
  have hX : Ok Z X cX6_skewOf 5 RX6 1 := hX
  show G Z X b 0 [some (.ref (zad Z 69)), some (.int (nI l)), some (.int (nI m)), none, none] []
  refine g_iconst hX 0 dX6_skewOf_0 (by decide) ?_
  refine g_istore_3 hX dX6_skewOf_1 rfl ?_
  refine g_iconst hX 1 dX6_skewOf_2 (by decide) ?_
  refine g_istore_4 hX dX6_skewOf_3 rfl ?_
  refine g_loop (m) (fun k => b) (fun k => [some (.ref (zad Z 69)), some (.int (nI l)), some (.int (nI m)), some (.int (sumI (fun i => if mv b 2 l (i + 1) = 1 then 2 else -2) k)), some (.int (nI (k + 1)))]) rfl rfl (fun k hk5 ih5 => ?_) ?_
  · show G Z X (b) 5 ([some (.ref (zad Z 69)), some (.int (nI l)), some (.int (nI m)), some (.int (sumI (fun i => if mv b 2 l (i + 1) = 1 then 2 else -2) k)), some (.int (nI (k + 1)))]) _
    refine g_iload_4 hX dX6_skewOf_5 ?_
    refine g_iload_2 hX dX6_skewOf_7 ?_
    refine g_icmp_gt hX 37 dX6_skewOf_8 (by decide) (fun c8 => ?_) (fun c8 => ?_)
    · exact absurd c8 (nI_nlt (by omega) (by omega))
    · refine g_iload_3 hX dX6_skewOf_11 ?_
      refine g_aload_0 hX dX6_skewOf_12 ?_
      refine g_iload_1 hX dX6_skewOf_13 ?_
      refine g_iload_4 hX dX6_skewOf_14 ?_
      refine g_cV2r hX mkX6_turnOf ml_X6_132 (c_X6_turnOf hl (by omega)) (ob_69 Z _) dX6_skewOf_16 rfl (by decide) (Nat.le_of_ble_eq_true rfl) ?_
      refine g_iconst hX 1 dX6_skewOf_19 (by decide) ?_
      refine g_icmp_ne hX 27 dX6_skewOf_20 (by decide) (fun c20 => ?_) (fun c20 => ?_)
      · refine g_bipush hX (-2) dX6_skewOf_27 (by decide) ?_
        refine g_iadd hX dX6_skewOf_29 ?_
        refine g_istore_3 hX dX6_skewOf_30 rfl ?_
        refine g_iinc_4 hX 1 dX6_skewOf_31 (by decide) rfl ?_
        refine g_goto hX 5 dX6_skewOf_34 (by decide) ?_
        exact g_cast ih5 rfl (by first | (simp only [nI_succ, sumI, if_pos (show mv b 2 l (k + 1) = 1 from c20)]) | (simp only [nI_succ, sumI, if_neg (show ¬ mv b 2 l (k + 1) = 1 from c20)])) rfl
      · refine g_iconst hX 2 dX6_skewOf_23 (by decide) ?_
        refine g_goto hX 29 dX6_skewOf_24 (by decide) ?_
        refine g_iadd hX dX6_skewOf_29 ?_
        refine g_istore_3 hX dX6_skewOf_30 rfl ?_
        refine g_iinc_4 hX 1 dX6_skewOf_31 (by decide) rfl ?_
        refine g_goto hX 5 dX6_skewOf_34 (by decide) ?_
        exact g_cast ih5 rfl (by first | (simp only [nI_succ, sumI, if_pos (show mv b 2 l (k + 1) = 1 from c20)]) | (simp only [nI_succ, sumI, if_neg (show ¬ mv b 2 l (k + 1) = 1 from c20)])) rfl
  · show G Z X (b) 5 ([some (.ref (zad Z 69)), some (.int (nI l)), some (.int (nI m)), some (.int (sumI (fun i => if mv b 2 l (i + 1) = 1 then 2 else -2) (m))), some (.int (nI ((m) + 1)))]) _
    refine g_iload_4 hX dX6_skewOf_5 ?_
    refine g_iload_2 hX dX6_skewOf_7 ?_
    refine g_icmp_gt hX 37 dX6_skewOf_8 (by decide) (fun c8 => ?_) (fun c8 => ?_)
    · refine g_iload_3 hX dX6_skewOf_37 ?_
      exact hq _ _ _ _ dX6_skewOf_38 (by rfl) (by rfl)
    · exact absurd c8 (not_not_intro (nI_lt (by omega) (by omega)))
set_option maxRecDepth 100000 in
set_option maxHeartbeats 4000000 in
theorem c_X6_skew {Z : Zt} {b : Mem} {l i : Int32} (hV : Val (mv b))  : ConE Z yX6_skew cX6_skew 3 (some .int) 3 [.ref (zad Z 69), .int l, .int i] b (pI (fun x b' => x = skR (mv b) l i ∧ MG b (skC (mv b) l i) b')) := by
  have hn : b 71 0 = nI (nl (mv b)) := hV.1.1
  have hn6 := hV.1.2
  refine conE_i (by decide) (Nat.le_of_ble_eq_true rfl) rfl (fun X hX hq => ?_)
  have hX : Ok Z X cX6_skew 3 RX6 3 := hX
  show G Z X b 0 [some (.ref (zad Z 69)), some (.int l), some (.int i)] []
  refine g_aload_0 hX dX6_skew_0 ?_
  refine g_iload_1 hX dX6_skew_1 ?_
  refine g_iload_2 hX dX6_skew_2 ?_
  refine g_cV2r hX mkX6_isRun ml_X6_147 (c_X6_isRun hV) (ob_69 Z _) dX6_skew_3 rfl (by decide) (Nat.le_of_ble_eq_true rfl) ?_
  refine g_if_eq hX 21 dX6_skew_6 (by decide) (fun c6 => ?_) (fun c6 => ?_)
  · replace c6 := bI_z.mp c6
    refine g_aload_0 hX dX6_skew_21 ?_
    refine g_cV0r hX mkX6_bad ml_X6_43 (c_X6_bad) (ob_69 Z _) dX6_skew_22 rfl (by decide) (Nat.le_of_ble_eq_true rfl) ?_
    exact hq _ _ _ _ dX6_skew_25 (⟨by rw [skR, cl_f (show ¬ okR (mv b) l i from c6)], by rw [skC, cl_f (show ¬ okR (mv b) l i from c6)]; exact MG.bad b⟩)
  · replace c6 := bI_nz.mp c6
    have hok : okR (mv b) l i := c6
    obtain ⟨j, hj, rfl⟩ := in_of c6.1.1 (by have := c6.1.2; rw [hn] at this; exact this) (by omega)
    have hjc : (nI j).toNatClampNeg = j := nI_clamp (by omega)
    have hj6 := hV.l6 hj
    have hr : b 71 (9 + 17 * j) = nI (rn (mv b) j) := hV.runs hj
    have hr8 := hV.r8 hj
    have c6b := c6.2.2
    rw [hjc, hr] at c6b
    obtain ⟨k, hk, rfl⟩ := in_of c6.2.1 c6b (by omega)
    have hkc : (nI k).toNatClampNeg = k := nI_clamp (by omega)
    refine g_aload_0 hX dX6_skew_9 ?_
    refine g_iload_1 hX dX6_skew_10 ?_
    refine g_iload_2 hX dX6_skew_11 ?_
    refine g_cV2r hX mkX6_skewOf ml_X6_191 (c_X6_skewOf hj6 (by omega)) (ob_69 Z _) dX6_skew_12 rfl (by decide) (Nat.le_of_ble_eq_true rfl) ?_
    refine g_bipush hX 100 dX6_skew_15 (by decide) ?_
    refine g_iadd hX dX6_skew_17 ?_
    refine g_goto hX 25 dX6_skew_18 (by decide) ?_
    exact hq _ _ _ _ dX6_skew_25 (⟨by rw [skR, cl_t hok, hjc, hkc], by rw [skC, cl_t hok]; exact MG.rf b⟩)
