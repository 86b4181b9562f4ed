/-! SnakedBus$Text -/
def nOf (c : Int32) : Nat := if c = 103 then 3 else if c = 107 then 2 else if c = 108 then 1 else if c = 115 then 2 else if c = 119 then 2 else 0
theorem nOf_le (c : Int32) : nOf c ≤ 3 := by unfold nOf; repeat (first | omega | split)
theorem sw5 (x : Int32) : x = 103 ∨ x = 107 ∨ x = 108 ∨ x = 115 ∨ x = 119 ∨ ((103 : Int) ≠ x.toInt ∧ (107 : Int) ≠ x.toInt ∧ (108 : Int) ≠ x.toInt ∧ (115 : Int) ≠ x.toInt ∧ (119 : Int) ≠ x.toInt) := by
  have key : ∀ n : Nat, n < 1000 → x.toInt = n → x = nI n := fun n hn h => Int32.toInt_inj.mp (by rw [h, nI_toInt (by omega)])
  by_cases h1 : (103 : Int) = x.toInt
  · exact Or.inl (key 103 (by decide) h1.symm)
  by_cases h2 : (107 : Int) = x.toInt
  · exact Or.inr (Or.inl (key 107 (by decide) h2.symm))
  by_cases h3 : (108 : Int) = x.toInt
  · exact Or.inr (Or.inr (Or.inl (key 108 (by decide) h3.symm)))
  by_cases h4 : (115 : Int) = x.toInt
  · exact Or.inr (Or.inr (Or.inr (Or.inl (key 115 (by decide) h4.symm))))
  by_cases h5 : (119 : Int) = x.toInt
  · exact Or.inr (Or.inr (Or.inr (Or.inr (Or.inl (key 119 (by decide) h5.symm)))))
  exact Or.inr (Or.inr (Or.inr (Or.inr (Or.inr ⟨h1, h2, h3, h4, h5⟩))))
theorem sw5_ne {x : Int32} (h : (103 : Int) ≠ x.toInt ∧ (107 : Int) ≠ x.toInt ∧ (108 : Int) ≠ x.toInt ∧ (115 : Int) ≠ x.toInt ∧ (119 : Int) ≠ x.toInt) : nOf x = 0 := by
  obtain ⟨h1, h2, h3, h4, h5⟩ := h
  unfold nOf
  rw [if_neg (by rintro rfl; exact h1 rfl), if_neg (by rintro rfl; exact h2 rfl), if_neg (by rintro rfl; exact h3 rfl), if_neg (by rintro rfl; exact h4 rfl), if_neg (by rintro rfl; exact h5 rfl)]
def figB (b : Mem) : Bool := if b 52 7 = 0 then decide (¬ b 52 6 = nI (nOf (b 52 5))) else decide (¬ b 52 7 = 3)
def opM (b : Mem) (c : Int32) : Mem := up2 (up2 (up2 b 52 5 c) 52 6 0) 52 7 0
def clM (b : Mem) (w : Nat) : Mem := up2 (up2 (up2 b 54 w (b 52 5)) 52 4 (nI w + 1)) 52 5 0
def fg1 (b : Mem) (w g : Nat) : Mem := up2 (up2 b 52 6 (nI g + 1)) 55 (w * 3 + g) 0
def fg2 (b : Mem) (w g : Nat) (d : Int32) : Mem := up2 (up2 b 52 7 (b 52 7 + 1)) 55 (w * 3 + g) (10 * b 55 (w * 3 + g) + d)
def fgM (b : Mem) (w g : Nat) (d : Int32) : Mem := if figB b = true then (if b 52 7 = 0 then fg2 (fg1 b w g) w g d else fg2 b w (g - 1) d) else b
def tcB (b : Mem) (c : Int32) : Bool := if c = 32 then true else if b 52 5 = 0 then decide (¬ nOf c = 0) else if c = 59 then decide (b 52 6 = nI (nOf (b 52 5))) else decide (¬ c < 48 ∧ ¬ 57 < c) && figB b
def tcM (b : Mem) (w g : Nat) (c : Int32) : Mem := if tcB b c = true then (if c = 32 then up2 b 52 7 0 else if b 52 5 = 0 then opM b c else if c = 59 then clM b w else fgM b w g (c - 48)) else b
set_option maxRecDepth 100000 in
set_option maxHeartbeats 4000000 in
theorem c_X4_size {Z : Zt} {b : Mem}  : Con Z yX4_size cX4_size 1 (some .int) 0 [.ref (zad Z 52)] b (some (.int (b 52 3))) (b) := by
  refine con_i (by decide) (Nat.le_of_ble_eq_true rfl) rfl (fun X hX hq => ?_)
  have hX : Ok Z X cX4_size 1 RX4 0 := hX
  show G Z X b 0 [some (.ref (zad Z 52))] []
  refine g_aload_0 hX dX4_size_0 ?_
  refine gt_X4_many hX dX4_size_1 ?_
  exact hq _ _ _ _ dX4_size_4 (by rfl) (by rfl)
set_option maxRecDepth 100000 in
set_option maxHeartbeats 4000000 in
theorem c_X4_orderCount {Z : Zt} {b : Mem}  : Con Z yX4_orderCount cX4_orderCount 1 (some .int) 0 [.ref (zad Z 52)] b (some (.int (b 52 4))) (b) := by
  refine con_i (by decide) (Nat.le_of_ble_eq_true rfl) rfl (fun X hX hq => ?_)
  have hX : Ok Z X cX4_orderCount 1 RX4 0 := hX
  show G Z X b 0 [some (.ref (zad Z 52))] []
  refine g_aload_0 hX dX4_orderCount_0 ?_
  refine gt_X4_orders hX dX4_orderCount_1 ?_
  exact hq _ _ _ _ dX4_orderCount_4 (by rfl) (by rfl)
set_option maxRecDepth 100000 in
set_option maxHeartbeats 4000000 in
theorem c_X4_empty {Z : Zt} {b : Mem}  : Con Z yX4_empty cX4_empty 1 none 0 [.ref (zad Z 52)] b none (up2 b 52 3 0) := by
  refine con_v (by decide) (Nat.le_of_ble_eq_true rfl) rfl (fun X hX hq => ?_)
  have hX : Ok Z X cX4_empty 1 RX4 0 := hX
  show G Z X b 0 [some (.ref (zad Z 52))] []
  refine g_aload_0 hX dX4_empty_0 ?_
  refine g_iconst hX 0 dX4_empty_1 (by decide) ?_
  refine pt_X4_many hX dX4_empty_2 ?_
  exact hq _ _ _ dX4_empty_5 (by rfl)
set_option maxRecDepth 100000 in
set_option maxHeartbeats 4000000 in
theorem c_X4_append {Z : Zt} {b : Mem} {c : Int32} {n : Nat} (hn : b 52 3 = nI n) (h120 : n ≤ 120) : Con Z yX4_append cX4_append 2 (some .boolean) 1 [.ref (zad Z 52), .int c] b (some (.int (bI (b 52 3 < 120)))) (if b 52 3 < 120 then up2 (up2 b 53 n c) 52 3 (nI n + 1) else b) := by
  refine con_z (by decide) (Nat.le_of_ble_eq_true rfl) rfl (bI_n _) (fun X hX hq => ?_)
  have hX : Ok Z X cX4_append 2 RX4 1 := hX
  show G Z X b 0 [some (.ref (zad Z 52)), some (.int c)] []
  refine g_aload_0 hX dX4_append_0 ?_
  refine gt_X4_many hX dX4_append_1 ?_
  refine g_bipush hX 120 dX4_append_4 (by decide) ?_
  refine g_icmp_lt hX 11 dX4_append_6 (by decide) (fun c6 => ?_) (fun c6 => ?_)
  · have h1 : n < 120 := (nI_ltI (b := 120) (by omega) (by decide)).mp (by rw [← hn]; exact c6)
    refine g_aload_0 hX dX4_append_11 ?_
    refine gt_X4_bytes hX dX4_append_12 ?_
    refine g_aload_0 hX dX4_append_15 ?_
    refine gt_X4_many hX dX4_append_16 ?_
    refine g_top _ hn ?_
    refine g_iload_1 hX dX4_append_19 ?_
    refine g_cN3v hX mkX5_put nl_X4_37 (c_X5_put (ar_53 Z) h1 (by decide)) dX4_append_20 rfl (by decide) (Nat.le_of_ble_eq_true rfl) ?_
    refine g_aload_0 hX dX4_append_23 ?_
    refine g_dup hX dX4_append_24 rfl ?_
    refine gt_X4_many hX dX4_append_25 ?_
    refine g_top (nI n) (by rw [u2c _ _ (by decide), hn]) ?_
    refine g_iconst hX 1 dX4_append_28 (by decide) ?_
    refine g_iadd hX dX4_append_29 ?_
    refine pt_X4_many hX dX4_append_30 ?_
    refine g_iconst hX 1 dX4_append_33 (by decide) ?_
    exact hq _ _ _ _ dX4_append_34 (by rw [if_pos c6]) (by rw [bI_t c6])
  · refine g_iconst hX 0 dX4_append_9 (by decide) ?_
    exact hq _ _ _ _ dX4_append_10 (by rw [if_neg c6]) (by rw [bI_f c6])
set_option maxRecDepth 100000 in
set_option maxHeartbeats 4000000 in
theorem c_X4_numbersOf {Z : Zt} {b : Mem} {x : Int32} : Con Z yX4_numbersOf cX4_numbersOf 1 (some .int) 0 [.int x] b (some (.int (nI (nOf x)))) (b) := by
  refine con_i (by decide) (Nat.le_of_ble_eq_true rfl) rfl (fun X hX hq => ?_)
  have hX : Ok Z X cX4_numbersOf 1 RX4 0 := hX
  show G Z X b 0 [some (.int x)] []
  refine g_iload_0 hX dX4_numbersOf_0 ?_
  rcases sw5 x with rfl | rfl | rfl | rfl | rfl | hsw
  · refine g_lookup (off := 53) hX 54 dX4_numbersOf_1 (by decide) (by decide) (by decide) ?_
    refine g_iconst hX 3 dX4_numbersOf_54 (by decide) ?_
    exact hq _ _ _ _ dX4_numbersOf_55 (by rfl) (by rfl)
  · refine g_lookup (off := 55) hX 56 dX4_numbersOf_1 (by decide) (by decide) (by decide) ?_
    refine g_iconst hX 2 dX4_numbersOf_56 (by decide) ?_
    exact hq _ _ _ _ dX4_numbersOf_57 (by rfl) (by rfl)
  · refine g_lookup (off := 51) hX 52 dX4_numbersOf_1 (by decide) (by decide) (by decide) ?_
    refine g_iconst hX 1 dX4_numbersOf_52 (by decide) ?_
    exact hq _ _ _ _ dX4_numbersOf_53 (by rfl) (by rfl)
  · refine g_lookup (off := 55) hX 56 dX4_numbersOf_1 (by decide) (by decide) (by decide) ?_
    refine g_iconst hX 2 dX4_numbersOf_56 (by decide) ?_
    exact hq _ _ _ _ dX4_numbersOf_57 (by rfl) (by rfl)
  · refine g_lookup (off := 55) hX 56 dX4_numbersOf_1 (by decide) (by decide) (by decide) ?_
    refine g_iconst hX 2 dX4_numbersOf_56 (by decide) ?_
    exact hq _ _ _ _ dX4_numbersOf_57 (by rfl) (by rfl)
  · refine g_lookup (off := 57) hX 58 dX4_numbersOf_1 (by decide) (by simp [Op.lookupswitch.offset, hsw]) (by decide) ?_
    refine g_iconst hX 0 dX4_numbersOf_58 (by decide) ?_
    exact hq _ _ _ _ dX4_numbersOf_59 (by rfl) (by rw [sw5_ne hsw]; rfl)
set_option maxRecDepth 100000 in
set_option maxHeartbeats 4000000 in
theorem c_X4_opens {Z : Zt} {b : Mem} {c : Int32} : Con Z yX4_opens cX4_opens 2 (some .boolean) 1 [.ref (zad Z 52), .int c] b (some (.int (bI (¬ nOf c = 0)))) (if nOf c = 0 then b else opM b c) := by
  have hz : nI (nOf c) = 0 ↔ nOf c = 0 := nI0 (by have := nOf_le c; omega)
  refine con_z (by decide) (Nat.le_of_ble_eq_true rfl) rfl (bI_n _) (fun X hX hq => ?_)
  have hX : Ok Z X cX4_opens 2 RX4 1 := hX
  show G Z X b 0 [some (.ref (zad Z 52)), some (.int c)] []
  refine g_iload_1 hX dX4_opens_0 ?_
  refine g_cS1r hX mkX4_numbersOf ml_X4_63 (c_X4_numbersOf) dX4_opens_1 rfl (by decide) (Nat.le_of_ble_eq_true rfl) ?_
  refine g_if_ne hX 9 dX4_opens_4 (by decide) (fun c4 => ?_) (fun c4 => ?_)
  · refine g_aload_0 hX dX4_opens_9 ?_
    refine g_iload_1 hX dX4_opens_10 ?_
    refine pt_X4_letter hX dX4_opens_11 ?_
    refine g_aload_0 hX dX4_opens_14 ?_
    refine g_iconst hX 0 dX4_opens_15 (by decide) ?_
    refine pt_X4_begun hX dX4_opens_16 ?_
    refine g_aload_0 hX dX4_opens_19 ?_
    refine g_iconst hX 0 dX4_opens_20 (by decide) ?_
    refine pt_X4_figures hX dX4_opens_21 ?_
    refine g_iconst hX 1 dX4_opens_24 (by decide) ?_
    exact hq _ _ _ _ dX4_opens_25 (by rw [if_neg (fun q => c4 (hz.mpr q))]; rfl) (by rw [bI_t (show ¬ nOf c = 0 from fun q => c4 (hz.mpr q))])
  · refine g_iconst hX 0 dX4_opens_7 (by decide) ?_
    exact hq _ _ _ _ dX4_opens_8 (by rw [if_pos (hz.mp c4)]) (by rw [bI_f (not_not_intro (hz.mp c4))])
set_option maxRecDepth 100000 in
set_option maxHeartbeats 4000000 in
theorem c_X4_closes {Z : Zt} {b : Mem} {w : Nat} (hw : b 52 4 = nI w) (h40 : w < 40) : Con Z yX4_closes cX4_closes 1 (some .boolean) 1 [.ref (zad Z 52)] b (some (.int (bI (b 52 6 = nI (nOf (b 52 5)))))) (if b 52 6 = nI (nOf (b 52 5)) then clM b w else b) := by
  refine con_z (by decide) (Nat.le_of_ble_eq_true rfl) rfl (bI_n _) (fun X hX hq => ?_)
  have hX : Ok Z X cX4_closes 1 RX4 1 := hX
  show G Z X b 0 [some (.ref (zad Z 52))] []
  refine g_aload_0 hX dX4_closes_0 ?_
  refine gt_X4_begun hX dX4_closes_1 ?_
  refine g_aload_0 hX dX4_closes_4 ?_
  refine gt_X4_letter hX dX4_closes_5 ?_
  refine g_cS1r hX mkX4_numbersOf ml_X4_63 (c_X4_numbersOf) dX4_closes_8 rfl (by decide) (Nat.le_of_ble_eq_true rfl) ?_
  refine g_icmp_eq hX 16 dX4_closes_11 (by decide) (fun c11 => ?_) (fun c11 => ?_)
  · refine g_aload_0 hX dX4_closes_16 ?_
    refine gt_X4_letters hX dX4_closes_17 ?_
    refine g_aload_0 hX dX4_closes_20 ?_
    refine gt_X4_orders hX dX4_closes_21 ?_
    refine g_top _ hw ?_
    refine g_aload_0 hX dX4_closes_24 ?_
    refine gt_X4_letter hX dX4_closes_25 ?_
    refine g_cN3v hX mkX5_put nl_X4_37 (c_X5_put (ar_54 Z) h40 (by decide)) dX4_closes_28 rfl (by decide) (Nat.le_of_ble_eq_true rfl) ?_
    refine g_aload_0 hX dX4_closes_31 ?_
    refine g_dup hX dX4_closes_32 rfl ?_
    refine gt_X4_orders hX dX4_closes_33 ?_
    refine g_top (nI w) (by rw [u2c _ _ (by decide), hw]) ?_
    refine g_iconst hX 1 dX4_closes_36 (by decide) ?_
    refine g_iadd hX dX4_closes_37 ?_
    refine pt_X4_orders hX dX4_closes_38 ?_
    refine g_aload_0 hX dX4_closes_41 ?_
    refine g_iconst hX 0 dX4_closes_42 (by decide) ?_
    refine pt_X4_letter hX dX4_closes_43 ?_
    refine g_iconst hX 1 dX4_closes_46 (by decide) ?_
    exact hq _ _ _ _ dX4_closes_47 (by rw [if_pos c11]; rfl) (by rw [bI_t c11])
  · refine g_iconst hX 0 dX4_closes_14 (by decide) ?_
    exact hq _ _ _ _ dX4_closes_15 (by rw [if_neg c11]) (by rw [bI_f c11])
theorem g3 {g n : Nat} (h : ¬ nI g = nI n) (hg : g ≤ n) (hn : n ≤ 3) : g < 3 ∧ g < n := by
  have : g ≠ n := fun q => h (by rw [q])
  omega
set_option maxRecDepth 100000 in
set_option maxHeartbeats 4000000 in
theorem c_X4_tf_first {Z : Zt} {b : Mem} {x : Int32} {w g f : Nat} (hw : b 52 4 = nI w) (h40 : w < 40) (hg : b 52 6 = nI g) (hgn : g ≤ nOf (b 52 5)) (hf : b 52 7 = nI f) (hf3 : f ≤ 3) (hfg : 0 < f → 1 ≤ g) (h0 : b 52 7 = 0) : Con Z yX4_takesFigure cX4_takesFigure 3 (some .boolean) 1 [.ref (zad Z 52), .int x] b (some (.int (bI (figB b = true)))) (fgM b w g x) := by
  have n3 := nOf_le (b 52 5)
  refine con_z (by decide) (Nat.le_of_ble_eq_true rfl) rfl (bI_n _) (fun X hX hq => ?_)
  have hX : Ok Z X cX4_takesFigure 3 RX4 1 := hX
  show G Z X b 0 [some (.ref (zad Z 52)), some (.int x), none] []
  refine g_aload_0 hX dX4_takesFigure_0 ?_
  refine gt_X4_figures hX dX4_takesFigure_1 ?_
  refine g_if_ne hX 55 dX4_takesFigure_4 (by decide) (fun c4 => ?_) (fun c4 => ?_)
  · exact absurd c4 (not_not_intro h0)
  · refine g_aload_0 hX dX4_takesFigure_7 ?_
    refine gt_X4_begun hX dX4_takesFigure_8 ?_
    refine g_aload_0 hX dX4_takesFigure_11 ?_
    refine gt_X4_letter hX dX4_takesFigure_12 ?_
    refine g_cS1r hX mkX4_numbersOf ml_X4_63 (c_X4_numbersOf) dX4_takesFigure_15 rfl (by decide) (Nat.le_of_ble_eq_true rfl) ?_
    refine g_cast (st' := [.int (nI (nOf (b 52 5))), .int (nI g)]) ?_ rfl rfl (by rw [hg])
    refine g_icmp_ne hX 23 dX4_takesFigure_18 (by decide) (fun c18 => ?_) (fun c18 => ?_)
    · have hg3 := g3 c18 hgn n3
      refine g_aload_0 hX dX4_takesFigure_23 ?_
      refine g_dup hX dX4_takesFigure_24 rfl ?_
      refine gt_X4_begun hX dX4_takesFigure_25 ?_
      refine g_top _ hg ?_
      refine g_iconst hX 1 dX4_takesFigure_28 (by decide) ?_
      refine g_iadd hX dX4_takesFigure_29 ?_
      refine pt_X4_begun hX dX4_takesFigure_30 ?_
      refine g_aload_0 hX dX4_takesFigure_33 ?_
      refine gt_X4_numbers hX dX4_takesFigure_34 ?_
      refine g_aload_0 hX dX4_takesFigure_37 ?_
      refine gt_X4_orders hX dX4_takesFigure_38 ?_
      refine g_aload_0 hX dX4_takesFigure_41 ?_
      refine gt_X4_begun hX dX4_takesFigure_42 ?_
      refine g_iconst hX 1 dX4_takesFigure_45 (by decide) ?_
      refine g_isub hX dX4_takesFigure_46 ?_
      refine g_iconst hX 3 dX4_takesFigure_47 (by decide) ?_
      refine g_cast (st' := [.int 3, .int (nI g), .int (nI w), .ref (zad Z 55)]) ?_ rfl rfl (by rw [u2s, u2k _ _ (by decide), hw, Int32.add_sub_cancel])
      refine g_cN3r hX mkX5_cell nl_X4_67 (c_X5_cell (w := 3) (by omega) (by decide)) dX4_takesFigure_48 rfl (by decide) (Nat.le_of_ble_eq_true rfl) ?_
      refine g_iconst hX 0 dX4_takesFigure_51 (by decide) ?_
      refine g_cN3v hX mkX5_put nl_X4_37 (c_X5_put (ar_55 Z) (by omega) (by decide)) dX4_takesFigure_52 rfl (by decide) (Nat.le_of_ble_eq_true rfl) ?_
      refine g_aload_0 hX dX4_takesFigure_55 ?_
      refine gt_X4_figures hX dX4_takesFigure_56 ?_
      refine g_iconst hX 3 dX4_takesFigure_59 (by decide) ?_
      refine g_icmp_ne hX 65 dX4_takesFigure_60 (by decide) (fun c60 => ?_) (fun c60 => ?_)
      · refine g_aload_0 hX dX4_takesFigure_65 ?_
        refine g_dup hX dX4_takesFigure_66 rfl ?_
        refine gt_X4_figures hX dX4_takesFigure_67 ?_
        refine g_iconst hX 1 dX4_takesFigure_70 (by decide) ?_
        refine g_iadd hX dX4_takesFigure_71 ?_
        refine pt_X4_figures hX dX4_takesFigure_72 ?_
        refine g_aload_0 hX dX4_takesFigure_75 ?_
        refine gt_X4_orders hX dX4_takesFigure_76 ?_
        refine g_aload_0 hX dX4_takesFigure_79 ?_
        refine gt_X4_begun hX dX4_takesFigure_80 ?_
        refine g_iconst hX 1 dX4_takesFigure_83 (by decide) ?_
        refine g_isub hX dX4_takesFigure_84 ?_
        refine g_iconst hX 3 dX4_takesFigure_85 (by decide) ?_
        refine g_cast (st' := [.int 3, .int (nI g), .int (nI w)]) ?_ rfl rfl (by simp [up2, up1, upd, hw, Int32.add_sub_cancel])
        refine g_cN3r hX mkX5_cell nl_X4_67 (c_X5_cell (w := 3) (by omega) (by decide)) dX4_takesFigure_86 rfl (by decide) (Nat.le_of_ble_eq_true rfl) ?_
        refine g_istore_2 hX dX4_takesFigure_89 rfl ?_
        refine g_aload_0 hX dX4_takesFigure_90 ?_
        refine gt_X4_numbers hX dX4_takesFigure_91 ?_
        refine g_iload_2 hX dX4_takesFigure_94 ?_
        refine g_bipush hX 10 dX4_takesFigure_95 (by decide) ?_
        refine g_aload_0 hX dX4_takesFigure_97 ?_
        refine gt_X4_numbers hX dX4_takesFigure_98 ?_
        refine g_iload_2 hX dX4_takesFigure_101 ?_
        refine g_cN2r hX mkX5_at nl_X4_41 (c_X5_at (ar_55 Z) (by omega) (by decide)) dX4_takesFigure_102 rfl (by decide) (Nat.le_of_ble_eq_true rfl) ?_
        refine g_imul hX dX4_takesFigure_105 ?_
        refine g_iload_1 hX dX4_takesFigure_106 ?_
        refine g_iadd hX dX4_takesFigure_107 ?_
        refine g_cN3v hX mkX5_put nl_X4_37 (c_X5_put (ar_55 Z) (by omega) (by decide)) dX4_takesFigure_108 rfl (by decide) (Nat.le_of_ble_eq_true rfl) ?_
        refine g_iconst hX 1 dX4_takesFigure_111 (by decide) ?_
        exact hq _ _ _ _ dX4_takesFigure_112 (by unfold fgM; rw [if_pos (by unfold figB; rw [if_pos h0]; rw [← hg] at c18; simp [c18]), if_pos h0]; rfl) (by rw [bI_t]; unfold figB; rw [if_pos h0]; rw [← hg] at c18; simp [c18])
      · exact absurd c60 (by rw [u2c _ _ (show (52 : Nat) ≠ 55 by decide), u2k _ _ (show (7 : Nat) ≠ 6 by decide), h0]; decide)
    · refine g_iconst hX 0 dX4_takesFigure_21 (by decide) ?_
      exact hq _ _ _ _ dX4_takesFigure_22 (by unfold fgM; rw [if_neg]; unfold figB; rw [if_pos h0]; rw [← hg] at c18; simp [c18]) (by rw [bI_f]; unfold figB; rw [if_pos h0]; rw [← hg] at c18; simp [c18])
set_option maxRecDepth 100000 in
set_option maxHeartbeats 4000000 in
theorem c_X4_tf_later {Z : Zt} {b : Mem} {x : Int32} {w g f : Nat} (hw : b 52 4 = nI w) (h40 : w < 40) (hg : b 52 6 = nI g) (hgn : g ≤ nOf (b 52 5)) (hf : b 52 7 = nI f) (hf3 : f ≤ 3) (hfg : 0 < f → 1 ≤ g) (h0 : ¬ b 52 7 = 0) : Con Z yX4_takesFigure cX4_takesFigure 3 (some .boolean) 1 [.ref (zad Z 52), .int x] b (some (.int (bI (figB b = true)))) (fgM b w g x) := by
  have n3 := nOf_le (b 52 5)
  have g1 : 1 ≤ g := hfg (Nat.pos_of_ne_zero (fun q => h0 (by rw [hf, q]; rfl)))
  refine con_z (by decide) (Nat.le_of_ble_eq_true rfl) rfl (bI_n _) (fun X hX hq => ?_)
  have hX : Ok Z X cX4_takesFigure 3 RX4 1 := hX
  show G Z X b 0 [some (.ref (zad Z 52)), some (.int x), none] []
  refine g_aload_0 hX dX4_takesFigure_0 ?_
  refine gt_X4_figures hX dX4_takesFigure_1 ?_
  refine g_if_ne hX 55 dX4_takesFigure_4 (by decide) (fun c4 => ?_) (fun c4 => ?_)
  · refine g_aload_0 hX dX4_takesFigure_55 ?_
    refine gt_X4_figures hX dX4_takesFigure_56 ?_
    refine g_iconst hX 3 dX4_takesFigure_59 (by decide) ?_
    refine g_icmp_ne hX 65 dX4_takesFigure_60 (by decide) (fun c60 => ?_) (fun c60 => ?_)
    · refine g_aload_0 hX dX4_takesFigure_65 ?_
      refine g_dup hX dX4_takesFigure_66 rfl ?_
      refine gt_X4_figures hX dX4_takesFigure_67 ?_
      refine g_iconst hX 1 dX4_takesFigure_70 (by decide) ?_
      refine g_iadd hX dX4_takesFigure_71 ?_
      refine pt_X4_figures hX dX4_takesFigure_72 ?_
      refine g_aload_0 hX dX4_takesFigure_75 ?_
      refine gt_X4_orders hX dX4_takesFigure_76 ?_
      refine g_aload_0 hX dX4_takesFigure_79 ?_
      refine gt_X4_begun hX dX4_takesFigure_80 ?_
      refine g_iconst hX 1 dX4_takesFigure_83 (by decide) ?_
      refine g_isub hX dX4_takesFigure_84 ?_
      refine g_iconst hX 3 dX4_takesFigure_85 (by decide) ?_
      refine g_cast (st' := [.int 3, .int (nI (g - 1)), .int (nI w)]) ?_ rfl rfl (by rw [u2k _ _ (by decide), u2k _ _ (by decide), hw, hg, nI_sub1 g1])
      refine g_cN3r hX mkX5_cell nl_X4_67 (c_X5_cell (w := 3) (by omega) (by decide)) dX4_takesFigure_86 rfl (by decide) (Nat.le_of_ble_eq_true rfl) ?_
      refine g_istore_2 hX dX4_takesFigure_89 rfl ?_
      refine g_aload_0 hX dX4_takesFigure_90 ?_
      refine gt_X4_numbers hX dX4_takesFigure_91 ?_
      refine g_iload_2 hX dX4_takesFigure_94 ?_
      refine g_bipush hX 10 dX4_takesFigure_95 (by decide) ?_
      refine g_aload_0 hX dX4_takesFigure_97 ?_
      refine gt_X4_numbers hX dX4_takesFigure_98 ?_
      refine g_iload_2 hX dX4_takesFigure_101 ?_
      refine g_cN2r hX mkX5_at nl_X4_41 (c_X5_at (ar_55 Z) (by omega) (by decide)) dX4_takesFigure_102 rfl (by decide) (Nat.le_of_ble_eq_true rfl) ?_
      refine g_imul hX dX4_takesFigure_105 ?_
      refine g_iload_1 hX dX4_takesFigure_106 ?_
      refine g_iadd hX dX4_takesFigure_107 ?_
      refine g_cN3v hX mkX5_put nl_X4_37 (c_X5_put (ar_55 Z) (by omega) (by decide)) dX4_takesFigure_108 rfl (by decide) (Nat.le_of_ble_eq_true rfl) ?_
      refine g_iconst hX 1 dX4_takesFigure_111 (by decide) ?_
      exact hq _ _ _ _ dX4_takesFigure_112 (by unfold fgM; rw [if_pos (by unfold figB; rw [if_neg h0]; simp [c60]), if_neg h0]; rfl) (by rw [bI_t]; unfold figB; rw [if_neg h0]; simp [c60])
    · refine g_iconst hX 0 dX4_takesFigure_63 (by decide) ?_
      exact hq _ _ _ _ dX4_takesFigure_64 (by unfold fgM; rw [if_neg]; unfold figB; rw [if_neg h0]; simp [c60]) (by rw [bI_f]; unfold figB; rw [if_neg h0]; simp [c60])
  · exact absurd c4 (h0)
theorem c_X4_takesFigure {Z : Zt} {b : Mem} {x : Int32} {w g f : Nat} (hw : b 52 4 = nI w) (h40 : w < 40) (hg : b 52 6 = nI g) (hgn : g ≤ nOf (b 52 5)) (hf : b 52 7 = nI f) (hf3 : f ≤ 3) (hfg : 0 < f → 1 ≤ g) : Con Z yX4_takesFigure cX4_takesFigure 3 (some .boolean) 1 [.ref (zad Z 52), .int x] b (some (.int (bI (figB b = true)))) (fgM b w g x) := by
  by_cases h0 : b 52 7 = 0
  · exact c_X4_tf_first hw h40 hg hgn hf hf3 hfg h0
  · exact c_X4_tf_later hw h40 hg hgn hf hf3 hfg h0
set_option maxRecDepth 100000 in
set_option maxHeartbeats 4000000 in
theorem c_X4_takes {Z : Zt} {b : Mem} {x : Int32} {w g f : Nat} (hw : b 52 4 = nI w) (h40 : ¬ b 52 5 = 0 → w < 40) (hg : b 52 6 = nI g) (hgn : ¬ b 52 5 = 0 → g ≤ nOf (b 52 5)) (hf : b 52 7 = nI f) (hf3 : f ≤ 3) (hfg : ¬ b 52 5 = 0 → 0 < f → 1 ≤ g) : Con Z yX4_takes cX4_takes 2 (some .boolean) 2 [.ref (zad Z 52), .int x] b (some (.int (bI (tcB b x = true)))) (tcM b w g x) := by
  refine con_z (by decide) (Nat.le_of_ble_eq_true rfl) rfl (bI_n _) (fun X hX hq => ?_)
  have hX : Ok Z X cX4_takes 2 RX4 2 := hX
  show G Z X b 0 [some (.ref (zad Z 52)), some (.int x)] []
  refine g_iload_1 hX dX4_takes_0 ?_
  refine g_bipush hX 32 dX4_takes_1 (by decide) ?_
  refine g_icmp_ne hX 13 dX4_takes_3 (by decide) (fun c3 => ?_) (fun c3 => ?_)
  · refine g_aload_0 hX dX4_takes_13 ?_
    refine gt_X4_letter hX dX4_takes_14 ?_
    refine g_if_ne hX 26 dX4_takes_17 (by decide) (fun c17 => ?_) (fun c17 => ?_)
    · refine g_iload_1 hX dX4_takes_26 ?_
      refine g_bipush hX 59 dX4_takes_27 (by decide) ?_
      refine g_icmp_ne hX 37 dX4_takes_29 (by decide) (fun c29 => ?_) (fun c29 => ?_)
      · refine g_iload_1 hX dX4_takes_37 ?_
        refine g_bipush hX 48 dX4_takes_38 (by decide) ?_
        refine g_bipush hX 57 dX4_takes_40 (by decide) ?_
        refine g_cN3r hX mkX5_within nl_X4_56 (c_X5_within) dX4_takes_42 rfl (by decide) (Nat.le_of_ble_eq_true rfl) ?_
        refine g_if_eq hX 63 dX4_takes_45 (by decide) (fun c45 => ?_) (fun c45 => ?_)
        · replace c45 := bI_z.mp c45
          refine g_iconst hX 0 dX4_takes_63 (by decide) ?_
          exact hq _ _ _ _ dX4_takes_64 (by first | (unfold tcM tcB; simp only [if_neg c3, if_neg c17, if_neg c29, c56, decide_eq_true c45]; simp; done) | (unfold tcM tcB; simp only [if_neg c3, if_neg c17, if_neg c29]; unfold fgM; simp [c56]; done) | (unfold tcM tcB; simp only [if_neg c3, if_neg c17, if_neg c29, decide_eq_false c45]; simp; done)) (by first | (rw [bI_t]; unfold tcB; rw [if_neg c3, if_neg c17, if_neg c29, c56]; simp [c45]; done) | (rw [bI_f]; unfold tcB; rw [if_neg c3, if_neg c17, if_neg c29]; simp [c56]; done) | (rw [bI_f]; unfold tcB; rw [if_neg c3, if_neg c17, if_neg c29, decide_eq_false c45]; simp; done))
        · replace c45 := bI_nz.mp c45
          refine g_aload_0 hX dX4_takes_48 ?_
          refine g_iload_1 hX dX4_takes_49 ?_
          refine g_bipush hX 48 dX4_takes_50 (by decide) ?_
          refine g_isub hX dX4_takes_52 ?_
          refine g_cV1r hX mkX4_takesFigure ml_X4_60 (c_X4_takesFigure hw (h40 c17) hg (hgn c17) hf hf3 (hfg c17)) (ob_52 Z _) dX4_takes_53 rfl (by decide) (Nat.le_of_ble_eq_true rfl) ?_
          refine g_if_eq hX 63 dX4_takes_56 (by decide) (fun c56 => ?_) (fun c56 => ?_)
          · replace c56 := bI_z.mp c56
            refine g_iconst hX 0 dX4_takes_63 (by decide) ?_
            exact hq _ _ _ _ dX4_takes_64 (by first | (unfold tcM tcB; simp only [if_neg c3, if_neg c17, if_neg c29, c56, decide_eq_true c45]; simp; done) | (unfold tcM tcB; simp only [if_neg c3, if_neg c17, if_neg c29]; unfold fgM; simp [c56]; done) | (unfold tcM tcB; simp only [if_neg c3, if_neg c17, if_neg c29, decide_eq_false c45]; simp; done)) (by first | (rw [bI_t]; unfold tcB; rw [if_neg c3, if_neg c17, if_neg c29, c56]; simp [c45]; done) | (rw [bI_f]; unfold tcB; rw [if_neg c3, if_neg c17, if_neg c29]; simp [c56]; done) | (rw [bI_f]; unfold tcB; rw [if_neg c3, if_neg c17, if_neg c29, decide_eq_false c45]; simp; done))
          · replace c56 := bI_nz.mp c56
            refine g_iconst hX 1 dX4_takes_59 (by decide) ?_
            refine g_goto hX 64 dX4_takes_60 (by decide) ?_
            exact hq _ _ _ _ dX4_takes_64 (by first | (unfold tcM tcB; simp only [if_neg c3, if_neg c17, if_neg c29, c56, decide_eq_true c45]; simp; done) | (unfold tcM tcB; simp only [if_neg c3, if_neg c17, if_neg c29]; unfold fgM; simp [c56]; done) | (unfold tcM tcB; simp only [if_neg c3, if_neg c17, if_neg c29, decide_eq_false c45]; simp; done)) (by first | (rw [bI_t]; unfold tcB; rw [if_neg c3, if_neg c17, if_neg c29, c56]; simp [c45]; done) | (rw [bI_f]; unfold tcB; rw [if_neg c3, if_neg c17, if_neg c29]; simp [c56]; done) | (rw [bI_f]; unfold tcB; rw [if_neg c3, if_neg c17, if_neg c29, decide_eq_false c45]; simp; done))
      · refine g_aload_0 hX dX4_takes_32 ?_
        refine g_cV0r hX mkX4_closes ml_X4_52 (c_X4_closes hw (h40 c17)) (ob_52 Z _) dX4_takes_33 rfl (by decide) (Nat.le_of_ble_eq_true rfl) ?_
        exact hq _ _ _ _ dX4_takes_36 (by unfold tcM tcB; simp only [if_neg c3, if_neg c17, if_pos c29, decide_eq_true_eq]) (by unfold tcB; rw [if_neg c3, if_neg c17, if_pos c29]; simp only [decide_eq_true_eq])
    · refine g_aload_0 hX dX4_takes_20 ?_
      refine g_iload_1 hX dX4_takes_21 ?_
      refine g_cV1r hX mkX4_opens ml_X4_49 (c_X4_opens) (ob_52 Z _) dX4_takes_22 rfl (by decide) (Nat.le_of_ble_eq_true rfl) ?_
      exact hq _ _ _ _ dX4_takes_25 (by unfold tcM tcB; simp only [if_neg c3, if_pos c17, decide_eq_true_eq]; by_cases q : nOf x = 0 <;> simp [q]) (by unfold tcB; rw [if_neg c3, if_pos c17]; simp only [decide_eq_true_eq])
  · refine g_aload_0 hX dX4_takes_6 ?_
    refine g_iconst hX 0 dX4_takes_7 (by decide) ?_
    refine pt_X4_figures hX dX4_takes_8 ?_
    refine g_iconst hX 1 dX4_takes_11 (by decide) ?_
    exact hq _ _ _ _ dX4_takes_12 (by unfold tcM; rw [if_pos (by unfold tcB; rw [if_pos c3]), if_pos c3]) (by rw [bI_t]; unfold tcB; rw [if_pos c3])
