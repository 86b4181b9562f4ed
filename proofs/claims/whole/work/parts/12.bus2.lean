/-! SnakedBus$Bus: the changes -/
theorem u2s (b : Mem) (i k : Nat) (x : Int32) : up2 b i k x i k = x := by simp [up2, up1, upd]
theorem u2k (b : Mem) {i k m : Nat} (x : Int32) (h : m ≠ k) : up2 b i k x i m = b i m := by simp [up2, up1, upd, h]
theorem u2c (b : Mem) {i k j : Nat} (x : Int32) (h : j ≠ i) : up2 b i k x j = b j := by simp [up2, up1, h]
theorem u1s (b : Mem) (i : Nat) (f : Nat → Int32) : up1 b i f i = f := by simp [up1]
theorem u1c (b : Mem) {i j : Nat} (f : Nat → Int32) (h : j ≠ i) : up1 b i f j = b j := by simp [up1, h]
theorem cv0 (b : Mem) (o l i : Nat) : cv b o 0 l i = b (o + 1) l := rfl
theorem cv1 (b : Mem) (o l i : Nat) : cv b o 1 l i = b (o + 2) (l * 8 + i) := rfl
theorem cv2 (b : Mem) (o l i : Nat) : cv b o 2 l i = b (o + 3) (l * 8 + i) := rfl
theorem cv3 (b : Mem) (o l i : Nat) : cv b o 3 l i = b (o + 4) l := rfl
theorem cv4 (b : Mem) (o l i : Nat) : cv b o 4 l i = b (o + 5) l := rfl
theorem cv5 (b : Mem) (o l i : Nat) : cv b o 5 l i = b (o + 6) l := rfl
theorem cv6 (b : Mem) (o l i : Nat) : cv b o 6 l i = b o 6 := rfl
theorem cv7 (b : Mem) (o l i : Nat) : cv b o 7 l i = b o 7 := rfl
def addLineR (n a : Int32) : Int32 := if ¬ a < 1 ∧ ¬ 60 < a then (if n < 6 then n else -4) else -2
def addLineM (b : Mem) (o : Nat) (a : Int32) : Mem := if ¬ a < 1 ∧ ¬ 60 < a then (if b o 6 < 6 then up2 (up2 (up2 (up2 b (o + 1) (nl (cv b o)) 1) (o + 2) (nl (cv b o) * 8 + 0) a) (o + 3) (nl (cv b o) * 8 + 0) (-1)) o 6 (b o 6 + 1) else b) else b
def addRunR (n r l t a : Int32) : Int32 := if (¬ l < 0 ∧ l < n) ∧ (¬ t < 0 ∧ ¬ 1 < t) ∧ ¬ a < 1 ∧ ¬ 60 < a then (if r < 8 then r + 1 else -4) else -2
def addRunM (b : Mem) (o : Nat) (l t a : Int32) : Mem := if (¬ l < 0 ∧ l < b o 6) ∧ (¬ t < 0 ∧ ¬ 1 < t) ∧ ¬ a < 1 ∧ ¬ 60 < a then (if b (o + 1) l.toNatClampNeg < 8 then up2 (up2 (up2 b (o + 2) (l.toNatClampNeg * 8 + rn (cv b o) l.toNatClampNeg) a) (o + 3) (l.toNatClampNeg * 8 + rn (cv b o) l.toNatClampNeg) t) (o + 1) l.toNatClampNeg (b (o + 1) l.toNatClampNeg + 1) else b) else b
def dropRunR (n r l : Int32) : Int32 := if ¬ l < 0 ∧ l < n then (if r - 1 < 1 then -3 else r - 1) else -2
def dropRunM (b : Mem) (o : Nat) (l : Int32) : Mem := if ¬ l < 0 ∧ l < b o 6 then (if b (o + 1) l.toNatClampNeg - 1 < 1 then b else up2 b (o + 1) l.toNatClampNeg (b (o + 1) l.toNatClampNeg - 1)) else b
def addPocketR (n w t : Int32) : Int32 := if (¬ w < 1 ∧ ¬ 60 < w) ∧ ¬ t < 0 ∧ ¬ 63 < t then (if n < 6 then n else -4) else -2
def addPocketM (b : Mem) (o : Nat) (w t : Int32) : Mem := if (¬ w < 1 ∧ ¬ 60 < w) ∧ ¬ t < 0 ∧ ¬ 63 < t then (if b o 7 < 6 then up2 (up2 (up2 b (o + 4) (np (cv b o)) w) (o + 5) (np (cv b o)) t) o 7 (b o 7 + 1) else b) else b
def wideR (n x p w : Int32) : Int32 := if (¬ p < 0 ∧ p < n) ∧ ¬ w < 1 ∧ ¬ 60 < w then x else -2
def wideM (b : Mem) (o : Nat) (p w : Int32) : Mem := if (¬ p < 0 ∧ p < b o 7) ∧ ¬ w < 1 ∧ ¬ 60 < w then up2 b (o + 4) p.toNatClampNeg w else b
def touchR (n x p w : Int32) : Int32 := if (¬ p < 0 ∧ p < n) ∧ ¬ w < 0 ∧ ¬ 63 < w then x else -2
def touchM (b : Mem) (o : Nat) (p w : Int32) : Mem := if (¬ p < 0 ∧ p < b o 7) ∧ ¬ w < 0 ∧ ¬ 63 < w then up2 b (o + 5) p.toNatClampNeg w else b
def setR (y k x : Int32) : Int32 := if (¬ k < 0 ∧ ¬ 6 < k) ∧ ¬ x < lowF k.toNatClampNeg ∧ ¬ higF k.toNatClampNeg < x then y else -2
def setM (b : Mem) (o : Nat) (k x : Int32) : Mem := if (¬ k < 0 ∧ ¬ 6 < k) ∧ ¬ x < lowF k.toNatClampNeg ∧ ¬ higF k.toNatClampNeg < x then up2 b (o + 6) k.toNatClampNeg x else b
set_option maxRecDepth 100000 in
set_option maxHeartbeats 4000000 in
theorem c_X0_addLine {Z : Zt} {b : Mem} {o : Nat} (h_o : isBus Z o) {a : Int32} (hV : Val (cv b o))  : Con Z yX0_addLine cX0_addLine 2 (some .int) 1 [.ref (zad Z o), .int a] b (some (.int (addLineR (b o 6) a))) (addLineM b o a) := by
  have hn : b o 6 = nI (nl (cv b o)) := hV.1.1
  have hn6 := hV.1.2
  refine con_i (by decide) (Nat.le_of_ble_eq_true rfl) rfl (fun X hX hq => ?_)
  have hX : Ok Z X cX0_addLine 2 RX0 1 := hX
  show G Z X b 0 [some (.ref (zad Z o)), some (.int a)] []
  refine g_iload_1 hX dX0_addLine_0 ?_
  refine g_iconst hX 1 dX0_addLine_1 (by decide) ?_
  refine g_bipush hX 60 dX0_addLine_2 (by decide) ?_
  refine g_cN3r hX mkX5_within nl_X0_44 (c_X5_within) dX0_addLine_4 rfl (by decide) (Nat.le_of_ble_eq_true rfl) ?_
  refine g_if_ne hX 13 dX0_addLine_7 (by decide) (fun c7 => ?_) (fun c7 => ?_)
  · replace c7 := bI_nz.mp c7
    refine g_aload_0 hX dX0_addLine_13 ?_
    refine gt_X0_lines hX h_o dX0_addLine_14 ?_
    refine g_bipush hX 6 dX0_addLine_17 (by decide) ?_
    refine g_icmp_lt hX 25 dX0_addLine_19 (by decide) (fun c19 => ?_) (fun c19 => ?_)
    · have hl6 : nl (cv b o) < 6 := (nI_ltI (by omega) (by decide)).mp (by rw [← hn]; exact c19)
      refine g_aload_0 hX dX0_addLine_25 ?_
      refine gt_X0_runs hX h_o dX0_addLine_26 ?_
      refine g_aload_0 hX dX0_addLine_29 ?_
      refine gt_X0_lines hX h_o dX0_addLine_30 ?_
      refine g_top _ hn ?_
      refine g_iconst hX 1 dX0_addLine_33 (by decide) ?_
      refine g_cN3v hX mkX5_put nl_X0_48 (c_X5_put h_o.2.2.1 hl6 (by decide)) dX0_addLine_34 rfl (by decide) (Nat.le_of_ble_eq_true rfl) ?_
      refine g_aload_0 hX dX0_addLine_37 ?_
      refine gt_X0_longs hX h_o dX0_addLine_38 ?_
      refine g_aload_0 hX dX0_addLine_41 ?_
      refine gt_X0_lines hX h_o dX0_addLine_42 ?_
      refine g_top (nI (nl (cv b o))) (by simp [up2, up1, hn]) ?_
      refine g_iconst hX 0 dX0_addLine_45 (by decide) ?_
      refine g_bipush hX 8 dX0_addLine_46 (by decide) ?_
      refine g_cN3r hX mkX5_cell nl_X0_52 (c_X5_cell (k := 0) (w := 8) (by decide) (by decide)) dX0_addLine_48 rfl (by decide) (Nat.le_of_ble_eq_true rfl) ?_
      refine g_iload_1 hX dX0_addLine_51 ?_
      refine g_cN3v hX mkX5_put nl_X0_48 (c_X5_put h_o.2.2.2.1 (by omega) (by decide)) dX0_addLine_52 rfl (by decide) (Nat.le_of_ble_eq_true rfl) ?_
      refine g_aload_0 hX dX0_addLine_55 ?_
      refine gt_X0_turns hX h_o dX0_addLine_56 ?_
      refine g_aload_0 hX dX0_addLine_59 ?_
      refine gt_X0_lines hX h_o dX0_addLine_60 ?_
      refine g_top (nI (nl (cv b o))) (by simp [up2, up1, hn]) ?_
      refine g_iconst hX 0 dX0_addLine_63 (by decide) ?_
      refine g_bipush hX 8 dX0_addLine_64 (by decide) ?_
      refine g_cN3r hX mkX5_cell nl_X0_52 (c_X5_cell (k := 0) (w := 8) (by decide) (by decide)) dX0_addLine_66 rfl (by decide) (Nat.le_of_ble_eq_true rfl) ?_
      refine g_iconst hX (-1) dX0_addLine_69 (by decide) ?_
      refine g_cN3v hX mkX5_put nl_X0_48 (c_X5_put h_o.2.2.2.2.1 (by omega) (by decide)) dX0_addLine_70 rfl (by decide) (Nat.le_of_ble_eq_true rfl) ?_
      refine g_aload_0 hX dX0_addLine_73 ?_
      refine g_dup hX dX0_addLine_74 rfl ?_
      refine gt_X0_lines hX h_o dX0_addLine_75 ?_
      refine g_top (b o 6) (by simp [up2, up1, hn]) ?_
      refine g_iconst hX 1 dX0_addLine_78 (by decide) ?_
      refine g_iadd hX dX0_addLine_79 ?_
      refine pt_X0_lines hX h_o dX0_addLine_80 ?_
      refine g_aload_0 hX dX0_addLine_83 ?_
      refine gt_X0_lines hX h_o dX0_addLine_84 ?_
      refine g_top (b o 6 + 1) (u2s _ _ _ _) ?_
      refine g_iconst hX 1 dX0_addLine_87 (by decide) ?_
      refine g_isub hX dX0_addLine_88 ?_
      exact hq _ _ _ _ dX0_addLine_89 (by rw [addLineM, if_pos c7, if_pos c19]) (by rw [addLineR, if_pos c7, if_pos c19, Int32.add_sub_cancel])
    · refine g_bipush hX (-4) dX0_addLine_22 (by decide) ?_
      exact hq _ _ _ _ dX0_addLine_24 (by rw [addLineM, if_pos c7, if_neg c19]) (by rw [addLineR, if_pos c7, if_neg c19])
  · replace c7 := bI_z.mp c7
    refine g_bipush hX (-2) dX0_addLine_10 (by decide) ?_
    exact hq _ _ _ _ dX0_addLine_12 (by rw [addLineM, if_neg c7]) (by rw [addLineR, if_neg c7])
set_option maxRecDepth 100000 in
set_option maxHeartbeats 4000000 in
theorem c_X0_addRun {Z : Zt} {b : Mem} {o : Nat} (h_o : isBus Z o) {l t a : Int32} (hV : Val (cv b o))  : Con Z yX0_addRun cX0_addRun 5 (some .int) 2 [.ref (zad Z o), .int l, .int t, .int a] b (some (.int (addRunR (b o 6) (b (o + 1) l.toNatClampNeg) l t a))) (addRunM b o l t a) := by
  have hn : b o 6 = nI (nl (cv b o)) := hV.1.1
  have hn6 := hV.1.2
  refine con_i (by decide) (Nat.le_of_ble_eq_true rfl) rfl (fun X hX hq => ?_)
  have hX : Ok Z X cX0_addRun 5 RX0 2 := hX
  show G Z X b 0 [some (.ref (zad Z o)), some (.int l), some (.int t), some (.int a), none] []
  refine g_aload_0 hX dX0_addRun_0 ?_
  refine g_iload_1 hX dX0_addRun_1 ?_
  refine g_cV1r hX mkX0_hasLine ml_X0_56 (c_X0_hasLine h_o) (h_o.obj _) dX0_addRun_2 rfl (by decide) (Nat.le_of_ble_eq_true rfl) ?_
  refine g_if_eq hX 27 dX0_addRun_5 (by decide) (fun c5 => ?_) (fun c5 => ?_)
  · replace c5 := bI_z.mp c5
    refine g_bipush hX (-2) dX0_addRun_27 (by decide) ?_
    exact hq _ _ _ _ dX0_addRun_29 (by first | (rw [addRunM, if_neg]; intro hh; exact c5 hh.1) | (rw [addRunM, if_neg]; intro hh; exact c14 hh.2.1) | (rw [addRunM, if_neg]; intro hh; exact c24 hh.2.2)) (by first | (rw [addRunR, if_neg]; intro hh; exact c5 hh.1) | (rw [addRunR, if_neg]; intro hh; exact c14 hh.2.1) | (rw [addRunR, if_neg]; intro hh; exact c24 hh.2.2))
  · replace c5 := bI_nz.mp c5
    obtain ⟨j, hj, rfl⟩ := in_of c5.1 (by have := c5.2; rw [hn] at this; exact this) (by omega)
    have hjc : (nI j).toNatClampNeg = j := nI_clamp (by omega)
    have hj6 := hV.l6 hj
    have hr : b (o + 1) j = nI (rn (cv b o) j) := hV.runs hj
    have hr8 := hV.r8 hj
    have hr1 := hV.r1 hj
    refine g_iload_2 hX dX0_addRun_8 ?_
    refine g_iconst hX 0 dX0_addRun_9 (by decide) ?_
    refine g_iconst hX 1 dX0_addRun_10 (by decide) ?_
    refine g_cN3r hX mkX5_within nl_X0_44 (c_X5_within) dX0_addRun_11 rfl (by decide) (Nat.le_of_ble_eq_true rfl) ?_
    refine g_if_eq hX 27 dX0_addRun_14 (by decide) (fun c14 => ?_) (fun c14 => ?_)
    · replace c14 := bI_z.mp c14
      refine g_bipush hX (-2) dX0_addRun_27 (by decide) ?_
      exact hq _ _ _ _ dX0_addRun_29 (by first | (rw [addRunM, if_neg]; intro hh; exact c5 hh.1) | (rw [addRunM, if_neg]; intro hh; exact c14 hh.2.1) | (rw [addRunM, if_neg]; intro hh; exact c24 hh.2.2)) (by first | (rw [addRunR, if_neg]; intro hh; exact c5 hh.1) | (rw [addRunR, if_neg]; intro hh; exact c14 hh.2.1) | (rw [addRunR, if_neg]; intro hh; exact c24 hh.2.2))
    · replace c14 := bI_nz.mp c14
      refine g_iload_3 hX dX0_addRun_17 ?_
      refine g_iconst hX 1 dX0_addRun_18 (by decide) ?_
      refine g_bipush hX 60 dX0_addRun_19 (by decide) ?_
      refine g_cN3r hX mkX5_within nl_X0_44 (c_X5_within) dX0_addRun_21 rfl (by decide) (Nat.le_of_ble_eq_true rfl) ?_
      refine g_if_ne hX 30 dX0_addRun_24 (by decide) (fun c24 => ?_) (fun c24 => ?_)
      · replace c24 := bI_nz.mp c24
        refine g_aload_0 hX dX0_addRun_30 ?_
        refine g_iload_1 hX dX0_addRun_31 ?_
        refine g_cV1r hX mkX0_runsOf ml_X0_60 (c_X0_runsOf h_o hj6) (h_o.obj _) dX0_addRun_32 rfl (by decide) (Nat.le_of_ble_eq_true rfl) ?_
        refine g_istore_4 hX dX0_addRun_35 rfl ?_
        refine g_iload_4 hX dX0_addRun_37 ?_
        refine g_bipush hX 8 dX0_addRun_39 (by decide) ?_
        refine g_icmp_lt hX 47 dX0_addRun_41 (by decide) (fun c41 => ?_) (fun c41 => ?_)
        · have h8 : rn (cv b o) j < 8 := (nI_ltI (by omega) (by decide)).mp (by rw [← hr]; exact c41)
          refine g_aload_0 hX dX0_addRun_47 ?_
          refine gt_X0_longs hX h_o dX0_addRun_48 ?_
          refine g_iload_1 hX dX0_addRun_51 ?_
          refine g_iload_4 hX dX0_addRun_52 ?_
          refine g_top _ hr ?_
          refine g_bipush hX 8 dX0_addRun_54 (by decide) ?_
          refine g_cN3r hX mkX5_cell nl_X0_52 (c_X5_cell (w := 8) h8 (by decide)) dX0_addRun_56 rfl (by decide) (Nat.le_of_ble_eq_true rfl) ?_
          refine g_iload_3 hX dX0_addRun_59 ?_
          refine g_cN3v hX mkX5_put nl_X0_48 (c_X5_put h_o.2.2.2.1 (by omega) (by decide)) dX0_addRun_60 rfl (by decide) (Nat.le_of_ble_eq_true rfl) ?_
          refine g_aload_0 hX dX0_addRun_63 ?_
          refine gt_X0_turns hX h_o dX0_addRun_64 ?_
          refine g_iload_1 hX dX0_addRun_67 ?_
          refine g_iload_4 hX dX0_addRun_68 ?_
          refine g_top _ hr ?_
          refine g_bipush hX 8 dX0_addRun_70 (by decide) ?_
          refine g_cN3r hX mkX5_cell nl_X0_52 (c_X5_cell (w := 8) h8 (by decide)) dX0_addRun_72 rfl (by decide) (Nat.le_of_ble_eq_true rfl) ?_
          refine g_iload_2 hX dX0_addRun_75 ?_
          refine g_cN3v hX mkX5_put nl_X0_48 (c_X5_put h_o.2.2.2.2.1 (by omega) (by decide)) dX0_addRun_76 rfl (by decide) (Nat.le_of_ble_eq_true rfl) ?_
          refine g_aload_0 hX dX0_addRun_79 ?_
          refine gt_X0_runs hX h_o dX0_addRun_80 ?_
          refine g_iload_1 hX dX0_addRun_83 ?_
          refine g_iload_4 hX dX0_addRun_84 ?_
          refine g_iconst hX 1 dX0_addRun_86 (by decide) ?_
          refine g_iadd hX dX0_addRun_87 ?_
          refine g_cN3v hX mkX5_put nl_X0_48 (c_X5_put h_o.2.2.1 hj6 (by decide)) dX0_addRun_88 rfl (by decide) (Nat.le_of_ble_eq_true rfl) ?_
          refine g_iload_4 hX dX0_addRun_91 ?_
          refine g_iconst hX 1 dX0_addRun_93 (by decide) ?_
          refine g_iadd hX dX0_addRun_94 ?_
          exact hq _ _ _ _ dX0_addRun_95 (by rw [addRunM, if_pos ⟨c5, c14, c24⟩, hjc, if_pos c41]) (by rw [addRunR, if_pos ⟨c5, c14, c24⟩, hjc, if_pos c41])
        · refine g_bipush hX (-4) dX0_addRun_44 (by decide) ?_
          exact hq _ _ _ _ dX0_addRun_46 (by rw [addRunM, if_pos ⟨c5, c14, c24⟩, hjc, if_neg c41]) (by rw [addRunR, if_pos ⟨c5, c14, c24⟩, hjc, if_neg c41])
      · replace c24 := bI_z.mp c24
        refine g_bipush hX (-2) dX0_addRun_27 (by decide) ?_
        exact hq _ _ _ _ dX0_addRun_29 (by first | (rw [addRunM, if_neg]; intro hh; exact c5 hh.1) | (rw [addRunM, if_neg]; intro hh; exact c14 hh.2.1) | (rw [addRunM, if_neg]; intro hh; exact c24 hh.2.2)) (by first | (rw [addRunR, if_neg]; intro hh; exact c5 hh.1) | (rw [addRunR, if_neg]; intro hh; exact c14 hh.2.1) | (rw [addRunR, if_neg]; intro hh; exact c24 hh.2.2))
set_option maxRecDepth 100000 in
set_option maxHeartbeats 4000000 in
theorem c_X0_dropRun {Z : Zt} {b : Mem} {o : Nat} (h_o : isBus Z o) {l : Int32} (hV : Val (cv b o))  : Con Z yX0_dropRun cX0_dropRun 3 (some .int) 2 [.ref (zad Z o), .int l] b (some (.int (dropRunR (b o 6) (b (o + 1) l.toNatClampNeg) l))) (dropRunM b o l) := by
  have hn : b o 6 = nI (nl (cv b o)) := hV.1.1
  have hn6 := hV.1.2
  refine con_i (by decide) (Nat.le_of_ble_eq_true rfl) rfl (fun X hX hq => ?_)
  have hX : Ok Z X cX0_dropRun 3 RX0 2 := hX
  show G Z X b 0 [some (.ref (zad Z o)), some (.int l), none] []
  refine g_aload_0 hX dX0_dropRun_0 ?_
  refine g_iload_1 hX dX0_dropRun_1 ?_
  refine g_cV1r hX mkX0_hasLine ml_X0_56 (c_X0_hasLine h_o) (h_o.obj _) dX0_dropRun_2 rfl (by decide) (Nat.le_of_ble_eq_true rfl) ?_
  refine g_if_ne hX 11 dX0_dropRun_5 (by decide) (fun c5 => ?_) (fun c5 => ?_)
  · replace c5 := bI_nz.mp c5
    obtain ⟨j, hj, rfl⟩ := in_of c5.1 (by have := c5.2; rw [hn] at this; exact this) (by omega)
    have hjc : (nI j).toNatClampNeg = j := nI_clamp (by omega)
    have hj6 := hV.l6 hj
    have hr : b (o + 1) j = nI (rn (cv b o) j) := hV.runs hj
    have hr8 := hV.r8 hj
    have hr1 := hV.r1 hj
    refine g_aload_0 hX dX0_dropRun_11 ?_
    refine g_iload_1 hX dX0_dropRun_12 ?_
    refine g_cV1r hX mkX0_runsOf ml_X0_60 (c_X0_runsOf h_o hj6) (h_o.obj _) dX0_dropRun_13 rfl (by decide) (Nat.le_of_ble_eq_true rfl) ?_
    refine g_iconst hX 1 dX0_dropRun_16 (by decide) ?_
    refine g_isub hX dX0_dropRun_17 ?_
    refine g_istore_2 hX dX0_dropRun_18 rfl ?_
    refine g_iload_2 hX dX0_dropRun_19 ?_
    refine g_iconst hX 1 dX0_dropRun_20 (by decide) ?_
    refine g_icmp_ge hX 27 dX0_dropRun_21 (by decide) (fun c21 => ?_) (fun c21 => ?_)
    · refine g_aload_0 hX dX0_dropRun_27 ?_
      refine gt_X0_runs hX h_o dX0_dropRun_28 ?_
      refine g_iload_1 hX dX0_dropRun_31 ?_
      refine g_iload_2 hX dX0_dropRun_32 ?_
      refine g_cN3v hX mkX5_put nl_X0_48 (c_X5_put h_o.2.2.1 hj6 (by decide)) dX0_dropRun_33 rfl (by decide) (Nat.le_of_ble_eq_true rfl) ?_
      refine g_iload_2 hX dX0_dropRun_36 ?_
      exact hq _ _ _ _ dX0_dropRun_37 (by rw [dropRunM, if_pos c5, hjc, if_neg c21]) (by rw [dropRunR, if_pos c5, hjc, if_neg c21])
    · refine g_bipush hX (-3) dX0_dropRun_24 (by decide) ?_
      exact hq _ _ _ _ dX0_dropRun_26 (by rw [dropRunM, if_pos c5, hjc, if_pos c21]) (by rw [dropRunR, if_pos c5, hjc, if_pos c21])
  · replace c5 := bI_z.mp c5
    refine g_bipush hX (-2) dX0_dropRun_8 (by decide) ?_
    exact hq _ _ _ _ dX0_dropRun_10 (by rw [dropRunM, if_neg c5]) (by rw [dropRunR, if_neg c5])
set_option maxRecDepth 100000 in
set_option maxHeartbeats 4000000 in
theorem c_X0_addPocket {Z : Zt} {b : Mem} {o : Nat} (h_o : isBus Z o) {w t : Int32} (hV : Val (cv b o))  : Con Z yX0_addPocket cX0_addPocket 3 (some .int) 1 [.ref (zad Z o), .int w, .int t] b (some (.int (addPocketR (b o 7) w t))) (addPocketM b o w t) := by
  have hn : b o 7 = nI (np (cv b o)) := hV.2.1.1
  have hn6 := hV.2.1.2
  refine con_i (by decide) (Nat.le_of_ble_eq_true rfl) rfl (fun X hX hq => ?_)
  have hX : Ok Z X cX0_addPocket 3 RX0 1 := hX
  show G Z X b 0 [some (.ref (zad Z o)), some (.int w), some (.int t)] []
  refine g_iload_1 hX dX0_addPocket_0 ?_
  refine g_iconst hX 1 dX0_addPocket_1 (by decide) ?_
  refine g_bipush hX 60 dX0_addPocket_2 (by decide) ?_
  refine g_cN3r hX mkX5_within nl_X0_44 (c_X5_within) dX0_addPocket_4 rfl (by decide) (Nat.le_of_ble_eq_true rfl) ?_
  refine g_if_eq hX 20 dX0_addPocket_7 (by decide) (fun c7 => ?_) (fun c7 => ?_)
  · replace c7 := bI_z.mp c7
    refine g_bipush hX (-2) dX0_addPocket_20 (by decide) ?_
    exact hq _ _ _ _ dX0_addPocket_22 (by first | (rw [addPocketM, if_neg]; intro hh; exact c7 hh.1) | (rw [addPocketM, if_neg]; intro hh; exact c17 hh.2)) (by first | (rw [addPocketR, if_neg]; intro hh; exact c7 hh.1) | (rw [addPocketR, if_neg]; intro hh; exact c17 hh.2))
  · replace c7 := bI_nz.mp c7
    refine g_iload_2 hX dX0_addPocket_10 ?_
    refine g_iconst hX 0 dX0_addPocket_11 (by decide) ?_
    refine g_bipush hX 63 dX0_addPocket_12 (by decide) ?_
    refine g_cN3r hX mkX5_within nl_X0_44 (c_X5_within) dX0_addPocket_14 rfl (by decide) (Nat.le_of_ble_eq_true rfl) ?_
    refine g_if_ne hX 23 dX0_addPocket_17 (by decide) (fun c17 => ?_) (fun c17 => ?_)
    · replace c17 := bI_nz.mp c17
      refine g_aload_0 hX dX0_addPocket_23 ?_
      refine gt_X0_pockets hX h_o dX0_addPocket_24 ?_
      refine g_bipush hX 6 dX0_addPocket_27 (by decide) ?_
      refine g_icmp_lt hX 35 dX0_addPocket_29 (by decide) (fun c29 => ?_) (fun c29 => ?_)
      · have hl6 : np (cv b o) < 6 := (nI_ltI (by omega) (by decide)).mp (by rw [← hn]; exact c29)
        refine g_aload_0 hX dX0_addPocket_35 ?_
        refine gt_X0_wides hX h_o dX0_addPocket_36 ?_
        refine g_aload_0 hX dX0_addPocket_39 ?_
        refine gt_X0_pockets hX h_o dX0_addPocket_40 ?_
        refine g_top _ hn ?_
        refine g_iload_1 hX dX0_addPocket_43 ?_
        refine g_cN3v hX mkX5_put nl_X0_48 (c_X5_put h_o.2.2.2.2.2.1 hl6 (by decide)) dX0_addPocket_44 rfl (by decide) (Nat.le_of_ble_eq_true rfl) ?_
        refine g_aload_0 hX dX0_addPocket_47 ?_
        refine gt_X0_touching hX h_o dX0_addPocket_48 ?_
        refine g_aload_0 hX dX0_addPocket_51 ?_
        refine gt_X0_pockets hX h_o dX0_addPocket_52 ?_
        refine g_top (nI (np (cv b o))) (by simp [up2, up1, hn]) ?_
        refine g_iload_2 hX dX0_addPocket_55 ?_
        refine g_cN3v hX mkX5_put nl_X0_48 (c_X5_put h_o.2.2.2.2.2.2.1 hl6 (by decide)) dX0_addPocket_56 rfl (by decide) (Nat.le_of_ble_eq_true rfl) ?_
        refine g_aload_0 hX dX0_addPocket_59 ?_
        refine g_dup hX dX0_addPocket_60 rfl ?_
        refine gt_X0_pockets hX h_o dX0_addPocket_61 ?_
        refine g_top (b o 7) (by simp [up2, up1, hn]) ?_
        refine g_iconst hX 1 dX0_addPocket_64 (by decide) ?_
        refine g_iadd hX dX0_addPocket_65 ?_
        refine pt_X0_pockets hX h_o dX0_addPocket_66 ?_
        refine g_aload_0 hX dX0_addPocket_69 ?_
        refine gt_X0_pockets hX h_o dX0_addPocket_70 ?_
        refine g_top (b o 7 + 1) (u2s _ _ _ _) ?_
        refine g_iconst hX 1 dX0_addPocket_73 (by decide) ?_
        refine g_isub hX dX0_addPocket_74 ?_
        exact hq _ _ _ _ dX0_addPocket_75 (by rw [addPocketM, if_pos ⟨c7, c17⟩, if_pos c29]) (by rw [addPocketR, if_pos ⟨c7, c17⟩, if_pos c29, Int32.add_sub_cancel])
      · refine g_bipush hX (-4) dX0_addPocket_32 (by decide) ?_
        exact hq _ _ _ _ dX0_addPocket_34 (by rw [addPocketM, if_pos ⟨c7, c17⟩, if_neg c29]) (by rw [addPocketR, if_pos ⟨c7, c17⟩, if_neg c29])
    · replace c17 := bI_z.mp c17
      refine g_bipush hX (-2) dX0_addPocket_20 (by decide) ?_
      exact hq _ _ _ _ dX0_addPocket_22 (by first | (rw [addPocketM, if_neg]; intro hh; exact c7 hh.1) | (rw [addPocketM, if_neg]; intro hh; exact c17 hh.2)) (by first | (rw [addPocketR, if_neg]; intro hh; exact c7 hh.1) | (rw [addPocketR, if_neg]; intro hh; exact c17 hh.2))
set_option maxRecDepth 100000 in
set_option maxHeartbeats 4000000 in
theorem c_X0_changeWide {Z : Zt} {b : Mem} {o : Nat} (h_o : isBus Z o) {p w : Int32} (hV : Val (cv b o))  : Con Z yX0_changeWide cX0_changeWide 4 (some .int) 2 [.ref (zad Z o), .int p, .int w] b (some (.int (wideR (b o 7) (b (o + 4) p.toNatClampNeg) p w))) (wideM b o p w) := by
  have hn : b o 7 = nI (np (cv b o)) := hV.2.1.1
  have hn6 := hV.2.1.2
  refine con_i (by decide) (Nat.le_of_ble_eq_true rfl) rfl (fun X hX hq => ?_)
  have hX : Ok Z X cX0_changeWide 4 RX0 2 := hX
  show G Z X b 0 [some (.ref (zad Z o)), some (.int p), some (.int w), none] []
  refine g_aload_0 hX dX0_changeWide_0 ?_
  refine g_iload_1 hX dX0_changeWide_1 ?_
  refine g_cV1r hX mkX0_hasPocket ml_X0_64 (c_X0_hasPocket h_o) (h_o.obj _) dX0_changeWide_2 rfl (by decide) (Nat.le_of_ble_eq_true rfl) ?_
  refine g_if_eq hX 18 dX0_changeWide_5 (by decide) (fun c5 => ?_) (fun c5 => ?_)
  · replace c5 := bI_z.mp c5
    refine g_bipush hX (-2) dX0_changeWide_18 (by decide) ?_
    exact hq _ _ _ _ dX0_changeWide_20 (by first | (rw [wideM, if_neg]; intro hh; exact c5 hh.1) | (rw [wideM, if_neg]; intro hh; exact c15 hh.2)) (by first | (rw [wideR, if_neg]; intro hh; exact c5 hh.1) | (rw [wideR, if_neg]; intro hh; exact c15 hh.2))
  · replace c5 := bI_nz.mp c5
    refine g_iload_2 hX dX0_changeWide_8 ?_
    refine g_iconst hX 1 dX0_changeWide_9 (by decide) ?_
    refine g_bipush hX 60 dX0_changeWide_10 (by decide) ?_
    refine g_cN3r hX mkX5_within nl_X0_44 (c_X5_within) dX0_changeWide_12 rfl (by decide) (Nat.le_of_ble_eq_true rfl) ?_
    refine g_if_ne hX 21 dX0_changeWide_15 (by decide) (fun c15 => ?_) (fun c15 => ?_)
    · replace c15 := bI_nz.mp c15
      obtain ⟨j, hj, rfl⟩ := in_of c5.1 (by have := c5.2; rw [hn] at this; exact this) (by omega)
      have hjc : (nI j).toNatClampNeg = j := nI_clamp (by omega)
      have hj6 := hV.p6 hj
      refine g_aload_0 hX dX0_changeWide_21 ?_
      refine g_iload_1 hX dX0_changeWide_22 ?_
      refine g_cV1r hX mkX0_wideOf ml_X0_67 (c_X0_wideOf h_o hj6) (h_o.obj _) dX0_changeWide_23 rfl (by decide) (Nat.le_of_ble_eq_true rfl) ?_
      refine g_istore_3 hX dX0_changeWide_26 rfl ?_
      refine g_aload_0 hX dX0_changeWide_27 ?_
      refine gt_X0_wides hX h_o dX0_changeWide_28 ?_
      refine g_iload_1 hX dX0_changeWide_31 ?_
      refine g_iload_2 hX dX0_changeWide_32 ?_
      refine g_cN3v hX mkX5_put nl_X0_48 (c_X5_put h_o.2.2.2.2.2.1 hj6 (by decide)) dX0_changeWide_33 rfl (by decide) (Nat.le_of_ble_eq_true rfl) ?_
      refine g_iload_3 hX dX0_changeWide_36 ?_
      exact hq _ _ _ _ dX0_changeWide_37 (by rw [wideM, if_pos ⟨c5, c15⟩, hjc]) (by rw [wideR, if_pos ⟨c5, c15⟩, hjc])
    · replace c15 := bI_z.mp c15
      refine g_bipush hX (-2) dX0_changeWide_18 (by decide) ?_
      exact hq _ _ _ _ dX0_changeWide_20 (by first | (rw [wideM, if_neg]; intro hh; exact c5 hh.1) | (rw [wideM, if_neg]; intro hh; exact c15 hh.2)) (by first | (rw [wideR, if_neg]; intro hh; exact c5 hh.1) | (rw [wideR, if_neg]; intro hh; exact c15 hh.2))
set_option maxRecDepth 100000 in
set_option maxHeartbeats 4000000 in
theorem c_X0_changeTouch {Z : Zt} {b : Mem} {o : Nat} (h_o : isBus Z o) {p w : Int32} (hV : Val (cv b o))  : Con Z yX0_changeTouch cX0_changeTouch 4 (some .int) 1 [.ref (zad Z o), .int p, .int w] b (some (.int (touchR (b o 7) (b (o + 5) p.toNatClampNeg) p w))) (touchM b o p w) := by
  have hn : b o 7 = nI (np (cv b o)) := hV.2.1.1
  have hn6 := hV.2.1.2
  refine con_i (by decide) (Nat.le_of_ble_eq_true rfl) rfl (fun X hX hq => ?_)
  have hX : Ok Z X cX0_changeTouch 4 RX0 1 := hX
  show G Z X b 0 [some (.ref (zad Z o)), some (.int p), some (.int w), none] []
  refine g_aload_0 hX dX0_changeTouch_0 ?_
  refine g_iload_1 hX dX0_changeTouch_1 ?_
  refine g_cV1r hX mkX0_hasPocket ml_X0_64 (c_X0_hasPocket h_o) (h_o.obj _) dX0_changeTouch_2 rfl (by decide) (Nat.le_of_ble_eq_true rfl) ?_
  refine g_if_eq hX 18 dX0_changeTouch_5 (by decide) (fun c5 => ?_) (fun c5 => ?_)
  · replace c5 := bI_z.mp c5
    refine g_bipush hX (-2) dX0_changeTouch_18 (by decide) ?_
    exact hq _ _ _ _ dX0_changeTouch_20 (by first | (rw [touchM, if_neg]; intro hh; exact c5 hh.1) | (rw [touchM, if_neg]; intro hh; exact c15 hh.2)) (by first | (rw [touchR, if_neg]; intro hh; exact c5 hh.1) | (rw [touchR, if_neg]; intro hh; exact c15 hh.2))
  · replace c5 := bI_nz.mp c5
    refine g_iload_2 hX dX0_changeTouch_8 ?_
    refine g_iconst hX 0 dX0_changeTouch_9 (by decide) ?_
    refine g_bipush hX 63 dX0_changeTouch_10 (by decide) ?_
    refine g_cN3r hX mkX5_within nl_X0_44 (c_X5_within) dX0_changeTouch_12 rfl (by decide) (Nat.le_of_ble_eq_true rfl) ?_
    refine g_if_ne hX 21 dX0_changeTouch_15 (by decide) (fun c15 => ?_) (fun c15 => ?_)
    · replace c15 := bI_nz.mp c15
      obtain ⟨j, hj, rfl⟩ := in_of c5.1 (by have := c5.2; rw [hn] at this; exact this) (by omega)
      have hjc : (nI j).toNatClampNeg = j := nI_clamp (by omega)
      have hj6 := hV.p6 hj
      refine g_aload_0 hX dX0_changeTouch_21 ?_
      refine gt_X0_touching hX h_o dX0_changeTouch_22 ?_
      refine g_iload_1 hX dX0_changeTouch_25 ?_
      refine g_cN2r hX mkX5_at nl_X0_70 (c_X5_at h_o.2.2.2.2.2.2.1 hj6 (by decide)) dX0_changeTouch_26 rfl (by decide) (Nat.le_of_ble_eq_true rfl) ?_
      refine g_istore_3 hX dX0_changeTouch_29 rfl ?_
      refine g_aload_0 hX dX0_changeTouch_30 ?_
      refine gt_X0_touching hX h_o dX0_changeTouch_31 ?_
      refine g_iload_1 hX dX0_changeTouch_34 ?_
      refine g_iload_2 hX dX0_changeTouch_35 ?_
      refine g_cN3v hX mkX5_put nl_X0_48 (c_X5_put h_o.2.2.2.2.2.2.1 hj6 (by decide)) dX0_changeTouch_36 rfl (by decide) (Nat.le_of_ble_eq_true rfl) ?_
      refine g_iload_3 hX dX0_changeTouch_39 ?_
      exact hq _ _ _ _ dX0_changeTouch_40 (by rw [touchM, if_pos ⟨c5, c15⟩, hjc]) (by rw [touchR, if_pos ⟨c5, c15⟩, hjc])
    · replace c15 := bI_z.mp c15
      refine g_bipush hX (-2) dX0_changeTouch_18 (by decide) ?_
      exact hq _ _ _ _ dX0_changeTouch_20 (by first | (rw [touchM, if_neg]; intro hh; exact c5 hh.1) | (rw [touchM, if_neg]; intro hh; exact c15 hh.2)) (by first | (rw [touchR, if_neg]; intro hh; exact c5 hh.1) | (rw [touchR, if_neg]; intro hh; exact c15 hh.2))
set_option maxRecDepth 100000 in
set_option maxHeartbeats 4000000 in
theorem c_X0_changeSetting {Z : Zt} {b : Mem} {o : Nat} (h_o : isBus Z o) {k x : Int32} : Con Z yX0_changeSetting cX0_changeSetting 4 (some .int) 1 [.ref (zad Z o), .int k, .int x] b (some (.int (setR (b (o + 6) k.toNatClampNeg) k x))) (setM b o k x) := by
  refine con_i (by decide) (Nat.le_of_ble_eq_true rfl) rfl (fun X hX hq => ?_)
  have hX : Ok Z X cX0_changeSetting 4 RX0 1 := hX
  show G Z X b 0 [some (.ref (zad Z o)), some (.int k), some (.int x), none] []
  refine g_iload_1 hX dX0_changeSetting_0 ?_
  refine g_iconst hX 0 dX0_changeSetting_1 (by decide) ?_
  refine g_bipush hX 6 dX0_changeSetting_2 (by decide) ?_
  refine g_cN3r hX mkX5_within nl_X0_44 (c_X5_within) dX0_changeSetting_4 rfl (by decide) (Nat.le_of_ble_eq_true rfl) ?_
  refine g_if_eq hX 31 dX0_changeSetting_7 (by decide) (fun c7 => ?_) (fun c7 => ?_)
  · replace c7 := bI_z.mp c7
    refine g_bipush hX (-2) dX0_changeSetting_31 (by decide) ?_
    exact hq _ _ _ _ dX0_changeSetting_33 (by first | (rw [setM, if_neg]; intro hh; exact c7 hh.1) | (rw [setM, if_neg]; intro hh; exact c28 (by rw [hjc] at hh; exact hh.2))) (by first | (rw [setR, if_neg]; intro hh; exact c7 hh.1) | (rw [setR, if_neg]; intro hh; exact c28 (by rw [hjc] at hh; exact hh.2)))
  · replace c7 := bI_nz.mp c7
    obtain ⟨j, hj, rfl⟩ := in_of6 (n := 6) c7.1 c7.2 (by decide)
    have hjc : (nI j).toNatClampNeg = j := nI_clamp (by omega)
    refine g_iload_2 hX dX0_changeSetting_10 ?_
    refine g_getsL hX dX0_changeSetting_11 ?_
    refine g_iload_1 hX dX0_changeSetting_14 ?_
    refine g_cN2r hX mkX5_at nl_X0_70 (c_X5_at_low hj) dX0_changeSetting_15 rfl (by decide) (Nat.le_of_ble_eq_true rfl) ?_
    refine g_getsH hX dX0_changeSetting_18 ?_
    refine g_iload_1 hX dX0_changeSetting_21 ?_
    refine g_cN2r hX mkX5_at nl_X0_70 (c_X5_at_hig hj) dX0_changeSetting_22 rfl (by decide) (Nat.le_of_ble_eq_true rfl) ?_
    refine g_cN3r hX mkX5_within nl_X0_44 (c_X5_within) dX0_changeSetting_25 rfl (by decide) (Nat.le_of_ble_eq_true rfl) ?_
    refine g_if_ne hX 34 dX0_changeSetting_28 (by decide) (fun c28 => ?_) (fun c28 => ?_)
    · replace c28 := bI_nz.mp c28
      refine g_aload_0 hX dX0_changeSetting_34 ?_
      refine gt_X0_chosen hX h_o dX0_changeSetting_35 ?_
      refine g_iload_1 hX dX0_changeSetting_38 ?_
      refine g_cN2r hX mkX5_at nl_X0_70 (c_X5_at h_o.2.2.2.2.2.2.2 hj (by decide)) dX0_changeSetting_39 rfl (by decide) (Nat.le_of_ble_eq_true rfl) ?_
      refine g_istore_3 hX dX0_changeSetting_42 rfl ?_
      refine g_aload_0 hX dX0_changeSetting_43 ?_
      refine gt_X0_chosen hX h_o dX0_changeSetting_44 ?_
      refine g_iload_1 hX dX0_changeSetting_47 ?_
      refine g_iload_2 hX dX0_changeSetting_48 ?_
      refine g_cN3v hX mkX5_put nl_X0_48 (c_X5_put h_o.2.2.2.2.2.2.2 hj (by decide)) dX0_changeSetting_49 rfl (by decide) (Nat.le_of_ble_eq_true rfl) ?_
      refine g_iload_3 hX dX0_changeSetting_52 ?_
      exact hq _ _ _ _ dX0_changeSetting_53 (by rw [setM, if_pos ⟨c7, by rw [hjc]; exact c28⟩, hjc]) (by rw [setR, if_pos ⟨c7, by rw [hjc]; exact c28⟩, hjc])
    · replace c28 := bI_z.mp c28
      refine g_bipush hX (-2) dX0_changeSetting_31 (by decide) ?_
      exact hq _ _ _ _ dX0_changeSetting_33 (by first | (rw [setM, if_neg]; intro hh; exact c7 hh.1) | (rw [setM, if_neg]; intro hh; exact c28 (by rw [hjc] at hh; exact hh.2))) (by first | (rw [setR, if_neg]; intro hh; exact c7 hh.1) | (rw [setR, if_neg]; intro hh; exact c28 (by rw [hjc] at hh; exact hh.2)))
def cp6 (b : Mem) (o p j n : Nat) : Mem := up1 b (o + j) (va_cpy (b (p + j)) (b (o + j)) 0 0 n)
def tk (b : Mem) (o p : Nat) : Mem := up2 (up2 (cp6 (cp6 (cp6 (cp6 (cp6 (cp6 b o p 1 6) o p 2 48) o p 3 48) o p 4 6) o p 5 6) o p 6 7) o 6 (b p 6)) o 7 (b p 7)
set_option maxRecDepth 100000 in
set_option maxHeartbeats 4000000 in
theorem c_X0_takeFrom {Z : Zt} {b : Mem} {o p : Nat} (h_o : isBus Z o) (h_p : isBus Z p) (hd : p + 6 < o ∨ o + 6 < p) : Con Z yX0_takeFrom cX0_takeFrom 2 none 2 [.ref (zad Z o), .ref (zad Z p)] b none (tk b o p) := by
  refine con_v (by decide) (Nat.le_of_ble_eq_true rfl) rfl (fun X hX hq => ?_)
  have hX : Ok Z X cX0_takeFrom 2 RX0 2 := hX
  show G Z X b 0 [some (.ref (zad Z o)), some (.ref (zad Z p))] []
  refine g_aload_1 hX dX0_takeFrom_0 ?_
  refine gt_X0_runs hX h_p dX0_takeFrom_1 ?_
  refine g_aload_0 hX dX0_takeFrom_4 ?_
  refine gt_X0_runs hX h_o dX0_takeFrom_5 ?_
  refine g_cN2v hX mkX5_copy nl_X0_40 (c_X5_copy h_p.2.2.1 h_o.2.2.1 (by decide)) dX0_takeFrom_8 rfl (by decide) (Nat.le_of_ble_eq_true rfl) ?_
  refine g_aload_1 hX dX0_takeFrom_11 ?_
  refine gt_X0_longs hX h_p dX0_takeFrom_12 ?_
  refine g_aload_0 hX dX0_takeFrom_15 ?_
  refine gt_X0_longs hX h_o dX0_takeFrom_16 ?_
  refine g_cN2v hX mkX5_copy nl_X0_40 (c_X5_copy h_p.2.2.2.1 h_o.2.2.2.1 (by decide)) dX0_takeFrom_19 rfl (by decide) (Nat.le_of_ble_eq_true rfl) ?_
  refine g_aload_1 hX dX0_takeFrom_22 ?_
  refine gt_X0_turns hX h_p dX0_takeFrom_23 ?_
  refine g_aload_0 hX dX0_takeFrom_26 ?_
  refine gt_X0_turns hX h_o dX0_takeFrom_27 ?_
  refine g_cN2v hX mkX5_copy nl_X0_40 (c_X5_copy h_p.2.2.2.2.1 h_o.2.2.2.2.1 (by decide)) dX0_takeFrom_30 rfl (by decide) (Nat.le_of_ble_eq_true rfl) ?_
  refine g_aload_1 hX dX0_takeFrom_33 ?_
  refine gt_X0_wides hX h_p dX0_takeFrom_34 ?_
  refine g_aload_0 hX dX0_takeFrom_37 ?_
  refine gt_X0_wides hX h_o dX0_takeFrom_38 ?_
  refine g_cN2v hX mkX5_copy nl_X0_40 (c_X5_copy h_p.2.2.2.2.2.1 h_o.2.2.2.2.2.1 (by decide)) dX0_takeFrom_41 rfl (by decide) (Nat.le_of_ble_eq_true rfl) ?_
  refine g_aload_1 hX dX0_takeFrom_44 ?_
  refine gt_X0_touching hX h_p dX0_takeFrom_45 ?_
  refine g_aload_0 hX dX0_takeFrom_48 ?_
  refine gt_X0_touching hX h_o dX0_takeFrom_49 ?_
  refine g_cN2v hX mkX5_copy nl_X0_40 (c_X5_copy h_p.2.2.2.2.2.2.1 h_o.2.2.2.2.2.2.1 (by decide)) dX0_takeFrom_52 rfl (by decide) (Nat.le_of_ble_eq_true rfl) ?_
  refine g_aload_1 hX dX0_takeFrom_55 ?_
  refine gt_X0_chosen hX h_p dX0_takeFrom_56 ?_
  refine g_aload_0 hX dX0_takeFrom_59 ?_
  refine gt_X0_chosen hX h_o dX0_takeFrom_60 ?_
  refine g_cN2v hX mkX5_copy nl_X0_40 (c_X5_copy h_p.2.2.2.2.2.2.2 h_o.2.2.2.2.2.2.2 (by decide)) dX0_takeFrom_63 rfl (by decide) (Nat.le_of_ble_eq_true rfl) ?_
  refine g_aload_0 hX dX0_takeFrom_66 ?_
  refine g_aload_1 hX dX0_takeFrom_67 ?_
  refine gt_X0_lines hX h_p dX0_takeFrom_68 ?_
  refine g_top (b p 6) (by simp only [u1c _ _ (show p ≠ o + 1 by omega), u1c _ _ (show p ≠ o + 2 by omega), u1c _ _ (show p ≠ o + 3 by omega), u1c _ _ (show p ≠ o + 4 by omega), u1c _ _ (show p ≠ o + 5 by omega), u1c _ _ (show p ≠ o + 6 by omega)]) ?_
  refine pt_X0_lines hX h_o dX0_takeFrom_71 ?_
  refine g_aload_0 hX dX0_takeFrom_74 ?_
  refine g_aload_1 hX dX0_takeFrom_75 ?_
  refine gt_X0_pockets hX h_p dX0_takeFrom_76 ?_
  refine g_top (b p 7) (by simp only [u2c _ _ (show p ≠ o by omega), u1c _ _ (show p ≠ o + 1 by omega), u1c _ _ (show p ≠ o + 2 by omega), u1c _ _ (show p ≠ o + 3 by omega), u1c _ _ (show p ≠ o + 4 by omega), u1c _ _ (show p ≠ o + 5 by omega), u1c _ _ (show p ≠ o + 6 by omega)]) ?_
  refine pt_X0_pockets hX h_o dX0_takeFrom_79 ?_
  exact hq _ _ _ dX0_takeFrom_82 (by rfl)
