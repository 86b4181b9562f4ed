/-! the reference: its changes -/
theorem nI_ne_top {n m : Nat} (h : n ≤ m) (hm : m < 2 ^ 31) : nI n < nI m ↔ ¬ nI n = nI m := by
  rw [nI_eq (by omega) hm]
  constructor
  · intro q; have := (nI_ltI (by omega) hm).mp q; omega
  · intro q; exact (nI_ltI (by omega) hm).mpr (by omega)
def alN (b : Mem) (n : Nat) (a : Int32) : Mem := up2 (up2 (up2 (up1 b 71 (cpF (fun _ => 0) (b 71) (9 + 17 * n) 17)) 71 (9 + 17 * n) 1) 71 (9 + 17 * n + 1) a) 71 0 (nI n + 1)
def addLineN (b : Mem) (a : Int32) : Mem := if ¬ a < 1 ∧ ¬ 60 < a then (if b 71 0 < 6 then alN b (nl (mv b)) a else b) else b
def arN (b : Mem) (l r : Nat) (t a : Int32) : Mem := up2 (up2 (up2 b 71 (9 + 17 * l + 1 + r) a) 71 (9 + 17 * l + 9 + r) t) 71 (9 + 17 * l) (nI r + 1)
def addRunN (b : Mem) (l t a : Int32) : Mem := if (¬ l < 0 ∧ l < b 71 0) ∧ (¬ t < 0 ∧ ¬ 1 < t) ∧ ¬ a < 1 ∧ ¬ 60 < a then (if b 71 (9 + 17 * l.toNatClampNeg) < 8 then arN b l.toNatClampNeg (rn (mv b) l.toNatClampNeg) t a else b) else b
def dropRunN (b : Mem) (l : Int32) : Mem := if ¬ l < 0 ∧ l < b 71 0 then (if b 71 (9 + 17 * l.toNatClampNeg) - 1 < 1 then b else up2 b 71 (9 + 17 * l.toNatClampNeg) (b 71 (9 + 17 * l.toNatClampNeg) - 1)) else b
def apN (b : Mem) (p : Nat) (w t : Int32) : Mem := up2 (up2 (up2 b 71 (111 + 2 * p) w) 71 (111 + 2 * p + 1) t) 71 1 (nI p + 1)
def addPocketN (b : Mem) (w t : Int32) : Mem := if (¬ w < 1 ∧ ¬ 60 < w) ∧ ¬ t < 0 ∧ ¬ 63 < t then (if b 71 1 < 6 then apN b (np (mv b)) w t else b) else b
def wideN (b : Mem) (p w : Int32) : Mem := if (¬ p < 0 ∧ p < b 71 1) ∧ ¬ w < 1 ∧ ¬ 60 < w then up2 b 71 (111 + 2 * p.toNatClampNeg) w else b
def touchN (b : Mem) (p w : Int32) : Mem := if (¬ p < 0 ∧ p < b 71 1) ∧ ¬ w < 0 ∧ ¬ 63 < w then up2 b 71 (111 + 2 * p.toNatClampNeg + 1) w else b
def setN (b : Mem) (k x : Int32) : Mem := if (¬ k < 0 ∧ ¬ 6 < k) ∧ ¬ x < lowF k.toNatClampNeg ∧ ¬ higF k.toNatClampNeg < x then up2 b 71 (2 + k.toNatClampNeg) x else b
theorem mr1 {r : Nat} (h1 : 1 ≤ r) (h8 : r ≤ 8) : nI r = 1 ↔ nI r - 1 < 1 := by
  rw [nI_sub1 h1, show (1 : Int32) = nI 1 from rfl, nI_eq (by omega) (by decide), nI_ltI (by omega) (by decide)]
  omega
set_option maxRecDepth 100000 in
set_option maxHeartbeats 4000000 in
theorem c_X6_addLine {Z : Zt} {b : Mem} {a : Int32} (hV : Val (mv b))  : Con Z yX6_addLine cX6_addLine 4 (some .int) 1 [.ref (zad Z 69), .int a] b (some (.int (addLineR (b 71 0) a))) (addLineN b a) := by
  have hn : b 71 0 = nI (nl (mv b)) := hV.1.1
  have hn6 := hV.1.2
  have h6 : b 71 0 < 6 ↔ ¬ b 71 0 = 6 := by rw [hn]; exact nI_ne_top (m := 6) hn6 (by decide)
  refine con_i (by decide) (Nat.le_of_ble_eq_true rfl) rfl (fun X hX hq => ?_)
  have hX : Ok Z X cX6_addLine 4 RX6 1 := hX
  show G Z X b 0 [some (.ref (zad Z 69)), some (.int a), none, none] []
  refine g_iload_1 hX dX6_addLine_0 ?_
  refine g_iconst hX 1 dX6_addLine_1 (by decide) ?_
  refine g_bipush hX 60 dX6_addLine_2 (by decide) ?_
  refine g_cS3r hX mkX6_in ml_X6_61 (c_X6_in) dX6_addLine_4 rfl (by decide) (Nat.le_of_ble_eq_true rfl) ?_
  refine g_if_ne hX 13 dX6_addLine_7 (by decide) (fun c7 => ?_) (fun c7 => ?_)
  · replace c7 := bI_nz.mp c7
    refine g_aload_0 hX dX6_addLine_13 ?_
    refine gt_X6_now hX dX6_addLine_14 ?_
    refine g_iconst hX 0 dX6_addLine_17 (by decide) ?_
    refine g_ialdN (k := 0) hX (ar_71 Z) (by decide) (by decide) dX6_addLine_18 ?_
    refine g_bipush hX 6 dX6_addLine_19 (by decide) ?_
    refine g_icmp_ne hX 27 dX6_addLine_21 (by decide) (fun c21 => ?_) (fun c21 => ?_)
    · have hl6 : nl (mv b) < 6 := (nI_ltI (by omega) (by decide)).mp (by rw [← hn]; exact h6.mpr c21)
      refine g_aload_0 hX dX6_addLine_27 ?_
      refine gt_X6_now hX dX6_addLine_28 ?_
      refine g_iconst hX 0 dX6_addLine_31 (by decide) ?_
      refine g_ialdN (k := 0) hX (ar_71 Z) (by decide) (by decide) dX6_addLine_32 ?_
      refine g_top _ hn ?_
      refine g_istore_2 hX dX6_addLine_33 rfl ?_
      refine g_iconst hX 0 dX6_addLine_34 (by decide) ?_
      refine g_istore_3 hX dX6_addLine_35 rfl ?_
      refine g_loop (17) (fun k => up1 b 71 (cpF (fun _ => 0) (b 71) (9 + 17 * nl (mv b)) k)) (fun k => [some (.ref (zad Z 69)), some (.int a), some (.int (nI (nl (mv b)))), some (.int (nI k))]) (cpF_0 b 71 _ _) rfl (fun k hk36 ih36 => ?_) ?_
      · show G Z X (up1 b 71 (cpF (fun _ => 0) (b 71) (9 + 17 * nl (mv b)) k)) 36 ([some (.ref (zad Z 69)), some (.int a), some (.int (nI (nl (mv b)))), some (.int (nI k))]) _
        refine g_iload_3 hX dX6_addLine_36 ?_
        refine g_bipush hX 17 dX6_addLine_37 (by decide) ?_
        refine g_icmp_ge hX 63 dX6_addLine_39 (by decide) (fun c39 => ?_) (fun c39 => ?_)
        · exact absurd c39 (not_not_intro (nI_lt (b := 17) hk36 (by decide)))
        · refine g_aload_0 hX dX6_addLine_42 ?_
          refine gt_X6_now hX dX6_addLine_43 ?_
          refine g_bipush hX 9 dX6_addLine_46 (by decide) ?_
          refine g_bipush hX 17 dX6_addLine_48 (by decide) ?_
          refine g_iload_2 hX dX6_addLine_50 ?_
          refine g_imul hX dX6_addLine_51 ?_
          refine g_iadd hX dX6_addLine_52 ?_
          refine g_iload_3 hX dX6_addLine_53 ?_
          refine g_iadd hX dX6_addLine_54 ?_
          refine g_top _ (ix17c (nl (mv b)) k) ?_
          refine g_iconst hX 0 dX6_addLine_55 (by decide) ?_
          refine g_iastN (k := (9 + 17 * nl (mv b) + k)) hX (ar_71 Z) (by have := hV.1.2; omega) (by decide) dX6_addLine_56 ?_
          refine g_iinc_3 hX 1 dX6_addLine_57 (by decide) rfl ?_
          refine g_goto hX 36 dX6_addLine_60 (by decide) ?_
          exact g_cast ih36 (cpF_s b 71 (fun _ => 0) (b 71) _ k) (by simp only [nI_succ]) rfl
      · show G Z X (up1 b 71 (cpF (fun _ => 0) (b 71) (9 + 17 * nl (mv b)) (17))) 36 ([some (.ref (zad Z 69)), some (.int a), some (.int (nI (nl (mv b)))), some (.int (nI (17)))]) _
        refine g_iload_3 hX dX6_addLine_36 ?_
        refine g_bipush hX 17 dX6_addLine_37 (by decide) ?_
        refine g_icmp_ge hX 63 dX6_addLine_39 (by decide) (fun c39 => ?_) (fun c39 => ?_)
        · refine g_aload_0 hX dX6_addLine_63 ?_
          refine gt_X6_now hX dX6_addLine_64 ?_
          refine g_bipush hX 9 dX6_addLine_67 (by decide) ?_
          refine g_bipush hX 17 dX6_addLine_69 (by decide) ?_
          refine g_iload_2 hX dX6_addLine_71 ?_
          refine g_imul hX dX6_addLine_72 ?_
          refine g_iadd hX dX6_addLine_73 ?_
          refine g_top _ (ix17 (nl (mv b))) ?_
          refine g_iconst hX 1 dX6_addLine_74 (by decide) ?_
          refine g_iastN (k := (9 + 17 * nl (mv b))) hX (ar_71 Z) (by omega) (by decide) dX6_addLine_75 ?_
          refine g_aload_0 hX dX6_addLine_76 ?_
          refine gt_X6_now hX dX6_addLine_77 ?_
          refine g_bipush hX 9 dX6_addLine_80 (by decide) ?_
          refine g_bipush hX 17 dX6_addLine_82 (by decide) ?_
          refine g_iload_2 hX dX6_addLine_84 ?_
          refine g_imul hX dX6_addLine_85 ?_
          refine g_iadd hX dX6_addLine_86 ?_
          refine g_iconst hX 1 dX6_addLine_87 (by decide) ?_
          refine g_iadd hX dX6_addLine_88 ?_
          refine g_top (nI (9 + 17 * nl (mv b) + 1)) (by rw [ix17, nI_1]) ?_
          refine g_iload_1 hX dX6_addLine_89 ?_
          refine g_iastN (k := (9 + 17 * nl (mv b) + 1)) hX (ar_71 Z) (by omega) (by decide) dX6_addLine_90 ?_
          refine g_aload_0 hX dX6_addLine_91 ?_
          refine gt_X6_now hX dX6_addLine_92 ?_
          refine g_iconst hX 0 dX6_addLine_95 (by decide) ?_
          refine g_dup2 hX dX6_addLine_96 rfl rfl ?_
          refine g_ialdN (k := 0) hX (ar_71 Z) (by decide) (by decide) dX6_addLine_97 ?_
          refine g_top (nI (nl (mv b))) (by rw [u2k _ _ (by omega), u2k _ _ (by omega), u1s, cpF_out (by omega)]; exact hn) ?_
          refine g_iconst hX 1 dX6_addLine_98 (by decide) ?_
          refine g_iadd hX dX6_addLine_99 ?_
          refine g_iastN (k := 0) hX (ar_71 Z) (by decide) (by decide) dX6_addLine_100 ?_
          refine g_iload_2 hX dX6_addLine_101 ?_
          exact hq _ _ _ _ dX6_addLine_102 (by rw [addLineN, if_pos c7, if_pos (h6.mpr c21)]; rfl) (by rw [addLineR, if_pos c7, if_pos (h6.mpr c21)]; exact hn.symm)
        · exact absurd c39 (Int32.lt_irrefl)
    · refine g_bipush hX (-4) dX6_addLine_24 (by decide) ?_
      exact hq _ _ _ _ dX6_addLine_26 (by rw [addLineN, if_pos c7, if_neg (fun z => (h6.mp z) c21)]) (by rw [addLineR, if_pos c7, if_neg (fun z => (h6.mp z) c21)])
  · replace c7 := bI_z.mp c7
    refine g_bipush hX (-2) dX6_addLine_10 (by decide) ?_
    exact hq _ _ _ _ dX6_addLine_12 (by rw [addLineN, if_neg c7]) (by rw [addLineR, if_neg c7])
set_option maxRecDepth 100000 in
set_option maxHeartbeats 4000000 in
theorem c_X6_addRun {Z : Zt} {b : Mem} {l t a : Int32} (hV : Val (mv b))  : Con Z yX6_addRun cX6_addRun 5 (some .int) 2 [.ref (zad Z 69), .int l, .int t, .int a] b (some (.int (addRunR (b 71 0) (b 71 (9 + 17 * l.toNatClampNeg)) l t a))) (addRunN b l t a) := by
  have hn : b 71 0 = nI (nl (mv b)) := hV.1.1
  have hn6 := hV.1.2
  refine con_i (by decide) (Nat.le_of_ble_eq_true rfl) rfl (fun X hX hq => ?_)
  have hX : Ok Z X cX6_addRun 5 RX6 2 := hX
  show G Z X b 0 [some (.ref (zad Z 69)), some (.int l), some (.int t), some (.int a), none] []
  refine g_aload_0 hX dX6_addRun_0 ?_
  refine g_iload_1 hX dX6_addRun_1 ?_
  refine g_cV1r hX mkX6_isLine ml_X6_65 (c_X6_isLine hV) (ob_69 Z _) dX6_addRun_2 rfl (by decide) (Nat.le_of_ble_eq_true rfl) ?_
  refine g_if_eq hX 27 dX6_addRun_5 (by decide) (fun c5 => ?_) (fun c5 => ?_)
  · replace c5 := bI_z.mp c5
    refine g_bipush hX (-2) dX6_addRun_27 (by decide) ?_
    exact hq _ _ _ _ dX6_addRun_29 (by first | (rw [addRunN, if_neg]; intro hh; exact c5 hh.1) | (rw [addRunN, if_neg]; intro hh; exact c14 hh.2.1) | (rw [addRunN, if_neg]; intro hh; exact c24 hh.2.2)) (by first | (rw [addRunR, if_neg]; intro hh; exact c5 hh.1) | (rw [addRunR, if_neg]; intro hh; exact c14 hh.2.1) | (rw [addRunR, if_neg]; intro hh; exact c24 hh.2.2))
  · replace c5 := bI_nz.mp c5
    obtain ⟨j, hj, rfl⟩ := in_of c5.1 (by have := c5.2; rw [hn] at this; exact this) (by omega)
    have hjc : (nI j).toNatClampNeg = j := nI_clamp (by omega)
    have hj6 := hV.l6 hj
    have hr : b 71 (9 + 17 * j) = nI (rn (mv b) j) := hV.runs hj
    have hr8 := hV.r8 hj
    have hr1 := hV.r1 hj
    have h8 : b 71 (9 + 17 * j) < 8 ↔ ¬ b 71 (9 + 17 * j) = 8 := by rw [hr]; exact nI_ne_top (m := 8) hr8 (by decide)
    refine g_iload_2 hX dX6_addRun_8 ?_
    refine g_iconst hX 0 dX6_addRun_9 (by decide) ?_
    refine g_iconst hX 1 dX6_addRun_10 (by decide) ?_
    refine g_cS3r hX mkX6_in ml_X6_61 (c_X6_in) dX6_addRun_11 rfl (by decide) (Nat.le_of_ble_eq_true rfl) ?_
    refine g_if_eq hX 27 dX6_addRun_14 (by decide) (fun c14 => ?_) (fun c14 => ?_)
    · replace c14 := bI_z.mp c14
      refine g_bipush hX (-2) dX6_addRun_27 (by decide) ?_
      exact hq _ _ _ _ dX6_addRun_29 (by first | (rw [addRunN, if_neg]; intro hh; exact c5 hh.1) | (rw [addRunN, if_neg]; intro hh; exact c14 hh.2.1) | (rw [addRunN, if_neg]; intro hh; exact c24 hh.2.2)) (by first | (rw [addRunR, if_neg]; intro hh; exact c5 hh.1) | (rw [addRunR, if_neg]; intro hh; exact c14 hh.2.1) | (rw [addRunR, if_neg]; intro hh; exact c24 hh.2.2))
    · replace c14 := bI_nz.mp c14
      refine g_iload_3 hX dX6_addRun_17 ?_
      refine g_iconst hX 1 dX6_addRun_18 (by decide) ?_
      refine g_bipush hX 60 dX6_addRun_19 (by decide) ?_
      refine g_cS3r hX mkX6_in ml_X6_61 (c_X6_in) dX6_addRun_21 rfl (by decide) (Nat.le_of_ble_eq_true rfl) ?_
      refine g_if_ne hX 30 dX6_addRun_24 (by decide) (fun c24 => ?_) (fun c24 => ?_)
      · replace c24 := bI_nz.mp c24
        refine g_aload_0 hX dX6_addRun_30 ?_
        refine g_iload_1 hX dX6_addRun_31 ?_
        refine g_cV1r hX mkX6_runsOf ml_X6_69 (c_X6_runsOf hj6) (ob_69 Z _) dX6_addRun_32 rfl (by decide) (Nat.le_of_ble_eq_true rfl) ?_
        refine g_top _ hr ?_
        refine g_istore_4 hX dX6_addRun_35 rfl ?_
        refine g_iload_4 hX dX6_addRun_37 ?_
        refine g_bipush hX 8 dX6_addRun_39 (by decide) ?_
        refine g_top (8 : Int32) rfl ?_
        refine g_icmp_ne hX 47 dX6_addRun_41 (by decide) (fun c41 => ?_) (fun c41 => ?_)
        · have h8n : rn (mv b) j < 8 := (nI_ltI (by omega) (by decide)).mp (by rw [← hr]; exact h8.mpr (by rw [hr]; exact c41))
          refine g_aload_0 hX dX6_addRun_47 ?_
          refine gt_X6_now hX dX6_addRun_48 ?_
          refine g_bipush hX 9 dX6_addRun_51 (by decide) ?_
          refine g_bipush hX 17 dX6_addRun_53 (by decide) ?_
          refine g_iload_1 hX dX6_addRun_55 ?_
          refine g_imul hX dX6_addRun_56 ?_
          refine g_iadd hX dX6_addRun_57 ?_
          refine g_iconst hX 1 dX6_addRun_58 (by decide) ?_
          refine g_iadd hX dX6_addRun_59 ?_
          refine g_iload_4 hX dX6_addRun_60 ?_
          refine g_iadd hX dX6_addRun_62 ?_
          refine g_top _ (ix17a j _) ?_
          refine g_iload_3 hX dX6_addRun_63 ?_
          refine g_iastN (k := (9 + 17 * j + 1 + rn (mv b) j)) hX (ar_71 Z) (by omega) (by decide) dX6_addRun_64 ?_
          refine g_aload_0 hX dX6_addRun_65 ?_
          refine gt_X6_now hX dX6_addRun_66 ?_
          refine g_bipush hX 9 dX6_addRun_69 (by decide) ?_
          refine g_bipush hX 17 dX6_addRun_71 (by decide) ?_
          refine g_iload_1 hX dX6_addRun_73 ?_
          refine g_imul hX dX6_addRun_74 ?_
          refine g_iadd hX dX6_addRun_75 ?_
          refine g_bipush hX 9 dX6_addRun_76 (by decide) ?_
          refine g_iadd hX dX6_addRun_78 ?_
          refine g_iload_4 hX dX6_addRun_79 ?_
          refine g_iadd hX dX6_addRun_81 ?_
          refine g_top _ (ix17b j _) ?_
          refine g_iload_2 hX dX6_addRun_82 ?_
          refine g_iastN (k := (9 + 17 * j + 9 + rn (mv b) j)) hX (ar_71 Z) (by omega) (by decide) dX6_addRun_83 ?_
          refine g_aload_0 hX dX6_addRun_84 ?_
          refine gt_X6_now hX dX6_addRun_85 ?_
          refine g_bipush hX 9 dX6_addRun_88 (by decide) ?_
          refine g_bipush hX 17 dX6_addRun_90 (by decide) ?_
          refine g_iload_1 hX dX6_addRun_92 ?_
          refine g_imul hX dX6_addRun_93 ?_
          refine g_iadd hX dX6_addRun_94 ?_
          refine g_top _ (ix17 j) ?_
          refine g_iload_4 hX dX6_addRun_95 ?_
          refine g_iconst hX 1 dX6_addRun_97 (by decide) ?_
          refine g_iadd hX dX6_addRun_98 ?_
          refine g_iastN (k := (9 + 17 * j)) hX (ar_71 Z) (by omega) (by decide) dX6_addRun_99 ?_
          refine g_iload_4 hX dX6_addRun_100 ?_
          refine g_iconst hX 1 dX6_addRun_102 (by decide) ?_
          refine g_iadd hX dX6_addRun_103 ?_
          exact hq _ _ _ _ dX6_addRun_104 (by rw [addRunN, if_pos ⟨c5, c14, c24⟩, hjc, if_pos (h8.mpr (by rw [hr]; exact c41))]; rfl) (by rw [addRunR, if_pos ⟨c5, c14, c24⟩, hjc, if_pos (h8.mpr (by rw [hr]; exact c41)), hr])
        · refine g_bipush hX (-4) dX6_addRun_44 (by decide) ?_
          exact hq _ _ _ _ dX6_addRun_46 (by rw [addRunN, if_pos ⟨c5, c14, c24⟩, hjc, if_neg (fun z => (h8.mp z) (by rw [hr]; exact c41))]) (by rw [addRunR, if_pos ⟨c5, c14, c24⟩, hjc, if_neg (fun z => (h8.mp z) (by rw [hr]; exact c41))])
      · replace c24 := bI_z.mp c24
        refine g_bipush hX (-2) dX6_addRun_27 (by decide) ?_
        exact hq _ _ _ _ dX6_addRun_29 (by first | (rw [addRunN, if_neg]; intro hh; exact c5 hh.1) | (rw [addRunN, if_neg]; intro hh; exact c14 hh.2.1) | (rw [addRunN, if_neg]; intro hh; exact c24 hh.2.2)) (by first | (rw [addRunR, if_neg]; intro hh; exact c5 hh.1) | (rw [addRunR, if_neg]; intro hh; exact c14 hh.2.1) | (rw [addRunR, if_neg]; intro hh; exact c24 hh.2.2))
set_option maxRecDepth 100000 in
set_option maxHeartbeats 4000000 in
theorem c_X6_dropRun {Z : Zt} {b : Mem} {l : Int32} (hV : Val (mv b))  : Con Z yX6_dropRun cX6_dropRun 2 (some .int) 2 [.ref (zad Z 69), .int l] b (some (.int (dropRunR (b 71 0) (b 71 (9 + 17 * l.toNatClampNeg)) l))) (dropRunN b l) := by
  have hn : b 71 0 = nI (nl (mv b)) := hV.1.1
  have hn6 := hV.1.2
  refine con_i (by decide) (Nat.le_of_ble_eq_true rfl) rfl (fun X hX hq => ?_)
  have hX : Ok Z X cX6_dropRun 2 RX6 2 := hX
  show G Z X b 0 [some (.ref (zad Z 69)), some (.int l)] []
  refine g_aload_0 hX dX6_dropRun_0 ?_
  refine g_iload_1 hX dX6_dropRun_1 ?_
  refine g_cV1r hX mkX6_isLine ml_X6_65 (c_X6_isLine hV) (ob_69 Z _) dX6_dropRun_2 rfl (by decide) (Nat.le_of_ble_eq_true rfl) ?_
  refine g_if_ne hX 11 dX6_dropRun_5 (by decide) (fun c5 => ?_) (fun c5 => ?_)
  · replace c5 := bI_nz.mp c5
    obtain ⟨j, hj, rfl⟩ := in_of c5.1 (by have := c5.2; rw [hn] at this; exact this) (by omega)
    have hjc : (nI j).toNatClampNeg = j := nI_clamp (by omega)
    have hj6 := hV.l6 hj
    have hr : b 71 (9 + 17 * j) = nI (rn (mv b) j) := hV.runs hj
    have hr8 := hV.r8 hj
    have hr1 := hV.r1 hj
    have h8 : b 71 (9 + 17 * j) < 8 ↔ ¬ b 71 (9 + 17 * j) = 8 := by rw [hr]; exact nI_ne_top (m := 8) hr8 (by decide)
    have hd : b 71 (9 + 17 * j) = 1 ↔ b 71 (9 + 17 * j) - 1 < 1 := by rw [hr]; exact mr1 hr1 hr8
    refine g_aload_0 hX dX6_dropRun_11 ?_
    refine g_iload_1 hX dX6_dropRun_12 ?_
    refine g_cV1r hX mkX6_runsOf ml_X6_69 (c_X6_runsOf hj6) (ob_69 Z _) dX6_dropRun_13 rfl (by decide) (Nat.le_of_ble_eq_true rfl) ?_
    refine g_iconst hX 1 dX6_dropRun_16 (by decide) ?_
    refine g_icmp_ne hX 23 dX6_dropRun_17 (by decide) (fun c17 => ?_) (fun c17 => ?_)
    · refine g_aload_0 hX dX6_dropRun_23 ?_
      refine gt_X6_now hX dX6_dropRun_24 ?_
      refine g_bipush hX 9 dX6_dropRun_27 (by decide) ?_
      refine g_bipush hX 17 dX6_dropRun_29 (by decide) ?_
      refine g_iload_1 hX dX6_dropRun_31 ?_
      refine g_imul hX dX6_dropRun_32 ?_
      refine g_iadd hX dX6_dropRun_33 ?_
      refine g_top _ (ix17 j) ?_
      refine g_dup2 hX dX6_dropRun_34 rfl rfl ?_
      refine g_ialdN (k := (9 + 17 * j)) hX (ar_71 Z) (by omega) (by decide) dX6_dropRun_35 ?_
      refine g_iconst hX 1 dX6_dropRun_36 (by decide) ?_
      refine g_isub hX dX6_dropRun_37 ?_
      refine g_iastN (k := (9 + 17 * j)) hX (ar_71 Z) (by omega) (by decide) dX6_dropRun_38 ?_
      refine g_aload_0 hX dX6_dropRun_39 ?_
      refine g_iload_1 hX dX6_dropRun_40 ?_
      refine g_cV1r hX mkX6_runsOf ml_X6_69 (c_X6_runsOf hj6) (ob_69 Z _) dX6_dropRun_41 rfl (by decide) (Nat.le_of_ble_eq_true rfl) ?_
      refine g_top (b 71 (9 + 17 * j) - 1) (u2s _ _ _ _) ?_
      exact hq _ _ _ _ dX6_dropRun_44 (by rw [dropRunN, if_pos c5, hjc, if_neg (fun z => c17 (hd.mpr z))]) (by rw [dropRunR, if_pos c5, hjc, if_neg (fun z => c17 (hd.mpr z))])
    · refine g_bipush hX (-3) dX6_dropRun_20 (by decide) ?_
      exact hq _ _ _ _ dX6_dropRun_22 (by rw [dropRunN, if_pos c5, hjc, if_pos (hd.mp c17)]) (by rw [dropRunR, if_pos c5, hjc, if_pos (hd.mp c17)])
  · replace c5 := bI_z.mp c5
    refine g_bipush hX (-2) dX6_dropRun_8 (by decide) ?_
    exact hq _ _ _ _ dX6_dropRun_10 (by rw [dropRunN, if_neg c5]) (by rw [dropRunR, if_neg c5])
set_option maxRecDepth 100000 in
set_option maxHeartbeats 4000000 in
theorem c_X6_addPocket {Z : Zt} {b : Mem} {w t : Int32} (hV : Val (mv b))  : Con Z yX6_addPocket cX6_addPocket 4 (some .int) 1 [.ref (zad Z 69), .int w, .int t] b (some (.int (addPocketR (b 71 1) w t))) (addPocketN b w t) := by
  have hp : b 71 1 = nI (np (mv b)) := hV.2.1.1
  have hp6 := hV.2.1.2
  have h6 : b 71 1 < 6 ↔ ¬ b 71 1 = 6 := by rw [hp]; exact nI_ne_top (m := 6) hp6 (by decide)
  refine con_i (by decide) (Nat.le_of_ble_eq_true rfl) rfl (fun X hX hq => ?_)
  have hX : Ok Z X cX6_addPocket 4 RX6 1 := hX
  show G Z X b 0 [some (.ref (zad Z 69)), some (.int w), some (.int t), none] []
  refine g_iload_1 hX dX6_addPocket_0 ?_
  refine g_iconst hX 1 dX6_addPocket_1 (by decide) ?_
  refine g_bipush hX 60 dX6_addPocket_2 (by decide) ?_
  refine g_cS3r hX mkX6_in ml_X6_61 (c_X6_in) dX6_addPocket_4 rfl (by decide) (Nat.le_of_ble_eq_true rfl) ?_
  refine g_if_eq hX 20 dX6_addPocket_7 (by decide) (fun c7 => ?_) (fun c7 => ?_)
  · replace c7 := bI_z.mp c7
    refine g_bipush hX (-2) dX6_addPocket_20 (by decide) ?_
    exact hq _ _ _ _ dX6_addPocket_22 (by first | (rw [addPocketN, if_neg]; intro hh; exact c7 hh.1) | (rw [addPocketN, if_neg]; intro hh; exact c17 hh.2)) (by first | (rw [addPocketR, if_neg]; intro hh; exact c7 hh.1) | (rw [addPocketR, if_neg]; intro hh; exact c17 hh.2))
  · replace c7 := bI_nz.mp c7
    refine g_iload_2 hX dX6_addPocket_10 ?_
    refine g_iconst hX 0 dX6_addPocket_11 (by decide) ?_
    refine g_bipush hX 63 dX6_addPocket_12 (by decide) ?_
    refine g_cS3r hX mkX6_in ml_X6_61 (c_X6_in) dX6_addPocket_14 rfl (by decide) (Nat.le_of_ble_eq_true rfl) ?_
    refine g_if_ne hX 23 dX6_addPocket_17 (by decide) (fun c17 => ?_) (fun c17 => ?_)
    · replace c17 := bI_nz.mp c17
      refine g_aload_0 hX dX6_addPocket_23 ?_
      refine gt_X6_now hX dX6_addPocket_24 ?_
      refine g_iconst hX 1 dX6_addPocket_27 (by decide) ?_
      refine g_ialdN (k := 1) hX (ar_71 Z) (by decide) (by decide) dX6_addPocket_28 ?_
      refine g_bipush hX 6 dX6_addPocket_29 (by decide) ?_
      refine g_icmp_ne hX 37 dX6_addPocket_31 (by decide) (fun c31 => ?_) (fun c31 => ?_)
      · have hl6 : np (mv b) < 6 := (nI_ltI (by omega) (by decide)).mp (by rw [← hp]; exact h6.mpr c31)
        refine g_aload_0 hX dX6_addPocket_37 ?_
        refine gt_X6_now hX dX6_addPocket_38 ?_
        refine g_iconst hX 1 dX6_addPocket_41 (by decide) ?_
        refine g_ialdN (k := 1) hX (ar_71 Z) (by decide) (by decide) dX6_addPocket_42 ?_
        refine g_top _ hp ?_
        refine g_istore_3 hX dX6_addPocket_43 rfl ?_
        refine g_aload_0 hX dX6_addPocket_44 ?_
        refine gt_X6_now hX dX6_addPocket_45 ?_
        refine g_bipush hX 111 dX6_addPocket_48 (by decide) ?_
        refine g_iconst hX 2 dX6_addPocket_50 (by decide) ?_
        refine g_iload_3 hX dX6_addPocket_51 ?_
        refine g_imul hX dX6_addPocket_52 ?_
        refine g_iadd hX dX6_addPocket_53 ?_
        refine g_top _ (ix2 _) ?_
        refine g_iload_1 hX dX6_addPocket_54 ?_
        refine g_iastN (k := (111 + 2 * np (mv b))) hX (ar_71 Z) (by omega) (by decide) dX6_addPocket_55 ?_
        refine g_aload_0 hX dX6_addPocket_56 ?_
        refine gt_X6_now hX dX6_addPocket_57 ?_
        refine g_bipush hX 111 dX6_addPocket_60 (by decide) ?_
        refine g_iconst hX 2 dX6_addPocket_62 (by decide) ?_
        refine g_iload_3 hX dX6_addPocket_63 ?_
        refine g_imul hX dX6_addPocket_64 ?_
        refine g_iadd hX dX6_addPocket_65 ?_
        refine g_iconst hX 1 dX6_addPocket_66 (by decide) ?_
        refine g_iadd hX dX6_addPocket_67 ?_
        refine g_top _ (ix2a _) ?_
        refine g_iload_2 hX dX6_addPocket_68 ?_
        refine g_iastN (k := (111 + 2 * np (mv b) + 1)) hX (ar_71 Z) (by omega) (by decide) dX6_addPocket_69 ?_
        refine g_aload_0 hX dX6_addPocket_70 ?_
        refine gt_X6_now hX dX6_addPocket_71 ?_
        refine g_iconst hX 1 dX6_addPocket_74 (by decide) ?_
        refine g_dup2 hX dX6_addPocket_75 rfl rfl ?_
        refine g_ialdN (k := 1) hX (ar_71 Z) (by decide) (by decide) dX6_addPocket_76 ?_
        refine g_top (nI (np (mv b))) (by rw [u2k _ _ (by omega), u2k _ _ (by omega)]; exact hp) ?_
        refine g_iconst hX 1 dX6_addPocket_77 (by decide) ?_
        refine g_iadd hX dX6_addPocket_78 ?_
        refine g_iastN (k := 1) hX (ar_71 Z) (by decide) (by decide) dX6_addPocket_79 ?_
        refine g_iload_3 hX dX6_addPocket_80 ?_
        exact hq _ _ _ _ dX6_addPocket_81 (by rw [addPocketN, if_pos ⟨c7, c17⟩, if_pos (h6.mpr c31)]; rfl) (by rw [addPocketR, if_pos ⟨c7, c17⟩, if_pos (h6.mpr c31)]; exact hp.symm)
      · refine g_bipush hX (-4) dX6_addPocket_34 (by decide) ?_
        exact hq _ _ _ _ dX6_addPocket_36 (by rw [addPocketN, if_pos ⟨c7, c17⟩, if_neg (fun z => (h6.mp z) c31)]) (by rw [addPocketR, if_pos ⟨c7, c17⟩, if_neg (fun z => (h6.mp z) c31)])
    · replace c17 := bI_z.mp c17
      refine g_bipush hX (-2) dX6_addPocket_20 (by decide) ?_
      exact hq _ _ _ _ dX6_addPocket_22 (by first | (rw [addPocketN, if_neg]; intro hh; exact c7 hh.1) | (rw [addPocketN, if_neg]; intro hh; exact c17 hh.2)) (by first | (rw [addPocketR, if_neg]; intro hh; exact c7 hh.1) | (rw [addPocketR, if_neg]; intro hh; exact c17 hh.2))
set_option maxRecDepth 100000 in
set_option maxHeartbeats 4000000 in
theorem c_X6_becomes {Z : Zt} {b : Mem} {c : Nat} (hc : c < 123) {x : Int32} : Con Z yX6_becomes cX6_becomes 4 (some .int) 0 [.ref (zad Z 69), .int (nI c), .int x] b (some (.int (b 71 c))) (up2 b 71 c x) := by
  refine con_i (by decide) (Nat.le_of_ble_eq_true rfl) rfl (fun X hX hq => ?_)
  have hX : Ok Z X cX6_becomes 4 RX6 0 := hX
  show G Z X b 0 [some (.ref (zad Z 69)), some (.int (nI c)), some (.int x), none] []
  refine g_aload_0 hX dX6_becomes_0 ?_
  refine gt_X6_now hX dX6_becomes_1 ?_
  refine g_iload_1 hX dX6_becomes_4 ?_
  refine g_ialdN (k := c) hX (ar_71 Z) (hc) (by decide) dX6_becomes_5 ?_
  refine g_istore_3 hX dX6_becomes_6 rfl ?_
  refine g_aload_0 hX dX6_becomes_7 ?_
  refine gt_X6_now hX dX6_becomes_8 ?_
  refine g_iload_1 hX dX6_becomes_11 ?_
  refine g_iload_2 hX dX6_becomes_12 ?_
  refine g_iastN (k := c) hX (ar_71 Z) (hc) (by decide) dX6_becomes_13 ?_
  refine g_iload_3 hX dX6_becomes_14 ?_
  exact hq _ _ _ _ dX6_becomes_15 (by rfl) (by rfl)
set_option maxRecDepth 100000 in
set_option maxHeartbeats 4000000 in
theorem c_X6_setWide {Z : Zt} {b : Mem} {p w : Int32} (hV : Val (mv b))  : Con Z yX6_setWide cX6_setWide 3 (some .int) 2 [.ref (zad Z 69), .int p, .int w] b (some (.int (wideR (b 71 1) (b 71 (111 + 2 * p.toNatClampNeg)) p w))) (wideN b p w) := by
  have hp : b 71 1 = nI (np (mv b)) := hV.2.1.1
  have hp6 := hV.2.1.2
  refine con_i (by decide) (Nat.le_of_ble_eq_true rfl) rfl (fun X hX hq => ?_)
  have hX : Ok Z X cX6_setWide 3 RX6 2 := hX
  show G Z X b 0 [some (.ref (zad Z 69)), some (.int p), some (.int w)] []
  refine g_aload_0 hX dX6_setWide_0 ?_
  refine g_iload_1 hX dX6_setWide_1 ?_
  refine g_cV1r hX mkX6_isPocket ml_X6_73 (c_X6_isPocket hV) (ob_69 Z _) dX6_setWide_2 rfl (by decide) (Nat.le_of_ble_eq_true rfl) ?_
  refine g_if_eq hX 32 dX6_setWide_5 (by decide) (fun c5 => ?_) (fun c5 => ?_)
  · replace c5 := bI_z.mp c5
    refine g_bipush hX (-2) dX6_setWide_32 (by decide) ?_
    exact hq _ _ _ _ dX6_setWide_34 (by first | (rw [wideN, if_neg]; intro hh; exact c5 hh.1) | (rw [wideN, if_neg]; intro hh; exact c15 hh.2)) (by first | (rw [wideR, if_neg]; intro hh; exact c5 hh.1) | (rw [wideR, if_neg]; intro hh; exact c15 hh.2))
  · replace c5 := bI_nz.mp c5
    obtain ⟨j, hj, rfl⟩ := in_of c5.1 (by have := c5.2; rw [hp] at this; exact this) (by omega)
    have hjc : (nI j).toNatClampNeg = j := nI_clamp (by omega)
    have hj6 := hV.p6 hj
    refine g_iload_2 hX dX6_setWide_8 ?_
    refine g_iconst hX 1 dX6_setWide_9 (by decide) ?_
    refine g_bipush hX 60 dX6_setWide_10 (by decide) ?_
    refine g_cS3r hX mkX6_in ml_X6_61 (c_X6_in) dX6_setWide_12 rfl (by decide) (Nat.le_of_ble_eq_true rfl) ?_
    refine g_if_eq hX 32 dX6_setWide_15 (by decide) (fun c15 => ?_) (fun c15 => ?_)
    · replace c15 := bI_z.mp c15
      refine g_bipush hX (-2) dX6_setWide_32 (by decide) ?_
      exact hq _ _ _ _ dX6_setWide_34 (by first | (rw [wideN, if_neg]; intro hh; exact c5 hh.1) | (rw [wideN, if_neg]; intro hh; exact c15 hh.2)) (by first | (rw [wideR, if_neg]; intro hh; exact c5 hh.1) | (rw [wideR, if_neg]; intro hh; exact c15 hh.2))
    · replace c15 := bI_nz.mp c15
      refine g_aload_0 hX dX6_setWide_18 ?_
      refine g_bipush hX 111 dX6_setWide_19 (by decide) ?_
      refine g_iconst hX 2 dX6_setWide_21 (by decide) ?_
      refine g_iload_1 hX dX6_setWide_22 ?_
      refine g_imul hX dX6_setWide_23 ?_
      refine g_iadd hX dX6_setWide_24 ?_
      refine g_top _ (ix2 j) ?_
      refine g_iload_2 hX dX6_setWide_25 ?_
      refine g_cV2r hX mkX6_becomes ml_X6_76 (c_X6_becomes (c := 111 + 2 * j) (by omega)) (ob_69 Z _) dX6_setWide_26 rfl (by decide) (Nat.le_of_ble_eq_true rfl) ?_
      refine g_goto hX 34 dX6_setWide_29 (by decide) ?_
      exact hq _ _ _ _ dX6_setWide_34 (by rw [wideN, if_pos ⟨c5, c15⟩, hjc]) (by rw [wideR, if_pos ⟨c5, c15⟩, hjc])
set_option maxRecDepth 100000 in
set_option maxHeartbeats 4000000 in
theorem c_X6_setTouch {Z : Zt} {b : Mem} {p w : Int32} (hV : Val (mv b))  : Con Z yX6_setTouch cX6_setTouch 3 (some .int) 2 [.ref (zad Z 69), .int p, .int w] b (some (.int (touchR (b 71 1) (b 71 (111 + 2 * p.toNatClampNeg + 1)) p w))) (touchN b p w) := by
  have hp : b 71 1 = nI (np (mv b)) := hV.2.1.1
  have hp6 := hV.2.1.2
  refine con_i (by decide) (Nat.le_of_ble_eq_true rfl) rfl (fun X hX hq => ?_)
  have hX : Ok Z X cX6_setTouch 3 RX6 2 := hX
  show G Z X b 0 [some (.ref (zad Z 69)), some (.int p), some (.int w)] []
  refine g_aload_0 hX dX6_setTouch_0 ?_
  refine g_iload_1 hX dX6_setTouch_1 ?_
  refine g_cV1r hX mkX6_isPocket ml_X6_73 (c_X6_isPocket hV) (ob_69 Z _) dX6_setTouch_2 rfl (by decide) (Nat.le_of_ble_eq_true rfl) ?_
  refine g_if_eq hX 34 dX6_setTouch_5 (by decide) (fun c5 => ?_) (fun c5 => ?_)
  · replace c5 := bI_z.mp c5
    refine g_bipush hX (-2) dX6_setTouch_34 (by decide) ?_
    exact hq _ _ _ _ dX6_setTouch_36 (by first | (rw [touchN, if_neg]; intro hh; exact c5 hh.1) | (rw [touchN, if_neg]; intro hh; exact c15 hh.2)) (by first | (rw [touchR, if_neg]; intro hh; exact c5 hh.1) | (rw [touchR, if_neg]; intro hh; exact c15 hh.2))
  · replace c5 := bI_nz.mp c5
    obtain ⟨j, hj, rfl⟩ := in_of c5.1 (by have := c5.2; rw [hp] at this; exact this) (by omega)
    have hjc : (nI j).toNatClampNeg = j := nI_clamp (by omega)
    have hj6 := hV.p6 hj
    refine g_iload_2 hX dX6_setTouch_8 ?_
    refine g_iconst hX 0 dX6_setTouch_9 (by decide) ?_
    refine g_bipush hX 63 dX6_setTouch_10 (by decide) ?_
    refine g_cS3r hX mkX6_in ml_X6_61 (c_X6_in) dX6_setTouch_12 rfl (by decide) (Nat.le_of_ble_eq_true rfl) ?_
    refine g_if_eq hX 34 dX6_setTouch_15 (by decide) (fun c15 => ?_) (fun c15 => ?_)
    · replace c15 := bI_z.mp c15
      refine g_bipush hX (-2) dX6_setTouch_34 (by decide) ?_
      exact hq _ _ _ _ dX6_setTouch_36 (by first | (rw [touchN, if_neg]; intro hh; exact c5 hh.1) | (rw [touchN, if_neg]; intro hh; exact c15 hh.2)) (by first | (rw [touchR, if_neg]; intro hh; exact c5 hh.1) | (rw [touchR, if_neg]; intro hh; exact c15 hh.2))
    · replace c15 := bI_nz.mp c15
      refine g_aload_0 hX dX6_setTouch_18 ?_
      refine g_bipush hX 111 dX6_setTouch_19 (by decide) ?_
      refine g_iconst hX 2 dX6_setTouch_21 (by decide) ?_
      refine g_iload_1 hX dX6_setTouch_22 ?_
      refine g_imul hX dX6_setTouch_23 ?_
      refine g_iadd hX dX6_setTouch_24 ?_
      refine g_iconst hX 1 dX6_setTouch_25 (by decide) ?_
      refine g_iadd hX dX6_setTouch_26 ?_
      refine g_top _ (ix2a j) ?_
      refine g_iload_2 hX dX6_setTouch_27 ?_
      refine g_cV2r hX mkX6_becomes ml_X6_76 (c_X6_becomes (c := 111 + 2 * j + 1) (by omega)) (ob_69 Z _) dX6_setTouch_28 rfl (by decide) (Nat.le_of_ble_eq_true rfl) ?_
      refine g_goto hX 36 dX6_setTouch_31 (by decide) ?_
      exact hq _ _ _ _ dX6_setTouch_36 (by rw [touchN, if_pos ⟨c5, c15⟩, hjc]) (by rw [touchR, if_pos ⟨c5, c15⟩, hjc])
set_option maxRecDepth 100000 in
set_option maxHeartbeats 4000000 in
theorem c_X6_leastOf {Z : Zt} {b : Mem} {k : Nat} (hk : k < 7) : Con Z yX6_leastOf cX6_leastOf 1 (some .int) 0 [.int (nI k)] b (some (.int (lowF k))) (b) := by
  refine con_i (by decide) (Nat.le_of_ble_eq_true rfl) rfl (fun X hX hq => ?_)
  have hX : Ok Z X cX6_leastOf 1 RX6 0 := hX
  show G Z X b 0 [some (.int (nI k))] []
  refine g_iload_0 hX dX6_leastOf_0 ?_
  refine g_if_ne hX 8 dX6_leastOf_1 (by decide) (fun c1 => ?_) (fun c1 => ?_)
  · refine g_iload_0 hX dX6_leastOf_8 ?_
    refine g_iconst hX 1 dX6_leastOf_9 (by decide) ?_
    refine g_icmp_eq hX 19 dX6_leastOf_10 (by decide) (fun c10 => ?_) (fun c10 => ?_)
    · refine g_iconst hX 1 dX6_leastOf_19 (by decide) ?_
      refine g_goto hX 24 dX6_leastOf_20 (by decide) ?_
      exact hq _ _ _ _ dX6_leastOf_24 (by rfl) (((by decide +kernel : ∀ k, k < 7 → (¬ nI k = 0 ∧ nI k = 1) → lowF k = 1) k hk ⟨c1, c10⟩).symm)
    · refine g_iload_0 hX dX6_leastOf_13 ?_
      refine g_bipush hX 6 dX6_leastOf_14 (by decide) ?_
      refine g_icmp_ne hX 23 dX6_leastOf_16 (by decide) (fun c16 => ?_) (fun c16 => ?_)
      · refine g_iconst hX 0 dX6_leastOf_23 (by decide) ?_
        exact hq _ _ _ _ dX6_leastOf_24 (by rfl) (((by decide +kernel : ∀ k, k < 7 → (¬ nI k = 0 ∧ ¬ nI k = 1 ∧ ¬ nI k = 6) → lowF k = 0) k hk ⟨c1, c10, c16⟩).symm)
      · refine g_iconst hX 1 dX6_leastOf_19 (by decide) ?_
        refine g_goto hX 24 dX6_leastOf_20 (by decide) ?_
        exact hq _ _ _ _ dX6_leastOf_24 (by rfl) (((by decide +kernel : ∀ k, k < 7 → (¬ nI k = 0 ∧ ¬ nI k = 1 ∧ nI k = 6) → lowF k = 1) k hk ⟨c1, c10, c16⟩).symm)
  · refine g_iconst hX 2 dX6_leastOf_4 (by decide) ?_
    refine g_goto hX 24 dX6_leastOf_5 (by decide) ?_
    exact hq _ _ _ _ dX6_leastOf_24 (by rfl) (((by decide +kernel : ∀ k, k < 7 → (nI k = 0) → lowF k = 2) k hk c1).symm)
set_option maxRecDepth 100000 in
set_option maxHeartbeats 4000000 in
theorem c_X6_mostOf {Z : Zt} {b : Mem} {k : Nat} (hk : k < 7) : Con Z yX6_mostOf cX6_mostOf 1 (some .int) 0 [.int (nI k)] b (some (.int (higF k))) (b) := by
  refine con_i (by decide) (Nat.le_of_ble_eq_true rfl) rfl (fun X hX hq => ?_)
  have hX : Ok Z X cX6_mostOf 1 RX6 0 := hX
  show G Z X b 0 [some (.int (nI k))] []
  refine g_iload_0 hX dX6_mostOf_0 ?_
  refine g_if_ne hX 9 dX6_mostOf_1 (by decide) (fun c1 => ?_) (fun c1 => ?_)
  · refine g_iload_0 hX dX6_mostOf_9 ?_
    refine g_iconst hX 1 dX6_mostOf_10 (by decide) ?_
    refine g_icmp_ne hX 18 dX6_mostOf_11 (by decide) (fun c11 => ?_) (fun c11 => ?_)
    · refine g_iload_0 hX dX6_mostOf_18 ?_
      refine g_iconst hX 2 dX6_mostOf_19 (by decide) ?_
      refine g_icmp_ne hX 27 dX6_mostOf_20 (by decide) (fun c20 => ?_) (fun c20 => ?_)
      · refine g_iload_0 hX dX6_mostOf_27 ?_
        refine g_iconst hX 3 dX6_mostOf_28 (by decide) ?_
        refine g_icmp_ne hX 37 dX6_mostOf_29 (by decide) (fun c29 => ?_) (fun c29 => ?_)
        · refine g_iload_0 hX dX6_mostOf_37 ?_
          refine g_iconst hX 4 dX6_mostOf_38 (by decide) ?_
          refine g_icmp_ne hX 48 dX6_mostOf_39 (by decide) (fun c39 => ?_) (fun c39 => ?_)
          · refine g_iload_0 hX dX6_mostOf_48 ?_
            refine g_iconst hX 5 dX6_mostOf_49 (by decide) ?_
            refine g_icmp_ne hX 58 dX6_mostOf_50 (by decide) (fun c50 => ?_) (fun c50 => ?_)
            · refine g_bipush hX 9 dX6_mostOf_58 (by decide) ?_
              exact hq _ _ _ _ dX6_mostOf_60 (by rfl) (((by decide +kernel : ∀ k, k < 7 → (¬ nI k = 0 ∧ ¬ nI k = 1 ∧ ¬ nI k = 2 ∧ ¬ nI k = 3 ∧ ¬ nI k = 4 ∧ ¬ nI k = 5) → higF k = 9) k hk ⟨c1, c11, c20, c29, c39, c50⟩).symm)
            · refine g_bipush hX 6 dX6_mostOf_53 (by decide) ?_
              refine g_goto hX 60 dX6_mostOf_55 (by decide) ?_
              exact hq _ _ _ _ dX6_mostOf_60 (by rfl) (((by decide +kernel : ∀ k, k < 7 → (¬ nI k = 0 ∧ ¬ nI k = 1 ∧ ¬ nI k = 2 ∧ ¬ nI k = 3 ∧ ¬ nI k = 4 ∧ nI k = 5) → higF k = 6) k hk ⟨c1, c11, c20, c29, c39, c50⟩).symm)
          · refine g_sipush hX 999 dX6_mostOf_42 (by decide) ?_
            refine g_goto hX 60 dX6_mostOf_45 (by decide) ?_
            exact hq _ _ _ _ dX6_mostOf_60 (by rfl) (((by decide +kernel : ∀ k, k < 7 → (¬ nI k = 0 ∧ ¬ nI k = 1 ∧ ¬ nI k = 2 ∧ ¬ nI k = 3 ∧ nI k = 4) → higF k = 999) k hk ⟨c1, c11, c20, c29, c39⟩).symm)
        · refine g_bipush hX 20 dX6_mostOf_32 (by decide) ?_
          refine g_goto hX 60 dX6_mostOf_34 (by decide) ?_
          exact hq _ _ _ _ dX6_mostOf_60 (by rfl) (((by decide +kernel : ∀ k, k < 7 → (¬ nI k = 0 ∧ ¬ nI k = 1 ∧ ¬ nI k = 2 ∧ nI k = 3) → higF k = 20) k hk ⟨c1, c11, c20, c29⟩).symm)
      · refine g_iconst hX 2 dX6_mostOf_23 (by decide) ?_
        refine g_goto hX 60 dX6_mostOf_24 (by decide) ?_
        exact hq _ _ _ _ dX6_mostOf_60 (by rfl) (((by decide +kernel : ∀ k, k < 7 → (¬ nI k = 0 ∧ ¬ nI k = 1 ∧ nI k = 2) → higF k = 2) k hk ⟨c1, c11, c20⟩).symm)
    · refine g_iconst hX 4 dX6_mostOf_14 (by decide) ?_
      refine g_goto hX 60 dX6_mostOf_15 (by decide) ?_
      exact hq _ _ _ _ dX6_mostOf_60 (by rfl) (((by decide +kernel : ∀ k, k < 7 → (¬ nI k = 0 ∧ nI k = 1) → higF k = 4) k hk ⟨c1, c11⟩).symm)
  · refine g_bipush hX 12 dX6_mostOf_4 (by decide) ?_
    refine g_goto hX 60 dX6_mostOf_6 (by decide) ?_
    exact hq _ _ _ _ dX6_mostOf_60 (by rfl) (((by decide +kernel : ∀ k, k < 7 → (nI k = 0) → higF k = 12) k hk c1).symm)
set_option maxRecDepth 100000 in
set_option maxHeartbeats 4000000 in
theorem c_X6_setSetting {Z : Zt} {b : Mem} {k x : Int32} : Con Z yX6_setSetting cX6_setSetting 3 (some .int) 1 [.ref (zad Z 69), .int k, .int x] b (some (.int (setR (b 71 (2 + k.toNatClampNeg)) k x))) (setN b k x) := by
  refine con_i (by decide) (Nat.le_of_ble_eq_true rfl) rfl (fun X hX hq => ?_)
  have hX : Ok Z X cX6_setSetting 3 RX6 1 := hX
  show G Z X b 0 [some (.ref (zad Z 69)), some (.int k), some (.int x)] []
  refine g_iload_1 hX dX6_setSetting_0 ?_
  refine g_iconst hX 0 dX6_setSetting_1 (by decide) ?_
  refine g_bipush hX 6 dX6_setSetting_2 (by decide) ?_
  refine g_cS3r hX mkX6_in ml_X6_61 (c_X6_in) dX6_setSetting_4 rfl (by decide) (Nat.le_of_ble_eq_true rfl) ?_
  refine g_if_eq hX 36 dX6_setSetting_7 (by decide) (fun c7 => ?_) (fun c7 => ?_)
  · replace c7 := bI_z.mp c7
    refine g_bipush hX (-2) dX6_setSetting_36 (by decide) ?_
    exact hq _ _ _ _ dX6_setSetting_38 (by first | (rw [setN, if_neg]; intro hh; exact c7 hh.1) | (rw [setN, if_neg]; intro hh; exact c22 (by rw [hjc] at hh; exact hh.2))) (by first | (rw [setR, if_neg]; intro hh; exact c7 hh.1) | (rw [setR, if_neg]; intro hh; exact c22 (by rw [hjc] at hh; exact hh.2)))
  · replace c7 := bI_nz.mp c7
    obtain ⟨j, hj, rfl⟩ := in_of6 (n := 6) c7.1 c7.2 (by decide)
    have hjc : (nI j).toNatClampNeg = j := nI_clamp (by omega)
    refine g_iload_2 hX dX6_setSetting_10 ?_
    refine g_iload_1 hX dX6_setSetting_11 ?_
    refine g_cS1r hX mkX6_leastOf ml_X6_80 (c_X6_leastOf hj) dX6_setSetting_12 rfl (by decide) (Nat.le_of_ble_eq_true rfl) ?_
    refine g_iload_1 hX dX6_setSetting_15 ?_
    refine g_cS1r hX mkX6_mostOf ml_X6_83 (c_X6_mostOf hj) dX6_setSetting_16 rfl (by decide) (Nat.le_of_ble_eq_true rfl) ?_
    refine g_cS3r hX mkX6_in ml_X6_61 (c_X6_in) dX6_setSetting_19 rfl (by decide) (Nat.le_of_ble_eq_true rfl) ?_
    refine g_if_eq hX 36 dX6_setSetting_22 (by decide) (fun c22 => ?_) (fun c22 => ?_)
    · replace c22 := bI_z.mp c22
      refine g_bipush hX (-2) dX6_setSetting_36 (by decide) ?_
      exact hq _ _ _ _ dX6_setSetting_38 (by first | (rw [setN, if_neg]; intro hh; exact c7 hh.1) | (rw [setN, if_neg]; intro hh; exact c22 (by rw [hjc] at hh; exact hh.2))) (by first | (rw [setR, if_neg]; intro hh; exact c7 hh.1) | (rw [setR, if_neg]; intro hh; exact c22 (by rw [hjc] at hh; exact hh.2)))
    · replace c22 := bI_nz.mp c22
      refine g_aload_0 hX dX6_setSetting_25 ?_
      refine g_iconst hX 2 dX6_setSetting_26 (by decide) ?_
      refine g_iload_1 hX dX6_setSetting_27 ?_
      refine g_iadd hX dX6_setSetting_28 ?_
      refine g_top _ (ixS j) ?_
      refine g_iload_2 hX dX6_setSetting_29 ?_
      refine g_cV2r hX mkX6_becomes ml_X6_76 (c_X6_becomes (c := 2 + j) (by omega)) (ob_69 Z _) dX6_setSetting_30 rfl (by decide) (Nat.le_of_ble_eq_true rfl) ?_
      refine g_goto hX 38 dX6_setSetting_33 (by decide) ?_
      exact hq _ _ _ _ dX6_setSetting_38 (by rw [setN, if_pos ⟨c7, by rw [hjc]; exact c22⟩, hjc]) (by rw [setR, if_pos ⟨c7, by rw [hjc]; exact c22⟩, hjc])
def dnM (b : Mem) (n : Nat) (x : Int32) : Mem := if x < 0 then cnM b x else lvM b n
set_option maxRecDepth 100000 in
set_option maxHeartbeats 4000000 in
theorem c_X6_done {Z : Zt} {b : Mem} {n : Nat} {x : Int32} (hs : b 69 3 = nI n) (h5 : n ≤ 5) : Con Z yX6_done cX6_done 2 (some .int) 2 [.ref (zad Z 69), .int x] b (some (.int (x))) (dnM b n x) := by
  refine con_i (by decide) (Nat.le_of_ble_eq_true rfl) rfl (fun X hX hq => ?_)
  have hX : Ok Z X cX6_done 2 RX6 2 := hX
  show G Z X b 0 [some (.ref (zad Z 69)), some (.int x)] []
  refine g_iload_1 hX dX6_done_0 ?_
  refine g_if_ge hX 10 dX6_done_1 (by decide) (fun c1 => ?_) (fun c1 => ?_)
  · refine g_aload_0 hX dX6_done_10 ?_
    refine g_cV0v hX mkX6_leavesState ml_X6_89 (c_X6_leavesState hs h5) (ob_69 Z _) dX6_done_11 rfl (by decide) (Nat.le_of_ble_eq_true rfl) ?_
    refine g_iload_1 hX dX6_done_14 ?_
    exact hq _ _ _ _ dX6_done_15 (by rw [dnM, if_neg c1]) (by rfl)
  · refine g_aload_0 hX dX6_done_4 ?_
    refine g_iload_1 hX dX6_done_5 ?_
    refine g_cV1r hX mkX6_counted ml_X6_86 (c_X6_counted) (ob_69 Z _) dX6_done_6 rfl (by decide) (Nat.le_of_ble_eq_true rfl) ?_
    exact hq _ _ _ _ dX6_done_9 (by rw [dnM, if_pos c1]) (by rfl)
def ptM (b : Mem) : Mem := up1 b 72 (cpF (b 71) (b 72) 615 123)
theorem ptM_c (b : Mem) {j : Nat} (h : j ≠ 72) : ptM b j = b j := by unfold ptM; rw [u1c _ _ h]
theorem pN_69 {b : Mem} {j k i : Nat} {x : Int32} (h : j ≠ k) : up2 b k i x j = b j := u2c _ _ h
theorem addLineN_c (b : Mem) (a : Int32) {j : Nat} (h : j ≠ 71) : addLineN b a j = b j := by
  unfold addLineN alN; (repeat' split) <;> simp only [u2c _ _ h, u1c _ _ h]
theorem addRunN_c (b : Mem) (l t a : Int32) {j : Nat} (h : j ≠ 71) : addRunN b l t a j = b j := by
  unfold addRunN arN; (repeat' split) <;> simp only [u2c _ _ h]
theorem dropRunN_c (b : Mem) (l : Int32) {j : Nat} (h : j ≠ 71) : dropRunN b l j = b j := by
  unfold dropRunN; (repeat' split) <;> simp only [u2c _ _ h]
theorem addPocketN_c (b : Mem) (w t : Int32) {j : Nat} (h : j ≠ 71) : addPocketN b w t j = b j := by
  unfold addPocketN apN; (repeat' split) <;> simp only [u2c _ _ h]
theorem wideN_c (b : Mem) (p w : Int32) {j : Nat} (h : j ≠ 71) : wideN b p w j = b j := by
  unfold wideN; (repeat' split) <;> simp only [u2c _ _ h]
theorem touchN_c (b : Mem) (p w : Int32) {j : Nat} (h : j ≠ 71) : touchN b p w j = b j := by
  unfold touchN; (repeat' split) <;> simp only [u2c _ _ h]
theorem setN_c (b : Mem) (p w : Int32) {j : Nat} (h : j ≠ 71) : setN b p w j = b j := by
  unfold setN; (repeat' split) <;> simp only [u2c _ _ h]
set_option maxRecDepth 100000 in
set_option maxHeartbeats 4000000 in
theorem c_X6_line {Z : Zt} {b : Mem} {n : Nat} {a : Int32} (hV : Val (mv b)) (hs : b 69 3 = nI n) (h5 : n ≤ 5) : Con Z yX6_line cX6_line 2 (some .int) 3 [.ref (zad Z 69), .int a] b (some (.int (addLineR (b 71 0) a))) (dnM (addLineN (ptM b) a) n (addLineR (b 71 0) a)) := by
  have hV' : Val (mv (ptM b)) := by unfold mv; rw [ptM_c _ (by decide)]; exact hV
  have hs2 : addLineN (ptM b) a 69 3 = nI n := by rw [addLineN_c _ _ (by decide), ptM_c _ (by decide)]; exact hs
  refine con_i (by decide) (Nat.le_of_ble_eq_true rfl) rfl (fun X hX hq => ?_)
  have hX : Ok Z X cX6_line 2 RX6 3 := hX
  show G Z X b 0 [some (.ref (zad Z 69)), some (.int a)] []
  refine g_aload_0 hX dX6_line_0 ?_
  refine g_iconst hX 5 dX6_line_1 (by decide) ?_
  refine g_cV1v hX mkX6_puts ml_X6_92 (c_X6_puts (s := 5) (by decide)) (ob_69 Z _) dX6_line_2 rfl (by decide) (Nat.le_of_ble_eq_true rfl) ?_
  refine g_aload_0 hX dX6_line_5 ?_
  refine g_aload_0 hX dX6_line_6 ?_
  refine g_iload_1 hX dX6_line_7 ?_
  refine g_cV1r hX mkX6_addLine ml_X6_95 (c_X6_addLine (b := ptM b) hV') (ob_69 Z _) dX6_line_8 rfl (by decide) (Nat.le_of_ble_eq_true rfl) ?_
  refine g_top (addLineR (b 71 0) a) (by rw [ptM_c _ (by decide)]) ?_
  refine g_cV1r hX mkX6_done ml_X6_98 (c_X6_done (b := addLineN (ptM b) a) hs2 h5) (ob_69 Z _) dX6_line_11 rfl (by decide) (Nat.le_of_ble_eq_true rfl) ?_
  exact hq _ _ _ _ dX6_line_14 (by rfl) (by rfl)
set_option maxRecDepth 100000 in
set_option maxHeartbeats 4000000 in
theorem c_X6_goes {Z : Zt} {b : Mem} {n : Nat} {l t a : Int32} (hV : Val (mv b)) (hs : b 69 3 = nI n) (h5 : n ≤ 5) : Con Z yX6_goes cX6_goes 4 (some .int) 3 [.ref (zad Z 69), .int l, .int t, .int a] b (some (.int (addRunR (b 71 0) (b 71 (9 + 17 * l.toNatClampNeg)) l t a))) (dnM (addRunN (ptM b) l t a) n (addRunR (b 71 0) (b 71 (9 + 17 * l.toNatClampNeg)) l t a)) := by
  have hV' : Val (mv (ptM b)) := by unfold mv; rw [ptM_c _ (by decide)]; exact hV
  have hs2 : addRunN (ptM b) l t a 69 3 = nI n := by rw [addRunN_c _ _ _ _ (by decide), ptM_c _ (by decide)]; exact hs
  refine con_i (by decide) (Nat.le_of_ble_eq_true rfl) rfl (fun X hX hq => ?_)
  have hX : Ok Z X cX6_goes 4 RX6 3 := hX
  show G Z X b 0 [some (.ref (zad Z 69)), some (.int l), some (.int t), some (.int a)] []
  refine g_aload_0 hX dX6_goes_0 ?_
  refine g_iconst hX 5 dX6_goes_1 (by decide) ?_
  refine g_cV1v hX mkX6_puts ml_X6_92 (c_X6_puts (s := 5) (by decide)) (ob_69 Z _) dX6_goes_2 rfl (by decide) (Nat.le_of_ble_eq_true rfl) ?_
  refine g_aload_0 hX dX6_goes_5 ?_
  refine g_aload_0 hX dX6_goes_6 ?_
  refine g_iload_1 hX dX6_goes_7 ?_
  refine g_iload_2 hX dX6_goes_8 ?_
  refine g_iload_3 hX dX6_goes_9 ?_
  refine g_cV3r hX mkX6_addRun ml_X6_101 (c_X6_addRun (b := ptM b) hV') (ob_69 Z _) dX6_goes_10 rfl (by decide) (Nat.le_of_ble_eq_true rfl) ?_
  refine g_top (addRunR (b 71 0) (b 71 (9 + 17 * l.toNatClampNeg)) l t a) (by rw [ptM_c _ (by decide)]) ?_
  refine g_cV1r hX mkX6_done ml_X6_98 (c_X6_done (b := addRunN (ptM b) l t a) hs2 h5) (ob_69 Z _) dX6_goes_13 rfl (by decide) (Nat.le_of_ble_eq_true rfl) ?_
  exact hq _ _ _ _ dX6_goes_16 (by rfl) (by rfl)
set_option maxRecDepth 100000 in
set_option maxHeartbeats 4000000 in
theorem c_X6_shortens {Z : Zt} {b : Mem} {n : Nat} {l : Int32} (hV : Val (mv b)) (hs : b 69 3 = nI n) (h5 : n ≤ 5) : Con Z yX6_shortens cX6_shortens 2 (some .int) 3 [.ref (zad Z 69), .int l] b (some (.int (dropRunR (b 71 0) (b 71 (9 + 17 * l.toNatClampNeg)) l))) (dnM (dropRunN (ptM b) l) n (dropRunR (b 71 0) (b 71 (9 + 17 * l.toNatClampNeg)) l)) := by
  have hV' : Val (mv (ptM b)) := by unfold mv; rw [ptM_c _ (by decide)]; exact hV
  have hs2 : dropRunN (ptM b) l 69 3 = nI n := by rw [dropRunN_c _ _ (by decide), ptM_c _ (by decide)]; exact hs
  refine con_i (by decide) (Nat.le_of_ble_eq_true rfl) rfl (fun X hX hq => ?_)
  have hX : Ok Z X cX6_shortens 2 RX6 3 := hX
  show G Z X b 0 [some (.ref (zad Z 69)), some (.int l)] []
  refine g_aload_0 hX dX6_shortens_0 ?_
  refine g_iconst hX 5 dX6_shortens_1 (by decide) ?_
  refine g_cV1v hX mkX6_puts ml_X6_92 (c_X6_puts (s := 5) (by decide)) (ob_69 Z _) dX6_shortens_2 rfl (by decide) (Nat.le_of_ble_eq_true rfl) ?_
  refine g_aload_0 hX dX6_shortens_5 ?_
  refine g_aload_0 hX dX6_shortens_6 ?_
  refine g_iload_1 hX dX6_shortens_7 ?_
  refine g_cV1r hX mkX6_dropRun ml_X6_105 (c_X6_dropRun (b := ptM b) hV') (ob_69 Z _) dX6_shortens_8 rfl (by decide) (Nat.le_of_ble_eq_true rfl) ?_
  refine g_top (dropRunR (b 71 0) (b 71 (9 + 17 * l.toNatClampNeg)) l) (by rw [ptM_c _ (by decide)]) ?_
  refine g_cV1r hX mkX6_done ml_X6_98 (c_X6_done (b := dropRunN (ptM b) l) hs2 h5) (ob_69 Z _) dX6_shortens_11 rfl (by decide) (Nat.le_of_ble_eq_true rfl) ?_
  exact hq _ _ _ _ dX6_shortens_14 (by rfl) (by rfl)
set_option maxRecDepth 100000 in
set_option maxHeartbeats 4000000 in
theorem c_X6_pocket {Z : Zt} {b : Mem} {n : Nat} {w t : Int32} (hV : Val (mv b)) (hs : b 69 3 = nI n) (h5 : n ≤ 5) : Con Z yX6_pocket cX6_pocket 3 (some .int) 3 [.ref (zad Z 69), .int w, .int t] b (some (.int (addPocketR (b 71 1) w t))) (dnM (addPocketN (ptM b) w t) n (addPocketR (b 71 1) w t)) := by
  have hV' : Val (mv (ptM b)) := by unfold mv; rw [ptM_c _ (by decide)]; exact hV
  have hs2 : addPocketN (ptM b) w t 69 3 = nI n := by rw [addPocketN_c _ _ _ (by decide), ptM_c _ (by decide)]; exact hs
  refine con_i (by decide) (Nat.le_of_ble_eq_true rfl) rfl (fun X hX hq => ?_)
  have hX : Ok Z X cX6_pocket 3 RX6 3 := hX
  show G Z X b 0 [some (.ref (zad Z 69)), some (.int w), some (.int t)] []
  refine g_aload_0 hX dX6_pocket_0 ?_
  refine g_iconst hX 5 dX6_pocket_1 (by decide) ?_
  refine g_cV1v hX mkX6_puts ml_X6_92 (c_X6_puts (s := 5) (by decide)) (ob_69 Z _) dX6_pocket_2 rfl (by decide) (Nat.le_of_ble_eq_true rfl) ?_
  refine g_aload_0 hX dX6_pocket_5 ?_
  refine g_aload_0 hX dX6_pocket_6 ?_
  refine g_iload_1 hX dX6_pocket_7 ?_
  refine g_iload_2 hX dX6_pocket_8 ?_
  refine g_cV2r hX mkX6_addPocket ml_X6_108 (c_X6_addPocket (b := ptM b) hV') (ob_69 Z _) dX6_pocket_9 rfl (by decide) (Nat.le_of_ble_eq_true rfl) ?_
  refine g_top (addPocketR (b 71 1) w t) (by rw [ptM_c _ (by decide)]) ?_
  refine g_cV1r hX mkX6_done ml_X6_98 (c_X6_done (b := addPocketN (ptM b) w t) hs2 h5) (ob_69 Z _) dX6_pocket_12 rfl (by decide) (Nat.le_of_ble_eq_true rfl) ?_
  exact hq _ _ _ _ dX6_pocket_15 (by rfl) (by rfl)
set_option maxRecDepth 100000 in
set_option maxHeartbeats 4000000 in
theorem c_X6_widens {Z : Zt} {b : Mem} {n : Nat} {p w : Int32} (hV : Val (mv b)) (hs : b 69 3 = nI n) (h5 : n ≤ 5) : Con Z yX6_widens cX6_widens 3 (some .int) 3 [.ref (zad Z 69), .int p, .int w] b (some (.int (wideR (b 71 1) (b 71 (111 + 2 * p.toNatClampNeg)) p w))) (dnM (wideN (ptM b) p w) n (wideR (b 71 1) (b 71 (111 + 2 * p.toNatClampNeg)) p w)) := by
  have hV' : Val (mv (ptM b)) := by unfold mv; rw [ptM_c _ (by decide)]; exact hV
  have hs2 : wideN (ptM b) p w 69 3 = nI n := by rw [wideN_c _ _ _ (by decide), ptM_c _ (by decide)]; exact hs
  refine con_i (by decide) (Nat.le_of_ble_eq_true rfl) rfl (fun X hX hq => ?_)
  have hX : Ok Z X cX6_widens 3 RX6 3 := hX
  show G Z X b 0 [some (.ref (zad Z 69)), some (.int p), some (.int w)] []
  refine g_aload_0 hX dX6_widens_0 ?_
  refine g_iconst hX 5 dX6_widens_1 (by decide) ?_
  refine g_cV1v hX mkX6_puts ml_X6_92 (c_X6_puts (s := 5) (by decide)) (ob_69 Z _) dX6_widens_2 rfl (by decide) (Nat.le_of_ble_eq_true rfl) ?_
  refine g_aload_0 hX dX6_widens_5 ?_
  refine g_aload_0 hX dX6_widens_6 ?_
  refine g_iload_1 hX dX6_widens_7 ?_
  refine g_iload_2 hX dX6_widens_8 ?_
  refine g_cV2r hX mkX6_setWide ml_X6_111 (c_X6_setWide (b := ptM b) hV') (ob_69 Z _) dX6_widens_9 rfl (by decide) (Nat.le_of_ble_eq_true rfl) ?_
  refine g_top (wideR (b 71 1) (b 71 (111 + 2 * p.toNatClampNeg)) p w) (by rw [ptM_c _ (by decide)]) ?_
  refine g_cV1r hX mkX6_done ml_X6_98 (c_X6_done (b := wideN (ptM b) p w) hs2 h5) (ob_69 Z _) dX6_widens_12 rfl (by decide) (Nat.le_of_ble_eq_true rfl) ?_
  exact hq _ _ _ _ dX6_widens_15 (by rfl) (by rfl)
set_option maxRecDepth 100000 in
set_option maxHeartbeats 4000000 in
theorem c_X6_touches {Z : Zt} {b : Mem} {n : Nat} {p w : Int32} (hV : Val (mv b)) (hs : b 69 3 = nI n) (h5 : n ≤ 5) : Con Z yX6_touches cX6_touches 3 (some .int) 3 [.ref (zad Z 69), .int p, .int w] b (some (.int (touchR (b 71 1) (b 71 (111 + 2 * p.toNatClampNeg + 1)) p w))) (dnM (touchN (ptM b) p w) n (touchR (b 71 1) (b 71 (111 + 2 * p.toNatClampNeg + 1)) p w)) := by
  have hV' : Val (mv (ptM b)) := by unfold mv; rw [ptM_c _ (by decide)]; exact hV
  have hs2 : touchN (ptM b) p w 69 3 = nI n := by rw [touchN_c _ _ _ (by decide), ptM_c _ (by decide)]; exact hs
  refine con_i (by decide) (Nat.le_of_ble_eq_true rfl) rfl (fun X hX hq => ?_)
  have hX : Ok Z X cX6_touches 3 RX6 3 := hX
  show G Z X b 0 [some (.ref (zad Z 69)), some (.int p), some (.int w)] []
  refine g_aload_0 hX dX6_touches_0 ?_
  refine g_iconst hX 5 dX6_touches_1 (by decide) ?_
  refine g_cV1v hX mkX6_puts ml_X6_92 (c_X6_puts (s := 5) (by decide)) (ob_69 Z _) dX6_touches_2 rfl (by decide) (Nat.le_of_ble_eq_true rfl) ?_
  refine g_aload_0 hX dX6_touches_5 ?_
  refine g_aload_0 hX dX6_touches_6 ?_
  refine g_iload_1 hX dX6_touches_7 ?_
  refine g_iload_2 hX dX6_touches_8 ?_
  refine g_cV2r hX mkX6_setTouch ml_X6_114 (c_X6_setTouch (b := ptM b) hV') (ob_69 Z _) dX6_touches_9 rfl (by decide) (Nat.le_of_ble_eq_true rfl) ?_
  refine g_top (touchR (b 71 1) (b 71 (111 + 2 * p.toNatClampNeg + 1)) p w) (by rw [ptM_c _ (by decide)]) ?_
  refine g_cV1r hX mkX6_done ml_X6_98 (c_X6_done (b := touchN (ptM b) p w) hs2 h5) (ob_69 Z _) dX6_touches_12 rfl (by decide) (Nat.le_of_ble_eq_true rfl) ?_
  exact hq _ _ _ _ dX6_touches_15 (by rfl) (by rfl)
set_option maxRecDepth 100000 in
set_option maxHeartbeats 4000000 in
theorem c_X6_sets {Z : Zt} {b : Mem} {n : Nat} {k x : Int32} (hV : Val (mv b)) (hs : b 69 3 = nI n) (h5 : n ≤ 5) : Con Z yX6_sets cX6_sets 3 (some .int) 3 [.ref (zad Z 69), .int k, .int x] b (some (.int (setR (b 71 (2 + k.toNatClampNeg)) k x))) (dnM (setN (ptM b) k x) n (setR (b 71 (2 + k.toNatClampNeg)) k x)) := by
  have hV' : Val (mv (ptM b)) := by unfold mv; rw [ptM_c _ (by decide)]; exact hV
  have hs2 : setN (ptM b) k x 69 3 = nI n := by rw [setN_c _ _ _ (by decide), ptM_c _ (by decide)]; exact hs
  refine con_i (by decide) (Nat.le_of_ble_eq_true rfl) rfl (fun X hX hq => ?_)
  have hX : Ok Z X cX6_sets 3 RX6 3 := hX
  show G Z X b 0 [some (.ref (zad Z 69)), some (.int k), some (.int x)] []
  refine g_aload_0 hX dX6_sets_0 ?_
  refine g_iconst hX 5 dX6_sets_1 (by decide) ?_
  refine g_cV1v hX mkX6_puts ml_X6_92 (c_X6_puts (s := 5) (by decide)) (ob_69 Z _) dX6_sets_2 rfl (by decide) (Nat.le_of_ble_eq_true rfl) ?_
  refine g_aload_0 hX dX6_sets_5 ?_
  refine g_aload_0 hX dX6_sets_6 ?_
  refine g_iload_1 hX dX6_sets_7 ?_
  refine g_iload_2 hX dX6_sets_8 ?_
  refine g_cV2r hX mkX6_setSetting ml_X6_117 (c_X6_setSetting (b := ptM b)) (ob_69 Z _) dX6_sets_9 rfl (by decide) (Nat.le_of_ble_eq_true rfl) ?_
  refine g_top (setR (b 71 (2 + k.toNatClampNeg)) k x) (by rw [ptM_c _ (by decide)]) ?_
  refine g_cV1r hX mkX6_done ml_X6_98 (c_X6_done (b := setN (ptM b) k x) hs2 h5) (ob_69 Z _) dX6_sets_12 rfl (by decide) (Nat.le_of_ble_eq_true rfl) ?_
  exact hq _ _ _ _ dX6_sets_15 (by rfl) (by rfl)
