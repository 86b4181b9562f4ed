/-! the reference: reading -/
def byT (b : Mem) (n p : Nat) : Int32 := if p < n then b 79 p else -1
def Fg (b : Mem) (n p : Nat) : Prop := ¬ byT b n p < 48 ∧ ¬ 57 < byT b n p
theorem byT_e {b m : Mem} (h : m 79 = b 79) (n p : Nat) : byT m n p = byT b n p := by unfold byT; rw [h]
theorem up2_up2 (b : Mem) (i k : Nat) (x y : Int32) : up2 (up2 b i k x) i k y = up2 b i k y := by
  funext j m
  by_cases c : j = i
  · subst c
    by_cases d : m = k
    · subst d; rw [u2s, u2s]
    · rw [u2k _ _ d, u2k _ _ d, u2k _ _ d]
  · rw [u2c _ _ c, u2c _ _ c, u2c _ _ c]
theorem up2_self {b : Mem} {i k : Nat} {x : Int32} (h : b i k = x) : b = up2 b i k x := by
  funext j m
  by_cases c : j = i
  · subst c
    by_cases d : m = k
    · subst d; rw [u2s, h]
    · rw [u2k _ _ d]
  · rw [u2c _ _ c]
def wtI (c : Int32) : Int32 := if nOf c = 0 then -1 else nI (nOf c)
def vN (b : Mem) (p : Nat) : Nat → Int32
  | 0 => 0
  | k + 1 => 10 * vN b p k + b 79 (p + k) - 48
set_option maxRecDepth 100000 in
set_option maxHeartbeats 4000000 in
theorem c_X6_byteAt {Z : Zt} {b : Mem} {n p : Nat} (ht : b 69 11 = nI n) (hn : n ≤ 120) (hp : p ≤ 200) : Con Z yX6_byteAt cX6_byteAt 2 (some .int) 0 [.ref (zad Z 69), .int (nI p)] b (some (.int (byT b n p))) (b) := by
  refine con_i (by decide) (Nat.le_of_ble_eq_true rfl) rfl (fun X hX hq => ?_)
  have hX : Ok Z X cX6_byteAt 2 RX6 0 := hX
  show G Z X b 0 [some (.ref (zad Z 69)), some (.int (nI p))] []
  refine g_iload_1 hX dX6_byteAt_0 ?_
  refine g_aload_0 hX dX6_byteAt_1 ?_
  refine gt_X6_typed hX dX6_byteAt_2 ?_
  refine g_icmp_ge hX 17 dX6_byteAt_5 (by decide) (fun c5 => ?_) (fun c5 => ?_)
  · refine g_iconst hX (-1) dX6_byteAt_17 (by decide) ?_
    exact hq _ _ _ _ dX6_byteAt_18 (by rfl) (by rw [byT, if_neg (fun z => c5 (by rw [ht]; exact nI_lt z (by omega)))])
  · have hpn : p < n := (nI_ltI (by omega) (by omega)).mp (by rw [← ht]; exact c5)
    refine g_aload_0 hX dX6_byteAt_8 ?_
    refine gt_X6_text hX dX6_byteAt_9 ?_
    refine g_iload_1 hX dX6_byteAt_12 ?_
    refine g_ialdN (k := p) hX (ar_79 Z) (by omega) (by decide) dX6_byteAt_13 ?_
    refine g_goto hX 18 dX6_byteAt_14 (by decide) ?_
    exact hq _ _ _ _ dX6_byteAt_18 (by rfl) (by rw [byT, if_pos hpn])
set_option maxRecDepth 100000 in
set_option maxHeartbeats 4000000 in
theorem c_X6_isFigure {Z : Zt} {b : Mem} {n p : Nat} (ht : b 69 11 = nI n) (hn : n ≤ 120) (hp : p ≤ 200) : Con Z yX6_isFigure cX6_isFigure 2 (some .boolean) 1 [.ref (zad Z 69), .int (nI p)] b (some (.int (bI (¬ byT b n p < 48 ∧ ¬ 57 < byT b n p)))) (b) := by
  refine con_z (by decide) (Nat.le_of_ble_eq_true rfl) rfl (bI_n _) (fun X hX hq => ?_)
  have hX : Ok Z X cX6_isFigure 2 RX6 1 := hX
  show G Z X b 0 [some (.ref (zad Z 69)), some (.int (nI p))] []
  refine g_aload_0 hX dX6_isFigure_0 ?_
  refine g_iload_1 hX dX6_isFigure_1 ?_
  refine g_cV1r hX mkX6_byteAt ml_X6_200 (c_X6_byteAt ht hn hp) (ob_69 Z _) dX6_isFigure_2 rfl (by decide) (Nat.le_of_ble_eq_true rfl) ?_
  refine g_bipush hX 48 dX6_isFigure_5 (by decide) ?_
  refine g_bipush hX 57 dX6_isFigure_7 (by decide) ?_
  refine g_cS3r hX mkX6_in ml_X6_61 (c_X6_in) dX6_isFigure_9 rfl (by decide) (Nat.le_of_ble_eq_true rfl) ?_
  exact hq _ _ _ _ dX6_isFigure_12 (by rfl) (by rfl)
set_option maxRecDepth 100000 in
set_option maxHeartbeats 4000000 in
theorem c_X6_blanks {Z : Zt} {b : Mem} {n p q : Nat} (ht : b 69 11 = nI n) (hn : n ≤ 120) (hl : b 69 14 = nI p) (hpq : p ≤ q) (hq : q ≤ 200) (hb : ∀ k, p ≤ k → k < q → byT b n k = 32) (he : ¬ byT b n q = 32) : Con Z yX6_blanks cX6_blanks 1 none 1 [.ref (zad Z 69)] b none (up2 b 69 14 (nI q)) := by
  refine con_v (by decide) (Nat.le_of_ble_eq_true rfl) rfl (fun X hX hq => ?_)
  have hX : Ok Z X cX6_blanks 1 RX6 1 := hX
  show G Z X b 0 [some (.ref (zad Z 69))] []
  refine g_loop (q - p) (fun k => up2 b 69 14 (nI (p + k))) (fun k => [some (.ref (zad Z 69))]) (up2_self hl) rfl (fun k hk0 ih0 => ?_) ?_
  · show G Z X (up2 b 69 14 (nI (p + k))) 0 ([some (.ref (zad Z 69))]) _
    refine g_aload_0 hX dX6_blanks_0 ?_
    refine g_aload_0 hX dX6_blanks_1 ?_
    refine gt_X6_look hX dX6_blanks_2 ?_
    refine g_top (nI (p + k)) (u2s _ _ _ _) ?_
    refine g_cV1r hX mkX6_byteAt ml_X6_200 (c_X6_byteAt (b := up2 b 69 14 (nI (p + k))) (n := n) (by rw [u2k _ _ (by decide)]; exact ht) hn (by omega)) (ob_69 Z _) dX6_blanks_5 rfl (by decide) (Nat.le_of_ble_eq_true rfl) ?_
    refine g_top (byT b n (p + k)) (byT_e (u2c _ _ (by decide)) _ _) ?_
    refine g_bipush hX 32 dX6_blanks_8 (by decide) ?_
    refine g_icmp_ne hX 26 dX6_blanks_10 (by decide) (fun c10 => ?_) (fun c10 => ?_)
    · exact absurd c10 (not_not_intro (hb (p + k) (by omega) (by omega)))
    · refine g_aload_0 hX dX6_blanks_13 ?_
      refine g_dup hX dX6_blanks_14 rfl ?_
      refine gt_X6_look hX dX6_blanks_15 ?_
      refine g_iconst hX 1 dX6_blanks_18 (by decide) ?_
      refine g_iadd hX dX6_blanks_19 ?_
      refine g_top (nI (p + (k + 1))) (by rw [u2s, nI_1]; rfl) ?_
      refine pt_X6_look hX dX6_blanks_20 ?_
      refine g_goto hX 0 dX6_blanks_23 (by decide) ?_
      exact g_cast ih0 (by rw [up2_up2]) rfl rfl
  · show G Z X (up2 b 69 14 (nI (p + (q - p)))) 0 ([some (.ref (zad Z 69))]) _
    refine g_aload_0 hX dX6_blanks_0 ?_
    refine g_aload_0 hX dX6_blanks_1 ?_
    refine gt_X6_look hX dX6_blanks_2 ?_
    refine g_top (nI (p + (q - p))) (u2s _ _ _ _) ?_
    refine g_cV1r hX mkX6_byteAt ml_X6_200 (c_X6_byteAt (b := up2 b 69 14 (nI (p + (q - p)))) (n := n) (by rw [u2k _ _ (by decide)]; exact ht) hn (by omega)) (ob_69 Z _) dX6_blanks_5 rfl (by decide) (Nat.le_of_ble_eq_true rfl) ?_
    refine g_top (byT b n (p + (q - p))) (byT_e (u2c _ _ (by decide)) _ _) ?_
    refine g_bipush hX 32 dX6_blanks_8 (by decide) ?_
    refine g_icmp_ne hX 26 dX6_blanks_10 (by decide) (fun c10 => ?_) (fun c10 => ?_)
    · exact hq _ _ _ dX6_blanks_26 (by rw [show p + (q - p) = q by omega])
    · exact absurd c10 (by rw [show p + (q - p) = q by omega]; exact he)
set_option maxRecDepth 100000 in
set_option maxHeartbeats 4000000 in
theorem c_X6_wants {Z : Zt} {b : Mem} {c : Int32} : Con Z yX6_wants cX6_wants 1 (some .int) 0 [.int c] b (some (.int (wtI c))) (b) := by
  refine con_i (by decide) (Nat.le_of_ble_eq_true rfl) rfl (fun X hX hq => ?_)
  have hX : Ok Z X cX6_wants 1 RX6 0 := hX
  show G Z X b 0 [some (.int c)] []
  refine g_iload_0 hX dX6_wants_0 ?_
  refine g_bipush hX 108 dX6_wants_1 (by decide) ?_
  refine g_icmp_ne hX 10 dX6_wants_3 (by decide) (fun c3 => ?_) (fun c3 => ?_)
  · refine g_iload_0 hX dX6_wants_10 ?_
    refine g_bipush hX 103 dX6_wants_11 (by decide) ?_
    refine g_icmp_ne hX 20 dX6_wants_13 (by decide) (fun c13 => ?_) (fun c13 => ?_)
    · refine g_iload_0 hX dX6_wants_20 ?_
      refine g_bipush hX 107 dX6_wants_21 (by decide) ?_
      refine g_icmp_eq hX 38 dX6_wants_23 (by decide) (fun c23 => ?_) (fun c23 => ?_)
      · refine g_iconst hX 2 dX6_wants_38 (by decide) ?_
        refine g_goto hX 43 dX6_wants_39 (by decide) ?_
        exact hq _ _ _ _ dX6_wants_43 (by rfl) (by rw [c23]; rfl)
      · refine g_iload_0 hX dX6_wants_26 ?_
        refine g_bipush hX 115 dX6_wants_27 (by decide) ?_
        refine g_icmp_eq hX 38 dX6_wants_29 (by decide) (fun c29 => ?_) (fun c29 => ?_)
        · refine g_iconst hX 2 dX6_wants_38 (by decide) ?_
          refine g_goto hX 43 dX6_wants_39 (by decide) ?_
          exact hq _ _ _ _ dX6_wants_43 (by rfl) (by rw [c29]; rfl)
        · refine g_iload_0 hX dX6_wants_32 ?_
          refine g_bipush hX 119 dX6_wants_33 (by decide) ?_
          refine g_icmp_ne hX 42 dX6_wants_35 (by decide) (fun c35 => ?_) (fun c35 => ?_)
          · refine g_iconst hX (-1) dX6_wants_42 (by decide) ?_
            exact hq _ _ _ _ dX6_wants_43 (by rfl) (by rw [wtI, if_pos (show nOf c = 0 by unfold nOf; rw [if_neg c13, if_neg c23, if_neg c3, if_neg c29, if_neg c35])])
          · refine g_iconst hX 2 dX6_wants_38 (by decide) ?_
            refine g_goto hX 43 dX6_wants_39 (by decide) ?_
            exact hq _ _ _ _ dX6_wants_43 (by rfl) (by rw [c35]; rfl)
    · refine g_iconst hX 3 dX6_wants_16 (by decide) ?_
      refine g_goto hX 43 dX6_wants_17 (by decide) ?_
      exact hq _ _ _ _ dX6_wants_43 (by rfl) (by rw [c13]; rfl)
  · refine g_iconst hX 1 dX6_wants_6 (by decide) ?_
    refine g_goto hX 43 dX6_wants_7 (by decide) ?_
    exact hq _ _ _ _ dX6_wants_43 (by rfl) (by rw [c3]; rfl)
set_option maxRecDepth 100000 in
set_option maxHeartbeats 4000000 in
theorem c_X6_number_0 {Z : Zt} {b : Mem} {n p : Nat} (ht : b 69 11 = nI n) (hn : n ≤ 120) (hp : p ≤ 200) (hl : b 69 14 = nI p) (hf : ¬ Fg b n p) : Con Z yX6_number cX6_number 3 (some .int) 2 [.ref (zad Z 69)] b (some (.int (-1))) (b) := by
  refine con_i (by decide) (Nat.le_of_ble_eq_true rfl) rfl (fun X hX hq => ?_)
  have hX : Ok Z X cX6_number 3 RX6 2 := hX
  show G Z X b 0 [some (.ref (zad Z 69)), none, none] []
  refine g_aload_0 hX dX6_number_0 ?_
  refine g_aload_0 hX dX6_number_1 ?_
  refine gt_X6_look hX dX6_number_2 ?_
  refine g_top _ hl ?_
  refine g_cV1r hX mkX6_isFigure ml_X6_206 (c_X6_isFigure ht hn hp) (ob_69 Z _) dX6_number_5 rfl (by decide) (Nat.le_of_ble_eq_true rfl) ?_
  refine g_if_ne hX 13 dX6_number_8 (by decide) (fun c8 => ?_) (fun c8 => ?_)
  · replace c8 := bI_nz.mp c8
    exact absurd c8 (hf)
  · replace c8 := bI_z.mp c8
    refine g_iconst hX (-1) dX6_number_11 (by decide) ?_
    exact hq _ _ _ _ dX6_number_12 (by rfl) (by rfl)
set_option maxRecDepth 100000 in
set_option maxHeartbeats 4000000 in
theorem c_X6_number_4 {Z : Zt} {b : Mem} {n p d : Nat} (ht : b 69 11 = nI n) (hn : n ≤ 120) (hp : p ≤ 150) (hl : b 69 14 = nI p) (hd : 1 ≤ d ∧ d ≤ 3) (hfg : ∀ k, k < d → Fg b n (p + k)) (hd3 : d = 3) (h4 : Fg b n (p + d)) : Con Z yX6_number cX6_number 3 (some .int) 2 [.ref (zad Z 69)] b (some (.int (-1))) (up2 b 69 14 (nI (p + 3))) := by
  have hfn : ∀ k, k < d → p + k < n := fun k hk => by
    rcases Nat.lt_or_ge (p + k) n with z | z
    · exact z
    · have h1 := (hfg k hk).1; unfold byT at h1; rw [if_neg (by omega)] at h1; exact absurd (by decide) h1
  refine con_i (by decide) (Nat.le_of_ble_eq_true rfl) rfl (fun X hX hq => ?_)
  have hX : Ok Z X cX6_number 3 RX6 2 := hX
  show G Z X b 0 [some (.ref (zad Z 69)), none, none] []
  refine g_aload_0 hX dX6_number_0 ?_
  refine g_aload_0 hX dX6_number_1 ?_
  refine gt_X6_look hX dX6_number_2 ?_
  refine g_top _ hl ?_
  refine g_cV1r hX mkX6_isFigure ml_X6_206 (c_X6_isFigure ht hn (by omega)) (ob_69 Z _) dX6_number_5 rfl (by decide) (Nat.le_of_ble_eq_true rfl) ?_
  refine g_if_ne hX 13 dX6_number_8 (by decide) (fun c8 => ?_) (fun c8 => ?_)
  · replace c8 := bI_nz.mp c8
    refine g_iconst hX 0 dX6_number_13 (by decide) ?_
    refine g_istore_1 hX dX6_number_14 rfl ?_
    refine g_iconst hX 0 dX6_number_15 (by decide) ?_
    refine g_istore_2 hX dX6_number_16 rfl ?_
    refine g_loop (d) (fun k => up2 b 69 14 (nI (p + k))) (fun k => [some (.ref (zad Z 69)), some (.int (vN b p k)), some (.int (nI k))]) (up2_self hl) rfl (fun k hk17 ih17 => ?_) ?_
    · show G Z X (up2 b 69 14 (nI (p + k))) 17 ([some (.ref (zad Z 69)), some (.int (vN b p k)), some (.int (nI k))]) _
      refine g_aload_0 hX dX6_number_17 ?_
      refine g_aload_0 hX dX6_number_18 ?_
      refine gt_X6_look hX dX6_number_19 ?_
      refine g_top (nI (p + k)) (u2s _ _ _ _) ?_
      refine g_cV1r hX mkX6_isFigure ml_X6_206 (c_X6_isFigure (b := up2 b 69 14 (nI (p + k))) (n := n) (by rw [u2k _ _ (by decide)]; exact ht) hn (by omega)) (ob_69 Z _) dX6_number_22 rfl (by decide) (Nat.le_of_ble_eq_true rfl) ?_
      rw [byT_e (b := b) (m := up2 b 69 14 (nI (p + k))) (u2c _ _ (by decide))]
      refine g_if_eq hX 66 dX6_number_25 (by decide) (fun c25 => ?_) (fun c25 => ?_)
      · replace c25 := bI_z.mp c25
        exact absurd c25 (not_not_intro (hfg k hk17))
      · replace c25 := bI_nz.mp c25
        refine g_iload_2 hX dX6_number_28 ?_
        refine g_iconst hX 3 dX6_number_29 (by decide) ?_
        refine g_icmp_ge hX 66 dX6_number_30 (by decide) (fun c30 => ?_) (fun c30 => ?_)
        · exact absurd c30 (not_not_intro (nI_lt (b := 3) (by omega) (by decide)))
        · refine g_bipush hX 10 dX6_number_33 (by decide) ?_
          refine g_iload_1 hX dX6_number_35 ?_
          refine g_imul hX dX6_number_36 ?_
          refine g_aload_0 hX dX6_number_37 ?_
          refine g_aload_0 hX dX6_number_38 ?_
          refine gt_X6_look hX dX6_number_39 ?_
          refine g_top (nI (p + k)) (u2s _ _ _ _) ?_
          refine g_cV1r hX mkX6_byteAt ml_X6_200 (c_X6_byteAt (b := up2 b 69 14 (nI (p + k))) (n := n) (by rw [u2k _ _ (by decide)]; exact ht) hn (by omega)) (ob_69 Z _) dX6_number_42 rfl (by decide) (Nat.le_of_ble_eq_true rfl) ?_
          refine g_top (b 79 (p + k)) (by rw [byT_e (u2c _ _ (by decide)), byT, if_pos (hfn k hk17)]) ?_
          refine g_iadd hX dX6_number_45 ?_
          refine g_bipush hX 48 dX6_number_46 (by decide) ?_
          refine g_isub hX dX6_number_48 ?_
          refine g_top (vN b p (k + 1)) rfl ?_
          refine g_istore_1 hX dX6_number_49 rfl ?_
          refine g_aload_0 hX dX6_number_50 ?_
          refine g_dup hX dX6_number_51 rfl ?_
          refine gt_X6_look hX dX6_number_52 ?_
          refine g_iconst hX 1 dX6_number_55 (by decide) ?_
          refine g_iadd hX dX6_number_56 ?_
          refine g_top (nI (p + (k + 1))) (by rw [u2s, nI_1]; rfl) ?_
          refine pt_X6_look hX dX6_number_57 ?_
          refine g_iinc_2 hX 1 dX6_number_60 (by decide) rfl ?_
          refine g_goto hX 17 dX6_number_63 (by decide) ?_
          exact g_cast ih17 (by rw [up2_up2]) (by simp only [nI_succ]) rfl
    · show G Z X (up2 b 69 14 (nI (p + (d)))) 17 ([some (.ref (zad Z 69)), some (.int (vN b p (d))), some (.int (nI (d)))]) _
      refine g_aload_0 hX dX6_number_17 ?_
      refine g_aload_0 hX dX6_number_18 ?_
      refine gt_X6_look hX dX6_number_19 ?_
      refine g_top (nI (p + d)) (u2s _ _ _ _) ?_
      refine g_cV1r hX mkX6_isFigure ml_X6_206 (c_X6_isFigure (b := up2 b 69 14 (nI (p + d))) (n := n) (by rw [u2k _ _ (by decide)]; exact ht) hn (by omega)) (ob_69 Z _) dX6_number_22 rfl (by decide) (Nat.le_of_ble_eq_true rfl) ?_
      rw [byT_e (b := b) (m := up2 b 69 14 (nI (p + d))) (u2c _ _ (by decide))]
      refine g_if_eq hX 66 dX6_number_25 (by decide) (fun c25 => ?_) (fun c25 => ?_)
      · replace c25 := bI_z.mp c25
        exact absurd c25 (not_not_intro h4)
      · replace c25 := bI_nz.mp c25
        refine g_iload_2 hX dX6_number_28 ?_
        refine g_iconst hX 3 dX6_number_29 (by decide) ?_
        refine g_icmp_ge hX 66 dX6_number_30 (by decide) (fun c30 => ?_) (fun c30 => ?_)
        · refine g_aload_0 hX dX6_number_66 ?_
          refine g_aload_0 hX dX6_number_67 ?_
          refine gt_X6_look hX dX6_number_68 ?_
          refine g_top (nI (p + d)) (u2s _ _ _ _) ?_
          refine g_cV1r hX mkX6_isFigure ml_X6_206 (c_X6_isFigure (b := up2 b 69 14 (nI (p + d))) (n := n) (by rw [u2k _ _ (by decide)]; exact ht) hn (by omega)) (ob_69 Z _) dX6_number_71 rfl (by decide) (Nat.le_of_ble_eq_true rfl) ?_
          rw [byT_e (b := b) (m := up2 b 69 14 (nI (p + d))) (u2c _ _ (by decide))]
          refine g_if_eq hX 79 dX6_number_74 (by decide) (fun c74 => ?_) (fun c74 => ?_)
          · replace c74 := bI_z.mp c74
            exact absurd c74 (not_not_intro h4)
          · replace c74 := bI_nz.mp c74
            refine g_iconst hX (-1) dX6_number_77 (by decide) ?_
            exact hq _ _ _ _ dX6_number_78 (by rw [hd3]) (by rfl)
        · exact absurd c30 (by rw [hd3]; decide)
  · replace c8 := bI_z.mp c8
    exact absurd c8 (not_not_intro (hfg 0 (by omega)))
set_option maxRecDepth 100000 in
set_option maxHeartbeats 4000000 in
theorem c_X6_number_d {Z : Zt} {b : Mem} {n p d q : Nat} (ht : b 69 11 = nI n) (hn : n ≤ 120) (hp : p ≤ 150) (hl : b 69 14 = nI p) (hd : 1 ≤ d ∧ d ≤ 3) (hfg : ∀ k, k < d → Fg b n (p + k)) (h4 : ¬ Fg b n (p + d)) (hq1 : p + d ≤ q) (hq2 : q ≤ 200) (hqb : ∀ k, p + d ≤ k → k < q → byT b n k = 32) (hqe : ¬ byT b n q = 32) : Con Z yX6_number cX6_number 3 (some .int) 2 [.ref (zad Z 69)] b (some (.int (vN b p d))) (up2 b 69 14 (nI q)) := by
  have hfn : ∀ k, k < d → p + k < n := fun k hk => by
    rcases Nat.lt_or_ge (p + k) n with z | z
    · exact z
    · have h1 := (hfg k hk).1; unfold byT at h1; rw [if_neg (by omega)] at h1; exact absurd (by decide) h1
  refine con_i (by decide) (Nat.le_of_ble_eq_true rfl) rfl (fun X hX hq => ?_)
  have hX : Ok Z X cX6_number 3 RX6 2 := hX
  show G Z X b 0 [some (.ref (zad Z 69)), none, none] []
  refine g_aload_0 hX dX6_number_0 ?_
  refine g_aload_0 hX dX6_number_1 ?_
  refine gt_X6_look hX dX6_number_2 ?_
  refine g_top _ hl ?_
  refine g_cV1r hX mkX6_isFigure ml_X6_206 (c_X6_isFigure ht hn (by omega)) (ob_69 Z _) dX6_number_5 rfl (by decide) (Nat.le_of_ble_eq_true rfl) ?_
  refine g_if_ne hX 13 dX6_number_8 (by decide) (fun c8 => ?_) (fun c8 => ?_)
  · replace c8 := bI_nz.mp c8
    refine g_iconst hX 0 dX6_number_13 (by decide) ?_
    refine g_istore_1 hX dX6_number_14 rfl ?_
    refine g_iconst hX 0 dX6_number_15 (by decide) ?_
    refine g_istore_2 hX dX6_number_16 rfl ?_
    refine g_loop (d) (fun k => up2 b 69 14 (nI (p + k))) (fun k => [some (.ref (zad Z 69)), some (.int (vN b p k)), some (.int (nI k))]) (up2_self hl) rfl (fun k hk17 ih17 => ?_) ?_
    · show G Z X (up2 b 69 14 (nI (p + k))) 17 ([some (.ref (zad Z 69)), some (.int (vN b p k)), some (.int (nI k))]) _
      refine g_aload_0 hX dX6_number_17 ?_
      refine g_aload_0 hX dX6_number_18 ?_
      refine gt_X6_look hX dX6_number_19 ?_
      refine g_top (nI (p + k)) (u2s _ _ _ _) ?_
      refine g_cV1r hX mkX6_isFigure ml_X6_206 (c_X6_isFigure (b := up2 b 69 14 (nI (p + k))) (n := n) (by rw [u2k _ _ (by decide)]; exact ht) hn (by omega)) (ob_69 Z _) dX6_number_22 rfl (by decide) (Nat.le_of_ble_eq_true rfl) ?_
      rw [byT_e (b := b) (m := up2 b 69 14 (nI (p + k))) (u2c _ _ (by decide))]
      refine g_if_eq hX 66 dX6_number_25 (by decide) (fun c25 => ?_) (fun c25 => ?_)
      · replace c25 := bI_z.mp c25
        exact absurd c25 (not_not_intro (hfg k hk17))
      · replace c25 := bI_nz.mp c25
        refine g_iload_2 hX dX6_number_28 ?_
        refine g_iconst hX 3 dX6_number_29 (by decide) ?_
        refine g_icmp_ge hX 66 dX6_number_30 (by decide) (fun c30 => ?_) (fun c30 => ?_)
        · exact absurd c30 (not_not_intro (nI_lt (b := 3) (by omega) (by decide)))
        · refine g_bipush hX 10 dX6_number_33 (by decide) ?_
          refine g_iload_1 hX dX6_number_35 ?_
          refine g_imul hX dX6_number_36 ?_
          refine g_aload_0 hX dX6_number_37 ?_
          refine g_aload_0 hX dX6_number_38 ?_
          refine gt_X6_look hX dX6_number_39 ?_
          refine g_top (nI (p + k)) (u2s _ _ _ _) ?_
          refine g_cV1r hX mkX6_byteAt ml_X6_200 (c_X6_byteAt (b := up2 b 69 14 (nI (p + k))) (n := n) (by rw [u2k _ _ (by decide)]; exact ht) hn (by omega)) (ob_69 Z _) dX6_number_42 rfl (by decide) (Nat.le_of_ble_eq_true rfl) ?_
          refine g_top (b 79 (p + k)) (by rw [byT_e (u2c _ _ (by decide)), byT, if_pos (hfn k hk17)]) ?_
          refine g_iadd hX dX6_number_45 ?_
          refine g_bipush hX 48 dX6_number_46 (by decide) ?_
          refine g_isub hX dX6_number_48 ?_
          refine g_top (vN b p (k + 1)) rfl ?_
          refine g_istore_1 hX dX6_number_49 rfl ?_
          refine g_aload_0 hX dX6_number_50 ?_
          refine g_dup hX dX6_number_51 rfl ?_
          refine gt_X6_look hX dX6_number_52 ?_
          refine g_iconst hX 1 dX6_number_55 (by decide) ?_
          refine g_iadd hX dX6_number_56 ?_
          refine g_top (nI (p + (k + 1))) (by rw [u2s, nI_1]; rfl) ?_
          refine pt_X6_look hX dX6_number_57 ?_
          refine g_iinc_2 hX 1 dX6_number_60 (by decide) rfl ?_
          refine g_goto hX 17 dX6_number_63 (by decide) ?_
          exact g_cast ih17 (by rw [up2_up2]) (by simp only [nI_succ]) rfl
    · show G Z X (up2 b 69 14 (nI (p + (d)))) 17 ([some (.ref (zad Z 69)), some (.int (vN b p (d))), some (.int (nI (d)))]) _
      refine g_aload_0 hX dX6_number_17 ?_
      refine g_aload_0 hX dX6_number_18 ?_
      refine gt_X6_look hX dX6_number_19 ?_
      refine g_top (nI (p + d)) (u2s _ _ _ _) ?_
      refine g_cV1r hX mkX6_isFigure ml_X6_206 (c_X6_isFigure (b := up2 b 69 14 (nI (p + d))) (n := n) (by rw [u2k _ _ (by decide)]; exact ht) hn (by omega)) (ob_69 Z _) dX6_number_22 rfl (by decide) (Nat.le_of_ble_eq_true rfl) ?_
      rw [byT_e (b := b) (m := up2 b 69 14 (nI (p + d))) (u2c _ _ (by decide))]
      refine g_if_eq hX 66 dX6_number_25 (by decide) (fun c25 => ?_) (fun c25 => ?_)
      · replace c25 := bI_z.mp c25
        refine g_aload_0 hX dX6_number_66 ?_
        refine g_aload_0 hX dX6_number_67 ?_
        refine gt_X6_look hX dX6_number_68 ?_
        refine g_top (nI (p + d)) (u2s _ _ _ _) ?_
        refine g_cV1r hX mkX6_isFigure ml_X6_206 (c_X6_isFigure (b := up2 b 69 14 (nI (p + d))) (n := n) (by rw [u2k _ _ (by decide)]; exact ht) hn (by omega)) (ob_69 Z _) dX6_number_71 rfl (by decide) (Nat.le_of_ble_eq_true rfl) ?_
        rw [byT_e (b := b) (m := up2 b 69 14 (nI (p + d))) (u2c _ _ (by decide))]
        refine g_if_eq hX 79 dX6_number_74 (by decide) (fun c74 => ?_) (fun c74 => ?_)
        · replace c74 := bI_z.mp c74
          refine g_aload_0 hX dX6_number_79 ?_
          refine g_cV0v hX mkX6_blanks ml_X6_209 (c_X6_blanks (b := up2 b 69 14 (nI (p + d))) (n := n) (p := p + d) (q := q) (by rw [u2k _ _ (by decide)]; exact ht) hn (u2s _ _ _ _) hq1 hq2 (fun k h1 h2 => by rw [byT_e (u2c _ _ (by decide))]; exact hqb k h1 h2) (by rw [byT_e (u2c _ _ (by decide))]; exact hqe)) (ob_69 Z _) dX6_number_80 rfl (by decide) (Nat.le_of_ble_eq_true rfl) ?_
          refine g_iload_1 hX dX6_number_83 ?_
          exact hq _ _ _ _ dX6_number_84 (up2_up2 _ _ _ _ _) (by rfl)
        · replace c74 := bI_nz.mp c74
          exact absurd c74 (h4)
      · replace c25 := bI_nz.mp c25
        exact absurd c25 (h4)
  · replace c8 := bI_z.mp c8
    exact absurd c8 (not_not_intro (hfg 0 (by omega)))
