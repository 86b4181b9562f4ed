/-! the reference: who can -/
def ly1 (b : Mem) (v : View) (t : Int32) (k : Nat) : Mem := fun j => if j = 73 then cpF (ndV v t) (b 73) 0 k else if j = 75 then cpF (fun l => nI (reachN v l)) (b 75) 0 k else b j
theorem ly1_c (b : Mem) (v : View) (t : Int32) (k : Nat) {j : Nat} (h1 : j ≠ 73) (h2 : j ≠ 75) : ly1 b v t k j = b j := by unfold ly1; rw [if_neg h1, if_neg h2]
theorem cp0 (f g : Nat → Int32) : cpF f g 0 0 = g := by funext i; exact cpF_out (by omega)
theorem cp1 (f g : Nat → Int32) (k : Nat) : upd (cpF f g 0 k) k (f k) = cpF f g 0 (k + 1) := by
  have := congrFun (cpF_s (fun _ => g) 0 f g 0 k) 0
  rw [Nat.zero_add] at this
  exact this
theorem ly1_0 (b : Mem) (v : View) (t : Int32) : b = ly1 b v t 0 := by
  funext j
  unfold ly1
  by_cases h1 : j = 73
  · rw [if_pos h1, cp0, h1]
  · rw [if_neg h1]
    by_cases h2 : j = 75
    · rw [if_pos h2, cp0, h2]
    · rw [if_neg h2]
theorem ly1_s (b : Mem) (v : View) (t : Int32) (k : Nat) : up2 (up2 (ly1 b v t k) 73 k (ndV v t k)) 75 k (nI (reachN v k)) = ly1 b v t (k + 1) := by
  funext j
  by_cases h1 : j = 73
  · subst h1
    rw [u2c _ _ (by decide)]
    exact cp1 _ _ _
  · by_cases h2 : j = 75
    · subst h2
      exact cp1 (fun l => nI (reachN v l)) _ _
    · rw [u2c _ _ h2, u2c _ _ h1, ly1_c _ _ _ _ h1 h2, ly1_c _ _ _ _ h1 h2]
def lyM (b : Mem) (t : Int32) : Mem := up1 (ly1 b (mv b) t (nl (mv b))) 74 (cpF (humpsS (mv b)) (b 74) 0 (np (mv b)))
theorem lyM_c (b : Mem) (t : Int32) {j : Nat} (h1 : j ≠ 73) (h2 : j ≠ 74) (h3 : j ≠ 75) : lyM b t j = b j := by unfold lyM; rw [u1c _ _ h2, ly1_c _ _ _ _ h1 h3]
theorem ly_v {b m : Mem} (h : m 71 = b 71) : mv m = mv b := by unfold mv; rw [h]
def fbP (v : View) (t : Int32) (k : Nat) : Prop := bitsN (fun l => decide (t < baseS v l)) k = 0
def fbB (v : View) (t : Int32) (k : Nat) : Int32 := bI (bitsN (fun l => decide (t < baseS v l)) k = 0)
theorem fbB_s (v : View) (t : Int32) (k : Nat) : (bitsN (fun l => decide (t < baseS v l)) (k + 1) = 0) ↔ (bitsN (fun l => decide (t < baseS v l)) k = 0 ∧ ¬ t < baseS v k) := by
  have := Nat.one_le_two_pow (n := k)
  simp only [bitsN, decide_eq_true_eq]
  by_cases c : t < baseS v k
  · rw [if_pos c]; simp [c]
  · rw [if_neg c]; simp [c]
set_option maxRecDepth 100000 in
set_option maxHeartbeats 4000000 in
theorem c_X6_lays {Z : Zt} {b : Mem} {t : Int32} (hV : Val (mv b))  : Con Z yX6_lays cX6_lays 4 (some .boolean) 4 [.ref (zad Z 69), .int t] b (some (.int (bI (tooN (mv b) t = 0)))) (lyM b t) := by
  have hn : b 71 0 = nI (nl (mv b)) := hV.1.1
  have hn6 := hV.1.2
  have hp : b 71 1 = nI (np (mv b)) := hV.2.1.1
  have hp6 := hV.2.1.2
  refine con_z (by decide) (Nat.le_of_ble_eq_true rfl) rfl (bI_n _) (fun X hX hq => ?_)
  have hX : Ok Z X cX6_lays 4 RX6 4 := hX
  show G Z X b 0 [some (.ref (zad Z 69)), some (.int t), none, none] []
  refine g_iconst hX 1 dX6_lays_0 (by decide) ?_
  refine g_istore_2 hX dX6_lays_1 rfl ?_
  refine g_iconst hX 0 dX6_lays_2 (by decide) ?_
  refine g_istore_3 hX dX6_lays_3 rfl ?_
  refine g_loop (nl (mv b)) (fun k => ly1 b (mv b) t k) (fun k => [some (.ref (zad Z 69)), some (.int t), some (.int (fbB (mv b) t k)), some (.int (nI k))]) (ly1_0 b (mv b) t) rfl (fun k hk4 ih4 => ?_) ?_
  · show G Z X (ly1 b (mv b) t k) 4 ([some (.ref (zad Z 69)), some (.int t), some (.int (fbB (mv b) t k)), some (.int (nI k))]) _
    have e1 : mv (ly1 b (mv b) t k) = mv b := ly_v (ly1_c _ _ _ _ (by decide) (by decide))
    have e2 : mv (up2 (ly1 b (mv b) t k) 73 k (ndV (mv b) t k)) = mv b := ly_v (by rw [u2c _ _ (by decide)]; exact ly1_c _ _ _ _ (by decide) (by decide))
    have e3 : mv (ly1 b (mv b) t (k + 1)) = mv b := ly_v (ly1_c _ _ _ _ (by decide) (by decide))
    refine g_iload_3 hX dX6_lays_4 ?_
    refine g_aload_0 hX dX6_lays_5 ?_
    refine gt_X6_now hX dX6_lays_6 ?_
    refine g_iconst hX 0 dX6_lays_9 (by decide) ?_
    refine g_ialdN (k := 0) hX (ar_71 Z) (by decide) (by decide) dX6_lays_10 ?_
    refine g_icmp_ge hX 62 dX6_lays_11 (by decide) (fun c11 => ?_) (fun c11 => ?_)
    · exact absurd c11 (not_not_intro (by rw [ly1_c _ _ _ _ (by decide) (by decide), hn]; exact nI_lt hk4 (by omega)))
    · refine g_aload_0 hX dX6_lays_14 ?_
      refine gt_X6_need hX dX6_lays_15 ?_
      refine g_iload_3 hX dX6_lays_18 ?_
      refine g_aload_0 hX dX6_lays_19 ?_
      refine g_iload_3 hX dX6_lays_20 ?_
      refine g_iload_1 hX dX6_lays_21 ?_
      refine g_cV2r hX mkX6_needBy ml_X6_135 (c_X6_needBy (b := ly1 b (mv b) t k) (by rw [e1]; exact hV) (by rw [e1]; exact hk4)) (ob_69 Z _) dX6_lays_22 rfl (by decide) (Nat.le_of_ble_eq_true rfl) ?_
      refine g_top (ndV (mv b) t k) (by rw [e1]) ?_
      refine g_iastN (k := k) hX (ar_73 Z) (by omega) (by decide) dX6_lays_25 ?_
      refine g_aload_0 hX dX6_lays_26 ?_
      refine gt_X6_may hX dX6_lays_27 ?_
      refine g_iload_3 hX dX6_lays_30 ?_
      refine g_aload_0 hX dX6_lays_31 ?_
      refine g_iload_3 hX dX6_lays_32 ?_
      refine g_cV1r hX mkX6_pocketsOf ml_X6_138 (c_X6_pocketsOf (b := up2 (ly1 b (mv b) t k) 73 k (ndV (mv b) t k)) (by rw [e2]; exact hV) (by omega)) (ob_69 Z _) dX6_lays_33 rfl (by decide) (Nat.le_of_ble_eq_true rfl) ?_
      refine g_top (nI (reachN (mv b) k)) (by rw [e2]) ?_
      refine g_iastN (k := k) hX (ar_75 Z) (by omega) (by decide) dX6_lays_36 ?_
      rw [ly1_s b (mv b) t k]
      refine g_iload_2 hX dX6_lays_37 ?_
      refine g_if_eq hX 54 dX6_lays_38 (by decide) (fun c38 => ?_) (fun c38 => ?_)
      · refine g_iconst hX 0 dX6_lays_54 (by decide) ?_
        refine g_istore_2 hX dX6_lays_55 rfl ?_
        refine g_iinc_3 hX 1 dX6_lays_56 (by decide) rfl ?_
        refine g_goto hX 4 dX6_lays_59 (by decide) ?_
        exact g_cast ih4 rfl (by simp only [nI_succ]; rw [fbB, bI_f (fun z => bI_z.mp c38 ((fbB_s _ _ _).mp z).1)]) rfl
      · refine g_aload_0 hX dX6_lays_41 ?_
        refine g_iload_3 hX dX6_lays_42 ?_
        refine g_cV1r hX mkX6_base ml_X6_126 (c_X6_base (b := ly1 b (mv b) t (k + 1)) (by rw [e3]; exact hV) (by rw [e3]; exact hk4)) (ob_69 Z _) dX6_lays_43 rfl (by decide) (Nat.le_of_ble_eq_true rfl) ?_
        refine g_top (baseS (mv b) k) (by rw [e3]) ?_
        refine g_iload_1 hX dX6_lays_46 ?_
        refine g_icmp_gt hX 54 dX6_lays_47 (by decide) (fun c47 => ?_) (fun c47 => ?_)
        · refine g_iconst hX 0 dX6_lays_54 (by decide) ?_
          refine g_istore_2 hX dX6_lays_55 rfl ?_
          refine g_iinc_3 hX 1 dX6_lays_56 (by decide) rfl ?_
          refine g_goto hX 4 dX6_lays_59 (by decide) ?_
          exact g_cast ih4 rfl (by simp only [nI_succ]; rw [fbB, bI_f (fun z => ((fbB_s _ _ _).mp z).2 c47)]) rfl
        · refine g_iconst hX 1 dX6_lays_50 (by decide) ?_
          refine g_goto hX 55 dX6_lays_51 (by decide) ?_
          refine g_istore_2 hX dX6_lays_55 rfl ?_
          refine g_iinc_3 hX 1 dX6_lays_56 (by decide) rfl ?_
          refine g_goto hX 4 dX6_lays_59 (by decide) ?_
          exact g_cast ih4 rfl (by simp only [nI_succ]; rw [fbB, bI_t ((fbB_s _ _ _).mpr ⟨bI_nz.mp c38, c47⟩)]) rfl
  · show G Z X (ly1 b (mv b) t (nl (mv b))) 4 ([some (.ref (zad Z 69)), some (.int t), some (.int (fbB (mv b) t (nl (mv b)))), some (.int (nI (nl (mv b))))]) _
    refine g_iload_3 hX dX6_lays_4 ?_
    refine g_aload_0 hX dX6_lays_5 ?_
    refine gt_X6_now hX dX6_lays_6 ?_
    refine g_iconst hX 0 dX6_lays_9 (by decide) ?_
    refine g_ialdN (k := 0) hX (ar_71 Z) (by decide) (by decide) dX6_lays_10 ?_
    refine g_icmp_ge hX 62 dX6_lays_11 (by decide) (fun c11 => ?_) (fun c11 => ?_)
    · refine g_iconst hX 0 dX6_lays_62 (by decide) ?_
      refine g_istore_3 hX dX6_lays_63 rfl ?_
      refine g_loop (np (mv b)) (fun k => up1 (ly1 b (mv b) t (nl (mv b))) 74 (cpF (humpsS (mv b)) (b 74) 0 k)) (fun k => [some (.ref (zad Z 69)), some (.int t), some (.int (fbB (mv b) t (nl (mv b)))), some (.int (nI k))]) (cpF_0 (ly1 b (mv b) t (nl (mv b))) 74 _ _) rfl (fun k hk64 ih64 => ?_) ?_
      · show G Z X (up1 (ly1 b (mv b) t (nl (mv b))) 74 (cpF (humpsS (mv b)) (b 74) 0 k)) 64 ([some (.ref (zad Z 69)), some (.int t), some (.int (fbB (mv b) t (nl (mv b)))), some (.int (nI k))]) _
        have e1 : mv (up1 (ly1 b (mv b) t (nl (mv b))) 74 (cpF (humpsS (mv b)) (b 74) 0 k)) = mv b := ly_v (by rw [u1c _ _ (by decide)]; exact ly1_c _ _ _ _ (by decide) (by decide))
        refine g_iload_3 hX dX6_lays_64 ?_
        refine g_aload_0 hX dX6_lays_65 ?_
        refine gt_X6_now hX dX6_lays_66 ?_
        refine g_iconst hX 1 dX6_lays_69 (by decide) ?_
        refine g_ialdN (k := 1) hX (ar_71 Z) (by decide) (by decide) dX6_lays_70 ?_
        refine g_icmp_ge hX 91 dX6_lays_71 (by decide) (fun c71 => ?_) (fun c71 => ?_)
        · exact absurd c71 (not_not_intro (by rw [u1c _ _ (by decide), ly1_c _ _ _ _ (by decide) (by decide), hp]; exact nI_lt hk64 (by omega)))
        · refine g_aload_0 hX dX6_lays_74 ?_
          refine gt_X6_room hX dX6_lays_75 ?_
          refine g_iload_3 hX dX6_lays_78 ?_
          refine g_aload_0 hX dX6_lays_79 ?_
          refine g_iload_3 hX dX6_lays_80 ?_
          refine g_cV1r hX mkX6_humps ml_X6_154 (c_X6_humps (b := up1 (ly1 b (mv b) t (nl (mv b))) 74 (cpF (humpsS (mv b)) (b 74) 0 k)) (by omega) (by rw [e1]; exact hV)) (ob_69 Z _) dX6_lays_81 rfl (by decide) (Nat.le_of_ble_eq_true rfl) ?_
          refine g_top (humpsS (mv b) k) (by rw [e1]) ?_
          refine g_iastN (k := k) hX (ar_74 Z) (by omega) (by decide) dX6_lays_84 ?_
          refine g_iinc_3 hX 1 dX6_lays_85 (by decide) rfl ?_
          refine g_goto hX 64 dX6_lays_88 (by decide) ?_
          exact g_cast ih64 (by have := cpF_s (ly1 b (mv b) t (nl (mv b))) 74 (humpsS (mv b)) (b 74) 0 k; rw [Nat.zero_add] at this; exact this) (by simp only [nI_succ]) rfl
      · show G Z X (up1 (ly1 b (mv b) t (nl (mv b))) 74 (cpF (humpsS (mv b)) (b 74) 0 (np (mv b)))) 64 ([some (.ref (zad Z 69)), some (.int t), some (.int (fbB (mv b) t (nl (mv b)))), some (.int (nI (np (mv b))))]) _
        refine g_iload_3 hX dX6_lays_64 ?_
        refine g_aload_0 hX dX6_lays_65 ?_
        refine gt_X6_now hX dX6_lays_66 ?_
        refine g_iconst hX 1 dX6_lays_69 (by decide) ?_
        refine g_ialdN (k := 1) hX (ar_71 Z) (by decide) (by decide) dX6_lays_70 ?_
        refine g_icmp_ge hX 91 dX6_lays_71 (by decide) (fun c71 => ?_) (fun c71 => ?_)
        · refine g_iload_2 hX dX6_lays_91 ?_
          exact hq _ _ _ _ dX6_lays_92 (by rfl) (by rfl)
        · exact absurd c71 (by rw [u1c _ _ (by decide), ly1_c _ _ _ _ (by decide) (by decide), hp]; exact Int32.lt_irrefl)
    · exact absurd c11 (by rw [ly1_c _ _ _ _ (by decide) (by decide), hn]; exact Int32.lt_irrefl)
def Nm (b : Mem) (n np : Nat) (nd : Nat → Int) (my : Nat → Nat) (rm : Nat → Int) : Prop := (b 71 0 = nI n ∧ n ≤ 6) ∧ (b 71 1 = nI np ∧ np ≤ 6) ∧ (∀ l, l < n → b 73 l = zI (nd l) ∧ b 75 l = nI (my l)) ∧ (∀ p, p < np → b 74 p = zI (rm p)) ∧ BdZ nd n ∧ BdZ rm np
theorem tb_sn {s k : Nat} (hk : k < 31) : (nI s >>> (nI k &&& 31) &&& 1 = 1) ↔ s.testBit k = true := by rw [tb_shr _ hk, tb_nI (by omega)]
theorem orN_s (my : Nat → Nat) (n s : Nat) : orN my (n + 1) s = orN my n s ||| (if s.testBit n = true then my n else 0) := rfl
set_option maxRecDepth 100000 in
set_option maxHeartbeats 4000000 in
theorem c_X6_isEnough {Z : Zt} {b : Mem} {s : Nat} {n np : Nat} {nd rm : Nat → Int} {my : Nat → Nat} (hN : Nm b n np nd my rm) : Con Z yX6_isEnough cX6_isEnough 5 (some .boolean) 0 [.ref (zad Z 69), .int (nI s)] b (some (.int (bI (0 ≤ spZ nd my n np rm s)))) (b) := by
  have hN0 := hN
  obtain ⟨⟨hn, hn6⟩, ⟨hp, hp6⟩, h3, h4, h5, h6⟩ := hN
  refine con_z (by decide) (Nat.le_of_ble_eq_true rfl) rfl (bI_n _) (fun X hX hq => ?_)
  have hX : Ok Z X cX6_isEnough 5 RX6 0 := hX
  show G Z X b 0 [some (.ref (zad Z 69)), some (.int (nI s)), none, none, none] []
  refine g_iconst hX 0 dX6_isEnough_0 (by decide) ?_
  refine g_istore_2 hX dX6_isEnough_1 rfl ?_
  refine g_iconst hX 0 dX6_isEnough_2 (by decide) ?_
  refine g_istore_3 hX dX6_isEnough_3 rfl ?_
  refine g_iconst hX 0 dX6_isEnough_4 (by decide) ?_
  refine g_istore_4 hX dX6_isEnough_5 rfl ?_
  refine g_loop (n) (fun k => b) (fun k => [some (.ref (zad Z 69)), some (.int (nI s)), some (.int (nI (orN my k s))), some (.int (zI (wZ nd s.testBit k))), some (.int (nI k))]) rfl rfl (fun k hk7 ih7 => ?_) ?_
  · show G Z X (b) 7 ([some (.ref (zad Z 69)), some (.int (nI s)), some (.int (nI (orN my k s))), some (.int (zI (wZ nd s.testBit k))), some (.int (nI k))]) _
    refine g_iload_4 hX dX6_isEnough_7 ?_
    refine g_aload_0 hX dX6_isEnough_9 ?_
    refine gt_X6_now hX dX6_isEnough_10 ?_
    refine g_iconst hX 0 dX6_isEnough_13 (by decide) ?_
    refine g_ialdN (k := 0) hX (ar_71 Z) (by decide) (by decide) dX6_isEnough_14 ?_
    refine g_icmp_ge hX 54 dX6_isEnough_15 (by decide) (fun c15 => ?_) (fun c15 => ?_)
    · exact absurd c15 (not_not_intro (by rw [hn]; exact nI_lt hk7 (by omega)))
    · refine g_iload_1 hX dX6_isEnough_18 ?_
      refine g_iload_4 hX dX6_isEnough_19 ?_
      refine g_ishr hX dX6_isEnough_21 ?_
      refine g_iconst hX 1 dX6_isEnough_22 (by decide) ?_
      refine g_iand hX dX6_isEnough_23 ?_
      refine g_iconst hX 1 dX6_isEnough_24 (by decide) ?_
      refine g_icmp_ne hX 48 dX6_isEnough_25 (by decide) (fun c25 => ?_) (fun c25 => ?_)
      · refine g_iinc_4 hX 1 dX6_isEnough_48 (by decide) rfl ?_
        refine g_goto hX 7 dX6_isEnough_51 (by decide) ?_
        exact g_cast ih7 rfl (by simp only [nI_succ]; rw [wZ_s, orN_s, if_neg (fun z => c25 ((tb_sn (by omega)).mpr z)), if_neg (fun z => c25 ((tb_sn (by omega)).mpr z)), Int.add_zero, Nat.or_zero]) rfl
      · refine g_iload_3 hX dX6_isEnough_28 ?_
        refine g_aload_0 hX dX6_isEnough_29 ?_
        refine gt_X6_need hX dX6_isEnough_30 ?_
        refine g_iload_4 hX dX6_isEnough_33 ?_
        refine g_ialdN (k := k) hX (ar_73 Z) (by omega) (by decide) dX6_isEnough_35 ?_
        refine g_iadd hX dX6_isEnough_36 ?_
        refine g_top (zI (wZ nd s.testBit (k + 1))) (by rw [(h3 k hk7).1, zI_add, wZ_s, if_pos ((tb_sn (by omega)).mp c25)]) ?_
        refine g_istore_3 hX dX6_isEnough_37 rfl ?_
        refine g_iload_2 hX dX6_isEnough_38 ?_
        refine g_aload_0 hX dX6_isEnough_39 ?_
        refine gt_X6_may hX dX6_isEnough_40 ?_
        refine g_iload_4 hX dX6_isEnough_43 ?_
        refine g_ialdN (k := k) hX (ar_75 Z) (by omega) (by decide) dX6_isEnough_45 ?_
        refine g_ior hX dX6_isEnough_46 ?_
        refine g_top (nI (orN my (k + 1) s)) (by rw [(h3 k hk7).2, nx_or, orN_s, if_pos ((tb_sn (by omega)).mp c25)]) ?_
        refine g_istore_2 hX dX6_isEnough_47 rfl ?_
        refine g_iinc_4 hX 1 dX6_isEnough_48 (by decide) rfl ?_
        refine g_goto hX 7 dX6_isEnough_51 (by decide) ?_
        exact g_cast ih7 rfl (by simp only [nI_succ]) rfl
  · show G Z X (b) 7 ([some (.ref (zad Z 69)), some (.int (nI s)), some (.int (nI (orN my (n) s))), some (.int (zI (wZ nd s.testBit (n)))), some (.int (nI (n)))]) _
    refine g_iload_4 hX dX6_isEnough_7 ?_
    refine g_aload_0 hX dX6_isEnough_9 ?_
    refine gt_X6_now hX dX6_isEnough_10 ?_
    refine g_iconst hX 0 dX6_isEnough_13 (by decide) ?_
    refine g_ialdN (k := 0) hX (ar_71 Z) (by decide) (by decide) dX6_isEnough_14 ?_
    refine g_icmp_ge hX 54 dX6_isEnough_15 (by decide) (fun c15 => ?_) (fun c15 => ?_)
    · refine g_iconst hX 0 dX6_isEnough_54 (by decide) ?_
      refine g_istore_4 hX dX6_isEnough_55 rfl ?_
      refine g_loop (np) (fun k => b) (fun k => [some (.ref (zad Z 69)), some (.int (nI s)), some (.int (nI (orN my n s))), some (.int (zI (wZ nd s.testBit n - wZ rm (orN my n s).testBit k))), some (.int (nI k))]) rfl (by rw [wZ_0, Int.sub_zero]; rfl) (fun k hk57 ih57 => ?_) ?_
      · show G Z X (b) 57 ([some (.ref (zad Z 69)), some (.int (nI s)), some (.int (nI (orN my n s))), some (.int (zI (wZ nd s.testBit n - wZ rm (orN my n s).testBit k))), some (.int (nI k))]) _
        refine g_iload_4 hX dX6_isEnough_57 ?_
        refine g_aload_0 hX dX6_isEnough_59 ?_
        refine gt_X6_now hX dX6_isEnough_60 ?_
        refine g_iconst hX 1 dX6_isEnough_63 (by decide) ?_
        refine g_ialdN (k := 1) hX (ar_71 Z) (by decide) (by decide) dX6_isEnough_64 ?_
        refine g_icmp_ge hX 98 dX6_isEnough_65 (by decide) (fun c65 => ?_) (fun c65 => ?_)
        · exact absurd c65 (not_not_intro (by rw [hp]; exact nI_lt hk57 (by omega)))
        · refine g_iload_3 hX dX6_isEnough_68 ?_
          refine g_iload_2 hX dX6_isEnough_69 ?_
          refine g_iload_4 hX dX6_isEnough_70 ?_
          refine g_ishr hX dX6_isEnough_72 ?_
          refine g_iconst hX 1 dX6_isEnough_73 (by decide) ?_
          refine g_iand hX dX6_isEnough_74 ?_
          refine g_iconst hX 1 dX6_isEnough_75 (by decide) ?_
          refine g_icmp_ne hX 89 dX6_isEnough_76 (by decide) (fun c76 => ?_) (fun c76 => ?_)
          · refine g_iconst hX 0 dX6_isEnough_89 (by decide) ?_
            refine g_isub hX dX6_isEnough_90 ?_
            refine g_top (zI (wZ nd s.testBit n - wZ rm (orN my n s).testBit (k + 1))) (by first | (rw [zI_sub, wZ_s, if_pos ((tb_sn (by omega)).mp c76)]; congr 1; omega) | (rw [wZ_s, if_neg (fun z => c76 ((tb_sn (by omega)).mpr z)), Int.add_zero, Int32.sub_zero])) ?_
            refine g_istore_3 hX dX6_isEnough_91 rfl ?_
            refine g_iinc_4 hX 1 dX6_isEnough_92 (by decide) rfl ?_
            refine g_goto hX 57 dX6_isEnough_95 (by decide) ?_
            exact g_cast ih57 rfl (by simp only [nI_succ]) rfl
          · refine g_aload_0 hX dX6_isEnough_79 ?_
            refine gt_X6_room hX dX6_isEnough_80 ?_
            refine g_iload_4 hX dX6_isEnough_83 ?_
            refine g_ialdN (k := k) hX (ar_74 Z) (by omega) (by decide) dX6_isEnough_85 ?_
            refine g_top (zI (rm k)) (h4 k hk57) ?_
            refine g_goto hX 90 dX6_isEnough_86 (by decide) ?_
            refine g_isub hX dX6_isEnough_90 ?_
            refine g_top (zI (wZ nd s.testBit n - wZ rm (orN my n s).testBit (k + 1))) (by first | (rw [zI_sub, wZ_s, if_pos ((tb_sn (by omega)).mp c76)]; congr 1; omega) | (rw [wZ_s, if_neg (fun z => c76 ((tb_sn (by omega)).mpr z)), Int.add_zero, Int32.sub_zero])) ?_
            refine g_istore_3 hX dX6_isEnough_91 rfl ?_
            refine g_iinc_4 hX 1 dX6_isEnough_92 (by decide) rfl ?_
            refine g_goto hX 57 dX6_isEnough_95 (by decide) ?_
            exact g_cast ih57 rfl (by simp only [nI_succ]) rfl
      · show G Z X (b) 57 ([some (.ref (zad Z 69)), some (.int (nI s)), some (.int (nI (orN my n s))), some (.int (zI (wZ nd s.testBit n - wZ rm (orN my n s).testBit (np)))), some (.int (nI (np)))]) _
        refine g_iload_4 hX dX6_isEnough_57 ?_
        refine g_aload_0 hX dX6_isEnough_59 ?_
        refine gt_X6_now hX dX6_isEnough_60 ?_
        refine g_iconst hX 1 dX6_isEnough_63 (by decide) ?_
        refine g_ialdN (k := 1) hX (ar_71 Z) (by decide) (by decide) dX6_isEnough_64 ?_
        refine g_icmp_ge hX 98 dX6_isEnough_65 (by decide) (fun c65 => ?_) (fun c65 => ?_)
        · have hb := spZ_b (my := my) s hn6 hp6 h5 h6
          have hgt : 0 < zI (wZ nd s.testBit n - wZ rm (orN my n s).testBit np) ↔ ¬ 0 ≤ spZ nd my n np rm s := by unfold spZ at hb ⊢; rw [← zI_0, zI_lt (by omega) (by omega)]; omega
          refine g_iload_3 hX dX6_isEnough_98 ?_
          refine g_if_gt hX 106 dX6_isEnough_99 (by decide) (fun c99 => ?_) (fun c99 => ?_)
          · refine g_iconst hX 0 dX6_isEnough_106 (by decide) ?_
            exact hq _ _ _ _ dX6_isEnough_107 (by rfl) ((bI_f (hgt.mp c99)).symm)
          · refine g_iconst hX 1 dX6_isEnough_102 (by decide) ?_
            refine g_goto hX 107 dX6_isEnough_103 (by decide) ?_
            exact hq _ _ _ _ dX6_isEnough_107 (by rfl) ((bI_t (Decidable.not_not.mp (fun z => c99 (hgt.mpr z)))).symm)
        · exact absurd c65 (by rw [hp]; exact Int32.lt_irrefl)
    · exact absurd c15 (by rw [hn]; exact Int32.lt_irrefl)
theorem aeB_mono {f : Nat → Int} {k N : Nat} (h : k ≤ N) (hN : aeB f N = true) : aeB f k = true := (aeB_iff _ _).mpr (fun s h1 h2 => (aeB_iff _ _).mp hN s h1 (by omega))
def aeI (f : Nat → Int) (k : Nat) : Int32 := bI (aeB f k = true)
set_option maxRecDepth 100000 in
set_option maxHeartbeats 4000000 in
theorem c_X6_areEnough {Z : Zt} {b : Mem} {n np : Nat} {nd rm : Nat → Int} {my : Nat → Nat} (hN : Nm b n np nd my rm) : Con Z yX6_areEnough cX6_areEnough 3 (some .boolean) 1 [.ref (zad Z 69)] b (some (.int (bI (aeB (spZ nd my n np rm) (2 ^ n - 1) = true)))) (b) := by
  have hN0 := hN
  obtain ⟨⟨hn, hn6⟩, ⟨hp, hp6⟩, h3, h4, h5, h6⟩ := hN
  have h64 := pow64 hn6
  have h1p := pow1 n
  refine con_z (by decide) (Nat.le_of_ble_eq_true rfl) rfl (bI_n _) (fun X hX hq => ?_)
  have hX : Ok Z X cX6_areEnough 3 RX6 1 := hX
  show G Z X b 0 [some (.ref (zad Z 69)), none, none] []
  refine g_iconst hX 1 dX6_areEnough_0 (by decide) ?_
  refine g_istore_1 hX dX6_areEnough_1 rfl ?_
  refine g_iconst hX 1 dX6_areEnough_2 (by decide) ?_
  refine g_istore_2 hX dX6_areEnough_3 rfl ?_
  refine g_loop (2 ^ n - 1) (fun k => b) (fun k => [some (.ref (zad Z 69)), some (.int (aeI (spZ nd my n np rm) k)), some (.int (nI (k + 1)))]) rfl rfl (fun k hk4 ih4 => ?_) ?_
  · show G Z X (b) 4 ([some (.ref (zad Z 69)), some (.int (aeI (spZ nd my n np rm) k)), some (.int (nI (k + 1)))]) _
    refine g_iload_2 hX dX6_areEnough_4 ?_
    refine g_iconst hX 1 dX6_areEnough_5 (by decide) ?_
    refine g_aload_0 hX dX6_areEnough_6 ?_
    refine gt_X6_now hX dX6_areEnough_7 ?_
    refine g_iconst hX 0 dX6_areEnough_10 (by decide) ?_
    refine g_ialdN (k := 0) hX (ar_71 Z) (by decide) (by decide) dX6_areEnough_11 ?_
    refine g_ishl hX dX6_areEnough_12 ?_
    refine g_top (nI (2 ^ n)) (by rw [hn, one_shl (by omega)]) ?_
    refine g_icmp_ge hX 32 dX6_areEnough_13 (by decide) (fun c13 => ?_) (fun c13 => ?_)
    · exact absurd c13 (not_not_intro (nI_lt (by omega) (by omega)))
    · refine g_iload_1 hX dX6_areEnough_16 ?_
      refine g_if_eq hX 32 dX6_areEnough_17 (by decide) (fun c17 => ?_) (fun c17 => ?_)
      · refine g_iload_1 hX dX6_areEnough_32 ?_
        exact hq _ _ _ _ dX6_areEnough_33 (by rfl) ((c17.trans (bI_f (fun z => bI_z.mp c17 (aeB_mono (by omega) z))).symm))
      · refine g_aload_0 hX dX6_areEnough_20 ?_
        refine g_iload_2 hX dX6_areEnough_21 ?_
        refine g_cV1r hX mkX6_isEnough ml_X6_157 (c_X6_isEnough hN0) (ob_69 Z _) dX6_areEnough_22 rfl (by decide) (Nat.le_of_ble_eq_true rfl) ?_
        refine g_istore_1 hX dX6_areEnough_25 rfl ?_
        refine g_iinc_2 hX 1 dX6_areEnough_26 (by decide) rfl ?_
        refine g_goto hX 4 dX6_areEnough_29 (by decide) ?_
        exact g_cast ih4 rfl (by simp only [nI_succ]; rw [aeI, bI_iff (show 0 ≤ spZ nd my n np rm (k + 1) ↔ aeB (spZ nd my n np rm) (k + 1) = true by simp only [aeB, Bool.and_eq_true, decide_eq_true_eq]; exact ⟨fun z => ⟨bI_nz.mp c17, z⟩, fun z => z.2⟩)]) rfl
  · show G Z X (b) 4 ([some (.ref (zad Z 69)), some (.int (aeI (spZ nd my n np rm) (2 ^ n - 1))), some (.int (nI ((2 ^ n - 1) + 1)))]) _
    refine g_iload_2 hX dX6_areEnough_4 ?_
    refine g_iconst hX 1 dX6_areEnough_5 (by decide) ?_
    refine g_aload_0 hX dX6_areEnough_6 ?_
    refine gt_X6_now hX dX6_areEnough_7 ?_
    refine g_iconst hX 0 dX6_areEnough_10 (by decide) ?_
    refine g_ialdN (k := 0) hX (ar_71 Z) (by decide) (by decide) dX6_areEnough_11 ?_
    refine g_ishl hX dX6_areEnough_12 ?_
    refine g_top (nI (2 ^ n)) (by rw [hn, one_shl (by omega)]) ?_
    refine g_icmp_ge hX 32 dX6_areEnough_13 (by decide) (fun c13 => ?_) (fun c13 => ?_)
    · refine g_iload_1 hX dX6_areEnough_32 ?_
      exact hq _ _ _ _ dX6_areEnough_33 (by rfl) (by rfl)
    · exact absurd c13 (by rw [Nat.sub_add_cancel h1p]; exact Int32.lt_irrefl)
def nZ (v : View) (t : Int32) : Nat → Int := fun i => (ndV v t i).toInt
def rZ (v : View) : Nat → Int := fun i => (humpsS v i).toInt
theorem Val.nZ_b {v : View} (h : Val v) {T : Nat} (hT : T ≤ 1000) : BdZ (nZ v (nI T)) (nl v) := fun i hi => by have := h.nd_b hi hT; unfold nZ; omega
theorem Val.rZ_b {v : View} (h : Val v) : BdZ (rZ v) (np v) := fun i hi => by have := h.hp_b hi; unfold rZ; omega
theorem lyM_73 (b : Mem) (t : Int32) {l : Nat} (h : l < nl (mv b)) : lyM b t 73 l = ndV (mv b) t l := by
  have := cpF_in (f := ndV (mv b) t) (g := b 73) (o := 0) h
  rw [Nat.zero_add] at this
  exact this
theorem lyM_75 (b : Mem) (t : Int32) {l : Nat} (h : l < nl (mv b)) : lyM b t 75 l = nI (reachN (mv b) l) := by
  have := cpF_in (f := fun l => nI (reachN (mv b) l)) (g := b 75) (o := 0) h
  rw [Nat.zero_add] at this
  exact this
theorem lyM_74 (b : Mem) (t : Int32) {p : Nat} (h : p < np (mv b)) : lyM b t 74 p = humpsS (mv b) p := by
  have := cpF_in (f := humpsS (mv b)) (g := b 74) (o := 0) h
  rw [Nat.zero_add] at this
  exact this
theorem lyM_nm {b : Mem} (hV : Val (mv b)) {T : Nat} (hT : T ≤ 1000) : Nm (lyM b (nI T)) (nl (mv b)) (np (mv b)) (nZ (mv b) (nI T)) (reachN (mv b)) (rZ (mv b)) := by
  refine ⟨⟨?_, hV.1.2⟩, ⟨?_, hV.2.1.2⟩, fun l hl => ⟨?_, lyM_75 b _ hl⟩, fun p hp => ?_, hV.nZ_b hT, hV.rZ_b⟩
  · rw [lyM_c _ _ (by decide) (by decide) (by decide)]; exact hV.1.1
  · rw [lyM_c _ _ (by decide) (by decide) (by decide)]; exact hV.2.1.1
  · rw [lyM_73 b _ hl]; exact zI_of _
  · rw [lyM_74 b _ hp]; exact zI_of _
theorem lyM_mg (b : Mem) (t : Int32) : MG b 0 (lyM b t) := MG.same (fun j hj => lyM_c _ _ (by omega) (by omega) (by omega))
theorem bl_ae {v : View} (hV : Val v) {T : Nat} (hT : T ≤ 1000) : blN v (nI T) = 0 ↔ (tooN v (nI T) = 0 ∧ aeB (spZ (nZ v (nI T)) (reachN v) (nl v) (np v) (rZ v)) (2 ^ nl v - 1) = true) := by
  have k : crV v (nI T) = 0 ↔ aeB (spZ (nZ v (nI T)) (reachN v) (nl v) (np v) (rZ v)) (2 ^ nl v - 1) = true := cr_ae hV.1.2 hV.2.1.2 (hV.nZ_b hT) hV.rZ_b
  rw [← k]
  unfold blN
  by_cases c : tooN v (nI T) = 0
  · rw [if_pos c]; simp [c]
  · rw [if_neg c]; simp [c]
theorem Val.longest {v : View} (h : Val v) : ∃ L, longestS v = nI L ∧ L ≤ 480 := by
  unfold longestS
  have key : ∀ k, k ≤ nl v → ∃ L, maxI (baseS v) k = nI L ∧ L ≤ 480 := by
    intro k
    induction k with
    | zero => intro _; exact ⟨0, rfl, by omega⟩
    | succ k ih =>
      intro hk
      obtain ⟨L, e, hL⟩ := ih (by omega)
      obtain ⟨B, e2, hB⟩ := h.base (l := k) (by omega)
      simp only [maxI]
      by_cases c : maxI (baseS v) k < baseS v k
      · rw [if_pos c]; exact ⟨B, e2, hB⟩
      · rw [if_neg c]; exact ⟨L, e, hL⟩
  exact key _ (Nat.le_refl _)
theorem Val.target {v : View} (h : Val v) : ∃ T, v 5 4 0 = nI T ∧ T ≤ 999 := by
  obtain ⟨x, e, _, h2⟩ := h.set (k := 4) (by decide) (lo := 0) (hi := 999) rfl rfl (by decide)
  exact ⟨x, e, h2⟩
set_option maxRecDepth 100000 in
set_option maxHeartbeats 4000000 in
theorem c_X6_allCan {Z : Zt} {b : Mem} {T : Nat} (hV : Val (mv b)) (hT : T ≤ 1000) : Con Z yX6_allCan cX6_allCan 2 (some .boolean) 5 [.ref (zad Z 69), .int (nI T)] b (some (.int (bI (blN (mv b) (nI T) = 0)))) (lyM b (nI T)) := by
  refine con_z (by decide) (Nat.le_of_ble_eq_true rfl) rfl (bI_n _) (fun X hX hq => ?_)
  have hX : Ok Z X cX6_allCan 2 RX6 5 := hX
  show G Z X b 0 [some (.ref (zad Z 69)), some (.int (nI T))] []
  refine g_aload_0 hX dX6_allCan_0 ?_
  refine g_iload_1 hX dX6_allCan_1 ?_
  refine g_cV1r hX mkX6_lays ml_X6_160 (c_X6_lays hV) (ob_69 Z _) dX6_allCan_2 rfl (by decide) (Nat.le_of_ble_eq_true rfl) ?_
  refine g_if_eq hX 19 dX6_allCan_5 (by decide) (fun c5 => ?_) (fun c5 => ?_)
  · replace c5 := bI_z.mp c5
    refine g_iconst hX 0 dX6_allCan_19 (by decide) ?_
    exact hq _ _ _ _ dX6_allCan_20 (by rfl) ((bI_f (fun z => c5 ((bl_ae hV hT).mp z).1)).symm)
  · replace c5 := bI_nz.mp c5
    refine g_aload_0 hX dX6_allCan_8 ?_
    refine g_cV0r hX mkX6_areEnough ml_X6_163 (c_X6_areEnough (lyM_nm hV hT)) (ob_69 Z _) dX6_allCan_9 rfl (by decide) (Nat.le_of_ble_eq_true rfl) ?_
    refine g_if_eq hX 19 dX6_allCan_12 (by decide) (fun c12 => ?_) (fun c12 => ?_)
    · replace c12 := bI_z.mp c12
      refine g_iconst hX 0 dX6_allCan_19 (by decide) ?_
      exact hq _ _ _ _ dX6_allCan_20 (by rfl) ((bI_f (fun z => c12 ((bl_ae hV hT).mp z).2)).symm)
    · replace c12 := bI_nz.mp c12
      refine g_iconst hX 1 dX6_allCan_15 (by decide) ?_
      refine g_goto hX 20 dX6_allCan_16 (by decide) ?_
      exact hq _ _ _ _ dX6_allCan_20 (by rfl) ((bI_t ((bl_ae hV hT).mpr ⟨c5, c12⟩)).symm)
set_option maxRecDepth 100000 in
set_option maxHeartbeats 4000000 in
theorem c_X6_allCanNow {Z : Zt} {b : Mem} (hV : Val (mv b))  : Con Z yX6_allCanNow cX6_allCanNow 1 (some .boolean) 6 [.ref (zad Z 69)] b (some (.int (bI (blN (mv b) (mv b 5 4 0) = 0)))) (lyM b (mv b 5 4 0)) := by
  obtain ⟨T, eT, hT⟩ := hV.target
  have eT2 : b 71 6 = nI T := eT
  rw [eT]
  refine con_z (by decide) (Nat.le_of_ble_eq_true rfl) rfl (bI_n _) (fun X hX hq => ?_)
  have hX : Ok Z X cX6_allCanNow 1 RX6 6 := hX
  show G Z X b 0 [some (.ref (zad Z 69))] []
  refine g_aload_0 hX dX6_allCanNow_0 ?_
  refine g_aload_0 hX dX6_allCanNow_1 ?_
  refine gt_X6_now hX dX6_allCanNow_2 ?_
  refine g_bipush hX 6 dX6_allCanNow_5 (by decide) ?_
  refine g_ialdN (k := 6) hX (ar_71 Z) (by decide) (by decide) dX6_allCanNow_7 ?_
  refine g_top (nI T) eT2 ?_
  refine g_cV1r hX mkX6_allCan ml_X6_167 (c_X6_allCan hV (by omega)) (ob_69 Z _) dX6_allCanNow_8 rfl (by decide) (Nat.le_of_ble_eq_true rfl) ?_
  exact hq _ _ _ _ dX6_allCanNow_11 (by rfl) (by rfl)
set_option maxRecDepth 100000 in
set_option maxHeartbeats 4000000 in
theorem c_X6_can {Z : Zt} {b : Mem} {t : Int32} (hV : Val (mv b))  : ConE Z yX6_can cX6_can 2 (some .int) 6 [.ref (zad Z 69), .int t] b (pI (fun x b' => x = caR (mv b) t ∧ MG b (caC t) b')) := by
  refine conE_i (by decide) (Nat.le_of_ble_eq_true rfl) rfl (fun X hX hq => ?_)
  have hX : Ok Z X cX6_can 2 RX6 6 := hX
  show G Z X b 0 [some (.ref (zad Z 69)), some (.int t)] []
  refine g_iload_1 hX dX6_can_0 ?_
  refine g_iconst hX 0 dX6_can_1 (by decide) ?_
  refine g_sipush hX 999 dX6_can_2 (by decide) ?_
  refine g_cS3r hX mkX6_in ml_X6_61 (c_X6_in) dX6_can_5 rfl (by decide) (Nat.le_of_ble_eq_true rfl) ?_
  refine g_if_eq hX 27 dX6_can_8 (by decide) (fun c8 => ?_) (fun c8 => ?_)
  · replace c8 := bI_z.mp c8
    refine g_aload_0 hX dX6_can_27 ?_
    refine g_cV0r hX mkX6_bad ml_X6_43 (c_X6_bad) (ob_69 Z _) dX6_can_28 rfl (by decide) (Nat.le_of_ble_eq_true rfl) ?_
    exact hq _ _ _ _ dX6_can_31 (⟨by rw [caR, cl_f c8], by rw [caC, cl_f c8]; exact MG.bad b⟩)
  · replace c8 := bI_nz.mp c8
    obtain ⟨T, hT, rfl⟩ := in_of6 (n := 999) c8.1 c8.2 (by decide)
    refine g_aload_0 hX dX6_can_11 ?_
    refine g_iload_1 hX dX6_can_12 ?_
    refine g_cV1r hX mkX6_allCan ml_X6_167 (c_X6_allCan hV (by omega)) (ob_69 Z _) dX6_can_13 rfl (by decide) (Nat.le_of_ble_eq_true rfl) ?_
    refine g_if_eq hX 23 dX6_can_16 (by decide) (fun c16 => ?_) (fun c16 => ?_)
    · replace c16 := bI_z.mp c16
      refine g_iconst hX 0 dX6_can_23 (by decide) ?_
      refine g_goto hX 31 dX6_can_24 (by decide) ?_
      exact hq _ _ _ _ dX6_can_31 (⟨by rw [caR, cl_t c8, bI_f c16], by rw [caC, cl_t c8]; exact lyM_mg b _⟩)
    · replace c16 := bI_nz.mp c16
      refine g_iconst hX 1 dX6_can_19 (by decide) ?_
      refine g_goto hX 31 dX6_can_20 (by decide) ?_
      exact hq _ _ _ _ dX6_can_31 (⟨by rw [caR, cl_t c8, bI_t c16], by rw [caC, cl_t c8]; exact lyM_mg b _⟩)
set_option maxRecDepth 100000 in
set_option maxHeartbeats 4000000 in
theorem c_X6_least {Z : Zt} {b : Mem} (hV : Val (mv b))  : ConE Z yX6_least cX6_least 1 (some .int) 6 [.ref (zad Z 69)] b (pI (fun x b' => x = lsR (mv b) ∧ MG b 0 b')) := by
  obtain ⟨L, eL, hL⟩ := hV.longest
  refine conE_i (by decide) (Nat.le_of_ble_eq_true rfl) rfl (fun X hX hq => ?_)
  have hX : Ok Z X cX6_least 1 RX6 6 := hX
  show G Z X b 0 [some (.ref (zad Z 69))] []
  refine g_aload_0 hX dX6_least_0 ?_
  refine g_aload_0 hX dX6_least_1 ?_
  refine g_cV0r hX mkX6_longest ml_X6_170 (c_X6_longest hV) (ob_69 Z _) dX6_least_2 rfl (by decide) (Nat.le_of_ble_eq_true rfl) ?_
  refine g_top (nI L) eL ?_
  refine g_cV1r hX mkX6_allCan ml_X6_167 (c_X6_allCan hV (by omega)) (ob_69 Z _) dX6_least_5 rfl (by decide) (Nat.le_of_ble_eq_true rfl) ?_
  refine g_if_eq hX 18 dX6_least_8 (by decide) (fun c8 => ?_) (fun c8 => ?_)
  · replace c8 := bI_z.mp c8
    refine g_iconst hX (-1) dX6_least_18 (by decide) ?_
    exact hq _ _ _ _ dX6_least_19 (⟨by rw [lsR, eL, if_neg c8], lyM_mg b _⟩)
  · replace c8 := bI_nz.mp c8
    refine g_aload_0 hX dX6_least_11 ?_
    refine g_cV0r hX mkX6_longest ml_X6_170 (c_X6_longest (b := lyM b (nI L)) (by rw [(lyM_mg b (nI L)).v]; exact hV)) (ob_69 Z _) dX6_least_12 rfl (by decide) (Nat.le_of_ble_eq_true rfl) ?_
    refine g_top (longestS (mv b)) (by rw [(lyM_mg b (nI L)).v]) ?_
    refine g_goto hX 19 dX6_least_15 (by decide) ?_
    exact hq _ _ _ _ dX6_least_19 (⟨by rw [lsR, if_pos (by rw [eL]; exact c8)], lyM_mg b _⟩)
set_option maxRecDepth 100000 in
set_option maxHeartbeats 4000000 in
theorem c_X6_length {Z : Zt} {b : Mem} {l : Int32} (hV : Val (mv b))  : ConE Z yX6_length cX6_length 2 (some .int) 7 [.ref (zad Z 69), .int l] b (pI (fun x b' => x = leR (mv b) l ∧ MG b (leC (mv b) l) b')) := by
  have hn : b 71 0 = nI (nl (mv b)) := hV.1.1
  have hn6 := hV.1.2
  have eM := (lyM_mg b (mv b 5 4 0)).v
  refine conE_i (by decide) (Nat.le_of_ble_eq_true rfl) rfl (fun X hX hq => ?_)
  have hX : Ok Z X cX6_length 2 RX6 7 := hX
  show G Z X b 0 [some (.ref (zad Z 69)), some (.int l)] []
  refine g_aload_0 hX dX6_length_0 ?_
  refine g_iload_1 hX dX6_length_1 ?_
  refine g_cV1r hX mkX6_isLine ml_X6_65 (c_X6_isLine hV) (ob_69 Z _) dX6_length_2 rfl (by decide) (Nat.le_of_ble_eq_true rfl) ?_
  refine g_if_ne hX 13 dX6_length_5 (by decide) (fun c5 => ?_) (fun c5 => ?_)
  · replace c5 := bI_nz.mp c5
    obtain ⟨j, hj, rfl⟩ := in_of c5.1 (by have := c5.2; rw [hn] at this; exact this) (by omega)
    have hjc : (nI j).toNatClampNeg = j := nI_clamp (by omega)
    have hj6 := hV.l6 hj
    refine g_aload_0 hX dX6_length_13 ?_
    refine g_cV0r hX mkX6_allCanNow ml_X6_176 (c_X6_allCanNow hV) (ob_69 Z _) dX6_length_14 rfl (by decide) (Nat.le_of_ble_eq_true rfl) ?_
    refine g_if_eq hX 41 dX6_length_17 (by decide) (fun c17 => ?_) (fun c17 => ?_)
    · replace c17 := bI_z.mp c17
      refine g_aload_0 hX dX6_length_41 ?_
      refine g_cV0r hX mkX6_no ml_X6_47 (c_X6_no) (ob_69 Z _) dX6_length_42 rfl (by decide) (Nat.le_of_ble_eq_true rfl) ?_
      exact hq _ _ _ _ dX6_length_45 (⟨by rw [leR, cl_t (show okL (mv b) (nI j) from c5), hjc, if_neg c17], by rw [leC, cl_t (show okL (mv b) (nI j) from c5), if_neg c17]; exact (lyM_mg b _).tr (MG.no _)⟩)
    · replace c17 := bI_nz.mp c17
      refine g_aload_0 hX dX6_length_20 ?_
      refine g_iload_1 hX dX6_length_21 ?_
      refine g_cV1r hX mkX6_base ml_X6_126 (c_X6_base (b := lyM b (mv b 5 4 0)) (by rw [eM]; exact hV) (by rw [eM]; exact hj)) (ob_69 Z _) dX6_length_22 rfl (by decide) (Nat.le_of_ble_eq_true rfl) ?_
      refine g_top (baseS (mv b) j) (by rw [eM]) ?_
      refine g_aload_0 hX dX6_length_25 ?_
      refine g_iload_1 hX dX6_length_26 ?_
      refine g_aload_0 hX dX6_length_27 ?_
      refine gt_X6_now hX dX6_length_28 ?_
      refine g_bipush hX 6 dX6_length_31 (by decide) ?_
      refine g_ialdN (k := 6) hX (ar_71 Z) (by decide) (by decide) dX6_length_33 ?_
      refine g_top (mv b 5 4 0) (by rw [lyM_c _ _ (by decide) (by decide) (by decide)]; rfl) ?_
      refine g_cV2r hX mkX6_lack ml_X6_129 (c_X6_lack (b := lyM b (mv b 5 4 0)) (by rw [eM]; exact hV) (by rw [eM]; exact hj)) (ob_69 Z _) dX6_length_34 rfl (by decide) (Nat.le_of_ble_eq_true rfl) ?_
      refine g_top (lackS (mv b) (baseS (mv b) j) (mv b 5 4 0)) (by rw [eM]) ?_
      refine g_iadd hX dX6_length_37 ?_
      refine g_goto hX 45 dX6_length_38 (by decide) ?_
      exact hq _ _ _ _ dX6_length_45 (⟨by rw [leR, cl_t (show okL (mv b) (nI j) from c5), hjc, if_pos c17], by rw [leC, cl_t (show okL (mv b) (nI j) from c5), if_pos c17]; exact lyM_mg b _⟩)
  · replace c5 := bI_z.mp c5
    refine g_aload_0 hX dX6_length_8 ?_
    refine g_cV0r hX mkX6_bad ml_X6_43 (c_X6_bad) (ob_69 Z _) dX6_length_9 rfl (by decide) (Nat.le_of_ble_eq_true rfl) ?_
    exact hq _ _ _ _ dX6_length_12 (⟨by rw [leR, cl_f (show ¬ okL (mv b) l from c5)], by rw [leC, cl_f (show ¬ okL (mv b) l from c5)]; exact MG.bad b⟩)
