/-! the reference: typing, what is told, the digest -/
def mtyR (b : Mem) (c : Int32) : Int32 := if ¬ c < 0 ∧ ¬ 127 < c then (if b 69 11 < 120 then b 69 11 + 1 else -4) else -2
def mtyM (b : Mem) (n : Nat) (c : Int32) : Mem := if ¬ c < 0 ∧ ¬ 127 < c then (if b 69 11 < 120 then up2 (up2 b 79 n c) 69 11 (b 69 11 + 1) else up2 b 70 2 (b 70 2 + 1)) else up2 b 70 0 (b 70 0 + 1)
set_option maxRecDepth 100000 in
set_option maxHeartbeats 4000000 in
theorem c_X6_type {Z : Zt} {b : Mem} {c : Int32} {n : Nat} (ht : b 69 11 = nI n) (hn : n ≤ 120) : Con Z yX6_type cX6_type 2 (some .int) 1 [.ref (zad Z 69), .int c] b (some (.int (mtyR b c))) (mtyM b n c) := by
  have h6 : b 69 11 < 120 ↔ ¬ b 69 11 = 120 := by rw [ht]; exact nI_ne_top (m := 120) hn (by decide)
  refine con_i (by decide) (Nat.le_of_ble_eq_true rfl) rfl (fun X hX hq => ?_)
  have hX : Ok Z X cX6_type 2 RX6 1 := hX
  show G Z X b 0 [some (.ref (zad Z 69)), some (.int c)] []
  refine g_iload_1 hX dX6_type_0 ?_
  refine g_iconst hX 0 dX6_type_1 (by decide) ?_
  refine g_bipush hX 127 dX6_type_2 (by decide) ?_
  refine g_cS3r hX mkX6_in ml_X6_61 (c_X6_in) dX6_type_4 rfl (by decide) (Nat.le_of_ble_eq_true rfl) ?_
  refine g_if_ne hX 15 dX6_type_7 (by decide) (fun c7 => ?_) (fun c7 => ?_)
  · replace c7 := bI_nz.mp c7
    refine g_aload_0 hX dX6_type_15 ?_
    refine gt_X6_typed hX dX6_type_16 ?_
    refine g_bipush hX 120 dX6_type_19 (by decide) ?_
    refine g_icmp_ne hX 29 dX6_type_21 (by decide) (fun c21 => ?_) (fun c21 => ?_)
    · have hn2 : n < 120 := (nI_ltI (by omega) (by decide)).mp (by rw [← ht]; exact h6.mpr c21)
      refine g_aload_0 hX dX6_type_29 ?_
      refine gt_X6_text hX dX6_type_30 ?_
      refine g_aload_0 hX dX6_type_33 ?_
      refine gt_X6_typed hX dX6_type_34 ?_
      refine g_top _ ht ?_
      refine g_iload_1 hX dX6_type_37 ?_
      refine g_iastN (k := n) hX (ar_79 Z) (hn2) (by decide) dX6_type_38 ?_
      refine g_aload_0 hX dX6_type_39 ?_
      refine g_dup hX dX6_type_40 rfl ?_
      refine gt_X6_typed hX dX6_type_41 ?_
      refine g_top (b 69 11) (by rw [u2c _ _ (by decide)]) ?_
      refine g_iconst hX 1 dX6_type_44 (by decide) ?_
      refine g_iadd hX dX6_type_45 ?_
      refine pt_X6_typed hX dX6_type_46 ?_
      refine g_aload_0 hX dX6_type_49 ?_
      refine gt_X6_typed hX dX6_type_50 ?_
      refine g_top (b 69 11 + 1) (u2s _ _ _ _) ?_
      exact hq _ _ _ _ dX6_type_53 (by rw [mtyM, if_pos c7, if_pos (h6.mpr c21)]) (by rw [mtyR, if_pos c7, if_pos (h6.mpr c21)])
    · refine g_aload_0 hX dX6_type_24 ?_
      refine g_cV0r hX mkX6_full ml_X6_50 (c_X6_full) (ob_69 Z _) dX6_type_25 rfl (by decide) (Nat.le_of_ble_eq_true rfl) ?_
      exact hq _ _ _ _ dX6_type_28 (by rw [mtyM, if_pos c7, if_neg (fun z => (h6.mp z) c21)]) (by rw [mtyR, if_pos c7, if_neg (fun z => (h6.mp z) c21)])
  · replace c7 := bI_z.mp c7
    refine g_aload_0 hX dX6_type_10 ?_
    refine g_cV0r hX mkX6_bad ml_X6_43 (c_X6_bad) (ob_69 Z _) dX6_type_11 rfl (by decide) (Nat.le_of_ble_eq_true rfl) ?_
    exact hq _ _ _ _ dX6_type_14 (by rw [mtyM, if_neg c7]) (by rw [mtyR, if_neg c7])
set_option maxRecDepth 100000 in
set_option maxHeartbeats 4000000 in
theorem c_X6_clear {Z : Zt} {b : Mem}  : Con Z yX6_clear cX6_clear 2 (some .int) 0 [.ref (zad Z 69)] b (some (.int (b 69 11))) (up2 b 69 11 0) := by
  refine con_i (by decide) (Nat.le_of_ble_eq_true rfl) rfl (fun X hX hq => ?_)
  have hX : Ok Z X cX6_clear 2 RX6 0 := hX
  show G Z X b 0 [some (.ref (zad Z 69)), none] []
  refine g_aload_0 hX dX6_clear_0 ?_
  refine gt_X6_typed hX dX6_clear_1 ?_
  refine g_istore_1 hX dX6_clear_4 rfl ?_
  refine g_aload_0 hX dX6_clear_5 ?_
  refine g_iconst hX 0 dX6_clear_6 (by decide) ?_
  refine pt_X6_typed hX dX6_clear_7 ?_
  refine g_iload_1 hX dX6_clear_10 ?_
  exact hq _ _ _ _ dX6_clear_11 (by rfl) (by rfl)
def mtN (b : Mem) (k : Nat) : Int32 := if k < 3 then b 70 k else if k = 3 then b 69 11 else b 69 3
theorem MG.to {b m : Mem} (h : MG b 0 m) {k : Nat} : mtN m k = mtN b k := by
  obtain ⟨h1, h2, h3, h4⟩ := h
  rw [bI0 (by decide)] at h2 h3 h4
  unfold mtN
  rw [h1 69 (by omega)]
  by_cases c : k < 3
  · rw [if_pos c, if_pos c]
    rcases (show k = 0 ∨ k = 1 ∨ k = 2 by omega) with rfl | rfl | rfl
    · exact h2
    · exact h3
    · exact h4
  · rw [if_neg c, if_neg c]
set_option maxRecDepth 100000 in
set_option maxHeartbeats 4000000 in
theorem c_X6_toldOf {Z : Zt} {b : Mem} {k : Nat} (hk : k < 5) : Con Z yX6_toldOf cX6_toldOf 2 (some .int) 0 [.ref (zad Z 69), .int (nI k)] b (some (.int (mtN b k))) (b) := by
  refine con_i (by decide) (Nat.le_of_ble_eq_true rfl) rfl (fun X hX hq => ?_)
  have hX : Ok Z X cX6_toldOf 2 RX6 0 := hX
  show G Z X b 0 [some (.ref (zad Z 69)), some (.int (nI k))] []
  refine g_iload_1 hX dX6_toldOf_0 ?_
  refine g_iconst hX 3 dX6_toldOf_1 (by decide) ?_
  refine g_icmp_ge hX 14 dX6_toldOf_2 (by decide) (fun c2 => ?_) (fun c2 => ?_)
  · have hk3 : ¬ k < 3 := fun z => c2 (nI_lt z (by decide))
    refine g_iload_1 hX dX6_toldOf_14 ?_
    refine g_iconst hX 3 dX6_toldOf_15 (by decide) ?_
    refine g_icmp_ne hX 26 dX6_toldOf_16 (by decide) (fun c16 => ?_) (fun c16 => ?_)
    · refine g_aload_0 hX dX6_toldOf_26 ?_
      refine gt_X6_states hX dX6_toldOf_27 ?_
      exact hq _ _ _ _ dX6_toldOf_30 (by rfl) (by rw [mtN, if_neg hk3, if_neg (fun z => c16 ((nI_eq (b := 3) (by omega) (by decide)).mpr z))])
    · refine g_aload_0 hX dX6_toldOf_19 ?_
      refine gt_X6_typed hX dX6_toldOf_20 ?_
      refine g_goto hX 30 dX6_toldOf_23 (by decide) ?_
      exact hq _ _ _ _ dX6_toldOf_30 (by rfl) (by rw [mtN, if_neg hk3, if_pos ((nI_eq (b := 3) (by omega) (by decide)).mp c16)])
  · have hk3 : k < 3 := (nI_ltI (b := 3) (by omega) (by decide)).mp c2
    refine g_aload_0 hX dX6_toldOf_5 ?_
    refine gt_X6_refused hX dX6_toldOf_6 ?_
    refine g_iload_1 hX dX6_toldOf_9 ?_
    refine g_ialdN (k := k) hX (ar_70 Z) (hk3) (by decide) dX6_toldOf_10 ?_
    refine g_goto hX 30 dX6_toldOf_11 (by decide) ?_
    exact hq _ _ _ _ dX6_toldOf_30 (by rfl) (by rw [mtN, if_pos hk3])
set_option maxRecDepth 100000 in
set_option maxHeartbeats 4000000 in
theorem c_X6_told {Z : Zt} {b : Mem} {w : Int32} : ConE Z yX6_told cX6_told 2 (some .int) 1 [.ref (zad Z 69), .int w] b (pI (fun x b' => x = cl (¬ w < 0 ∧ ¬ 4 < w) (mtN b w.toNatClampNeg) (-2) ∧ MG b (toC w) b')) := by
  refine conE_i (by decide) (Nat.le_of_ble_eq_true rfl) rfl (fun X hX hq => ?_)
  have hX : Ok Z X cX6_told 2 RX6 1 := hX
  show G Z X b 0 [some (.ref (zad Z 69)), some (.int w)] []
  refine g_iload_1 hX dX6_told_0 ?_
  refine g_iconst hX 0 dX6_told_1 (by decide) ?_
  refine g_iconst hX 4 dX6_told_2 (by decide) ?_
  refine g_cS3r hX mkX6_in ml_X6_61 (c_X6_in) dX6_told_3 rfl (by decide) (Nat.le_of_ble_eq_true rfl) ?_
  refine g_if_eq hX 17 dX6_told_6 (by decide) (fun c6 => ?_) (fun c6 => ?_)
  · replace c6 := bI_z.mp c6
    refine g_aload_0 hX dX6_told_17 ?_
    refine g_cV0r hX mkX6_bad ml_X6_43 (c_X6_bad) (ob_69 Z _) dX6_told_18 rfl (by decide) (Nat.le_of_ble_eq_true rfl) ?_
    exact hq _ _ _ _ dX6_told_21 (⟨by rw [cl_f c6], by rw [toC, cl_f c6]; exact MG.bad b⟩)
  · replace c6 := bI_nz.mp c6
    obtain ⟨j, hj, rfl⟩ := in_of6 (n := 4) c6.1 c6.2 (by decide)
    have hjc : (nI j).toNatClampNeg = j := nI_clamp (by omega)
    refine g_aload_0 hX dX6_told_9 ?_
    refine g_iload_1 hX dX6_told_10 ?_
    refine g_cV1r hX mkX6_toldOf ml_X6_227 (c_X6_toldOf hj) (ob_69 Z _) dX6_told_11 rfl (by decide) (Nat.le_of_ble_eq_true rfl) ?_
    refine g_goto hX 21 dX6_told_14 (by decide) ?_
    exact hq _ _ _ _ dX6_told_21 (⟨by rw [cl_t c6, hjc], by rw [toC, cl_t c6]; exact MG.rf b⟩)
theorem g_topL {Z : Zt} {X : Xt} {b : Mem} {pc : Nat} {L : List (Option Value)} {st : List Value} {x : Int64} (x' : Int64) (h : x = x') (k : G Z X b pc L (.long x' :: st)) : G Z X b pc L (.long x :: st) := by subst h; exact k
set_option maxRecDepth 100000 in
set_option maxHeartbeats 4000000 in
theorem c_X6_digest {Z : Zt} {b : Mem} (hV : Val (mv b))  : ConE Z yX6_digest cX6_digest 6 (some .long) 11 [.ref (zad Z 69)] b (pL (fun x b' => x = dgS (mv b) (fun w => mtN b w) ∧ MG b 0 b')) := by
  have hn : b 71 0 = nI (nl (mv b)) := hV.1.1
  have hn6 := hV.1.2
  have hp : b 71 1 = nI (np (mv b)) := hV.2.1.1
  have hp6 := hV.2.1.2
  refine conE_l (by decide) (Nat.le_of_ble_eq_true rfl) rfl (fun X hX hq => ?_)
  have hX : Ok Z X cX6_digest 6 RX6 11 := hX
  show G Z X b 0 [some (.ref (zad Z 69)), none, none, none, none, none] []
  refine g_ldc2 hX 2053 co_X6_230 dX6_digest_0 ?_
  refine g_lstore_1 hX dX6_digest_3 rfl ?_
  refine g_iconst hX 0 dX6_digest_4 (by decide) ?_
  refine g_istore_3 hX dX6_digest_5 rfl ?_
  refine g_loop (5) (fun k => b) (fun k => [some (.ref (zad Z 69)), some (.long (it (fun w h => mix h (mtN b w)) k 2053)), none, some (.int (nI k)), none, none]) rfl rfl (fun k hk6 ih6 => ?_) ?_
  · show G Z X (b) 6 ([some (.ref (zad Z 69)), some (.long (it (fun w h => mix h (mtN b w)) k 2053)), none, some (.int (nI k)), none, none]) _
    refine g_iload_3 hX dX6_digest_6 ?_
    refine g_iconst hX 5 dX6_digest_7 (by decide) ?_
    refine g_icmp_ge hX 30 dX6_digest_8 (by decide) (fun c8 => ?_) (fun c8 => ?_)
    · exact absurd c8 (not_not_intro (nI_lt (b := 5) hk6 (by decide)))
    · refine g_ldc2 hX 31 co_X6_232 dX6_digest_11 ?_
      refine g_lload_1 hX dX6_digest_14 ?_
      refine g_lmul hX dX6_digest_15 ?_
      refine g_aload_0 hX dX6_digest_16 ?_
      refine g_iload_3 hX dX6_digest_17 ?_
      refine g_cV1r hX mkX6_toldOf ml_X6_227 (c_X6_toldOf hk6) (ob_69 Z _) dX6_digest_18 rfl (by decide) (Nat.le_of_ble_eq_true rfl) ?_
      refine g_i2l hX dX6_digest_21 ?_
      refine g_ladd hX dX6_digest_22 ?_
      refine g_topL (mix (it (fun w h => mix h (mtN b w)) k 2053) (mtN b k)) rfl ?_
      refine g_lstore_1 hX dX6_digest_23 rfl ?_
      refine g_iinc_3 hX 1 dX6_digest_24 (by decide) rfl ?_
      refine g_goto hX 6 dX6_digest_27 (by decide) ?_
      exact g_cast ih6 rfl (by simp only [it, nI_succ]) rfl
  · show G Z X (b) 6 ([some (.ref (zad Z 69)), some (.long (it (fun w h => mix h (mtN b w)) (5) 2053)), none, some (.int (nI (5))), none, none]) _
    refine g_iload_3 hX dX6_digest_6 ?_
    refine g_iconst hX 5 dX6_digest_7 (by decide) ?_
    refine g_icmp_ge hX 30 dX6_digest_8 (by decide) (fun c8 => ?_) (fun c8 => ?_)
    · obtain ⟨HA, eHA⟩ : ∃ H, H = it (fun w h => mix h (mtN b w)) 5 2053 := ⟨_, rfl⟩
      rw [← eHA]
      refine g_iconst hX 0 dX6_digest_30 (by decide) ?_
      refine g_istore_3 hX dX6_digest_31 rfl ?_
      refine g_loopI (7) (fun k m LL => (MG b 0 m) ∧ LL = [some (.ref (zad Z 69)), some (.long (it (fun w h => mix h (coV (mv b) (nI w))) k HA)), none, some (.int (nI k)), none, none]) ⟨MG.rf b, rfl⟩ ?_ ?_
      · rintro k m _ hk32 ⟨hm, rfl⟩ ih32
        refine g_iload_3 hX dX6_digest_32 ?_
        refine g_bipush hX 7 dX6_digest_33 (by decide) ?_
        refine g_icmp_ge hX 57 dX6_digest_35 (by decide) (fun c35 => ?_) (fun c35 => ?_)
        · exact absurd c35 (not_not_intro (nI_lt (b := 7) hk32 (by decide)))
        · refine g_ldc2 hX 31 co_X6_232 dX6_digest_38 ?_
          refine g_lload_1 hX dX6_digest_41 ?_
          refine g_lmul hX dX6_digest_42 ?_
          refine g_aload_0 hX dX6_digest_43 ?_
          refine g_iload_3 hX dX6_digest_44 ?_
          refine g_eV1i hX mkX6_countOf ml_X6_188 (c_X6_countOf hk32 (hm.val hV)) (ob_69 Z _) dX6_digest_45 rfl (by decide) (Nat.le_of_ble_eq_true rfl) (fun x45 m45 h45 => ?_)
          refine g_top (coV (mv b) (nI k)) (by rw [h45.1, hm.v]) ?_
          refine g_i2l hX dX6_digest_48 ?_
          refine g_ladd hX dX6_digest_49 ?_
          refine g_topL (mix (it (fun w h => mix h (coV (mv b) (nI w))) k HA) (coV (mv b) (nI k))) rfl ?_
          refine g_lstore_1 hX dX6_digest_50 rfl ?_
          refine g_iinc_3 hX 1 dX6_digest_51 (by decide) rfl ?_
          refine g_goto hX 32 dX6_digest_54 (by decide) ?_
          exact (ih32 _ _ ⟨hm.tr h45.2, by simp only [it, nI_succ]⟩)
      · rintro m _ ⟨hm, rfl⟩
        refine g_iload_3 hX dX6_digest_32 ?_
        refine g_bipush hX 7 dX6_digest_33 (by decide) ?_
        refine g_icmp_ge hX 57 dX6_digest_35 (by decide) (fun c35 => ?_) (fun c35 => ?_)
        · obtain ⟨HB, eHB⟩ : ∃ H, H = it (fun w h => mix h (coV (mv b) (nI w))) 7 HA := ⟨_, rfl⟩
          rw [← eHB]
          refine g_iconst hX 0 dX6_digest_57 (by decide) ?_
          refine g_istore_3 hX dX6_digest_58 rfl ?_
          refine g_loopI (7) (fun k m LL => (MG b 0 m) ∧ LL = [some (.ref (zad Z 69)), some (.long (it (fun k h => mix h (mv b 5 k 0)) k HB)), none, some (.int (nI k)), none, none]) ⟨hm, rfl⟩ ?_ ?_
          · rintro k m _ hk59 ⟨hm, rfl⟩ ih59
            refine g_iload_3 hX dX6_digest_59 ?_
            refine g_bipush hX 7 dX6_digest_60 (by decide) ?_
            refine g_icmp_ge hX 87 dX6_digest_62 (by decide) (fun c62 => ?_) (fun c62 => ?_)
            · exact absurd c62 (not_not_intro (nI_lt (b := 7) hk59 (by decide)))
            · refine g_ldc2 hX 31 co_X6_232 dX6_digest_65 ?_
              refine g_lload_1 hX dX6_digest_68 ?_
              refine g_lmul hX dX6_digest_69 ?_
              refine g_aload_0 hX dX6_digest_70 ?_
              refine gt_X6_now hX dX6_digest_71 ?_
              refine g_iconst hX 2 dX6_digest_74 (by decide) ?_
              refine g_iload_3 hX dX6_digest_75 ?_
              refine g_iadd hX dX6_digest_76 ?_
              refine g_top _ (ixS k) ?_
              refine g_ialdN (k := (2 + k)) hX (ar_71 Z) (by omega) (by decide) dX6_digest_77 ?_
              refine g_top (mv b 5 k 0) (by rw [hm.1 71 (by omega)]; rfl) ?_
              refine g_i2l hX dX6_digest_78 ?_
              refine g_ladd hX dX6_digest_79 ?_
              refine g_topL (mix (it (fun k h => mix h (mv b 5 k 0)) k HB) (mv b 5 k 0)) rfl ?_
              refine g_lstore_1 hX dX6_digest_80 rfl ?_
              refine g_iinc_3 hX 1 dX6_digest_81 (by decide) rfl ?_
              refine g_goto hX 59 dX6_digest_84 (by decide) ?_
              exact (ih59 _ _ ⟨hm, by simp only [it, nI_succ]⟩)
          · rintro m _ ⟨hm, rfl⟩
            refine g_iload_3 hX dX6_digest_59 ?_
            refine g_bipush hX 7 dX6_digest_60 (by decide) ?_
            refine g_icmp_ge hX 87 dX6_digest_62 (by decide) (fun c62 => ?_) (fun c62 => ?_)
            · obtain ⟨HC, eHC⟩ : ∃ H, H = it (fun k h => mix h (mv b 5 k 0)) 7 HB := ⟨_, rfl⟩
              rw [← eHC]
              refine g_iconst hX 0 dX6_digest_87 (by decide) ?_
              refine g_istore_3 hX dX6_digest_88 rfl ?_
              refine g_weak (lvw_c (lvw_c (lvw_c (lvw_c (lvw_n (lvw_n lvw_nil)))))) (g_loopI (nl (mv b)) (fun l m LL => (MG b 0 m) ∧ LL = [some (.ref (zad Z 69)), some (.long (it (mlS (mv b)) l HC)), none, some (.int (nI l)), none, none]) ⟨hm, rfl⟩ ?_ ?_)
              · rintro l m _ hk89 ⟨hm, rfl⟩ ih89
                have hl6 := hV.l6 hk89
                have hr : b 71 (9 + 17 * l) = nI (rn (mv b) l) := hV.runs hk89
                have hr8 := hV.r8 hk89
                refine g_iload_3 hX dX6_digest_89 ?_
                refine g_aload_0 hX dX6_digest_90 ?_
                refine gt_X6_now hX dX6_digest_91 ?_
                refine g_iconst hX 0 dX6_digest_94 (by decide) ?_
                refine g_ialdN (k := 0) hX (ar_71 Z) (by decide) (by decide) dX6_digest_95 ?_
                refine g_icmp_ge hX 200 dX6_digest_96 (by decide) (fun c96 => ?_) (fun c96 => ?_)
                · exact absurd c96 (not_not_intro (by rw [hm.1 71 (by omega), hn]; exact nI_lt hk89 (by omega)))
                · refine g_iconst hX 0 dX6_digest_99 (by decide) ?_
                  refine g_istore_4 hX dX6_digest_100 rfl ?_
                  refine g_loopI (7) (fun w m2 LL => (MG b 0 m2) ∧ LL = [some (.ref (zad Z 69)), some (.long (it (fun w h => mix h (ofV (mv b) l (nI w))) w (it (mlS (mv b)) l HC))), none, some (.int (nI l)), some (.int (nI w)), none]) ⟨hm, rfl⟩ ?_ ?_
                  · rintro w m2 _ hk102 ⟨hm2, rfl⟩ ih102
                    refine g_iload_4 hX dX6_digest_102 ?_
                    refine g_bipush hX 7 dX6_digest_104 (by decide) ?_
                    refine g_icmp_ge hX 130 dX6_digest_106 (by decide) (fun c106 => ?_) (fun c106 => ?_)
                    · exact absurd c106 (not_not_intro (nI_lt (b := 7) hk102 (by decide)))
                    · refine g_ldc2 hX 31 co_X6_232 dX6_digest_109 ?_
                      refine g_lload_1 hX dX6_digest_112 ?_
                      refine g_lmul hX dX6_digest_113 ?_
                      refine g_aload_0 hX dX6_digest_114 ?_
                      refine g_iload_3 hX dX6_digest_115 ?_
                      refine g_iload_4 hX dX6_digest_116 ?_
                      refine g_cV2r hX mkX6_toldLine ml_X6_144 (c_X6_toldLine (b := m2) (hm2.val hV) (by rw [hm2.v]; exact hk89)) (ob_69 Z _) dX6_digest_118 rfl (by decide) (Nat.le_of_ble_eq_true rfl) ?_
                      refine g_top (ofV (mv b) l (nI w)) (by rw [hm2.v]) ?_
                      refine g_i2l hX dX6_digest_121 ?_
                      refine g_ladd hX dX6_digest_122 ?_
                      refine g_topL (mix (it (fun w h => mix h (ofV (mv b) l (nI w))) w (it (mlS (mv b)) l HC)) (ofV (mv b) l (nI w))) rfl ?_
                      refine g_lstore_1 hX dX6_digest_123 rfl ?_
                      refine g_iinc_4 hX 1 dX6_digest_124 (by decide) rfl ?_
                      refine g_goto hX 102 dX6_digest_127 (by decide) ?_
                      exact (ih102 _ _ ⟨hm2, by simp only [it, nI_succ]⟩)
                  · rintro m2 _ ⟨hm2, rfl⟩
                    refine g_iload_4 hX dX6_digest_102 ?_
                    refine g_bipush hX 7 dX6_digest_104 (by decide) ?_
                    refine g_icmp_ge hX 130 dX6_digest_106 (by decide) (fun c106 => ?_) (fun c106 => ?_)
                    · obtain ⟨HM, eHM⟩ : ∃ H, H = it (fun w h => mix h (ofV (mv b) l (nI w))) 7 (it (mlS (mv b)) l HC) := ⟨_, rfl⟩
                      rw [← eHM]
                      refine g_iconst hX 0 dX6_digest_130 (by decide) ?_
                      refine g_istore_4 hX dX6_digest_131 rfl ?_
                      refine g_weak (lvw_c (lvw_c (lvw_c (lvw_c (lvw_c (lvw_n lvw_nil)))))) (g_loopI (rn (mv b) l) (fun i m3 LL => (MG b 0 m3) ∧ LL = [some (.ref (zad Z 69)), some (.long (it (fun i h => it (fun w h => mix h (runV (mv b) l i (nI w))) 3 h) i HM)), none, some (.int (nI l)), some (.int (nI i)), none]) ⟨hm2, rfl⟩ ?_ ?_)
                      · rintro i m3 _ hk133 ⟨hm3, rfl⟩ ih133
                        refine g_iload_4 hX dX6_digest_133 ?_
                        refine g_aload_0 hX dX6_digest_135 ?_
                        refine g_iload_3 hX dX6_digest_136 ?_
                        refine g_cV1r hX mkX6_runsOf ml_X6_69 (c_X6_runsOf hl6) (ob_69 Z _) dX6_digest_137 rfl (by decide) (Nat.le_of_ble_eq_true rfl) ?_
                        refine g_icmp_ge hX 181 dX6_digest_140 (by decide) (fun c140 => ?_) (fun c140 => ?_)
                        · exact absurd c140 (not_not_intro (by rw [hm3.1 71 (by omega), hr]; exact nI_lt hk133 (by omega)))
                        · refine g_iconst hX 0 dX6_digest_143 (by decide) ?_
                          refine g_istore_5 hX dX6_digest_144 rfl ?_
                          refine g_loopI (3) (fun w m4 LL => (MG b 0 m4) ∧ LL = [some (.ref (zad Z 69)), some (.long (it (fun w h => mix h (runV (mv b) l i (nI w))) w (it (fun i h => it (fun w h => mix h (runV (mv b) l i (nI w))) 3 h) i HM))), none, some (.int (nI l)), some (.int (nI i)), some (.int (nI w))]) ⟨hm3, rfl⟩ ?_ ?_
                          · rintro w m4 _ hk146 ⟨hm4, rfl⟩ ih146
                            refine g_iload_5 hX dX6_digest_146 ?_
                            refine g_iconst hX 3 dX6_digest_148 (by decide) ?_
                            refine g_icmp_ge hX 175 dX6_digest_149 (by decide) (fun c149 => ?_) (fun c149 => ?_)
                            · exact absurd c149 (not_not_intro (nI_lt (b := 3) hk146 (by decide)))
                            · refine g_ldc2 hX 31 co_X6_232 dX6_digest_152 ?_
                              refine g_lload_1 hX dX6_digest_155 ?_
                              refine g_lmul hX dX6_digest_156 ?_
                              refine g_aload_0 hX dX6_digest_157 ?_
                              refine g_iload_3 hX dX6_digest_158 ?_
                              refine g_iload_4 hX dX6_digest_159 ?_
                              refine g_iload_5 hX dX6_digest_161 ?_
                              refine g_cV3r hX mkX6_toldRun ml_X6_151 (c_X6_toldRun (b := m4) (hm4.val hV) hl6 (by omega)) (ob_69 Z _) dX6_digest_163 rfl (by decide) (Nat.le_of_ble_eq_true rfl) ?_
                              refine g_top (runV (mv b) l i (nI w)) (by rw [hm4.v]) ?_
                              refine g_i2l hX dX6_digest_166 ?_
                              refine g_ladd hX dX6_digest_167 ?_
                              refine g_topL (mix (it (fun w h => mix h (runV (mv b) l i (nI w))) w (it (fun i h => it (fun w h => mix h (runV (mv b) l i (nI w))) 3 h) i HM)) (runV (mv b) l i (nI w))) rfl ?_
                              refine g_lstore_1 hX dX6_digest_168 rfl ?_
                              refine g_iinc_5 hX 1 dX6_digest_169 (by decide) rfl ?_
                              refine g_goto hX 146 dX6_digest_172 (by decide) ?_
                              exact (ih146 _ _ ⟨hm4, by simp only [it, nI_succ]⟩)
                          · rintro m4 _ ⟨hm4, rfl⟩
                            refine g_iload_5 hX dX6_digest_146 ?_
                            refine g_iconst hX 3 dX6_digest_148 (by decide) ?_
                            refine g_icmp_ge hX 175 dX6_digest_149 (by decide) (fun c149 => ?_) (fun c149 => ?_)
                            · refine g_iinc_4 hX 1 dX6_digest_175 (by decide) rfl ?_
                              refine g_goto hX 133 dX6_digest_178 (by decide) ?_
                              exact g_weak (lvw_c (lvw_c (lvw_c (lvw_c (lvw_c (lvw_n lvw_nil)))))) (ih133 _ _ ⟨hm4, by simp only [it, nI_succ]⟩)
                            · exact absurd c149 (Int32.lt_irrefl)
                      · rintro m3 _ ⟨hm3, rfl⟩
                        refine g_iload_4 hX dX6_digest_133 ?_
                        refine g_aload_0 hX dX6_digest_135 ?_
                        refine g_iload_3 hX dX6_digest_136 ?_
                        refine g_cV1r hX mkX6_runsOf ml_X6_69 (c_X6_runsOf hl6) (ob_69 Z _) dX6_digest_137 rfl (by decide) (Nat.le_of_ble_eq_true rfl) ?_
                        refine g_icmp_ge hX 181 dX6_digest_140 (by decide) (fun c140 => ?_) (fun c140 => ?_)
                        · refine g_ldc2 hX 31 co_X6_232 dX6_digest_181 ?_
                          refine g_lload_1 hX dX6_digest_184 ?_
                          refine g_lmul hX dX6_digest_185 ?_
                          refine g_aload_0 hX dX6_digest_186 ?_
                          refine g_iload_3 hX dX6_digest_187 ?_
                          refine g_eV1i hX mkX6_fewestBumps ml_X6_194 (c_X6_fewestBumps (hm3.val hV) (by rw [hm3.v]; exact hk89)) (ob_69 Z _) dX6_digest_188 rfl (by decide) (Nat.le_of_ble_eq_true rfl) (fun x188 m188 h188 => ?_)
                          refine g_top (bpV (mv b) l) (by rw [h188.1, hm3.v]) ?_
                          refine g_i2l hX dX6_digest_191 ?_
                          refine g_ladd hX dX6_digest_192 ?_
                          refine g_topL (mlS (mv b) l (it (mlS (mv b)) l HC)) (by rw [mlS, ← eHM]; rfl) ?_
                          refine g_lstore_1 hX dX6_digest_193 rfl ?_
                          refine g_iinc_3 hX 1 dX6_digest_194 (by decide) rfl ?_
                          refine g_goto hX 89 dX6_digest_197 (by decide) ?_
                          exact g_weak (lvw_c (lvw_c (lvw_c (lvw_c (lvw_n (lvw_n lvw_nil)))))) (ih89 _ _ ⟨hm3.tr h188.2, by simp only [it, nI_succ]⟩)
                        · exact absurd c140 (by rw [hm3.1 71 (by omega), hr]; exact Int32.lt_irrefl)
                    · exact absurd c106 (Int32.lt_irrefl)
              · rintro m _ ⟨hm, rfl⟩
                refine g_iload_3 hX dX6_digest_89 ?_
                refine g_aload_0 hX dX6_digest_90 ?_
                refine gt_X6_now hX dX6_digest_91 ?_
                refine g_iconst hX 0 dX6_digest_94 (by decide) ?_
                refine g_ialdN (k := 0) hX (ar_71 Z) (by decide) (by decide) dX6_digest_95 ?_
                refine g_icmp_ge hX 200 dX6_digest_96 (by decide) (fun c96 => ?_) (fun c96 => ?_)
                · obtain ⟨HD, eHD⟩ : ∃ H, H = it (mlS (mv b)) (nl (mv b)) HC := ⟨_, rfl⟩
                  rw [← eHD]
                  refine g_iconst hX 0 dX6_digest_200 (by decide) ?_
                  refine g_istore_3 hX dX6_digest_201 rfl ?_
                  refine g_weak (lvw_c (lvw_c (lvw_c (lvw_c (lvw_n (lvw_n lvw_nil)))))) (g_loopI (np (mv b)) (fun p m5 LL => (MG b 0 m5) ∧ LL = [some (.ref (zad Z 69)), some (.long (it (fun p h => it (fun w h => mix h (abV (mv b) p (nI w))) 4 h) p HD)), none, some (.int (nI p)), none, none]) ⟨hm, rfl⟩ ?_ ?_)
                  · rintro p m5 _ hk202 ⟨hm5, rfl⟩ ih202
                    refine g_iload_3 hX dX6_digest_202 ?_
                    refine g_aload_0 hX dX6_digest_203 ?_
                    refine gt_X6_now hX dX6_digest_204 ?_
                    refine g_iconst hX 1 dX6_digest_207 (by decide) ?_
                    refine g_ialdN (k := 1) hX (ar_71 Z) (by decide) (by decide) dX6_digest_208 ?_
                    refine g_icmp_ge hX 248 dX6_digest_209 (by decide) (fun c209 => ?_) (fun c209 => ?_)
                    · exact absurd c209 (not_not_intro (by rw [hm5.1 71 (by omega), hp]; exact nI_lt hk202 (by omega)))
                    · refine g_iconst hX 0 dX6_digest_212 (by decide) ?_
                      refine g_istore_4 hX dX6_digest_213 rfl ?_
                      refine g_loopI (4) (fun w m6 LL => (MG b 0 m6) ∧ LL = [some (.ref (zad Z 69)), some (.long (it (fun w h => mix h (abV (mv b) p (nI w))) w (it (fun p h => it (fun w h => mix h (abV (mv b) p (nI w))) 4 h) p HD))), none, some (.int (nI p)), some (.int (nI w)), none]) ⟨hm5, rfl⟩ ?_ ?_
                      · rintro w m6 _ hk215 ⟨hm6, rfl⟩ ih215
                        refine g_iload_4 hX dX6_digest_215 ?_
                        refine g_iconst hX 4 dX6_digest_217 (by decide) ?_
                        refine g_icmp_ge hX 242 dX6_digest_218 (by decide) (fun c218 => ?_) (fun c218 => ?_)
                        · exact absurd c218 (not_not_intro (nI_lt (b := 4) hk215 (by decide)))
                        · refine g_ldc2 hX 31 co_X6_232 dX6_digest_221 ?_
                          refine g_lload_1 hX dX6_digest_224 ?_
                          refine g_lmul hX dX6_digest_225 ?_
                          refine g_aload_0 hX dX6_digest_226 ?_
                          refine g_iload_3 hX dX6_digest_227 ?_
                          refine g_iload_4 hX dX6_digest_228 ?_
                          refine g_eV2i hX mkX6_toldPocket ml_X6_185 (c_X6_toldPocket (hm6.val hV) (by rw [hm6.v]; exact hk202)) (ob_69 Z _) dX6_digest_230 rfl (by decide) (Nat.le_of_ble_eq_true rfl) (fun x230 m230 h230 => ?_)
                          refine g_top (abV (mv b) p (nI w)) (by rw [h230.1, hm6.v]) ?_
                          refine g_i2l hX dX6_digest_233 ?_
                          refine g_ladd hX dX6_digest_234 ?_
                          refine g_topL (mix (it (fun w h => mix h (abV (mv b) p (nI w))) w (it (fun p h => it (fun w h => mix h (abV (mv b) p (nI w))) 4 h) p HD)) (abV (mv b) p (nI w))) rfl ?_
                          refine g_lstore_1 hX dX6_digest_235 rfl ?_
                          refine g_iinc_4 hX 1 dX6_digest_236 (by decide) rfl ?_
                          refine g_goto hX 215 dX6_digest_239 (by decide) ?_
                          exact (ih215 _ _ ⟨hm6.tr h230.2, by simp only [it, nI_succ]⟩)
                      · rintro m6 _ ⟨hm6, rfl⟩
                        refine g_iload_4 hX dX6_digest_215 ?_
                        refine g_iconst hX 4 dX6_digest_217 (by decide) ?_
                        refine g_icmp_ge hX 242 dX6_digest_218 (by decide) (fun c218 => ?_) (fun c218 => ?_)
                        · refine g_iinc_3 hX 1 dX6_digest_242 (by decide) rfl ?_
                          refine g_goto hX 202 dX6_digest_245 (by decide) ?_
                          exact g_weak (lvw_c (lvw_c (lvw_c (lvw_c (lvw_n (lvw_n lvw_nil)))))) (ih202 _ _ ⟨hm6, by simp only [it, nI_succ]⟩)
                        · exact absurd c218 (Int32.lt_irrefl)
                  · rintro m5 _ ⟨hm5, rfl⟩
                    refine g_iload_3 hX dX6_digest_202 ?_
                    refine g_aload_0 hX dX6_digest_203 ?_
                    refine gt_X6_now hX dX6_digest_204 ?_
                    refine g_iconst hX 1 dX6_digest_207 (by decide) ?_
                    refine g_ialdN (k := 1) hX (ar_71 Z) (by decide) (by decide) dX6_digest_208 ?_
                    refine g_icmp_ge hX 248 dX6_digest_209 (by decide) (fun c209 => ?_) (fun c209 => ?_)
                    · obtain ⟨HE, eHE⟩ : ∃ H, H = it (fun p h => it (fun w h => mix h (abV (mv b) p (nI w))) 4 h) (np (mv b)) HD := ⟨_, rfl⟩
                      rw [← eHE]
                      have e5 : HE = d5S (mv b) (fun w => mtN b w) := by unfold d5S; rw [eHE, eHD, eHC, eHB, eHA]
                      refine g_ldc2 hX 31 co_X6_232 dX6_digest_248 ?_
                      refine g_lload_1 hX dX6_digest_251 ?_
                      refine g_lmul hX dX6_digest_252 ?_
                      refine g_aload_0 hX dX6_digest_253 ?_
                      refine g_eV0i hX mkX6_blocked ml_X6_234 (c_X6_blocked (hm5.val hV)) (ob_69 Z _) dX6_digest_254 rfl (by decide) (Nat.le_of_ble_eq_true rfl) (fun x254 m254 h254 => ?_)
                      have hmb := hm5.tr h254.2
                      refine g_top (nI (blN (mv b) (mv b 5 4 0))) (by rw [h254.1, hm5.v]) ?_
                      refine g_i2l hX dX6_digest_257 ?_
                      refine g_ladd hX dX6_digest_258 ?_
                      refine g_topL (mix (HE) (nI (blN (mv b) (mv b 5 4 0)))) rfl ?_
                      refine g_lstore_1 hX dX6_digest_259 rfl ?_
                      refine g_ldc2 hX 31 co_X6_232 dX6_digest_260 ?_
                      refine g_lload_1 hX dX6_digest_263 ?_
                      refine g_lmul hX dX6_digest_264 ?_
                      refine g_aload_0 hX dX6_digest_265 ?_
                      refine g_eV0i hX mkX6_least ml_X6_237 (c_X6_least (hmb.val hV)) (ob_69 Z _) dX6_digest_266 rfl (by decide) (Nat.le_of_ble_eq_true rfl) (fun x266 m266 h266 => ?_)
                      have hmc := hmb.tr h266.2
                      refine g_top (lsR (mv b)) (by rw [h266.1, hmb.v]) ?_
                      refine g_i2l hX dX6_digest_269 ?_
                      refine g_ladd hX dX6_digest_270 ?_
                      refine g_topL (mix (mix HE (nI (blN (mv b) (mv b 5 4 0)))) (lsR (mv b))) rfl ?_
                      refine g_lstore_1 hX dX6_digest_271 rfl ?_
                      refine g_ldc2 hX 31 co_X6_232 dX6_digest_272 ?_
                      refine g_lload_1 hX dX6_digest_275 ?_
                      refine g_lmul hX dX6_digest_276 ?_
                      refine g_aload_0 hX dX6_digest_277 ?_
                      refine g_eV0i hX mkX6_greatest ml_X6_240 (c_X6_greatest (hmc.val hV)) (ob_69 Z _) dX6_digest_278 rfl (by decide) (Nat.le_of_ble_eq_true rfl) (fun x278 m278 h278 => ?_)
                      have hmg := hmc.tr h278.2
                      refine g_top (grR (mv b)) (by rw [h278.1, hmc.v]) ?_
                      refine g_i2l hX dX6_digest_281 ?_
                      refine g_ladd hX dX6_digest_282 ?_
                      refine g_topL (d6S (mv b) (fun w => mtN b w)) (by rw [d6S, ← e5]; rfl) ?_
                      obtain ⟨HG, eHG⟩ : ∃ H, H = d6S (mv b) (fun w => mtN b w) := ⟨_, rfl⟩
                      rw [← eHG]
                      refine g_lstore_1 hX dX6_digest_283 rfl ?_
                      refine g_aload_0 hX dX6_digest_284 ?_
                      refine g_eV0i hX mkX6_draw ml_X6_179 (c_X6_draw (hmg.val hV)) (ob_69 Z _) dX6_digest_285 rfl (by decide) (Nat.le_of_ble_eq_true rfl) (fun x285 m285 h285 => ?_)
                      obtain ⟨e285, hd1, hd2⟩ := h285
                      rw [hmg.v] at e285 hd2
                      have hmd := hmg.tr hd1
                      refine g_top _ e285 ?_
                      refine g_istore_3 hX dX6_digest_288 rfl ?_
                      refine g_iconst hX 0 dX6_digest_289 (by decide) ?_
                      refine g_istore_4 hX dX6_digest_290 rfl ?_
                      refine g_loopW (lvw_c (lvw_c (lvw_c (lvw_c (lvw_c (lvw_n lvw_nil)))))) (nl (mv b)) (fun x => m285) (fun x => [some (.ref (zad Z 69)), some (.long (if blN (mv b) (mv b 5 4 0) = 0 then it (fun l h => it (fun p h => mix h (drV (mv b) l p)) (np (mv b)) h) x HG else HG)), none, some (.int (bI (blN (mv b) (mv b 5 4 0) = 0))), some (.int (nI x)), none]) rfl (by split <;> rfl) (fun x hk292 ih292 => ?_) ?_
                      · show G Z X (m285) 292 ([some (.ref (zad Z 69)), some (.long (if blN (mv b) (mv b 5 4 0) = 0 then it (fun l h => it (fun p h => mix h (drV (mv b) l p)) (np (mv b)) h) x HG else HG)), none, some (.int (bI (blN (mv b) (mv b 5 4 0) = 0))), some (.int (nI x)), none]) _
                        refine g_iload_4 hX dX6_digest_292 ?_
                        refine g_aload_0 hX dX6_digest_294 ?_
                        refine gt_X6_now hX dX6_digest_295 ?_
                        refine g_iconst hX 0 dX6_digest_298 (by decide) ?_
                        refine g_ialdN (k := 0) hX (ar_71 Z) (by decide) (by decide) dX6_digest_299 ?_
                        refine g_icmp_ge hX 354 dX6_digest_300 (by decide) (fun c300 => ?_) (fun c300 => ?_)
                        · exact absurd c300 (not_not_intro (by rw [hmd.1 71 (by omega), hn]; exact nI_lt hk292 (by omega)))
                        · refine g_iload_3 hX dX6_digest_303 ?_
                          refine g_if_eq hX 354 dX6_digest_304 (by decide) (fun c304 => ?_) (fun c304 => ?_)
                          · refine g_lload_1 hX dX6_digest_354 ?_
                            exact hq _ _ _ _ dX6_digest_355 (⟨by rw [if_neg (bI_z.mp c304), dgS, if_neg (bI_z.mp c304), ← eHG], hmd⟩)
                          · rw [if_pos (bI_nz.mp c304)]
                            refine g_iconst hX 0 dX6_digest_307 (by decide) ?_
                            refine g_istore_5 hX dX6_digest_308 rfl ?_
                            refine g_loop (np (mv b)) (fun y => m285) (fun y => [some (.ref (zad Z 69)), some (.long (it (fun p h => mix h (drV (mv b) x p)) y (it (fun l h => it (fun p h => mix h (drV (mv b) l p)) (np (mv b)) h) x HG))), none, some (.int (bI (blN (mv b) (mv b 5 4 0) = 0))), some (.int (nI x)), some (.int (nI y))]) rfl rfl (fun y hk310 ih310 => ?_) ?_
                            · show G Z X (m285) 310 ([some (.ref (zad Z 69)), some (.long (it (fun p h => mix h (drV (mv b) x p)) y (it (fun l h => it (fun p h => mix h (drV (mv b) l p)) (np (mv b)) h) x HG))), none, some (.int (bI (blN (mv b) (mv b 5 4 0) = 0))), some (.int (nI x)), some (.int (nI y))]) _
                              refine g_iload_5 hX dX6_digest_310 ?_
                              refine g_aload_0 hX dX6_digest_312 ?_
                              refine gt_X6_now hX dX6_digest_313 ?_
                              refine g_iconst hX 1 dX6_digest_316 (by decide) ?_
                              refine g_ialdN (k := 1) hX (ar_71 Z) (by decide) (by decide) dX6_digest_317 ?_
                              refine g_icmp_ge hX 348 dX6_digest_318 (by decide) (fun c318 => ?_) (fun c318 => ?_)
                              · exact absurd c318 (not_not_intro (by rw [hmd.1 71 (by omega), hp]; exact nI_lt hk310 (by omega)))
                              · refine g_ldc2 hX 31 co_X6_232 dX6_digest_321 ?_
                                refine g_lload_1 hX dX6_digest_324 ?_
                                refine g_lmul hX dX6_digest_325 ?_
                                refine g_aload_0 hX dX6_digest_326 ?_
                                refine gt_X6_drawn hX dX6_digest_327 ?_
                                refine g_bipush hX 6 dX6_digest_330 (by decide) ?_
                                refine g_iload_4 hX dX6_digest_332 ?_
                                refine g_imul hX dX6_digest_334 ?_
                                refine g_iload_5 hX dX6_digest_335 ?_
                                refine g_iadd hX dX6_digest_337 ?_
                                refine g_top _ (ix6 x y) ?_
                                refine g_ialdN (k := (6 * x + y)) hX (ar_76 Z) (by omega) (by decide) dX6_digest_338 ?_
                                refine g_top (drV (mv b) x y) (hd2 (bI_nz.mp c304) x y hk292 hk310) ?_
                                refine g_i2l hX dX6_digest_339 ?_
                                refine g_ladd hX dX6_digest_340 ?_
                                refine g_topL (mix (it (fun p h => mix h (drV (mv b) x p)) y (it (fun l h => it (fun p h => mix h (drV (mv b) l p)) (np (mv b)) h) x HG)) (drV (mv b) x y)) rfl ?_
                                refine g_lstore_1 hX dX6_digest_341 rfl ?_
                                refine g_iinc_5 hX 1 dX6_digest_342 (by decide) rfl ?_
                                refine g_goto hX 310 dX6_digest_345 (by decide) ?_
                                exact g_cast ih310 rfl (by simp only [it, nI_succ]) rfl
                            · show G Z X (m285) 310 ([some (.ref (zad Z 69)), some (.long (it (fun p h => mix h (drV (mv b) x p)) (np (mv b)) (it (fun l h => it (fun p h => mix h (drV (mv b) l p)) (np (mv b)) h) x HG))), none, some (.int (bI (blN (mv b) (mv b 5 4 0) = 0))), some (.int (nI x)), some (.int (nI (np (mv b))))]) _
                              refine g_iload_5 hX dX6_digest_310 ?_
                              refine g_aload_0 hX dX6_digest_312 ?_
                              refine gt_X6_now hX dX6_digest_313 ?_
                              refine g_iconst hX 1 dX6_digest_316 (by decide) ?_
                              refine g_ialdN (k := 1) hX (ar_71 Z) (by decide) (by decide) dX6_digest_317 ?_
                              refine g_icmp_ge hX 348 dX6_digest_318 (by decide) (fun c318 => ?_) (fun c318 => ?_)
                              · refine g_iinc_4 hX 1 dX6_digest_348 (by decide) rfl ?_
                                refine g_goto hX 292 dX6_digest_351 (by decide) ?_
                                exact g_back ih292 rfl (by simp only [it, nI_succ]; rw [if_pos (bI_nz.mp c304)]) (lvw_c (lvw_c (lvw_c (lvw_c (lvw_c (lvw_n lvw_nil))))))
                              · exact absurd c318 (by rw [hmd.1 71 (by omega), hp]; exact Int32.lt_irrefl)
                      · show G Z X (m285) 292 ([some (.ref (zad Z 69)), some (.long (if blN (mv b) (mv b 5 4 0) = 0 then it (fun l h => it (fun p h => mix h (drV (mv b) l p)) (np (mv b)) h) (nl (mv b)) HG else HG)), none, some (.int (bI (blN (mv b) (mv b 5 4 0) = 0))), some (.int (nI (nl (mv b)))), none]) _
                        refine g_iload_4 hX dX6_digest_292 ?_
                        refine g_aload_0 hX dX6_digest_294 ?_
                        refine gt_X6_now hX dX6_digest_295 ?_
                        refine g_iconst hX 0 dX6_digest_298 (by decide) ?_
                        refine g_ialdN (k := 0) hX (ar_71 Z) (by decide) (by decide) dX6_digest_299 ?_
                        refine g_icmp_ge hX 354 dX6_digest_300 (by decide) (fun c300 => ?_) (fun c300 => ?_)
                        · refine g_lload_1 hX dX6_digest_354 ?_
                          exact hq _ _ _ _ dX6_digest_355 (⟨by rw [dgS, mhS, ← eHG], hmd⟩)
                        · exact absurd c300 (by rw [hmd.1 71 (by omega), hn]; exact Int32.lt_irrefl)
                    · exact absurd c209 (by rw [hm5.1 71 (by omega), hp]; exact Int32.lt_irrefl)
                · exact absurd c96 (by rw [hm.1 71 (by omega), hn]; exact Int32.lt_irrefl)
            · exact absurd c62 (Int32.lt_irrefl)
        · exact absurd c35 (Int32.lt_irrefl)
    · exact absurd c8 (Int32.lt_irrefl)
