/-! the reference: blocked, more, greatest, count -/
def popK (s : Nat) : Nat → Nat
  | 0 => 0
  | k + 1 => popK s k + (if s.testBit k = true then 1 else 0)
theorem popK_6 : ∀ s, s < 64 → popK s 6 = popN s := by decide +kernel
theorem popK_s (s k : Nat) (hk : k < 31) : nI (popK s k) + (nI s >>> (nI k &&& 31) &&& 1) = nI (popK s (k + 1)) := by
  rw [and1 _ hk, tb_nI (by omega)]
  simp only [popK]
  by_cases c : s.testBit k = true
  · rw [if_pos c, if_pos c, nI_1]
  · rw [if_neg c, if_neg c, Int32.add_zero, Nat.add_zero]
set_option maxRecDepth 100000 in
set_option maxHeartbeats 4000000 in
theorem c_X6_ones {Z : Zt} {b : Mem} {s : Nat} (hs : s < 64) : Con Z yX6_ones cX6_ones 3 (some .int) 0 [.int (nI s)] b (some (.int (nI (popN s)))) (b) := by
  refine con_i (by decide) (Nat.le_of_ble_eq_true rfl) rfl (fun X hX hq => ?_)
  have hX : Ok Z X cX6_ones 3 RX6 0 := hX
  show G Z X b 0 [some (.int (nI s)), none, none] []
  refine g_iconst hX 0 dX6_ones_0 (by decide) ?_
  refine g_istore_1 hX dX6_ones_1 rfl ?_
  refine g_iconst hX 0 dX6_ones_2 (by decide) ?_
  refine g_istore_2 hX dX6_ones_3 rfl ?_
  refine g_loop (6) (fun k => b) (fun k => [some (.int (nI s)), some (.int (nI (popK s k))), some (.int (nI k))]) rfl rfl (fun k hk4 ih4 => ?_) ?_
  · show G Z X (b) 4 ([some (.int (nI s)), some (.int (nI (popK s k))), some (.int (nI k))]) _
    refine g_iload_2 hX dX6_ones_4 ?_
    refine g_bipush hX 6 dX6_ones_5 (by decide) ?_
    refine g_icmp_ge hX 24 dX6_ones_7 (by decide) (fun c7 => ?_) (fun c7 => ?_)
    · exact absurd c7 (not_not_intro (nI_lt (b := 6) hk4 (by decide)))
    · refine g_iload_1 hX dX6_ones_10 ?_
      refine g_iload_0 hX dX6_ones_11 ?_
      refine g_iload_2 hX dX6_ones_12 ?_
      refine g_ishr hX dX6_ones_13 ?_
      refine g_iconst hX 1 dX6_ones_14 (by decide) ?_
      refine g_iand hX dX6_ones_15 ?_
      refine g_iadd hX dX6_ones_16 ?_
      refine g_top _ (popK_s s k (by omega)) ?_
      refine g_istore_1 hX dX6_ones_17 rfl ?_
      refine g_iinc_2 hX 1 dX6_ones_18 (by decide) rfl ?_
      refine g_goto hX 4 dX6_ones_21 (by decide) ?_
      exact g_cast ih4 rfl (by simp only [nI_succ]) rfl
  · show G Z X (b) 4 ([some (.int (nI s)), some (.int (nI (popK s (6)))), some (.int (nI (6)))]) _
    refine g_iload_2 hX dX6_ones_4 ?_
    refine g_bipush hX 6 dX6_ones_5 (by decide) ?_
    refine g_icmp_ge hX 24 dX6_ones_7 (by decide) (fun c7 => ?_) (fun c7 => ?_)
    · refine g_iload_1 hX dX6_ones_24 ?_
      exact hq _ _ _ _ dX6_ones_25 (by rfl) (by rw [popK_6 s hs])
    · exact absurd c7 (Int32.lt_irrefl)
theorem cr_64 (sp : Nat → Int32) {k : Nat} (h : k < 64) : (crS sp k).1 < 64 := by have := (crS_b sp k).1; omega
set_option maxRecDepth 100000 in
set_option maxHeartbeats 4000000 in
theorem c_X6_blocked {Z : Zt} {b : Mem} (hV : Val (mv b))  : ConE Z yX6_blocked cX6_blocked 4 (some .int) 5 [.ref (zad Z 69)] b (pI (fun x b' => x = nI (blN (mv b) (mv b 5 4 0)) ∧ MG b 0 b')) := by
  have hn : b 71 0 = nI (nl (mv b)) := hV.1.1
  have hn6 := hV.1.2
  obtain ⟨T, eT, hT⟩ := hV.target
  have eT2 : b 71 6 = mv b 5 4 0 := rfl
  have h64 := pow64 hn6
  have h1p := pow1 (nl (mv b))
  have hlm := lyM_nm hV (T := T) (by omega)
  rw [← eT] at hlm
  have hsp : ∀ s, (spR (ndV (mv b) (mv b 5 4 0)) (reachN (mv b)) (nl (mv b)) (np (mv b)) (humpsS (mv b))) s < 0 ↔ ¬ 0 ≤ spZ (nZ (mv b) (mv b 5 4 0)) (reachN (mv b)) (nl (mv b)) (np (mv b)) (rZ (mv b)) s := fun s => spR_neg s hn6 hV.2.1.2 (by have := hV.nZ_b (T := T) (by omega); rw [← eT] at this; exact this) hV.rZ_b
  refine conE_i (by decide) (Nat.le_of_ble_eq_true rfl) rfl (fun X hX hq => ?_)
  have hX : Ok Z X cX6_blocked 4 RX6 5 := hX
  show G Z X b 0 [some (.ref (zad Z 69)), none, none, none] []
  refine g_iconst hX 0 dX6_blocked_0 (by decide) ?_
  refine g_istore_1 hX dX6_blocked_1 rfl ?_
  refine g_iconst hX 0 dX6_blocked_2 (by decide) ?_
  refine g_istore_2 hX dX6_blocked_3 rfl ?_
  refine g_loop (nl (mv b)) (fun k => b) (fun k => [some (.ref (zad Z 69)), some (.int (nI (bitsN (fun l => decide (mv b 5 4 0 < baseS (mv b) l)) k))), some (.int (nI k)), none]) rfl rfl (fun k hk4 ih4 => ?_) ?_
  · show G Z X (b) 4 ([some (.ref (zad Z 69)), some (.int (nI (bitsN (fun l => decide (mv b 5 4 0 < baseS (mv b) l)) k))), some (.int (nI k)), none]) _
    refine g_iload_2 hX dX6_blocked_4 ?_
    refine g_aload_0 hX dX6_blocked_5 ?_
    refine gt_X6_now hX dX6_blocked_6 ?_
    refine g_iconst hX 0 dX6_blocked_9 (by decide) ?_
    refine g_ialdN (k := 0) hX (ar_71 Z) (by decide) (by decide) dX6_blocked_10 ?_
    refine g_icmp_ge hX 45 dX6_blocked_11 (by decide) (fun c11 => ?_) (fun c11 => ?_)
    · exact absurd c11 (not_not_intro (by rw [hn]; exact nI_lt hk4 (by omega)))
    · refine g_iload_1 hX dX6_blocked_14 ?_
      refine g_aload_0 hX dX6_blocked_15 ?_
      refine g_iload_2 hX dX6_blocked_16 ?_
      refine g_cV1r hX mkX6_base ml_X6_126 (c_X6_base hV hk4) (ob_69 Z _) dX6_blocked_17 rfl (by decide) (Nat.le_of_ble_eq_true rfl) ?_
      refine g_aload_0 hX dX6_blocked_20 ?_
      refine gt_X6_now hX dX6_blocked_21 ?_
      refine g_bipush hX 6 dX6_blocked_24 (by decide) ?_
      refine g_ialdN (k := 6) hX (ar_71 Z) (by decide) (by decide) dX6_blocked_26 ?_
      refine g_icmp_le hX 36 dX6_blocked_27 (by decide) (fun c27 => ?_) (fun c27 => ?_)
      · refine g_iconst hX 0 dX6_blocked_36 (by decide) ?_
        refine g_ior hX dX6_blocked_37 ?_
        refine g_top (nI (bitsN (fun l => decide (mv b 5 4 0 < baseS (mv b) l)) (k + 1))) (by first | (rw [or_bit (bits_lt _ _) (by omega)]; show _ = nI (bitsN _ k + (if decide (mv b 5 4 0 < baseS (mv b) k) = true then 2 ^ k else 0)); rw [if_pos (show decide (mv b 5 4 0 < baseS (mv b) k) = true from decide_eq_true c27)]) | (rw [← nI_0, nx_or, Nat.or_zero]; show _ = nI (bitsN _ k + (if decide (mv b 5 4 0 < baseS (mv b) k) = true then 2 ^ k else 0)); rw [if_neg (show ¬ decide (mv b 5 4 0 < baseS (mv b) k) = true from fun z => c27 (of_decide_eq_true z)), Nat.add_zero])) ?_
        refine g_istore_1 hX dX6_blocked_38 rfl ?_
        refine g_iinc_2 hX 1 dX6_blocked_39 (by decide) rfl ?_
        refine g_goto hX 4 dX6_blocked_42 (by decide) ?_
        exact g_cast ih4 rfl (by simp only [nI_succ]) rfl
      · skip
        refine g_iconst hX 1 dX6_blocked_30 (by decide) ?_
        refine g_iload_2 hX dX6_blocked_31 ?_
        refine g_ishl hX dX6_blocked_32 ?_
        refine g_top (nI (2 ^ k)) (one_shl (by omega)) ?_
        refine g_goto hX 37 dX6_blocked_33 (by decide) ?_
        refine g_ior hX dX6_blocked_37 ?_
        refine g_top (nI (bitsN (fun l => decide (mv b 5 4 0 < baseS (mv b) l)) (k + 1))) (by first | (rw [or_bit (bits_lt _ _) (by omega)]; show _ = nI (bitsN _ k + (if decide (mv b 5 4 0 < baseS (mv b) k) = true then 2 ^ k else 0)); rw [if_pos (show decide (mv b 5 4 0 < baseS (mv b) k) = true from decide_eq_true c27)]) | (rw [← nI_0, nx_or, Nat.or_zero]; show _ = nI (bitsN _ k + (if decide (mv b 5 4 0 < baseS (mv b) k) = true then 2 ^ k else 0)); rw [if_neg (show ¬ decide (mv b 5 4 0 < baseS (mv b) k) = true from fun z => c27 (of_decide_eq_true z)), Nat.add_zero])) ?_
        refine g_istore_1 hX dX6_blocked_38 rfl ?_
        refine g_iinc_2 hX 1 dX6_blocked_39 (by decide) rfl ?_
        refine g_goto hX 4 dX6_blocked_42 (by decide) ?_
        exact g_cast ih4 rfl (by simp only [nI_succ]) rfl
  · show G Z X (b) 4 ([some (.ref (zad Z 69)), some (.int (nI (bitsN (fun l => decide (mv b 5 4 0 < baseS (mv b) l)) (nl (mv b))))), some (.int (nI (nl (mv b)))), none]) _
    refine g_iload_2 hX dX6_blocked_4 ?_
    refine g_aload_0 hX dX6_blocked_5 ?_
    refine gt_X6_now hX dX6_blocked_6 ?_
    refine g_iconst hX 0 dX6_blocked_9 (by decide) ?_
    refine g_ialdN (k := 0) hX (ar_71 Z) (by decide) (by decide) dX6_blocked_10 ?_
    refine g_icmp_ge hX 45 dX6_blocked_11 (by decide) (fun c11 => ?_) (fun c11 => ?_)
    · refine g_iload_1 hX dX6_blocked_45 ?_
      refine g_if_eq hX 51 dX6_blocked_46 (by decide) (fun c46 => ?_) (fun c46 => ?_)
      · refine g_aload_0 hX dX6_blocked_51 ?_
        refine g_aload_0 hX dX6_blocked_52 ?_
        refine gt_X6_now hX dX6_blocked_53 ?_
        refine g_bipush hX 6 dX6_blocked_56 (by decide) ?_
        refine g_ialdN (k := 6) hX (ar_71 Z) (by decide) (by decide) dX6_blocked_58 ?_
        refine g_top (mv b 5 4 0) rfl ?_
        refine g_cV1r hX mkX6_lays ml_X6_160 (c_X6_lays hV) (ob_69 Z _) dX6_blocked_59 rfl (by decide) (Nat.le_of_ble_eq_true rfl) ?_
        refine g_pop hX dX6_blocked_62 rfl ?_
        refine g_iconst hX 0 dX6_blocked_63 (by decide) ?_
        refine g_istore_2 hX dX6_blocked_64 rfl ?_
        refine g_iconst hX 1 dX6_blocked_65 (by decide) ?_
        refine g_istore_3 hX dX6_blocked_66 rfl ?_
        refine g_loop (2 ^ nl (mv b) - 1) (fun k => lyM b (mv b 5 4 0)) (fun k => [some (.ref (zad Z 69)), some (.int (nI (bitsN (fun l => decide (mv b 5 4 0 < baseS (mv b) l)) (nl (mv b))))), some (.int (nI (crS (spR (ndV (mv b) (mv b 5 4 0)) (reachN (mv b)) (nl (mv b)) (np (mv b)) (humpsS (mv b))) k).1)), some (.int (nI (k + 1)))]) rfl rfl (fun k hk67 ih67 => ?_) ?_
        · show G Z X (lyM b (mv b 5 4 0)) 67 ([some (.ref (zad Z 69)), some (.int (nI (bitsN (fun l => decide (mv b 5 4 0 < baseS (mv b) l)) (nl (mv b))))), some (.int (nI (crS (spR (ndV (mv b) (mv b 5 4 0)) (reachN (mv b)) (nl (mv b)) (np (mv b)) (humpsS (mv b))) k).1)), some (.int (nI (k + 1)))]) _
          have hcb := cr_64 (spR (ndV (mv b) (mv b 5 4 0)) (reachN (mv b)) (nl (mv b)) (np (mv b)) (humpsS (mv b))) (k := k) (by omega)
          refine g_iload_3 hX dX6_blocked_67 ?_
          refine g_iconst hX 1 dX6_blocked_68 (by decide) ?_
          refine g_aload_0 hX dX6_blocked_69 ?_
          refine gt_X6_now hX dX6_blocked_70 ?_
          refine g_iconst hX 0 dX6_blocked_73 (by decide) ?_
          refine g_ialdN (k := 0) hX (ar_71 Z) (by decide) (by decide) dX6_blocked_74 ?_
          refine g_ishl hX dX6_blocked_75 ?_
          refine g_top (nI (2 ^ nl (mv b))) (by rw [lyM_c _ _ (by decide) (by decide) (by decide), hn, one_shl (by omega)]) ?_
          refine g_icmp_ge hX 114 dX6_blocked_76 (by decide) (fun c76 => ?_) (fun c76 => ?_)
          · exact absurd c76 (not_not_intro (nI_lt (by omega) (by omega)))
          · refine g_aload_0 hX dX6_blocked_79 ?_
            refine g_iload_3 hX dX6_blocked_80 ?_
            refine g_cV1r hX mkX6_isEnough ml_X6_157 (c_X6_isEnough hlm) (ob_69 Z _) dX6_blocked_81 rfl (by decide) (Nat.le_of_ble_eq_true rfl) ?_
            refine g_if_ne hX 106 dX6_blocked_84 (by decide) (fun c84 => ?_) (fun c84 => ?_)
            · replace c84 := bI_nz.mp c84
              refine g_iload_2 hX dX6_blocked_106 ?_
              refine g_istore_2 hX dX6_blocked_107 rfl ?_
              refine g_iinc_3 hX 1 dX6_blocked_108 (by decide) rfl ?_
              refine g_goto hX 67 dX6_blocked_111 (by decide) ?_
              exact g_cast ih67 rfl (by simp only [nI_succ]; rw [crS_s, if_neg (fun z => (hsp (k + 1)).mp z.1 c84)]) rfl
            · replace c84 := bI_z.mp c84
              refine g_iload_2 hX dX6_blocked_87 ?_
              refine g_if_eq hX 102 dX6_blocked_88 (by decide) (fun c88 => ?_) (fun c88 => ?_)
              · refine g_iload_3 hX dX6_blocked_102 ?_
                refine g_goto hX 107 dX6_blocked_103 (by decide) ?_
                refine g_istore_2 hX dX6_blocked_107 rfl ?_
                refine g_iinc_3 hX 1 dX6_blocked_108 (by decide) rfl ?_
                refine g_goto hX 67 dX6_blocked_111 (by decide) ?_
                exact g_cast ih67 rfl (by simp only [nI_succ]; rw [crS_s, if_pos ⟨(hsp (k + 1)).mpr c84, Or.inl ((nI0 (by omega)).mp c88)⟩, nI_succ]) rfl
              · refine g_iload_3 hX dX6_blocked_91 ?_
                refine g_cS1r hX mkX6_ones ml_X6_173 (c_X6_ones (by omega)) dX6_blocked_92 rfl (by decide) (Nat.le_of_ble_eq_true rfl) ?_
                refine g_iload_2 hX dX6_blocked_95 ?_
                refine g_cS1r hX mkX6_ones ml_X6_173 (c_X6_ones hcb) dX6_blocked_96 rfl (by decide) (Nat.le_of_ble_eq_true rfl) ?_
                refine g_icmp_ge hX 106 dX6_blocked_99 (by decide) (fun c99 => ?_) (fun c99 => ?_)
                · refine g_iload_2 hX dX6_blocked_106 ?_
                  refine g_istore_2 hX dX6_blocked_107 rfl ?_
                  refine g_iinc_3 hX 1 dX6_blocked_108 (by decide) rfl ?_
                  refine g_goto hX 67 dX6_blocked_111 (by decide) ?_
                  exact g_cast ih67 rfl (by simp only [nI_succ]; rw [crS_s, if_neg (fun z => z.2.elim (fun q => c88 ((nI0 (by omega)).mpr q)) (fun q => c99 (nI_lt q (by have := pop_le (crS (spR (ndV (mv b) (mv b 5 4 0)) (reachN (mv b)) (nl (mv b)) (np (mv b)) (humpsS (mv b))) k).1; omega))))]) rfl
                · refine g_iload_3 hX dX6_blocked_102 ?_
                  refine g_goto hX 107 dX6_blocked_103 (by decide) ?_
                  refine g_istore_2 hX dX6_blocked_107 rfl ?_
                  refine g_iinc_3 hX 1 dX6_blocked_108 (by decide) rfl ?_
                  refine g_goto hX 67 dX6_blocked_111 (by decide) ?_
                  exact g_cast ih67 rfl (by simp only [nI_succ]; rw [crS_s, if_pos ⟨(hsp (k + 1)).mpr c84, Or.inr ((nI_ltI (by have := pop_le (k + 1); omega) (by have := pop_le (crS (spR (ndV (mv b) (mv b 5 4 0)) (reachN (mv b)) (nl (mv b)) (np (mv b)) (humpsS (mv b))) k).1; omega)).mp c99)⟩, nI_succ]) rfl
        · show G Z X (lyM b (mv b 5 4 0)) 67 ([some (.ref (zad Z 69)), some (.int (nI (bitsN (fun l => decide (mv b 5 4 0 < baseS (mv b) l)) (nl (mv b))))), some (.int (nI (crS (spR (ndV (mv b) (mv b 5 4 0)) (reachN (mv b)) (nl (mv b)) (np (mv b)) (humpsS (mv b))) (2 ^ nl (mv b) - 1)).1)), some (.int (nI ((2 ^ nl (mv b) - 1) + 1)))]) _
          refine g_iload_3 hX dX6_blocked_67 ?_
          refine g_iconst hX 1 dX6_blocked_68 (by decide) ?_
          refine g_aload_0 hX dX6_blocked_69 ?_
          refine gt_X6_now hX dX6_blocked_70 ?_
          refine g_iconst hX 0 dX6_blocked_73 (by decide) ?_
          refine g_ialdN (k := 0) hX (ar_71 Z) (by decide) (by decide) dX6_blocked_74 ?_
          refine g_ishl hX dX6_blocked_75 ?_
          refine g_top (nI (2 ^ nl (mv b))) (by rw [lyM_c _ _ (by decide) (by decide) (by decide), hn, one_shl (by omega)]) ?_
          refine g_icmp_ge hX 114 dX6_blocked_76 (by decide) (fun c76 => ?_) (fun c76 => ?_)
          · refine g_iload_2 hX dX6_blocked_114 ?_
            exact hq _ _ _ _ dX6_blocked_115 (⟨by show _ = nI (blN _ _); rw [blN, if_pos (show tooN (mv b) (mv b 5 4 0) = 0 from (nI0 (by have := tooN_lt (mv b) (mv b 5 4 0) hn6; omega)).mp c46)]; rfl, lyM_mg b _⟩)
          · exact absurd c76 (by rw [Nat.sub_add_cancel h1p]; exact Int32.lt_irrefl)
      · refine g_iload_1 hX dX6_blocked_49 ?_
        exact hq _ _ _ _ dX6_blocked_50 (⟨by show _ = nI (blN _ _); rw [blN, if_neg (fun z => c46 (by rw [show bitsN _ _ = 0 from z, nI_0]))]; rfl, MG.rf b⟩)
    · exact absurd c11 (by rw [hn]; exact Int32.lt_irrefl)
def rZp (v : View) (p : Nat) : Nat → Int := fun i => if i = p then rZ v p + 1 else rZ v i
def moB (v : View) (t : Int32) (p : Nat) : Bool := decide (tooN v t = 0) && aeB (spZ (nZ v t) (reachN v) (nl v) (np v) (rZp v p)) (2 ^ nl v - 1)
theorem Val.hp1 {v : View} (h : Val v) {p : Nat} (hp : p < np v) : (humpsS v p + 1).toInt = rZ v p + 1 := by
  obtain ⟨H, e, hH⟩ := h.hump hp
  unfold rZ
  rw [e, nI_1, nI_toInt (by omega), nI_toInt (by omega)]
  omega
theorem Val.rZp_b {v : View} (h : Val v) {p : Nat} (hp : p < np v) : BdZ (rZp v p) (np v) := fun i hi => by
  have h1 := h.hp_b hi
  have h2 := h.hp_b hp
  unfold rZp rZ
  split <;> omega
theorem spZ_congr {nd : Nat → Int} {my : Nat → Nat} {n np : Nat} {r r' : Nat → Int} (h : ∀ i, i < np → r i = r' i) (s : Nat) : spZ nd my n np r s = spZ nd my n np r' s := by
  unfold spZ
  rw [wZ_congr (fun i hi => ⟨rfl, fun _ => h i hi⟩)]
theorem aeB_congr {f g : Nat → Int} {k : Nat} (h : ∀ s, f s = g s) : aeB f k = aeB g k := by rw [show f = g from funext h]
theorem mr_ae {v : View} (hV : Val v) {T : Nat} (eT : v 5 4 0 = nI T) (hT : T ≤ 1000) {p : Nat} (hp : p < np v) : mrF v p ↔ moB v (v 5 4 0) p = true := by
  have e : ∀ i, i < np v → (upd (humpsS v) p (humpsS v p + 1) i).toInt = rZp v p i := fun i hi => by
    unfold rZp upd
    by_cases c : i = p
    · subst c; rw [if_pos rfl, if_pos rfl]; exact hV.hp1 hi
    · rw [if_neg c, if_neg c]; rfl
  have k := cr_ae (nd := ndV v (v 5 4 0)) (my := reachN v) (n := nl v) (np := np v) (rm := upd (humpsS v) p (humpsS v p + 1)) hV.1.2 hV.2.1.2 (by rw [eT]; exact hV.nZ_b hT) (fun i hi => by
    have := hV.rZp_b hp i hi
    rw [← e i hi] at this
    exact this)
  rw [aeB_congr (spZ_congr e)] at k
  unfold mrF moB
  rw [k, Bool.and_eq_true, decide_eq_true_eq]
  rfl
def fdS (f : Nat → Bool) (n : Nat) : Nat → Int32
  | 0 => -1
  | k + 1 => if f (n - 1 - k) = true then nI (n - 1 - k) else fdS f n k
theorem fdS_fst {f : Nat → Bool} {F : Nat → Prop} {n : Nat} (hF : ∀ p, p < n → (F p ↔ f p = true)) : isFst F n (fdS f n n) := by
  have key : ∀ k, k ≤ n → (∃ p, n - k ≤ p ∧ p < n ∧ F p ∧ (∀ q, n - k ≤ q → q < p → ¬ F q) ∧ fdS f n k = nI p) ∨ (∀ p, n - k ≤ p → p < n → ¬ F p) ∧ fdS f n k = -1 := by
    intro k
    induction k with
    | zero => intro _; exact Or.inr ⟨fun p h1 h2 => by omega, rfl⟩
    | succ k ih =>
      intro hk
      simp only [fdS]
      have e : n - 1 - k = n - (k + 1) := by omega
      rw [e]
      by_cases c : f (n - (k + 1)) = true
      · rw [if_pos c]
        exact Or.inl ⟨n - (k + 1), by omega, by omega, (hF _ (by omega)).mpr c, fun q h1 h2 => by omega, rfl⟩
      · rw [if_neg c]
        rcases ih (by omega) with ⟨p, h1, h2, h3, h4, h5⟩ | ⟨h1, h2⟩
        · refine Or.inl ⟨p, by omega, h2, h3, fun q g1 g2 => ?_, h5⟩
          rcases Nat.lt_or_ge q (n - k) with z | z
          · have : q = n - (k + 1) := by omega
            rw [this, hF _ (by omega)]; exact c
          · exact h4 q z g2
        · refine Or.inr ⟨fun p g1 g2 => ?_, h2⟩
          rcases Nat.lt_or_ge p (n - k) with z | z
          · have : p = n - (k + 1) := by omega
            rw [this, hF _ (by omega)]; exact c
          · exact h1 p z g2
  rcases key n (Nat.le_refl n) with ⟨p, h1, h2, h3, h4, h5⟩ | ⟨h1, h2⟩
  · exact Or.inl ⟨p, h2, h3, fun q g => h4 q (by omega) g, h5⟩
  · exact Or.inr ⟨fun p g => h1 p (by omega) g, h2⟩
theorem moN {b m : Mem} {T p : Nat} (hV : Val (mv b)) (hT : T ≤ 1000) (e : mv m = mv b) (hp : p < np (mv b)) : Nm (up2 (lyM m (nI T)) 74 p (lyM m (nI T) 74 p + 1)) (nl (mv b)) (np (mv b)) (nZ (mv b) (nI T)) (reachN (mv b)) (rZp (mv b) p) := by
  obtain ⟨⟨a1, a2⟩, ⟨a3, a4⟩, a5, a6, a7, a8⟩ := lyM_nm (b := m) (T := T) (by rw [e]; exact hV) hT
  rw [e] at a1 a2 a3 a4 a5 a6 a7 a8
  refine ⟨⟨by rw [u2c _ _ (by decide)]; exact a1, a2⟩, ⟨by rw [u2c _ _ (by decide)]; exact a3, a4⟩, fun l hl => ?_, fun i hi => ?_, a7, hV.rZp_b hp⟩
  · rw [u2c _ _ (by decide), u2c _ _ (by decide)]; exact a5 l hl
  · unfold rZp
    by_cases c : i = p
    · subst c
      rw [u2s, if_pos rfl, lyM_74 m _ (by rw [e]; exact hp), e, ← hV.hp1 hp]; exact zI_of _
    · rw [u2k _ _ c, if_neg c]; exact a6 i hi
theorem nI_nlt0 (n : Nat) (h : n < 2 ^ 31) : ¬ nI n < 0 := by rw [← nI_0]; exact nI_nlt (by omega) h
set_option maxRecDepth 100000 in
set_option maxHeartbeats 4000000 in
theorem c_X6_more {Z : Zt} {b : Mem} (hV : Val (mv b))  : ConE Z yX6_more cX6_more 4 (some .int) 7 [.ref (zad Z 69)] b (pI (fun x b' => moreP (mv b) x ∧ MG b (moreC (mv b)) b')) := by
  have hn : b 71 0 = nI (nl (mv b)) := hV.1.1
  have hn6 := hV.1.2
  have hp : b 71 1 = nI (np (mv b)) := hV.2.1.1
  have hp6 := hV.2.1.2
  obtain ⟨T, eT, hT⟩ := hV.target
  have e0 := (lyM_mg b (mv b 5 4 0)).v
  refine conE_i (by decide) (Nat.le_of_ble_eq_true rfl) rfl (fun X hX hq => ?_)
  have hX : Ok Z X cX6_more 4 RX6 7 := hX
  show G Z X b 0 [some (.ref (zad Z 69)), none, none, none] []
  refine g_aload_0 hX dX6_more_0 ?_
  refine g_cV0r hX mkX6_allCanNow ml_X6_176 (c_X6_allCanNow hV) (ob_69 Z _) dX6_more_1 rfl (by decide) (Nat.le_of_ble_eq_true rfl) ?_
  refine g_if_eq hX 12 dX6_more_4 (by decide) (fun c4 => ?_) (fun c4 => ?_)
  · replace c4 := bI_z.mp c4
    skip
    refine g_iconst hX (-1) dX6_more_12 (by decide) ?_
    refine g_istore_1 hX dX6_more_13 rfl ?_
    refine g_aload_0 hX dX6_more_14 ?_
    refine gt_X6_now hX dX6_more_15 ?_
    refine g_iconst hX 1 dX6_more_18 (by decide) ?_
    refine g_ialdN (k := 1) hX (ar_71 Z) (by decide) (by decide) dX6_more_19 ?_
    refine g_iconst hX 1 dX6_more_20 (by decide) ?_
    refine g_isub hX dX6_more_21 ?_
    refine g_top (zI ((np (mv b) : Int) - 1 - ((0 : Nat) : Int))) (by rw [lyM_c _ _ (by decide) (by decide) (by decide), hp, show (1 : Int32) = zI 1 from rfl, nI_z, zI_sub]; congr 1; omega) ?_
    refine g_istore_2 hX dX6_more_22 rfl ?_
    refine g_weak (lvw_c (lvw_c (lvw_c (lvw_n lvw_nil)))) (g_loopI (np (mv b)) (fun k m LL => (MG b 0 m) ∧ LL = [some (.ref (zad Z 69)), some (.int (fdS (moB (mv b) (mv b 5 4 0)) (np (mv b)) k)), some (.int (zI ((np (mv b) : Int) - 1 - (k : Int)))), none]) ⟨lyM_mg b _, rfl⟩ ?_ ?_)
    · rintro k m _ hk23 ⟨hI, rfl⟩ ih23
      have em := hI.v
      have ep : zI ((np (mv b) : Int) - 1 - (k : Int)) = nI (np (mv b) - 1 - k) := by rw [zI_nat (by omega)]; congr 1; omega
      have m6 : m 71 6 = nI T := by rw [hI.1 71 (by omega)]; exact eT
      refine g_iload_2 hX dX6_more_23 ?_
      refine g_if_lt hX 72 dX6_more_24 (by decide) (fun c24 => ?_) (fun c24 => ?_)
      · exact absurd c24 (by rw [ep]; exact nI_nlt0 _ (by omega))
      · refine g_aload_0 hX dX6_more_27 ?_
        refine g_aload_0 hX dX6_more_28 ?_
        refine gt_X6_now hX dX6_more_29 ?_
        refine g_bipush hX 6 dX6_more_32 (by decide) ?_
        refine g_ialdN (k := 6) hX (ar_71 Z) (by decide) (by decide) dX6_more_34 ?_
        refine g_top (nI T) m6 ?_
        refine g_cV1r hX mkX6_lays ml_X6_160 (c_X6_lays (b := m) (by rw [em]; exact hV)) (ob_69 Z _) dX6_more_35 rfl (by decide) (Nat.le_of_ble_eq_true rfl) ?_
        refine g_top (bI (tooN (mv b) (nI T) = 0)) (by rw [em]) ?_
        refine g_istore_3 hX dX6_more_38 rfl ?_
        refine g_aload_0 hX dX6_more_39 ?_
        refine gt_X6_room hX dX6_more_40 ?_
        refine g_iload_2 hX dX6_more_43 ?_
        refine g_top (nI (np (mv b) - 1 - k)) ep ?_
        refine g_dup2 hX dX6_more_44 rfl rfl ?_
        refine g_ialdN (k := (np (mv b) - 1 - k)) hX (ar_74 Z) (by omega) (by decide) dX6_more_45 ?_
        refine g_iconst hX 1 dX6_more_46 (by decide) ?_
        refine g_iadd hX dX6_more_47 ?_
        refine g_iastN (k := (np (mv b) - 1 - k)) hX (ar_74 Z) (by omega) (by decide) dX6_more_48 ?_
        refine g_iload_3 hX dX6_more_49 ?_
        refine g_if_eq hX 64 dX6_more_50 (by decide) (fun c50 => ?_) (fun c50 => ?_)
        · replace c50 := bI_z.mp c50
          refine g_iload_1 hX dX6_more_64 ?_
          refine g_istore_1 hX dX6_more_65 rfl ?_
          refine g_iinc_2 hX (-1) dX6_more_66 (by decide) rfl ?_
          refine g_goto hX 23 dX6_more_69 (by decide) ?_
          exact g_weak (lvw_c (lvw_c (lvw_c (lvw_n lvw_nil)))) (ih23 _ _ ⟨hI.tr (MG.same (fun j hj => by rw [u2c _ _ (by omega)]; exact lyM_c _ _ (by omega) (by omega) (by omega))), by
  rw [show (-1 : Int32) = zI (-1) from rfl, zI_add]
  simp only [fdS]
  rw [show (np (mv b) : Int) - 1 - (k : Int) + -1 = (np (mv b) : Int) - 1 - ((k + 1 : Nat) : Int) by omega, if_neg (fun z => by unfold moB at z; rw [Bool.and_eq_true, decide_eq_true_eq, eT] at z; exact c50 z.1)]⟩)
        · replace c50 := bI_nz.mp c50
          refine g_aload_0 hX dX6_more_53 ?_
          refine g_cV0r hX mkX6_areEnough ml_X6_163 (c_X6_areEnough (moN hV (T := T) (by omega) em (by omega))) (ob_69 Z _) dX6_more_54 rfl (by decide) (Nat.le_of_ble_eq_true rfl) ?_
          refine g_if_eq hX 64 dX6_more_57 (by decide) (fun c57 => ?_) (fun c57 => ?_)
          · replace c57 := bI_z.mp c57
            refine g_iload_1 hX dX6_more_64 ?_
            refine g_istore_1 hX dX6_more_65 rfl ?_
            refine g_iinc_2 hX (-1) dX6_more_66 (by decide) rfl ?_
            refine g_goto hX 23 dX6_more_69 (by decide) ?_
            exact g_weak (lvw_c (lvw_c (lvw_c (lvw_n lvw_nil)))) (ih23 _ _ ⟨hI.tr (MG.same (fun j hj => by rw [u2c _ _ (by omega)]; exact lyM_c _ _ (by omega) (by omega) (by omega))), by
  rw [show (-1 : Int32) = zI (-1) from rfl, zI_add]
  simp only [fdS]
  rw [show (np (mv b) : Int) - 1 - (k : Int) + -1 = (np (mv b) : Int) - 1 - ((k + 1 : Nat) : Int) by omega, if_neg (fun z => by unfold moB at z; rw [Bool.and_eq_true, decide_eq_true_eq, eT] at z; exact c57 z.2)]⟩)
          · replace c57 := bI_nz.mp c57
            refine g_iload_2 hX dX6_more_60 ?_
            refine g_top (nI (np (mv b) - 1 - k)) ep ?_
            refine g_goto hX 65 dX6_more_61 (by decide) ?_
            refine g_istore_1 hX dX6_more_65 rfl ?_
            refine g_iinc_2 hX (-1) dX6_more_66 (by decide) rfl ?_
            refine g_goto hX 23 dX6_more_69 (by decide) ?_
            exact g_weak (lvw_c (lvw_c (lvw_c (lvw_n lvw_nil)))) (ih23 _ _ ⟨hI.tr (MG.same (fun j hj => by rw [u2c _ _ (by omega)]; exact lyM_c _ _ (by omega) (by omega) (by omega))), by
  rw [show (-1 : Int32) = zI (-1) from rfl, zI_add]
  simp only [fdS]
  rw [show (np (mv b) : Int) - 1 - (k : Int) + -1 = (np (mv b) : Int) - 1 - ((k + 1 : Nat) : Int) by omega, if_pos (show moB (mv b) (mv b 5 4 0) (np (mv b) - 1 - k) = true by unfold moB; rw [Bool.and_eq_true, decide_eq_true_eq, eT]; exact ⟨c50, c57⟩)]⟩)
    · rintro m _ ⟨hI, rfl⟩
      refine g_iload_2 hX dX6_more_23 ?_
      refine g_if_lt hX 72 dX6_more_24 (by decide) (fun c24 => ?_) (fun c24 => ?_)
      · refine g_iload_1 hX dX6_more_72 ?_
        exact hq _ _ _ _ dX6_more_73 (⟨Or.inr ⟨c4, fdS_fst (fun p hp => mr_ae hV eT (by omega) hp)⟩, by rw [moreC, if_neg c4]; exact hI⟩)
      · exact absurd c24 (not_not_intro (by rw [show (np (mv b) : Int) - 1 - (np (mv b) : Int) = -1 by omega]; decide))
  · replace c4 := bI_nz.mp c4
    refine g_aload_0 hX dX6_more_7 ?_
    refine g_cV0r hX mkX6_no ml_X6_47 (c_X6_no) (ob_69 Z _) dX6_more_8 rfl (by decide) (Nat.le_of_ble_eq_true rfl) ?_
    exact hq _ _ _ _ dX6_more_11 (⟨Or.inl ⟨c4, rfl⟩, by rw [moreC, if_pos c4]; exact (lyM_mg b _).tr (MG.no _)⟩)
