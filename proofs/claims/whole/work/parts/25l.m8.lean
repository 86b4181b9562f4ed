/-! the reference: draws, free, pockets -/
set_option maxRecDepth 100000 in
set_option maxHeartbeats 4000000 in
theorem c_X6_draws {Z : Zt} {b : Mem} {l p : Int32} (hV : Val (mv b))  : ConE Z yX6_draws cX6_draws 3 (some .int) 9 [.ref (zad Z 69), .int l, .int p] b (pI (fun x b' => x = drR (mv b) l p ∧ MG b (drC (mv b) l p) b')) := by
  have hn : b 71 0 = nI (nl (mv b)) := hV.1.1
  have hn6 := hV.1.2
  have hp : b 71 1 = nI (np (mv b)) := hV.2.1.1
  have hp6 := hV.2.1.2
  refine conE_i (by decide) (Nat.le_of_ble_eq_true rfl) rfl (fun X hX hq => ?_)
  have hX : Ok Z X cX6_draws 3 RX6 9 := hX
  show G Z X b 0 [some (.ref (zad Z 69)), some (.int l), some (.int p)] []
  refine g_aload_0 hX dX6_draws_0 ?_
  refine g_iload_1 hX dX6_draws_1 ?_
  refine g_cV1r hX mkX6_isLine ml_X6_65 (c_X6_isLine hV) (ob_69 Z _) dX6_draws_2 rfl (by decide) (Nat.le_of_ble_eq_true rfl) ?_
  refine g_if_eq hX 16 dX6_draws_5 (by decide) (fun c5 => ?_) (fun c5 => ?_)
  · replace c5 := bI_z.mp c5
    refine g_aload_0 hX dX6_draws_16 ?_
    refine g_cV0r hX mkX6_bad ml_X6_43 (c_X6_bad) (ob_69 Z _) dX6_draws_17 rfl (by decide) (Nat.le_of_ble_eq_true rfl) ?_
    exact hq _ _ _ _ dX6_draws_20 (⟨by rw [drR, cl_f (fun z => c5 z.1)], by rw [drC, cl_f (fun z => c5 z.1)]; exact MG.bad b⟩)
  · replace c5 := bI_nz.mp c5
    refine g_aload_0 hX dX6_draws_8 ?_
    refine g_iload_2 hX dX6_draws_9 ?_
    refine g_cV1r hX mkX6_isPocket ml_X6_73 (c_X6_isPocket hV) (ob_69 Z _) dX6_draws_10 rfl (by decide) (Nat.le_of_ble_eq_true rfl) ?_
    refine g_if_ne hX 21 dX6_draws_13 (by decide) (fun c13 => ?_) (fun c13 => ?_)
    · replace c13 := bI_nz.mp c13
      obtain ⟨j, hj, rfl⟩ := in_of c5.1 (by have := c5.2; rw [hn] at this; exact this) (by omega)
      have hjc : (nI j).toNatClampNeg = j := nI_clamp (by omega)
      have hj6 := hV.l6 hj
      obtain ⟨q, hqq, rfl⟩ := in_of c13.1 (by have := c13.2; rw [hp] at this; exact this) (by omega)
      have hqc : (nI q).toNatClampNeg = q := nI_clamp (by omega)
      have hq6 := hV.p6 hqq
      refine g_aload_0 hX dX6_draws_21 ?_
      refine g_eV0i hX mkX6_draw ml_X6_179 (c_X6_draw hV) (ob_69 Z _) dX6_draws_22 rfl (by decide) (Nat.le_of_ble_eq_true rfl) (fun x22 m22 h22 => ?_)
      obtain ⟨rfl, h22, h23⟩ := h22
      refine g_if_eq hX 42 dX6_draws_25 (by decide) (fun c25 => ?_) (fun c25 => ?_)
      · replace c25 := bI_z.mp c25
        refine g_aload_0 hX dX6_draws_42 ?_
        refine g_cV0r hX mkX6_no ml_X6_47 (c_X6_no) (ob_69 Z _) dX6_draws_43 rfl (by decide) (Nat.le_of_ble_eq_true rfl) ?_
        exact hq _ _ _ _ dX6_draws_46 (⟨by rw [drR, cl_t (show okL (mv b) (nI j) ∧ okP (mv b) (nI q) from ⟨c5, c13⟩), if_neg c25], by rw [drC, cl_t (show okL (mv b) (nI j) ∧ okP (mv b) (nI q) from ⟨c5, c13⟩), if_neg c25]; exact h22.tr (MG.no _)⟩)
      · replace c25 := bI_nz.mp c25
        refine g_aload_0 hX dX6_draws_28 ?_
        refine gt_X6_drawn hX dX6_draws_29 ?_
        refine g_bipush hX 6 dX6_draws_32 (by decide) ?_
        refine g_iload_1 hX dX6_draws_34 ?_
        refine g_imul hX dX6_draws_35 ?_
        refine g_iload_2 hX dX6_draws_36 ?_
        refine g_iadd hX dX6_draws_37 ?_
        refine g_top _ (ix6 j q) ?_
        refine g_ialdN (k := (6 * j + q)) hX (ar_76 Z) (by omega) (by decide) dX6_draws_38 ?_
        refine g_goto hX 46 dX6_draws_39 (by decide) ?_
        exact hq _ _ _ _ dX6_draws_46 (⟨by rw [drR, cl_t (show okL (mv b) (nI j) ∧ okP (mv b) (nI q) from ⟨c5, c13⟩), hjc, hqc, if_pos c25]; exact h23 c25 j q hj hqq, by rw [drC, cl_t (show okL (mv b) (nI j) ∧ okP (mv b) (nI q) from ⟨c5, c13⟩), if_pos c25]; exact h22⟩)
    · replace c13 := bI_z.mp c13
      refine g_aload_0 hX dX6_draws_16 ?_
      refine g_cV0r hX mkX6_bad ml_X6_43 (c_X6_bad) (ob_69 Z _) dX6_draws_17 rfl (by decide) (Nat.le_of_ble_eq_true rfl) ?_
      exact hq _ _ _ _ dX6_draws_20 (⟨by rw [drR, cl_f (fun z => c13 z.2)], by rw [drC, cl_f (fun z => c13 z.2)]; exact MG.bad b⟩)
theorem rowP_at (nd : Nat → Int32) (my : Nat → Nat) (n np l : Nat) (room : Nat → Int32) (p : Nat) : ∀ k, (rowP nd my n np l room k).1 p = if p < k then room p - pkP nd my n np (rowP nd my n np l room p).1 (rowP nd my n np l room p).2 l p else room p := by
  intro k
  induction k with
  | zero => rw [if_neg (by omega)]; rfl
  | succ k ih =>
    show upd (rowP nd my n np l room k).1 k ((rowP nd my n np l room k).1 k - pkP nd my n np (rowP nd my n np l room k).1 (rowP nd my n np l room k).2 l k) p = _
    unfold upd
    by_cases c : p = k
    · subst c
      rw [if_pos rfl, if_pos (by omega), ih, if_neg (by omega)]
    · rw [if_neg c, ih]
      by_cases d : p < k
      · rw [if_pos d, if_pos (by omega)]
      · rw [if_neg d, if_neg (by omega)]
abbrev lnP (v : View) (k p : Nat) : Int32 := linP (ndV v (v 5 4 0)) (reachN v) (nl v) (np v) (humpsS v) k p
theorem lnP_s (v : View) (k : Nat) {p : Nat} (hp : p < np v) : lnP v (k + 1) p = lnP v k p - drV v k p := by
  show (rowP _ _ _ _ k (linP _ _ _ _ _ k) (np v)).1 p = _
  rw [rowP_at, if_pos hp]
  rfl
set_option maxRecDepth 100000 in
set_option maxHeartbeats 4000000 in
theorem c_X6_free {Z : Zt} {b : Mem} {p : Nat} (hV : Val (mv b)) (hpp : p < np (mv b)) : ConE Z yX6_free cX6_free 4 (some .int) 9 [.ref (zad Z 69), .int (nI p)] b (pI (fun x b' => x = (if blN (mv b) (mv b 5 4 0) = 0 then frV (mv b) p else -1) ∧ MG b 0 b')) := by
  have hn : b 71 0 = nI (nl (mv b)) := hV.1.1
  have hn6 := hV.1.2
  have hp : b 71 1 = nI (np (mv b)) := hV.2.1.1
  have hp6 := hV.2.1.2
  refine conE_i (by decide) (Nat.le_of_ble_eq_true rfl) rfl (fun X hX hq => ?_)
  have hX : Ok Z X cX6_free 4 RX6 9 := hX
  show G Z X b 0 [some (.ref (zad Z 69)), some (.int (nI p)), none, none] []
  refine g_aload_0 hX dX6_free_0 ?_
  refine g_eV0i hX mkX6_draw ml_X6_179 (c_X6_draw hV) (ob_69 Z _) dX6_free_1 rfl (by decide) (Nat.le_of_ble_eq_true rfl) (fun x1 m1 h1 => ?_)
  obtain ⟨rfl, h2, h3⟩ := h1
  have ev := h2.v
  have e71 := h2.1 71 (by omega)
  refine g_if_ne hX 9 dX6_free_4 (by decide) (fun c4 => ?_) (fun c4 => ?_)
  · replace c4 := bI_nz.mp c4
    refine g_aload_0 hX dX6_free_9 ?_
    refine g_iload_1 hX dX6_free_10 ?_
    refine g_cV1r hX mkX6_humps ml_X6_154 (c_X6_humps (b := m1) (by omega) (h2.val hV)) (ob_69 Z _) dX6_free_11 rfl (by decide) (Nat.le_of_ble_eq_true rfl) ?_
    refine g_top (humpsS (mv b) p) (by rw [ev]) ?_
    refine g_istore_2 hX dX6_free_14 rfl ?_
    refine g_iconst hX 0 dX6_free_15 (by decide) ?_
    refine g_istore_3 hX dX6_free_16 rfl ?_
    refine g_loop (nl (mv b)) (fun k => m1) (fun k => [some (.ref (zad Z 69)), some (.int (nI p)), some (.int (lnP (mv b) k p)), some (.int (nI k))]) rfl rfl (fun k hk17 ih17 => ?_) ?_
    · show G Z X (m1) 17 ([some (.ref (zad Z 69)), some (.int (nI p)), some (.int (lnP (mv b) k p)), some (.int (nI k))]) _
      refine g_iload_3 hX dX6_free_17 ?_
      refine g_aload_0 hX dX6_free_18 ?_
      refine gt_X6_now hX dX6_free_19 ?_
      refine g_iconst hX 0 dX6_free_22 (by decide) ?_
      refine g_ialdN (k := 0) hX (ar_71 Z) (by decide) (by decide) dX6_free_23 ?_
      refine g_icmp_ge hX 47 dX6_free_24 (by decide) (fun c24 => ?_) (fun c24 => ?_)
      · exact absurd c24 (not_not_intro (by rw [e71, hn]; exact nI_lt hk17 (by omega)))
      · refine g_iload_2 hX dX6_free_27 ?_
        refine g_aload_0 hX dX6_free_28 ?_
        refine gt_X6_drawn hX dX6_free_29 ?_
        refine g_bipush hX 6 dX6_free_32 (by decide) ?_
        refine g_iload_3 hX dX6_free_34 ?_
        refine g_imul hX dX6_free_35 ?_
        refine g_iload_1 hX dX6_free_36 ?_
        refine g_iadd hX dX6_free_37 ?_
        refine g_top _ (ix6 k p) ?_
        refine g_ialdN (k := (6 * k + p)) hX (ar_76 Z) (by omega) (by decide) dX6_free_38 ?_
        refine g_isub hX dX6_free_39 ?_
        refine g_top (lnP (mv b) (k + 1) p) (by rw [lnP_s _ _ hpp, h3 c4 k p hk17 hpp]) ?_
        refine g_istore_2 hX dX6_free_40 rfl ?_
        refine g_iinc_3 hX 1 dX6_free_41 (by decide) rfl ?_
        refine g_goto hX 17 dX6_free_44 (by decide) ?_
        exact g_cast ih17 rfl (by simp only [nI_succ]) rfl
    · show G Z X (m1) 17 ([some (.ref (zad Z 69)), some (.int (nI p)), some (.int (lnP (mv b) (nl (mv b)) p)), some (.int (nI (nl (mv b))))]) _
      refine g_iload_3 hX dX6_free_17 ?_
      refine g_aload_0 hX dX6_free_18 ?_
      refine gt_X6_now hX dX6_free_19 ?_
      refine g_iconst hX 0 dX6_free_22 (by decide) ?_
      refine g_ialdN (k := 0) hX (ar_71 Z) (by decide) (by decide) dX6_free_23 ?_
      refine g_icmp_ge hX 47 dX6_free_24 (by decide) (fun c24 => ?_) (fun c24 => ?_)
      · refine g_iload_2 hX dX6_free_47 ?_
        exact hq _ _ _ _ dX6_free_48 (⟨by rw [if_pos c4]; rfl, h2⟩)
      · exact absurd c24 (by rw [e71, hn]; exact Int32.lt_irrefl)
  · replace c4 := bI_z.mp c4
    refine g_iconst hX (-1) dX6_free_7 (by decide) ?_
    exact hq _ _ _ _ dX6_free_8 (⟨by rw [if_neg c4], h2⟩)
set_option maxRecDepth 100000 in
set_option maxHeartbeats 4000000 in
theorem c_X6_toldPocket {Z : Zt} {b : Mem} {p : Nat} {w : Int32} (hV : Val (mv b)) (hpp : p < np (mv b)) : ConE Z yX6_toldPocket cX6_toldPocket 3 (some .int) 10 [.ref (zad Z 69), .int (nI p), .int w] b (pI (fun x b' => x = abV (mv b) p w ∧ MG b 0 b')) := by
  have hn : b 71 0 = nI (nl (mv b)) := hV.1.1
  have hn6 := hV.1.2
  have hp : b 71 1 = nI (np (mv b)) := hV.2.1.1
  have hp6 := hV.2.1.2
  refine conE_i (by decide) (Nat.le_of_ble_eq_true rfl) rfl (fun X hX hq => ?_)
  have hX : Ok Z X cX6_toldPocket 3 RX6 10 := hX
  show G Z X b 0 [some (.ref (zad Z 69)), some (.int (nI p)), some (.int w)] []
  refine g_iload_2 hX dX6_toldPocket_0 ?_
  refine g_if_ne hX 18 dX6_toldPocket_1 (by decide) (fun c1 => ?_) (fun c1 => ?_)
  · refine g_iload_2 hX dX6_toldPocket_18 ?_
    refine g_iconst hX 1 dX6_toldPocket_19 (by decide) ?_
    refine g_icmp_ne hX 50 dX6_toldPocket_20 (by decide) (fun c20 => ?_) (fun c20 => ?_)
    · refine g_iload_2 hX dX6_toldPocket_50 ?_
      refine g_iconst hX 2 dX6_toldPocket_51 (by decide) ?_
      refine g_icmp_ne hX 63 dX6_toldPocket_52 (by decide) (fun c52 => ?_) (fun c52 => ?_)
      · refine g_aload_0 hX dX6_toldPocket_63 ?_
        refine g_iload_1 hX dX6_toldPocket_64 ?_
        refine g_eV1i hX mkX6_free ml_X6_182 (c_X6_free hV hpp) (ob_69 Z _) dX6_toldPocket_65 rfl (by decide) (Nat.le_of_ble_eq_true rfl) (fun x65 m65 h65 => ?_)
        exact hq _ _ _ _ dX6_toldPocket_68 (⟨by rw [abV, if_neg c1, if_neg c20, if_neg c52]; exact h65.1, h65.2⟩)
      · refine g_aload_0 hX dX6_toldPocket_55 ?_
        refine g_iload_1 hX dX6_toldPocket_56 ?_
        refine g_cV1r hX mkX6_humps ml_X6_154 (c_X6_humps (by omega) hV) (ob_69 Z _) dX6_toldPocket_57 rfl (by decide) (Nat.le_of_ble_eq_true rfl) ?_
        refine g_goto hX 68 dX6_toldPocket_60 (by decide) ?_
        exact hq _ _ _ _ dX6_toldPocket_68 (⟨by rw [abV, if_neg c1, if_neg c20, if_pos c52], MG.rf b⟩)
    · refine g_aload_0 hX dX6_toldPocket_23 ?_
      refine gt_X6_now hX dX6_toldPocket_24 ?_
      refine g_bipush hX 111 dX6_toldPocket_27 (by decide) ?_
      refine g_iconst hX 2 dX6_toldPocket_29 (by decide) ?_
      refine g_iload_1 hX dX6_toldPocket_30 ?_
      refine g_imul hX dX6_toldPocket_31 ?_
      refine g_iadd hX dX6_toldPocket_32 ?_
      refine g_iconst hX 1 dX6_toldPocket_33 (by decide) ?_
      refine g_iadd hX dX6_toldPocket_34 ?_
      refine g_top _ (ix2a p) ?_
      refine g_ialdN (k := (111 + 2 * p + 1)) hX (ar_71 Z) (by omega) (by decide) dX6_toldPocket_35 ?_
      refine g_iconst hX 1 dX6_toldPocket_36 (by decide) ?_
      refine g_aload_0 hX dX6_toldPocket_37 ?_
      refine gt_X6_now hX dX6_toldPocket_38 ?_
      refine g_iconst hX 0 dX6_toldPocket_41 (by decide) ?_
      refine g_ialdN (k := 0) hX (ar_71 Z) (by decide) (by decide) dX6_toldPocket_42 ?_
      refine g_ishl hX dX6_toldPocket_43 ?_
      refine g_iconst hX 1 dX6_toldPocket_44 (by decide) ?_
      refine g_isub hX dX6_toldPocket_45 ?_
      refine g_iand hX dX6_toldPocket_46 ?_
      refine g_goto hX 68 dX6_toldPocket_47 (by decide) ?_
      exact hq _ _ _ _ dX6_toldPocket_68 (⟨by rw [abV, if_neg c1, if_pos c20]; rfl, MG.rf b⟩)
  · refine g_aload_0 hX dX6_toldPocket_4 ?_
    refine gt_X6_now hX dX6_toldPocket_5 ?_
    refine g_bipush hX 111 dX6_toldPocket_8 (by decide) ?_
    refine g_iconst hX 2 dX6_toldPocket_10 (by decide) ?_
    refine g_iload_1 hX dX6_toldPocket_11 ?_
    refine g_imul hX dX6_toldPocket_12 ?_
    refine g_iadd hX dX6_toldPocket_13 ?_
    refine g_top _ (ix2 p) ?_
    refine g_ialdN (k := (111 + 2 * p)) hX (ar_71 Z) (by omega) (by decide) dX6_toldPocket_14 ?_
    refine g_goto hX 68 dX6_toldPocket_15 (by decide) ?_
    exact hq _ _ _ _ dX6_toldPocket_68 (⟨by rw [abV, if_pos c1]; rfl, MG.rf b⟩)
set_option maxRecDepth 100000 in
set_option maxHeartbeats 4000000 in
theorem c_X6_about {Z : Zt} {b : Mem} {p w : Int32} (hV : Val (mv b))  : ConE Z yX6_about cX6_about 3 (some .int) 11 [.ref (zad Z 69), .int p, .int w] b (pI (fun x b' => x = abR (mv b) p w ∧ MG b (abC (mv b) p w) b')) := by
  have hn : b 71 0 = nI (nl (mv b)) := hV.1.1
  have hn6 := hV.1.2
  have hp : b 71 1 = nI (np (mv b)) := hV.2.1.1
  have hp6 := hV.2.1.2
  refine conE_i (by decide) (Nat.le_of_ble_eq_true rfl) rfl (fun X hX hq => ?_)
  have hX : Ok Z X cX6_about 3 RX6 11 := hX
  show G Z X b 0 [some (.ref (zad Z 69)), some (.int p), some (.int w)] []
  refine g_aload_0 hX dX6_about_0 ?_
  refine g_iload_1 hX dX6_about_1 ?_
  refine g_cV1r hX mkX6_isPocket ml_X6_73 (c_X6_isPocket hV) (ob_69 Z _) dX6_about_2 rfl (by decide) (Nat.le_of_ble_eq_true rfl) ?_
  refine g_if_eq hX 26 dX6_about_5 (by decide) (fun c5 => ?_) (fun c5 => ?_)
  · replace c5 := bI_z.mp c5
    refine g_aload_0 hX dX6_about_26 ?_
    refine g_cV0r hX mkX6_bad ml_X6_43 (c_X6_bad) (ob_69 Z _) dX6_about_27 rfl (by decide) (Nat.le_of_ble_eq_true rfl) ?_
    exact hq _ _ _ _ dX6_about_30 (⟨by rw [abR, cl_f (fun z => c5 z.1)], by rw [abC, cl_f (fun z => c5 z.1)]; exact MG.bad b⟩)
  · replace c5 := bI_nz.mp c5
    refine g_iload_2 hX dX6_about_8 ?_
    refine g_iconst hX 0 dX6_about_9 (by decide) ?_
    refine g_iconst hX 3 dX6_about_10 (by decide) ?_
    refine g_cS3r hX mkX6_in ml_X6_61 (c_X6_in) dX6_about_11 rfl (by decide) (Nat.le_of_ble_eq_true rfl) ?_
    refine g_if_eq hX 26 dX6_about_14 (by decide) (fun c14 => ?_) (fun c14 => ?_)
    · replace c14 := bI_z.mp c14
      refine g_aload_0 hX dX6_about_26 ?_
      refine g_cV0r hX mkX6_bad ml_X6_43 (c_X6_bad) (ob_69 Z _) dX6_about_27 rfl (by decide) (Nat.le_of_ble_eq_true rfl) ?_
      exact hq _ _ _ _ dX6_about_30 (⟨by rw [abR, cl_f (fun z => c14 z.2)], by rw [abC, cl_f (fun z => c14 z.2)]; exact MG.bad b⟩)
    · replace c14 := bI_nz.mp c14
      obtain ⟨q, hqq, rfl⟩ := in_of c5.1 (by have := c5.2; rw [hp] at this; exact this) (by omega)
      have hqc : (nI q).toNatClampNeg = q := nI_clamp (by omega)
      have hq6 := hV.p6 hqq
      refine g_aload_0 hX dX6_about_17 ?_
      refine g_iload_1 hX dX6_about_18 ?_
      refine g_iload_2 hX dX6_about_19 ?_
      refine g_eV2i hX mkX6_toldPocket ml_X6_185 (c_X6_toldPocket hV hqq) (ob_69 Z _) dX6_about_20 rfl (by decide) (Nat.le_of_ble_eq_true rfl) (fun x20 m20 h20 => ?_)
      refine g_goto hX 30 dX6_about_23 (by decide) ?_
      exact hq _ _ _ _ dX6_about_30 (⟨by rw [abR, cl_t (show okP (mv b) (nI q) ∧ ¬ w < 0 ∧ ¬ 3 < w from ⟨c5, c14⟩), hqc]; exact h20.1, by rw [abC, cl_t (show okP (mv b) (nI q) ∧ ¬ w < 0 ∧ ¬ 3 < w from ⟨c5, c14⟩)]; exact h20.2⟩)
