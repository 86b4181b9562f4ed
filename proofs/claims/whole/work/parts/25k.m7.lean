/-! the reference: draw -/
theorem dd (m : Mem) (l p t : Nat) (x y x' y' : Int) : up2 (up2 (up2 (up2 (up2 m 75 l (nI t)) 73 l (zI x)) 74 p (zI y)) 73 l (zI x')) 74 p (zI y') = up2 (up2 (up2 m 75 l (nI t)) 73 l (zI x')) 74 p (zI y') := by
  funext j i
  by_cases h1 : j = 74
  · subst h1
    by_cases h3 : i = p
    · subst h3; simp [up2, up1, upd]
    · simp [up2, up1, upd, h3]
  · by_cases h2 : j = 73
    · subst h2
      by_cases h4 : i = l
      · subst h4; simp [up2, up1, upd]
      · simp [up2, up1, upd, h4]
    · simp [up2, up1, upd, h1, h2]
theorem NmA {m : Mem} {n np l p t : Nat} {nd rm : Nat → Int} {my : Nat → Nat} {v : Int} (h : Nm m n np nd my rm) (hl : l < n) (hp : p < np) (hv0 : 0 ≤ v) (h1 : v ≤ nd l) (h2 : v ≤ rm p) : Nm (up2 (up2 (up2 m 75 l (nI t)) 73 l (zI (nd l - v))) 74 p (zI (rm p - v))) n np (fun i => if i = l then nd l - v else nd i) (fun i => if i = l then t else my i) (fun i => if i = p then rm p - v else rm i) := by
  obtain ⟨⟨a1, a2⟩, ⟨a3, a4⟩, a5, a6, a7, a8⟩ := h
  refine ⟨⟨?_, a2⟩, ⟨?_, a4⟩, fun i hi => ⟨?_, ?_⟩, fun i hi => ?_, fun i hi => ?_, fun i hi => ?_⟩
  · rw [u2c _ _ (by decide), u2c _ _ (by decide), u2c _ _ (by decide)]; exact a1
  · rw [u2c _ _ (by decide), u2c _ _ (by decide), u2c _ _ (by decide)]; exact a3
  · show _ = zI (if i = l then nd l - v else nd i)
    rw [u2c _ _ (by decide)]
    by_cases c : i = l
    · subst c; rw [u2s, if_pos rfl]
    · rw [u2k _ _ c, u2c _ _ (by decide), if_neg c]; exact (a5 i hi).1
  · show _ = nI (if i = l then t else my i)
    rw [u2c _ _ (by decide), u2c _ _ (by decide)]
    by_cases c : i = l
    · subst c; rw [u2s, if_pos rfl]
    · rw [u2k _ _ c, if_neg c]; exact (a5 i hi).2
  · show _ = zI (if i = p then rm p - v else rm i)
    by_cases c : i = p
    · subst c; rw [u2s, if_pos rfl]
    · rw [u2k _ _ c, u2c _ _ (by decide), u2c _ _ (by decide), if_neg c]; exact a6 i hi
  · have := a7 i hi; have := a7 l hl
    by_cases c : i = l
    · simp only [c, if_true]; omega
    · simp only [c, if_false]; omega
  · have := a8 i hi; have := a8 p hp
    by_cases c : i = p
    · simp only [c, if_true]; omega
    · simp only [c, if_false]; omega
abbrev rwP (v : View) (l p : Nat) : (Nat → Int32) × Int32 := rowP (ndV v (v 5 4 0)) (reachN v) (nl v) (np v) l (linP (ndV v (v 5 4 0)) (reachN v) (nl v) (np v) (humpsS v) l) p
def DI (b m : Mem) (l p : Nat) : Prop := MG b 0 m ∧ ∃ (nd rm : Nat → Int) (my : Nat → Nat), Nm m (nl (mv b)) (np (mv b)) nd my rm ∧ Hall nd my (nl (mv b)) (np (mv b)) rm ∧ (∀ i, i < l → nd i = 0 ∧ my i = 0) ∧
  (∀ i, l < i → i < nl (mv b) → nd i = (ndV (mv b) (mv b 5 4 0) i).toInt ∧ my i = reachN (mv b) i) ∧
  (l < nl (mv b) → zI (nd l) = (rwP (mv b) l p).2 ∧ ∀ q, (my l).testBit q = ((reachN (mv b) l).testBit q && decide (p ≤ q))) ∧
  (∀ q, q < np (mv b) → zI (rm q) = (rwP (mv b) l p).1 q) ∧
  ∀ i j, (i < l ∨ i = l ∧ j < p) → i < nl (mv b) → j < np (mv b) → m 76 (6 * i + j) = drV (mv b) i j
theorem DI_init {b : Mem} (hV : Val (mv b)) (hc : blN (mv b) (mv b 5 4 0) = 0) : DI b (lyM b (mv b 5 4 0)) 0 0 := by
  obtain ⟨T, eT, hT⟩ := hV.target
  have h1 := lyM_nm hV (T := T) (by omega)
  rw [eT] at hc
  have h2 := hall_ae.mp ((bl_ae hV (by omega)).mp hc).2
  rw [← eT] at h1 h2
  refine ⟨lyM_mg b _, nZ (mv b) (mv b 5 4 0), rZ (mv b), reachN (mv b), h1, h2, fun i hi => by omega, fun i _ _ => ⟨rfl, rfl⟩, fun _ => ⟨?_, fun q => by simp⟩, fun q _ => ?_, fun i j h => by omega⟩
  · exact (zI_of _).symm
  · exact (zI_of _).symm
theorem w0 (f : Nat → Int) (m : Nat) : wZ f (0 : Nat).testBit m = 0 := by
  induction m with
  | zero => rfl
  | succ m ih => rw [wZ_s, ih]; simp
theorem DI_next {b m : Mem} {l : Nat} (hV : Val (mv b)) (hl : l < nl (mv b)) (h : DI b m l (np (mv b))) : DI b m (l + 1) 0 := by
  obtain ⟨h0, nd, rm, my, h1, h2, h3, h4, h5, h6, h7⟩ := h
  obtain ⟨h5a, h5b⟩ := h5 hl
  have hn6 := hV.1.2
  have z1 : my l = 0 := tb_ext (fun q => by
    rw [h5b]
    rcases Nat.lt_or_ge q (np (mv b)) with c | c
    · simp; omega
    · rw [testBit_ge (show reachN (mv b) l < 2 ^ np (mv b) from bits_lt _ _) c]; simp)
  have z2 : nd l = 0 := by
    have hs := h2 (2 ^ l) (Nat.pow_lt_pow_right (by decide) hl)
    have hb := (h1.2.2.2.2.1 l hl).1
    unfold spZ at hs
    rw [orN_pow hn6 hl, z1, w0] at hs
    have e := wZ_del (f := nd) (A := (2 ^ l).testBit) (B := (0 : Nat).testBit) hl (by rw [Nat.testBit_two_pow]; simp) (by simp) (fun i hi c => by
      rw [Nat.testBit_two_pow]
      have : ¬ l = i := fun z => c z.symm
      simp [this])
    rw [w0] at e
    omega
  refine ⟨h0, nd, rm, my, h1, h2, fun i hi => ?_, fun i a c => h4 i (by omega) c, fun hl2 => ?_, fun q hq => h6 q hq, fun i j hij a c => ?_⟩
  · rcases Nat.lt_or_ge i l with c | c
    · exact h3 i c
    · have : i = l := by omega
      rw [this]; exact ⟨z2, z1⟩
  · obtain ⟨e1, e2⟩ := h4 (l + 1) (by omega) hl2
    refine ⟨?_, fun q => by rw [e2]; simp⟩
    rw [e1]; exact (zI_of _).symm
  · refine h7 i j ?_ a c
    omega
theorem DI_pick {b m : Mem} {l p : Nat} (hV : Val (mv b)) (hl : l < nl (mv b)) (hp : p < np (mv b)) (h : DI b m l p) : ∃ (nd rm : Nat → Int) (my : Nat → Nat) (t : Nat) (v0 vs : Int), Nm m (nl (mv b)) (np (mv b)) nd my rm ∧ (∀ i, t.testBit i = ((my l).testBit i && decide (i ≠ p))) ∧ 0 ≤ vs ∧ vs ≤ v0 ∧ v0 ≤ nd l ∧ v0 ≤ rm p ∧ v0 = (if (my l).testBit p = true then (if nd l < rm p then nd l else rm p) else 0) ∧
    Hall (fun i => if i = l then nd l - vs else nd i) (fun i => if i = l then t else my i) (nl (mv b)) (np (mv b)) (fun i => if i = p then rm p - vs else rm i) ∧
    (∀ v : Int, vs < v → v ≤ v0 → ¬ Hall (fun i => if i = l then nd l - v else nd i) (fun i => if i = l then t else my i) (nl (mv b)) (np (mv b)) (fun i => if i = p then rm p - v else rm i)) ∧
    DI b (up2 (up2 (up2 (up2 m 75 l (nI t)) 73 l (zI (nd l - vs))) 74 p (zI (rm p - vs))) 76 (6 * l + p) (zI vs)) l (p + 1) := by
  obtain ⟨h0, nd, rm, my, h1, h2, h3, h4, h5, h6, h7⟩ := h
  obtain ⟨h5a, h5b⟩ := h5 hl
  have hn6 := hV.1.2
  have hp6 := hV.2.1.2
  obtain ⟨t, ht⟩ := del_bit (s := my l) (l := p)
  have b1 := h1.2.2.2.2.1
  have b2 := h1.2.2.2.2.2
  have c1 := b1 l hl
  have c2 := b2 p hp
  have hm : ∀ i, i < nl (mv b) → i ≠ l → (fun i => if i = l then t else my i) i = my i := fun i _ c => if_neg c
  have hm2 : ∀ q, ((fun i => if i = l then t else my i) l).testBit q = ((my l).testBit q && decide (q ≠ p)) := fun q => by rw [show (fun i => if i = l then t else my i) l = t from if_pos rfl]; exact ht q
  have hbit : (my l).testBit p = (reachN (mv b) l).testBit p := by rw [h5b]; simp
  -- what follows when vs is known
  have fin : ∀ vs : Int, 0 ≤ vs → vs ≤ nd l → vs ≤ rm p → pkP (ndV (mv b) (mv b 5 4 0)) (reachN (mv b)) (nl (mv b)) (np (mv b)) (rwP (mv b) l p).1 (zI (nd l)) l p = zI vs →
      Hall (fun i => if i = l then nd l - vs else nd i) (fun i => if i = l then t else my i) (nl (mv b)) (np (mv b)) (fun i => if i = p then rm p - vs else rm i) →
      DI b (up2 (up2 (up2 (up2 m 75 l (nI t)) 73 l (zI (nd l - vs))) 74 p (zI (rm p - vs))) 76 (6 * l + p) (zI vs)) l (p + 1) := by
    intro vs v1 v2 v3 v4 v5
    have eP : pkP (ndV (mv b) (mv b 5 4 0)) (reachN (mv b)) (nl (mv b)) (np (mv b)) (rwP (mv b) l p).1 (rwP (mv b) l p).2 l p = zI vs := by rw [← h5a]; exact v4
    obtain ⟨⟨a1, a2⟩, ⟨a3, a4⟩, a5, a6, a7, a8⟩ := NmA (t := t) h1 hl hp v1 v2 v3
    refine ⟨h0.tr (MG.same (fun j hj => by rw [u2c _ _ (by omega), u2c _ _ (by omega), u2c _ _ (by omega), u2c _ _ (by omega)])), _, _, _, ⟨⟨by rw [u2c _ _ (by decide)]; exact a1, a2⟩, ⟨by rw [u2c _ _ (by decide)]; exact a3, a4⟩, fun i hi => by rw [u2c _ _ (by decide), u2c _ _ (by decide)]; exact a5 i hi, fun i hi => by rw [u2c _ _ (by decide)]; exact a6 i hi, a7, a8⟩, v5, fun i hi => ?_, fun i hi hi2 => ?_, fun _ => ⟨?_, fun q => ?_⟩, fun q hq => ?_, fun i j hij hi hj => ?_⟩
    · have : i ≠ l := by omega
      simp only [this, if_false]; exact h3 i hi
    · have : i ≠ l := by omega
      simp only [this, if_false]; exact h4 i hi hi2
    · simp only [if_true]
      show zI (nd l - vs) = (rwP (mv b) l p).2 - pkP _ _ _ _ (rwP (mv b) l p).1 (rwP (mv b) l p).2 l p
      rw [eP, ← h5a, zI_sub]
    · simp only [if_true]
      rw [ht, h5b]
      by_cases c : q = p
      · subst c; simp
      · have : (p ≤ q) ↔ (p + 1 ≤ q) := by omega
        simp [c, this]
    · show zI (if q = p then rm p - vs else rm q) = upd (rwP (mv b) l p).1 p ((rwP (mv b) l p).1 p - pkP _ _ _ _ (rwP (mv b) l p).1 (rwP (mv b) l p).2 l p) q
      rw [eP]
      unfold upd
      by_cases c : q = p
      · subst c; rw [if_pos rfl, if_pos rfl, ← h6 q hq, zI_sub]
      · rw [if_neg c, if_neg c]; exact h6 q hq
    · by_cases c : i = l ∧ j = p
      · obtain ⟨rfl, rfl⟩ := c
        rw [u2s]; exact eP.symm
      · rw [u2k _ _ (by omega), u2c _ _ (by decide), u2c _ _ (by decide), u2c _ _ (by decide)]
        exact h7 i j (by omega) hi hj
  cases hq : (my l).testBit p
  · have e0 : (fun i => if i = l then nd l - 0 else nd i) = nd := by funext i; by_cases c : i = l <;> simp [c]
    have e1 : (fun i => if i = p then rm p - 0 else rm i) = rm := by funext i; by_cases c : i = p <;> simp [c]
    have hH : Hall (fun i => if i = l then nd l - 0 else nd i) (fun i => if i = l then t else my i) (nl (mv b)) (np (mv b)) (fun i => if i = p then rm p - 0 else rm i) := by
      rw [e0, e1]
      refine hall_skip h2 (fun i hi => ?_)
      by_cases c : i = l
      · subst c
        rw [if_pos rfl]
        exact tb_ext (fun q => by
          rw [ht]
          by_cases d : q = p
          · subst d; rw [hq]; simp
          · simp [d])
      · exact if_neg c
    refine ⟨nd, rm, my, t, 0, 0, h1, ht, by omega, by omega, by omega, by omega, by simp [hq], hH, fun v a1 a2 => by omega, fin 0 (by omega) (by omega) (by omega) ?_ hH⟩
    unfold pkP
    rw [if_neg (by rw [← hbit, hq]; decide)]; rfl
  · obtain ⟨vs, e, v1, v2, v3, v4, v5⟩ := pick_spec (nd0 := ndV (mv b) (mv b 5 4 0)) (my0 := reachN (mv b)) (room := (rwP (mv b) l p).1) hn6 hp6 hp h2 hl (fun i a c => (h4 i a c).1) (fun i a c => (h4 i a c).2) h6 b1 b2 h3 (by rw [← hbit]; exact hq) hq hm hm2
    have k1 : (if nd l < rm p then nd l else rm p) ≤ nd l := by split <;> omega
    have k2 : (if nd l < rm p then nd l else rm p) ≤ rm p := by split <;> omega
    have k3 : vs ≤ (if nd l < rm p then nd l else rm p) := by split <;> omega
    exact ⟨nd, rm, my, t, _, vs, h1, ht, v1, k3, k1, k2, by simp [hq], v4, fun v a1 a2 => v5 v a1 (by omega) (by omega), fin vs v1 v2 v3 e v4⟩
set_option maxRecDepth 100000 in
set_option maxHeartbeats 4000000 in
theorem c_X6_draw {Z : Zt} {b : Mem} (hV : Val (mv b))  : ConE Z yX6_draw cX6_draw 5 (some .boolean) 8 [.ref (zad Z 69)] b (pI (fun x b' => x = bI (blN (mv b) (mv b 5 4 0) = 0) ∧ MG b 0 b' ∧ (blN (mv b) (mv b 5 4 0) = 0 → ∀ i j, i < nl (mv b) → j < np (mv b) → b' 76 (6 * i + j) = drV (mv b) i j))) := by
  have hn : b 71 0 = nI (nl (mv b)) := hV.1.1
  have hn6 := hV.1.2
  have hp : b 71 1 = nI (np (mv b)) := hV.2.1.1
  have hp6 := hV.2.1.2
  refine conE_z (by decide) (Nat.le_of_ble_eq_true rfl) rfl (fun X hX hq => ?_)
  have hX : Ok Z X cX6_draw 5 RX6 8 := hX
  show G Z X b 0 [some (.ref (zad Z 69)), none, none, none, none] []
  refine g_aload_0 hX dX6_draw_0 ?_
  refine g_cV0r hX mkX6_allCanNow ml_X6_176 (c_X6_allCanNow hV) (ob_69 Z _) dX6_draw_1 rfl (by decide) (Nat.le_of_ble_eq_true rfl) ?_
  refine g_if_ne hX 9 dX6_draw_4 (by decide) (fun c4 => ?_) (fun c4 => ?_)
  · replace c4 := bI_nz.mp c4
    refine g_iconst hX 0 dX6_draw_9 (by decide) ?_
    refine g_istore_1 hX dX6_draw_10 rfl ?_
    refine g_weak (lvw_c (lvw_c (lvw_n (lvw_n (lvw_n lvw_nil))))) (g_loopI (nl (mv b)) (fun l m LL => (DI b m l 0) ∧ LL = [some (.ref (zad Z 69)), some (.int (nI l)), none, none, none]) ⟨DI_init hV c4, rfl⟩ ?_ ?_)
    · rintro l m _ hk11 ⟨hI, rfl⟩ ih11
      refine g_iload_1 hX dX6_draw_11 ?_
      refine g_aload_0 hX dX6_draw_12 ?_
      refine gt_X6_now hX dX6_draw_13 ?_
      refine g_iconst hX 0 dX6_draw_16 (by decide) ?_
      refine g_ialdN (k := 0) hX (ar_71 Z) (by decide) (by decide) dX6_draw_17 ?_
      refine g_icmp_ge hX 192 dX6_draw_18 (by decide) (fun c18 => ?_) (fun c18 => ?_)
      · exact absurd c18 (not_not_intro (by rw [hI.1.1 71 (by omega), hn]; exact nI_lt hk11 (by omega)))
      · refine g_iconst hX 0 dX6_draw_21 (by decide) ?_
        refine g_istore_2 hX dX6_draw_22 rfl ?_
        refine g_weak (lvw_c (lvw_c (lvw_c (lvw_n (lvw_n lvw_nil))))) (g_loopI (np (mv b)) (fun p m2 LL => (DI b m2 l p) ∧ LL = [some (.ref (zad Z 69)), some (.int (nI l)), some (.int (nI p)), none, none]) ⟨hI, rfl⟩ ?_ ?_)
        · rintro p m2 _ hk23 ⟨hJ, rfl⟩ ih23
          obtain ⟨nd, rm, my, t, v0, vs, hNm, htb, hvs0, hvs, hvn, hvr, hv0e, hF, hnF, hst⟩ := DI_pick hV hk11 hk23 hJ
          have e73 : m2 73 l = zI (nd l) := (hNm.2.2.1 l hk11).1
          have e75 : m2 75 l = nI (my l) := (hNm.2.2.1 l hk11).2
          have e74 : m2 74 p = zI (rm p) := hNm.2.2.2.1 p hk23
          have bn := hNm.2.2.2.2.1 l hk11
          have br := hNm.2.2.2.2.2 p hk23
          refine g_iload_2 hX dX6_draw_23 ?_
          refine g_aload_0 hX dX6_draw_24 ?_
          refine gt_X6_now hX dX6_draw_25 ?_
          refine g_iconst hX 1 dX6_draw_28 (by decide) ?_
          refine g_ialdN (k := 1) hX (ar_71 Z) (by decide) (by decide) dX6_draw_29 ?_
          refine g_icmp_ge hX 186 dX6_draw_30 (by decide) (fun c30 => ?_) (fun c30 => ?_)
          · exact absurd c30 (not_not_intro (by rw [hJ.1.1 71 (by omega), hp]; exact nI_lt hk23 (by omega)))
          · refine g_aload_0 hX dX6_draw_33 ?_
            refine gt_X6_may hX dX6_draw_34 ?_
            refine g_iload_1 hX dX6_draw_37 ?_
            refine g_ialdN (k := l) hX (ar_75 Z) (by omega) (by decide) dX6_draw_38 ?_
            refine g_top (nI (my l)) e75 ?_
            refine g_iload_2 hX dX6_draw_39 ?_
            refine g_ishr hX dX6_draw_40 ?_
            refine g_iconst hX 1 dX6_draw_41 (by decide) ?_
            refine g_iand hX dX6_draw_42 ?_
            refine g_iconst hX 1 dX6_draw_43 (by decide) ?_
            refine g_icmp_ne hX 51 dX6_draw_44 (by decide) (fun c44 => ?_) (fun c44 => ?_)
            · refine g_iconst hX 0 dX6_draw_51 (by decide) ?_
              refine g_top (bI ((my l).testBit p = true)) (by first | exact (bI_t ((tb_sn (by omega)).mp c44)).symm | exact (bI_f (fun z => c44 ((tb_sn (by omega)).mpr z))).symm) ?_
              refine g_istore_3 hX dX6_draw_52 rfl ?_
              refine g_aload_0 hX dX6_draw_53 ?_
              refine gt_X6_may hX dX6_draw_54 ?_
              refine g_iload_1 hX dX6_draw_57 ?_
              refine g_dup2 hX dX6_draw_58 rfl rfl ?_
              refine g_ialdN (k := l) hX (ar_75 Z) (by omega) (by decide) dX6_draw_59 ?_
              refine g_top (nI (my l)) e75 ?_
              refine g_iconst hX 1 dX6_draw_60 (by decide) ?_
              refine g_iload_2 hX dX6_draw_61 ?_
              refine g_ishl hX dX6_draw_62 ?_
              refine g_iconst hX (-1) dX6_draw_63 (by decide) ?_
              refine g_ixor hX dX6_draw_64 ?_
              refine g_iand hX dX6_draw_65 ?_
              refine g_top (nI t) (may_del (by omega) htb) ?_
              refine g_iastN (k := l) hX (ar_75 Z) (by omega) (by decide) dX6_draw_66 ?_
              refine g_iload_3 hX dX6_draw_67 ?_
              refine g_if_ne hX 75 dX6_draw_68 (by decide) (fun c68 => ?_) (fun c68 => ?_)
              · refine g_aload_0 hX dX6_draw_75 ?_
                refine gt_X6_need hX dX6_draw_76 ?_
                refine g_iload_1 hX dX6_draw_79 ?_
                refine g_ialdN (k := l) hX (ar_73 Z) (by omega) (by decide) dX6_draw_80 ?_
                refine g_top (zI (nd l)) (by rw [u2c _ _ (by decide)]; exact e73) ?_
                refine g_aload_0 hX dX6_draw_81 ?_
                refine gt_X6_room hX dX6_draw_82 ?_
                refine g_iload_2 hX dX6_draw_85 ?_
                refine g_ialdN (k := p) hX (ar_74 Z) (by omega) (by decide) dX6_draw_86 ?_
                refine g_top (zI (rm p)) (by rw [u2c _ _ (by decide)]; exact e74) ?_
                refine g_icmp_ge hX 99 dX6_draw_87 (by decide) (fun c87 => ?_) (fun c87 => ?_)
                · refine g_aload_0 hX dX6_draw_99 ?_
                  refine gt_X6_room hX dX6_draw_100 ?_
                  refine g_iload_2 hX dX6_draw_103 ?_
                  refine g_ialdN (k := p) hX (ar_74 Z) (by omega) (by decide) dX6_draw_104 ?_
                  refine g_top (zI v0) (by first | (rw [hv0e, if_neg (bI_z.mp c68)]; rfl) | (rw [hv0e, if_pos (bI_nz.mp c68), if_pos ((zI_lt (by omega) (by omega)).mp c87), u2c _ _ (by decide)]; exact e73) | (rw [hv0e, if_pos (bI_nz.mp c68), if_neg (fun z => c87 ((zI_lt (by omega) (by omega)).mpr z)), u2c _ _ (by decide)]; exact e74)) ?_
                  refine g_istore_4 hX dX6_draw_105 rfl ?_
                  refine g_aload_0 hX dX6_draw_107 ?_
                  refine gt_X6_need hX dX6_draw_108 ?_
                  refine g_iload_1 hX dX6_draw_111 ?_
                  refine g_dup2 hX dX6_draw_112 rfl rfl ?_
                  refine g_ialdN (k := l) hX (ar_73 Z) (by omega) (by decide) dX6_draw_113 ?_
                  refine g_iload_4 hX dX6_draw_114 ?_
                  refine g_isub hX dX6_draw_116 ?_
                  refine g_top (zI (nd l - v0)) (by rw [u2c _ _ (by decide), e73, zI_sub]) ?_
                  refine g_iastN (k := l) hX (ar_73 Z) (by omega) (by decide) dX6_draw_117 ?_
                  refine g_aload_0 hX dX6_draw_118 ?_
                  refine gt_X6_room hX dX6_draw_119 ?_
                  refine g_iload_2 hX dX6_draw_122 ?_
                  refine g_dup2 hX dX6_draw_123 rfl rfl ?_
                  refine g_ialdN (k := p) hX (ar_74 Z) (by omega) (by decide) dX6_draw_124 ?_
                  refine g_iload_4 hX dX6_draw_125 ?_
                  refine g_isub hX dX6_draw_127 ?_
                  refine g_top (zI (rm p - v0)) (by rw [u2c _ _ (by decide), u2c _ _ (by decide), e74, zI_sub]) ?_
                  refine g_iastN (k := p) hX (ar_74 Z) (by omega) (by decide) dX6_draw_128 ?_
                  refine g_loop ((v0 - vs).toNat) (fun j => up2 (up2 (up2 m2 75 l (nI t)) 73 l (zI (nd l - (v0 - ((j : Nat) : Int))))) 74 p (zI (rm p - (v0 - ((j : Nat) : Int))))) (fun j => [some (.ref (zad Z 69)), some (.int (nI l)), some (.int (nI p)), some (.int (bI ((my l).testBit p = true))), some (.int (zI (v0 - ((j : Nat) : Int))))]) (by rw [show ((0 : Nat) : Int) = 0 from rfl, Int.sub_zero]) (by rw [show ((0 : Nat) : Int) = 0 from rfl, Int.sub_zero]) (fun j hk129 ih129 => ?_) ?_
                  · show G Z X (up2 (up2 (up2 m2 75 l (nI t)) 73 l (zI (nd l - (v0 - ((j : Nat) : Int))))) 74 p (zI (rm p - (v0 - ((j : Nat) : Int))))) 129 ([some (.ref (zad Z 69)), some (.int (nI l)), some (.int (nI p)), some (.int (bI ((my l).testBit p = true))), some (.int (zI (v0 - ((j : Nat) : Int))))]) _
                    refine g_iload_4 hX dX6_draw_129 ?_
                    refine g_if_le hX 167 dX6_draw_131 (by decide) (fun c131 => ?_) (fun c131 => ?_)
                    · exact absurd c131 (not_not_intro (by rw [← zI_0]; exact (zI_lt (by omega) (by omega)).mpr (by omega)))
                    · refine g_aload_0 hX dX6_draw_134 ?_
                      refine g_cV0r hX mkX6_areEnough ml_X6_163 (c_X6_areEnough (NmA (t := t) (v := v0 - (j : Int)) hNm hk11 hk23 (by omega) (by omega) (by omega))) (ob_69 Z _) dX6_draw_135 rfl (by decide) (Nat.le_of_ble_eq_true rfl) ?_
                      refine g_if_ne hX 167 dX6_draw_138 (by decide) (fun c138 => ?_) (fun c138 => ?_)
                      · replace c138 := bI_nz.mp c138
                        exact absurd c138 (fun z => hnF (v0 - (j : Int)) (by omega) (by omega) (hall_ae.mp z))
                      · replace c138 := bI_z.mp c138
                        refine g_iinc_4 hX (-1) dX6_draw_141 (by decide) rfl ?_
                        refine g_aload_0 hX dX6_draw_144 ?_
                        refine gt_X6_need hX dX6_draw_145 ?_
                        refine g_iload_1 hX dX6_draw_148 ?_
                        refine g_dup2 hX dX6_draw_149 rfl rfl ?_
                        refine g_ialdN (k := l) hX (ar_73 Z) (by omega) (by decide) dX6_draw_150 ?_
                        refine g_iconst hX 1 dX6_draw_151 (by decide) ?_
                        refine g_iadd hX dX6_draw_152 ?_
                        refine g_top (zI (nd l - (v0 - ((j + 1 : Nat) : Int)))) (by rw [u2c _ _ (by decide), u2s, show (1 : Int32) = zI 1 from rfl, zI_add]; congr 1; omega) ?_
                        refine g_iastN (k := l) hX (ar_73 Z) (by omega) (by decide) dX6_draw_153 ?_
                        refine g_aload_0 hX dX6_draw_154 ?_
                        refine gt_X6_room hX dX6_draw_155 ?_
                        refine g_iload_2 hX dX6_draw_158 ?_
                        refine g_dup2 hX dX6_draw_159 rfl rfl ?_
                        refine g_ialdN (k := p) hX (ar_74 Z) (by omega) (by decide) dX6_draw_160 ?_
                        refine g_iconst hX 1 dX6_draw_161 (by decide) ?_
                        refine g_iadd hX dX6_draw_162 ?_
                        refine g_top (zI (rm p - (v0 - ((j + 1 : Nat) : Int)))) (by rw [u2c _ _ (by decide), u2s, show (1 : Int32) = zI 1 from rfl, zI_add]; congr 1; omega) ?_
                        refine g_iastN (k := p) hX (ar_74 Z) (by omega) (by decide) dX6_draw_163 ?_
                        refine g_goto hX 129 dX6_draw_164 (by decide) ?_
                        exact g_cast ih129 (dd _ _ _ _ _ _ _ _) (by rw [show (-1 : Int32) = zI (-1) from rfl, zI_add, show v0 - ((j : Nat) : Int) + -1 = v0 - ((j + 1 : Nat) : Int) by omega]) rfl
                  · show G Z X (up2 (up2 (up2 m2 75 l (nI t)) 73 l (zI (nd l - (v0 - ((((v0 - vs).toNat) : Nat) : Int))))) 74 p (zI (rm p - (v0 - ((((v0 - vs).toNat) : Nat) : Int))))) 129 ([some (.ref (zad Z 69)), some (.int (nI l)), some (.int (nI p)), some (.int (bI ((my l).testBit p = true))), some (.int (zI (v0 - ((((v0 - vs).toNat) : Nat) : Int))))]) _
                    rw [show v0 - (((v0 - vs).toNat : Nat) : Int) = vs by omega]
                    refine g_iload_4 hX dX6_draw_129 ?_
                    refine g_if_le hX 167 dX6_draw_131 (by decide) (fun c131 => ?_) (fun c131 => ?_)
                    · refine g_aload_0 hX dX6_draw_167 ?_
                      refine gt_X6_drawn hX dX6_draw_168 ?_
                      refine g_bipush hX 6 dX6_draw_171 (by decide) ?_
                      refine g_iload_1 hX dX6_draw_173 ?_
                      refine g_imul hX dX6_draw_174 ?_
                      refine g_iload_2 hX dX6_draw_175 ?_
                      refine g_iadd hX dX6_draw_176 ?_
                      refine g_top (nI (6 * l + p)) (ix6 l p) ?_
                      refine g_iload_4 hX dX6_draw_177 ?_
                      refine g_iastN (k := (6 * l + p)) hX (ar_76 Z) (by omega) (by decide) dX6_draw_179 ?_
                      refine g_iinc_2 hX 1 dX6_draw_180 (by decide) rfl ?_
                      refine g_goto hX 23 dX6_draw_183 (by decide) ?_
                      exact g_weak (lvw_c (lvw_c (lvw_c (lvw_n (lvw_n lvw_nil))))) (ih23 _ _ ⟨hst, by simp only [nI_succ]⟩)
                    · refine g_aload_0 hX dX6_draw_134 ?_
                      refine g_cV0r hX mkX6_areEnough ml_X6_163 (c_X6_areEnough (NmA (t := t) (v := vs) hNm hk11 hk23 (by omega) (by omega) (by omega))) (ob_69 Z _) dX6_draw_135 rfl (by decide) (Nat.le_of_ble_eq_true rfl) ?_
                      refine g_if_ne hX 167 dX6_draw_138 (by decide) (fun c138 => ?_) (fun c138 => ?_)
                      · replace c138 := bI_nz.mp c138
                        refine g_aload_0 hX dX6_draw_167 ?_
                        refine gt_X6_drawn hX dX6_draw_168 ?_
                        refine g_bipush hX 6 dX6_draw_171 (by decide) ?_
                        refine g_iload_1 hX dX6_draw_173 ?_
                        refine g_imul hX dX6_draw_174 ?_
                        refine g_iload_2 hX dX6_draw_175 ?_
                        refine g_iadd hX dX6_draw_176 ?_
                        refine g_top (nI (6 * l + p)) (ix6 l p) ?_
                        refine g_iload_4 hX dX6_draw_177 ?_
                        refine g_iastN (k := (6 * l + p)) hX (ar_76 Z) (by omega) (by decide) dX6_draw_179 ?_
                        refine g_iinc_2 hX 1 dX6_draw_180 (by decide) rfl ?_
                        refine g_goto hX 23 dX6_draw_183 (by decide) ?_
                        exact g_weak (lvw_c (lvw_c (lvw_c (lvw_n (lvw_n lvw_nil))))) (ih23 _ _ ⟨hst, by simp only [nI_succ]⟩)
                      · replace c138 := bI_z.mp c138
                        exact absurd c138 (not_not_intro (hall_ae.mpr hF))
                · refine g_aload_0 hX dX6_draw_90 ?_
                  refine gt_X6_need hX dX6_draw_91 ?_
                  refine g_iload_1 hX dX6_draw_94 ?_
                  refine g_ialdN (k := l) hX (ar_73 Z) (by omega) (by decide) dX6_draw_95 ?_
                  refine g_goto hX 105 dX6_draw_96 (by decide) ?_
                  refine g_top (zI v0) (by first | (rw [hv0e, if_neg (bI_z.mp c68)]; rfl) | (rw [hv0e, if_pos (bI_nz.mp c68), if_pos ((zI_lt (by omega) (by omega)).mp c87), u2c _ _ (by decide)]; exact e73) | (rw [hv0e, if_pos (bI_nz.mp c68), if_neg (fun z => c87 ((zI_lt (by omega) (by omega)).mpr z)), u2c _ _ (by decide)]; exact e74)) ?_
                  refine g_istore_4 hX dX6_draw_105 rfl ?_
                  refine g_aload_0 hX dX6_draw_107 ?_
                  refine gt_X6_need hX dX6_draw_108 ?_
                  refine g_iload_1 hX dX6_draw_111 ?_
                  refine g_dup2 hX dX6_draw_112 rfl rfl ?_
                  refine g_ialdN (k := l) hX (ar_73 Z) (by omega) (by decide) dX6_draw_113 ?_
                  refine g_iload_4 hX dX6_draw_114 ?_
                  refine g_isub hX dX6_draw_116 ?_
                  refine g_top (zI (nd l - v0)) (by rw [u2c _ _ (by decide), e73, zI_sub]) ?_
                  refine g_iastN (k := l) hX (ar_73 Z) (by omega) (by decide) dX6_draw_117 ?_
                  refine g_aload_0 hX dX6_draw_118 ?_
                  refine gt_X6_room hX dX6_draw_119 ?_
                  refine g_iload_2 hX dX6_draw_122 ?_
                  refine g_dup2 hX dX6_draw_123 rfl rfl ?_
                  refine g_ialdN (k := p) hX (ar_74 Z) (by omega) (by decide) dX6_draw_124 ?_
                  refine g_iload_4 hX dX6_draw_125 ?_
                  refine g_isub hX dX6_draw_127 ?_
                  refine g_top (zI (rm p - v0)) (by rw [u2c _ _ (by decide), u2c _ _ (by decide), e74, zI_sub]) ?_
                  refine g_iastN (k := p) hX (ar_74 Z) (by omega) (by decide) dX6_draw_128 ?_
                  refine g_loop ((v0 - vs).toNat) (fun j => up2 (up2 (up2 m2 75 l (nI t)) 73 l (zI (nd l - (v0 - ((j : Nat) : Int))))) 74 p (zI (rm p - (v0 - ((j : Nat) : Int))))) (fun j => [some (.ref (zad Z 69)), some (.int (nI l)), some (.int (nI p)), some (.int (bI ((my l).testBit p = true))), some (.int (zI (v0 - ((j : Nat) : Int))))]) (by rw [show ((0 : Nat) : Int) = 0 from rfl, Int.sub_zero]) (by rw [show ((0 : Nat) : Int) = 0 from rfl, Int.sub_zero]) (fun j hk129 ih129 => ?_) ?_
                  · show G Z X (up2 (up2 (up2 m2 75 l (nI t)) 73 l (zI (nd l - (v0 - ((j : Nat) : Int))))) 74 p (zI (rm p - (v0 - ((j : Nat) : Int))))) 129 ([some (.ref (zad Z 69)), some (.int (nI l)), some (.int (nI p)), some (.int (bI ((my l).testBit p = true))), some (.int (zI (v0 - ((j : Nat) : Int))))]) _
                    refine g_iload_4 hX dX6_draw_129 ?_
                    refine g_if_le hX 167 dX6_draw_131 (by decide) (fun c131 => ?_) (fun c131 => ?_)
                    · exact absurd c131 (not_not_intro (by rw [← zI_0]; exact (zI_lt (by omega) (by omega)).mpr (by omega)))
                    · refine g_aload_0 hX dX6_draw_134 ?_
                      refine g_cV0r hX mkX6_areEnough ml_X6_163 (c_X6_areEnough (NmA (t := t) (v := v0 - (j : Int)) hNm hk11 hk23 (by omega) (by omega) (by omega))) (ob_69 Z _) dX6_draw_135 rfl (by decide) (Nat.le_of_ble_eq_true rfl) ?_
                      refine g_if_ne hX 167 dX6_draw_138 (by decide) (fun c138 => ?_) (fun c138 => ?_)
                      · replace c138 := bI_nz.mp c138
                        exact absurd c138 (fun z => hnF (v0 - (j : Int)) (by omega) (by omega) (hall_ae.mp z))
                      · replace c138 := bI_z.mp c138
                        refine g_iinc_4 hX (-1) dX6_draw_141 (by decide) rfl ?_
                        refine g_aload_0 hX dX6_draw_144 ?_
                        refine gt_X6_need hX dX6_draw_145 ?_
                        refine g_iload_1 hX dX6_draw_148 ?_
                        refine g_dup2 hX dX6_draw_149 rfl rfl ?_
                        refine g_ialdN (k := l) hX (ar_73 Z) (by omega) (by decide) dX6_draw_150 ?_
                        refine g_iconst hX 1 dX6_draw_151 (by decide) ?_
                        refine g_iadd hX dX6_draw_152 ?_
                        refine g_top (zI (nd l - (v0 - ((j + 1 : Nat) : Int)))) (by rw [u2c _ _ (by decide), u2s, show (1 : Int32) = zI 1 from rfl, zI_add]; congr 1; omega) ?_
                        refine g_iastN (k := l) hX (ar_73 Z) (by omega) (by decide) dX6_draw_153 ?_
                        refine g_aload_0 hX dX6_draw_154 ?_
                        refine gt_X6_room hX dX6_draw_155 ?_
                        refine g_iload_2 hX dX6_draw_158 ?_
                        refine g_dup2 hX dX6_draw_159 rfl rfl ?_
                        refine g_ialdN (k := p) hX (ar_74 Z) (by omega) (by decide) dX6_draw_160 ?_
                        refine g_iconst hX 1 dX6_draw_161 (by decide) ?_
                        refine g_iadd hX dX6_draw_162 ?_
                        refine g_top (zI (rm p - (v0 - ((j + 1 : Nat) : Int)))) (by rw [u2c _ _ (by decide), u2s, show (1 : Int32) = zI 1 from rfl, zI_add]; congr 1; omega) ?_
                        refine g_iastN (k := p) hX (ar_74 Z) (by omega) (by decide) dX6_draw_163 ?_
                        refine g_goto hX 129 dX6_draw_164 (by decide) ?_
                        exact g_cast ih129 (dd _ _ _ _ _ _ _ _) (by rw [show (-1 : Int32) = zI (-1) from rfl, zI_add, show v0 - ((j : Nat) : Int) + -1 = v0 - ((j + 1 : Nat) : Int) by omega]) rfl
                  · show G Z X (up2 (up2 (up2 m2 75 l (nI t)) 73 l (zI (nd l - (v0 - ((((v0 - vs).toNat) : Nat) : Int))))) 74 p (zI (rm p - (v0 - ((((v0 - vs).toNat) : Nat) : Int))))) 129 ([some (.ref (zad Z 69)), some (.int (nI l)), some (.int (nI p)), some (.int (bI ((my l).testBit p = true))), some (.int (zI (v0 - ((((v0 - vs).toNat) : Nat) : Int))))]) _
                    rw [show v0 - (((v0 - vs).toNat : Nat) : Int) = vs by omega]
                    refine g_iload_4 hX dX6_draw_129 ?_
                    refine g_if_le hX 167 dX6_draw_131 (by decide) (fun c131 => ?_) (fun c131 => ?_)
                    · refine g_aload_0 hX dX6_draw_167 ?_
                      refine gt_X6_drawn hX dX6_draw_168 ?_
                      refine g_bipush hX 6 dX6_draw_171 (by decide) ?_
                      refine g_iload_1 hX dX6_draw_173 ?_
                      refine g_imul hX dX6_draw_174 ?_
                      refine g_iload_2 hX dX6_draw_175 ?_
                      refine g_iadd hX dX6_draw_176 ?_
                      refine g_top (nI (6 * l + p)) (ix6 l p) ?_
                      refine g_iload_4 hX dX6_draw_177 ?_
                      refine g_iastN (k := (6 * l + p)) hX (ar_76 Z) (by omega) (by decide) dX6_draw_179 ?_
                      refine g_iinc_2 hX 1 dX6_draw_180 (by decide) rfl ?_
                      refine g_goto hX 23 dX6_draw_183 (by decide) ?_
                      exact g_weak (lvw_c (lvw_c (lvw_c (lvw_n (lvw_n lvw_nil))))) (ih23 _ _ ⟨hst, by simp only [nI_succ]⟩)
                    · refine g_aload_0 hX dX6_draw_134 ?_
                      refine g_cV0r hX mkX6_areEnough ml_X6_163 (c_X6_areEnough (NmA (t := t) (v := vs) hNm hk11 hk23 (by omega) (by omega) (by omega))) (ob_69 Z _) dX6_draw_135 rfl (by decide) (Nat.le_of_ble_eq_true rfl) ?_
                      refine g_if_ne hX 167 dX6_draw_138 (by decide) (fun c138 => ?_) (fun c138 => ?_)
                      · replace c138 := bI_nz.mp c138
                        refine g_aload_0 hX dX6_draw_167 ?_
                        refine gt_X6_drawn hX dX6_draw_168 ?_
                        refine g_bipush hX 6 dX6_draw_171 (by decide) ?_
                        refine g_iload_1 hX dX6_draw_173 ?_
                        refine g_imul hX dX6_draw_174 ?_
                        refine g_iload_2 hX dX6_draw_175 ?_
                        refine g_iadd hX dX6_draw_176 ?_
                        refine g_top (nI (6 * l + p)) (ix6 l p) ?_
                        refine g_iload_4 hX dX6_draw_177 ?_
                        refine g_iastN (k := (6 * l + p)) hX (ar_76 Z) (by omega) (by decide) dX6_draw_179 ?_
                        refine g_iinc_2 hX 1 dX6_draw_180 (by decide) rfl ?_
                        refine g_goto hX 23 dX6_draw_183 (by decide) ?_
                        exact g_weak (lvw_c (lvw_c (lvw_c (lvw_n (lvw_n lvw_nil))))) (ih23 _ _ ⟨hst, by simp only [nI_succ]⟩)
                      · replace c138 := bI_z.mp c138
                        exact absurd c138 (not_not_intro (hall_ae.mpr hF))
              · refine g_iconst hX 0 dX6_draw_71 (by decide) ?_
                refine g_goto hX 105 dX6_draw_72 (by decide) ?_
                refine g_top (zI v0) (by first | (rw [hv0e, if_neg (bI_z.mp c68)]; rfl) | (rw [hv0e, if_pos (bI_nz.mp c68), if_pos ((zI_lt (by omega) (by omega)).mp c87), u2c _ _ (by decide)]; exact e73) | (rw [hv0e, if_pos (bI_nz.mp c68), if_neg (fun z => c87 ((zI_lt (by omega) (by omega)).mpr z)), u2c _ _ (by decide)]; exact e74)) ?_
                refine g_istore_4 hX dX6_draw_105 rfl ?_
                refine g_aload_0 hX dX6_draw_107 ?_
                refine gt_X6_need hX dX6_draw_108 ?_
                refine g_iload_1 hX dX6_draw_111 ?_
                refine g_dup2 hX dX6_draw_112 rfl rfl ?_
                refine g_ialdN (k := l) hX (ar_73 Z) (by omega) (by decide) dX6_draw_113 ?_
                refine g_iload_4 hX dX6_draw_114 ?_
                refine g_isub hX dX6_draw_116 ?_
                refine g_top (zI (nd l - v0)) (by rw [u2c _ _ (by decide), e73, zI_sub]) ?_
                refine g_iastN (k := l) hX (ar_73 Z) (by omega) (by decide) dX6_draw_117 ?_
                refine g_aload_0 hX dX6_draw_118 ?_
                refine gt_X6_room hX dX6_draw_119 ?_
                refine g_iload_2 hX dX6_draw_122 ?_
                refine g_dup2 hX dX6_draw_123 rfl rfl ?_
                refine g_ialdN (k := p) hX (ar_74 Z) (by omega) (by decide) dX6_draw_124 ?_
                refine g_iload_4 hX dX6_draw_125 ?_
                refine g_isub hX dX6_draw_127 ?_
                refine g_top (zI (rm p - v0)) (by rw [u2c _ _ (by decide), u2c _ _ (by decide), e74, zI_sub]) ?_
                refine g_iastN (k := p) hX (ar_74 Z) (by omega) (by decide) dX6_draw_128 ?_
                refine g_loop ((v0 - vs).toNat) (fun j => up2 (up2 (up2 m2 75 l (nI t)) 73 l (zI (nd l - (v0 - ((j : Nat) : Int))))) 74 p (zI (rm p - (v0 - ((j : Nat) : Int))))) (fun j => [some (.ref (zad Z 69)), some (.int (nI l)), some (.int (nI p)), some (.int (bI ((my l).testBit p = true))), some (.int (zI (v0 - ((j : Nat) : Int))))]) (by rw [show ((0 : Nat) : Int) = 0 from rfl, Int.sub_zero]) (by rw [show ((0 : Nat) : Int) = 0 from rfl, Int.sub_zero]) (fun j hk129 ih129 => ?_) ?_
                · show G Z X (up2 (up2 (up2 m2 75 l (nI t)) 73 l (zI (nd l - (v0 - ((j : Nat) : Int))))) 74 p (zI (rm p - (v0 - ((j : Nat) : Int))))) 129 ([some (.ref (zad Z 69)), some (.int (nI l)), some (.int (nI p)), some (.int (bI ((my l).testBit p = true))), some (.int (zI (v0 - ((j : Nat) : Int))))]) _
                  refine g_iload_4 hX dX6_draw_129 ?_
                  refine g_if_le hX 167 dX6_draw_131 (by decide) (fun c131 => ?_) (fun c131 => ?_)
                  · exact absurd c131 (not_not_intro (by rw [← zI_0]; exact (zI_lt (by omega) (by omega)).mpr (by omega)))
                  · refine g_aload_0 hX dX6_draw_134 ?_
                    refine g_cV0r hX mkX6_areEnough ml_X6_163 (c_X6_areEnough (NmA (t := t) (v := v0 - (j : Int)) hNm hk11 hk23 (by omega) (by omega) (by omega))) (ob_69 Z _) dX6_draw_135 rfl (by decide) (Nat.le_of_ble_eq_true rfl) ?_
                    refine g_if_ne hX 167 dX6_draw_138 (by decide) (fun c138 => ?_) (fun c138 => ?_)
                    · replace c138 := bI_nz.mp c138
                      exact absurd c138 (fun z => hnF (v0 - (j : Int)) (by omega) (by omega) (hall_ae.mp z))
                    · replace c138 := bI_z.mp c138
                      refine g_iinc_4 hX (-1) dX6_draw_141 (by decide) rfl ?_
                      refine g_aload_0 hX dX6_draw_144 ?_
                      refine gt_X6_need hX dX6_draw_145 ?_
                      refine g_iload_1 hX dX6_draw_148 ?_
                      refine g_dup2 hX dX6_draw_149 rfl rfl ?_
                      refine g_ialdN (k := l) hX (ar_73 Z) (by omega) (by decide) dX6_draw_150 ?_
                      refine g_iconst hX 1 dX6_draw_151 (by decide) ?_
                      refine g_iadd hX dX6_draw_152 ?_
                      refine g_top (zI (nd l - (v0 - ((j + 1 : Nat) : Int)))) (by rw [u2c _ _ (by decide), u2s, show (1 : Int32) = zI 1 from rfl, zI_add]; congr 1; omega) ?_
                      refine g_iastN (k := l) hX (ar_73 Z) (by omega) (by decide) dX6_draw_153 ?_
                      refine g_aload_0 hX dX6_draw_154 ?_
                      refine gt_X6_room hX dX6_draw_155 ?_
                      refine g_iload_2 hX dX6_draw_158 ?_
                      refine g_dup2 hX dX6_draw_159 rfl rfl ?_
                      refine g_ialdN (k := p) hX (ar_74 Z) (by omega) (by decide) dX6_draw_160 ?_
                      refine g_iconst hX 1 dX6_draw_161 (by decide) ?_
                      refine g_iadd hX dX6_draw_162 ?_
                      refine g_top (zI (rm p - (v0 - ((j + 1 : Nat) : Int)))) (by rw [u2c _ _ (by decide), u2s, show (1 : Int32) = zI 1 from rfl, zI_add]; congr 1; omega) ?_
                      refine g_iastN (k := p) hX (ar_74 Z) (by omega) (by decide) dX6_draw_163 ?_
                      refine g_goto hX 129 dX6_draw_164 (by decide) ?_
                      exact g_cast ih129 (dd _ _ _ _ _ _ _ _) (by rw [show (-1 : Int32) = zI (-1) from rfl, zI_add, show v0 - ((j : Nat) : Int) + -1 = v0 - ((j + 1 : Nat) : Int) by omega]) rfl
                · show G Z X (up2 (up2 (up2 m2 75 l (nI t)) 73 l (zI (nd l - (v0 - ((((v0 - vs).toNat) : Nat) : Int))))) 74 p (zI (rm p - (v0 - ((((v0 - vs).toNat) : Nat) : Int))))) 129 ([some (.ref (zad Z 69)), some (.int (nI l)), some (.int (nI p)), some (.int (bI ((my l).testBit p = true))), some (.int (zI (v0 - ((((v0 - vs).toNat) : Nat) : Int))))]) _
                  rw [show v0 - (((v0 - vs).toNat : Nat) : Int) = vs by omega]
                  refine g_iload_4 hX dX6_draw_129 ?_
                  refine g_if_le hX 167 dX6_draw_131 (by decide) (fun c131 => ?_) (fun c131 => ?_)
                  · refine g_aload_0 hX dX6_draw_167 ?_
                    refine gt_X6_drawn hX dX6_draw_168 ?_
                    refine g_bipush hX 6 dX6_draw_171 (by decide) ?_
                    refine g_iload_1 hX dX6_draw_173 ?_
                    refine g_imul hX dX6_draw_174 ?_
                    refine g_iload_2 hX dX6_draw_175 ?_
                    refine g_iadd hX dX6_draw_176 ?_
                    refine g_top (nI (6 * l + p)) (ix6 l p) ?_
                    refine g_iload_4 hX dX6_draw_177 ?_
                    refine g_iastN (k := (6 * l + p)) hX (ar_76 Z) (by omega) (by decide) dX6_draw_179 ?_
                    refine g_iinc_2 hX 1 dX6_draw_180 (by decide) rfl ?_
                    refine g_goto hX 23 dX6_draw_183 (by decide) ?_
                    exact g_weak (lvw_c (lvw_c (lvw_c (lvw_n (lvw_n lvw_nil))))) (ih23 _ _ ⟨hst, by simp only [nI_succ]⟩)
                  · refine g_aload_0 hX dX6_draw_134 ?_
                    refine g_cV0r hX mkX6_areEnough ml_X6_163 (c_X6_areEnough (NmA (t := t) (v := vs) hNm hk11 hk23 (by omega) (by omega) (by omega))) (ob_69 Z _) dX6_draw_135 rfl (by decide) (Nat.le_of_ble_eq_true rfl) ?_
                    refine g_if_ne hX 167 dX6_draw_138 (by decide) (fun c138 => ?_) (fun c138 => ?_)
                    · replace c138 := bI_nz.mp c138
                      refine g_aload_0 hX dX6_draw_167 ?_
                      refine gt_X6_drawn hX dX6_draw_168 ?_
                      refine g_bipush hX 6 dX6_draw_171 (by decide) ?_
                      refine g_iload_1 hX dX6_draw_173 ?_
                      refine g_imul hX dX6_draw_174 ?_
                      refine g_iload_2 hX dX6_draw_175 ?_
                      refine g_iadd hX dX6_draw_176 ?_
                      refine g_top (nI (6 * l + p)) (ix6 l p) ?_
                      refine g_iload_4 hX dX6_draw_177 ?_
                      refine g_iastN (k := (6 * l + p)) hX (ar_76 Z) (by omega) (by decide) dX6_draw_179 ?_
                      refine g_iinc_2 hX 1 dX6_draw_180 (by decide) rfl ?_
                      refine g_goto hX 23 dX6_draw_183 (by decide) ?_
                      exact g_weak (lvw_c (lvw_c (lvw_c (lvw_n (lvw_n lvw_nil))))) (ih23 _ _ ⟨hst, by simp only [nI_succ]⟩)
                    · replace c138 := bI_z.mp c138
                      exact absurd c138 (not_not_intro (hall_ae.mpr hF))
            · refine g_iconst hX 1 dX6_draw_47 (by decide) ?_
              refine g_goto hX 52 dX6_draw_48 (by decide) ?_
              refine g_top (bI ((my l).testBit p = true)) (by first | exact (bI_t ((tb_sn (by omega)).mp c44)).symm | exact (bI_f (fun z => c44 ((tb_sn (by omega)).mpr z))).symm) ?_
              refine g_istore_3 hX dX6_draw_52 rfl ?_
              refine g_aload_0 hX dX6_draw_53 ?_
              refine gt_X6_may hX dX6_draw_54 ?_
              refine g_iload_1 hX dX6_draw_57 ?_
              refine g_dup2 hX dX6_draw_58 rfl rfl ?_
              refine g_ialdN (k := l) hX (ar_75 Z) (by omega) (by decide) dX6_draw_59 ?_
              refine g_top (nI (my l)) e75 ?_
              refine g_iconst hX 1 dX6_draw_60 (by decide) ?_
              refine g_iload_2 hX dX6_draw_61 ?_
              refine g_ishl hX dX6_draw_62 ?_
              refine g_iconst hX (-1) dX6_draw_63 (by decide) ?_
              refine g_ixor hX dX6_draw_64 ?_
              refine g_iand hX dX6_draw_65 ?_
              refine g_top (nI t) (may_del (by omega) htb) ?_
              refine g_iastN (k := l) hX (ar_75 Z) (by omega) (by decide) dX6_draw_66 ?_
              refine g_iload_3 hX dX6_draw_67 ?_
              refine g_if_ne hX 75 dX6_draw_68 (by decide) (fun c68 => ?_) (fun c68 => ?_)
              · refine g_aload_0 hX dX6_draw_75 ?_
                refine gt_X6_need hX dX6_draw_76 ?_
                refine g_iload_1 hX dX6_draw_79 ?_
                refine g_ialdN (k := l) hX (ar_73 Z) (by omega) (by decide) dX6_draw_80 ?_
                refine g_top (zI (nd l)) (by rw [u2c _ _ (by decide)]; exact e73) ?_
                refine g_aload_0 hX dX6_draw_81 ?_
                refine gt_X6_room hX dX6_draw_82 ?_
                refine g_iload_2 hX dX6_draw_85 ?_
                refine g_ialdN (k := p) hX (ar_74 Z) (by omega) (by decide) dX6_draw_86 ?_
                refine g_top (zI (rm p)) (by rw [u2c _ _ (by decide)]; exact e74) ?_
                refine g_icmp_ge hX 99 dX6_draw_87 (by decide) (fun c87 => ?_) (fun c87 => ?_)
                · refine g_aload_0 hX dX6_draw_99 ?_
                  refine gt_X6_room hX dX6_draw_100 ?_
                  refine g_iload_2 hX dX6_draw_103 ?_
                  refine g_ialdN (k := p) hX (ar_74 Z) (by omega) (by decide) dX6_draw_104 ?_
                  refine g_top (zI v0) (by first | (rw [hv0e, if_neg (bI_z.mp c68)]; rfl) | (rw [hv0e, if_pos (bI_nz.mp c68), if_pos ((zI_lt (by omega) (by omega)).mp c87), u2c _ _ (by decide)]; exact e73) | (rw [hv0e, if_pos (bI_nz.mp c68), if_neg (fun z => c87 ((zI_lt (by omega) (by omega)).mpr z)), u2c _ _ (by decide)]; exact e74)) ?_
                  refine g_istore_4 hX dX6_draw_105 rfl ?_
                  refine g_aload_0 hX dX6_draw_107 ?_
                  refine gt_X6_need hX dX6_draw_108 ?_
                  refine g_iload_1 hX dX6_draw_111 ?_
                  refine g_dup2 hX dX6_draw_112 rfl rfl ?_
                  refine g_ialdN (k := l) hX (ar_73 Z) (by omega) (by decide) dX6_draw_113 ?_
                  refine g_iload_4 hX dX6_draw_114 ?_
                  refine g_isub hX dX6_draw_116 ?_
                  refine g_top (zI (nd l - v0)) (by rw [u2c _ _ (by decide), e73, zI_sub]) ?_
                  refine g_iastN (k := l) hX (ar_73 Z) (by omega) (by decide) dX6_draw_117 ?_
                  refine g_aload_0 hX dX6_draw_118 ?_
                  refine gt_X6_room hX dX6_draw_119 ?_
                  refine g_iload_2 hX dX6_draw_122 ?_
                  refine g_dup2 hX dX6_draw_123 rfl rfl ?_
                  refine g_ialdN (k := p) hX (ar_74 Z) (by omega) (by decide) dX6_draw_124 ?_
                  refine g_iload_4 hX dX6_draw_125 ?_
                  refine g_isub hX dX6_draw_127 ?_
                  refine g_top (zI (rm p - v0)) (by rw [u2c _ _ (by decide), u2c _ _ (by decide), e74, zI_sub]) ?_
                  refine g_iastN (k := p) hX (ar_74 Z) (by omega) (by decide) dX6_draw_128 ?_
                  refine g_loop ((v0 - vs).toNat) (fun j => up2 (up2 (up2 m2 75 l (nI t)) 73 l (zI (nd l - (v0 - ((j : Nat) : Int))))) 74 p (zI (rm p - (v0 - ((j : Nat) : Int))))) (fun j => [some (.ref (zad Z 69)), some (.int (nI l)), some (.int (nI p)), some (.int (bI ((my l).testBit p = true))), some (.int (zI (v0 - ((j : Nat) : Int))))]) (by rw [show ((0 : Nat) : Int) = 0 from rfl, Int.sub_zero]) (by rw [show ((0 : Nat) : Int) = 0 from rfl, Int.sub_zero]) (fun j hk129 ih129 => ?_) ?_
                  · show G Z X (up2 (up2 (up2 m2 75 l (nI t)) 73 l (zI (nd l - (v0 - ((j : Nat) : Int))))) 74 p (zI (rm p - (v0 - ((j : Nat) : Int))))) 129 ([some (.ref (zad Z 69)), some (.int (nI l)), some (.int (nI p)), some (.int (bI ((my l).testBit p = true))), some (.int (zI (v0 - ((j : Nat) : Int))))]) _
                    refine g_iload_4 hX dX6_draw_129 ?_
                    refine g_if_le hX 167 dX6_draw_131 (by decide) (fun c131 => ?_) (fun c131 => ?_)
                    · exact absurd c131 (not_not_intro (by rw [← zI_0]; exact (zI_lt (by omega) (by omega)).mpr (by omega)))
                    · refine g_aload_0 hX dX6_draw_134 ?_
                      refine g_cV0r hX mkX6_areEnough ml_X6_163 (c_X6_areEnough (NmA (t := t) (v := v0 - (j : Int)) hNm hk11 hk23 (by omega) (by omega) (by omega))) (ob_69 Z _) dX6_draw_135 rfl (by decide) (Nat.le_of_ble_eq_true rfl) ?_
                      refine g_if_ne hX 167 dX6_draw_138 (by decide) (fun c138 => ?_) (fun c138 => ?_)
                      · replace c138 := bI_nz.mp c138
                        exact absurd c138 (fun z => hnF (v0 - (j : Int)) (by omega) (by omega) (hall_ae.mp z))
                      · replace c138 := bI_z.mp c138
                        refine g_iinc_4 hX (-1) dX6_draw_141 (by decide) rfl ?_
                        refine g_aload_0 hX dX6_draw_144 ?_
                        refine gt_X6_need hX dX6_draw_145 ?_
                        refine g_iload_1 hX dX6_draw_148 ?_
                        refine g_dup2 hX dX6_draw_149 rfl rfl ?_
                        refine g_ialdN (k := l) hX (ar_73 Z) (by omega) (by decide) dX6_draw_150 ?_
                        refine g_iconst hX 1 dX6_draw_151 (by decide) ?_
                        refine g_iadd hX dX6_draw_152 ?_
                        refine g_top (zI (nd l - (v0 - ((j + 1 : Nat) : Int)))) (by rw [u2c _ _ (by decide), u2s, show (1 : Int32) = zI 1 from rfl, zI_add]; congr 1; omega) ?_
                        refine g_iastN (k := l) hX (ar_73 Z) (by omega) (by decide) dX6_draw_153 ?_
                        refine g_aload_0 hX dX6_draw_154 ?_
                        refine gt_X6_room hX dX6_draw_155 ?_
                        refine g_iload_2 hX dX6_draw_158 ?_
                        refine g_dup2 hX dX6_draw_159 rfl rfl ?_
                        refine g_ialdN (k := p) hX (ar_74 Z) (by omega) (by decide) dX6_draw_160 ?_
                        refine g_iconst hX 1 dX6_draw_161 (by decide) ?_
                        refine g_iadd hX dX6_draw_162 ?_
                        refine g_top (zI (rm p - (v0 - ((j + 1 : Nat) : Int)))) (by rw [u2c _ _ (by decide), u2s, show (1 : Int32) = zI 1 from rfl, zI_add]; congr 1; omega) ?_
                        refine g_iastN (k := p) hX (ar_74 Z) (by omega) (by decide) dX6_draw_163 ?_
                        refine g_goto hX 129 dX6_draw_164 (by decide) ?_
                        exact g_cast ih129 (dd _ _ _ _ _ _ _ _) (by rw [show (-1 : Int32) = zI (-1) from rfl, zI_add, show v0 - ((j : Nat) : Int) + -1 = v0 - ((j + 1 : Nat) : Int) by omega]) rfl
                  · show G Z X (up2 (up2 (up2 m2 75 l (nI t)) 73 l (zI (nd l - (v0 - ((((v0 - vs).toNat) : Nat) : Int))))) 74 p (zI (rm p - (v0 - ((((v0 - vs).toNat) : Nat) : Int))))) 129 ([some (.ref (zad Z 69)), some (.int (nI l)), some (.int (nI p)), some (.int (bI ((my l).testBit p = true))), some (.int (zI (v0 - ((((v0 - vs).toNat) : Nat) : Int))))]) _
                    rw [show v0 - (((v0 - vs).toNat : Nat) : Int) = vs by omega]
                    refine g_iload_4 hX dX6_draw_129 ?_
                    refine g_if_le hX 167 dX6_draw_131 (by decide) (fun c131 => ?_) (fun c131 => ?_)
                    · refine g_aload_0 hX dX6_draw_167 ?_
                      refine gt_X6_drawn hX dX6_draw_168 ?_
                      refine g_bipush hX 6 dX6_draw_171 (by decide) ?_
                      refine g_iload_1 hX dX6_draw_173 ?_
                      refine g_imul hX dX6_draw_174 ?_
                      refine g_iload_2 hX dX6_draw_175 ?_
                      refine g_iadd hX dX6_draw_176 ?_
                      refine g_top (nI (6 * l + p)) (ix6 l p) ?_
                      refine g_iload_4 hX dX6_draw_177 ?_
                      refine g_iastN (k := (6 * l + p)) hX (ar_76 Z) (by omega) (by decide) dX6_draw_179 ?_
                      refine g_iinc_2 hX 1 dX6_draw_180 (by decide) rfl ?_
                      refine g_goto hX 23 dX6_draw_183 (by decide) ?_
                      exact g_weak (lvw_c (lvw_c (lvw_c (lvw_n (lvw_n lvw_nil))))) (ih23 _ _ ⟨hst, by simp only [nI_succ]⟩)
                    · refine g_aload_0 hX dX6_draw_134 ?_
                      refine g_cV0r hX mkX6_areEnough ml_X6_163 (c_X6_areEnough (NmA (t := t) (v := vs) hNm hk11 hk23 (by omega) (by omega) (by omega))) (ob_69 Z _) dX6_draw_135 rfl (by decide) (Nat.le_of_ble_eq_true rfl) ?_
                      refine g_if_ne hX 167 dX6_draw_138 (by decide) (fun c138 => ?_) (fun c138 => ?_)
                      · replace c138 := bI_nz.mp c138
                        refine g_aload_0 hX dX6_draw_167 ?_
                        refine gt_X6_drawn hX dX6_draw_168 ?_
                        refine g_bipush hX 6 dX6_draw_171 (by decide) ?_
                        refine g_iload_1 hX dX6_draw_173 ?_
                        refine g_imul hX dX6_draw_174 ?_
                        refine g_iload_2 hX dX6_draw_175 ?_
                        refine g_iadd hX dX6_draw_176 ?_
                        refine g_top (nI (6 * l + p)) (ix6 l p) ?_
                        refine g_iload_4 hX dX6_draw_177 ?_
                        refine g_iastN (k := (6 * l + p)) hX (ar_76 Z) (by omega) (by decide) dX6_draw_179 ?_
                        refine g_iinc_2 hX 1 dX6_draw_180 (by decide) rfl ?_
                        refine g_goto hX 23 dX6_draw_183 (by decide) ?_
                        exact g_weak (lvw_c (lvw_c (lvw_c (lvw_n (lvw_n lvw_nil))))) (ih23 _ _ ⟨hst, by simp only [nI_succ]⟩)
                      · replace c138 := bI_z.mp c138
                        exact absurd c138 (not_not_intro (hall_ae.mpr hF))
                · refine g_aload_0 hX dX6_draw_90 ?_
                  refine gt_X6_need hX dX6_draw_91 ?_
                  refine g_iload_1 hX dX6_draw_94 ?_
                  refine g_ialdN (k := l) hX (ar_73 Z) (by omega) (by decide) dX6_draw_95 ?_
                  refine g_goto hX 105 dX6_draw_96 (by decide) ?_
                  refine g_top (zI v0) (by first | (rw [hv0e, if_neg (bI_z.mp c68)]; rfl) | (rw [hv0e, if_pos (bI_nz.mp c68), if_pos ((zI_lt (by omega) (by omega)).mp c87), u2c _ _ (by decide)]; exact e73) | (rw [hv0e, if_pos (bI_nz.mp c68), if_neg (fun z => c87 ((zI_lt (by omega) (by omega)).mpr z)), u2c _ _ (by decide)]; exact e74)) ?_
                  refine g_istore_4 hX dX6_draw_105 rfl ?_
                  refine g_aload_0 hX dX6_draw_107 ?_
                  refine gt_X6_need hX dX6_draw_108 ?_
                  refine g_iload_1 hX dX6_draw_111 ?_
                  refine g_dup2 hX dX6_draw_112 rfl rfl ?_
                  refine g_ialdN (k := l) hX (ar_73 Z) (by omega) (by decide) dX6_draw_113 ?_
                  refine g_iload_4 hX dX6_draw_114 ?_
                  refine g_isub hX dX6_draw_116 ?_
                  refine g_top (zI (nd l - v0)) (by rw [u2c _ _ (by decide), e73, zI_sub]) ?_
                  refine g_iastN (k := l) hX (ar_73 Z) (by omega) (by decide) dX6_draw_117 ?_
                  refine g_aload_0 hX dX6_draw_118 ?_
                  refine gt_X6_room hX dX6_draw_119 ?_
                  refine g_iload_2 hX dX6_draw_122 ?_
                  refine g_dup2 hX dX6_draw_123 rfl rfl ?_
                  refine g_ialdN (k := p) hX (ar_74 Z) (by omega) (by decide) dX6_draw_124 ?_
                  refine g_iload_4 hX dX6_draw_125 ?_
                  refine g_isub hX dX6_draw_127 ?_
                  refine g_top (zI (rm p - v0)) (by rw [u2c _ _ (by decide), u2c _ _ (by decide), e74, zI_sub]) ?_
                  refine g_iastN (k := p) hX (ar_74 Z) (by omega) (by decide) dX6_draw_128 ?_
                  refine g_loop ((v0 - vs).toNat) (fun j => up2 (up2 (up2 m2 75 l (nI t)) 73 l (zI (nd l - (v0 - ((j : Nat) : Int))))) 74 p (zI (rm p - (v0 - ((j : Nat) : Int))))) (fun j => [some (.ref (zad Z 69)), some (.int (nI l)), some (.int (nI p)), some (.int (bI ((my l).testBit p = true))), some (.int (zI (v0 - ((j : Nat) : Int))))]) (by rw [show ((0 : Nat) : Int) = 0 from rfl, Int.sub_zero]) (by rw [show ((0 : Nat) : Int) = 0 from rfl, Int.sub_zero]) (fun j hk129 ih129 => ?_) ?_
                  · show G Z X (up2 (up2 (up2 m2 75 l (nI t)) 73 l (zI (nd l - (v0 - ((j : Nat) : Int))))) 74 p (zI (rm p - (v0 - ((j : Nat) : Int))))) 129 ([some (.ref (zad Z 69)), some (.int (nI l)), some (.int (nI p)), some (.int (bI ((my l).testBit p = true))), some (.int (zI (v0 - ((j : Nat) : Int))))]) _
                    refine g_iload_4 hX dX6_draw_129 ?_
                    refine g_if_le hX 167 dX6_draw_131 (by decide) (fun c131 => ?_) (fun c131 => ?_)
                    · exact absurd c131 (not_not_intro (by rw [← zI_0]; exact (zI_lt (by omega) (by omega)).mpr (by omega)))
                    · refine g_aload_0 hX dX6_draw_134 ?_
                      refine g_cV0r hX mkX6_areEnough ml_X6_163 (c_X6_areEnough (NmA (t := t) (v := v0 - (j : Int)) hNm hk11 hk23 (by omega) (by omega) (by omega))) (ob_69 Z _) dX6_draw_135 rfl (by decide) (Nat.le_of_ble_eq_true rfl) ?_
                      refine g_if_ne hX 167 dX6_draw_138 (by decide) (fun c138 => ?_) (fun c138 => ?_)
                      · replace c138 := bI_nz.mp c138
                        exact absurd c138 (fun z => hnF (v0 - (j : Int)) (by omega) (by omega) (hall_ae.mp z))
                      · replace c138 := bI_z.mp c138
                        refine g_iinc_4 hX (-1) dX6_draw_141 (by decide) rfl ?_
                        refine g_aload_0 hX dX6_draw_144 ?_
                        refine gt_X6_need hX dX6_draw_145 ?_
                        refine g_iload_1 hX dX6_draw_148 ?_
                        refine g_dup2 hX dX6_draw_149 rfl rfl ?_
                        refine g_ialdN (k := l) hX (ar_73 Z) (by omega) (by decide) dX6_draw_150 ?_
                        refine g_iconst hX 1 dX6_draw_151 (by decide) ?_
                        refine g_iadd hX dX6_draw_152 ?_
                        refine g_top (zI (nd l - (v0 - ((j + 1 : Nat) : Int)))) (by rw [u2c _ _ (by decide), u2s, show (1 : Int32) = zI 1 from rfl, zI_add]; congr 1; omega) ?_
                        refine g_iastN (k := l) hX (ar_73 Z) (by omega) (by decide) dX6_draw_153 ?_
                        refine g_aload_0 hX dX6_draw_154 ?_
                        refine gt_X6_room hX dX6_draw_155 ?_
                        refine g_iload_2 hX dX6_draw_158 ?_
                        refine g_dup2 hX dX6_draw_159 rfl rfl ?_
                        refine g_ialdN (k := p) hX (ar_74 Z) (by omega) (by decide) dX6_draw_160 ?_
                        refine g_iconst hX 1 dX6_draw_161 (by decide) ?_
                        refine g_iadd hX dX6_draw_162 ?_
                        refine g_top (zI (rm p - (v0 - ((j + 1 : Nat) : Int)))) (by rw [u2c _ _ (by decide), u2s, show (1 : Int32) = zI 1 from rfl, zI_add]; congr 1; omega) ?_
                        refine g_iastN (k := p) hX (ar_74 Z) (by omega) (by decide) dX6_draw_163 ?_
                        refine g_goto hX 129 dX6_draw_164 (by decide) ?_
                        exact g_cast ih129 (dd _ _ _ _ _ _ _ _) (by rw [show (-1 : Int32) = zI (-1) from rfl, zI_add, show v0 - ((j : Nat) : Int) + -1 = v0 - ((j + 1 : Nat) : Int) by omega]) rfl
                  · show G Z X (up2 (up2 (up2 m2 75 l (nI t)) 73 l (zI (nd l - (v0 - ((((v0 - vs).toNat) : Nat) : Int))))) 74 p (zI (rm p - (v0 - ((((v0 - vs).toNat) : Nat) : Int))))) 129 ([some (.ref (zad Z 69)), some (.int (nI l)), some (.int (nI p)), some (.int (bI ((my l).testBit p = true))), some (.int (zI (v0 - ((((v0 - vs).toNat) : Nat) : Int))))]) _
                    rw [show v0 - (((v0 - vs).toNat : Nat) : Int) = vs by omega]
                    refine g_iload_4 hX dX6_draw_129 ?_
                    refine g_if_le hX 167 dX6_draw_131 (by decide) (fun c131 => ?_) (fun c131 => ?_)
                    · refine g_aload_0 hX dX6_draw_167 ?_
                      refine gt_X6_drawn hX dX6_draw_168 ?_
                      refine g_bipush hX 6 dX6_draw_171 (by decide) ?_
                      refine g_iload_1 hX dX6_draw_173 ?_
                      refine g_imul hX dX6_draw_174 ?_
                      refine g_iload_2 hX dX6_draw_175 ?_
                      refine g_iadd hX dX6_draw_176 ?_
                      refine g_top (nI (6 * l + p)) (ix6 l p) ?_
                      refine g_iload_4 hX dX6_draw_177 ?_
                      refine g_iastN (k := (6 * l + p)) hX (ar_76 Z) (by omega) (by decide) dX6_draw_179 ?_
                      refine g_iinc_2 hX 1 dX6_draw_180 (by decide) rfl ?_
                      refine g_goto hX 23 dX6_draw_183 (by decide) ?_
                      exact g_weak (lvw_c (lvw_c (lvw_c (lvw_n (lvw_n lvw_nil))))) (ih23 _ _ ⟨hst, by simp only [nI_succ]⟩)
                    · refine g_aload_0 hX dX6_draw_134 ?_
                      refine g_cV0r hX mkX6_areEnough ml_X6_163 (c_X6_areEnough (NmA (t := t) (v := vs) hNm hk11 hk23 (by omega) (by omega) (by omega))) (ob_69 Z _) dX6_draw_135 rfl (by decide) (Nat.le_of_ble_eq_true rfl) ?_
                      refine g_if_ne hX 167 dX6_draw_138 (by decide) (fun c138 => ?_) (fun c138 => ?_)
                      · replace c138 := bI_nz.mp c138
                        refine g_aload_0 hX dX6_draw_167 ?_
                        refine gt_X6_drawn hX dX6_draw_168 ?_
                        refine g_bipush hX 6 dX6_draw_171 (by decide) ?_
                        refine g_iload_1 hX dX6_draw_173 ?_
                        refine g_imul hX dX6_draw_174 ?_
                        refine g_iload_2 hX dX6_draw_175 ?_
                        refine g_iadd hX dX6_draw_176 ?_
                        refine g_top (nI (6 * l + p)) (ix6 l p) ?_
                        refine g_iload_4 hX dX6_draw_177 ?_
                        refine g_iastN (k := (6 * l + p)) hX (ar_76 Z) (by omega) (by decide) dX6_draw_179 ?_
                        refine g_iinc_2 hX 1 dX6_draw_180 (by decide) rfl ?_
                        refine g_goto hX 23 dX6_draw_183 (by decide) ?_
                        exact g_weak (lvw_c (lvw_c (lvw_c (lvw_n (lvw_n lvw_nil))))) (ih23 _ _ ⟨hst, by simp only [nI_succ]⟩)
                      · replace c138 := bI_z.mp c138
                        exact absurd c138 (not_not_intro (hall_ae.mpr hF))
              · refine g_iconst hX 0 dX6_draw_71 (by decide) ?_
                refine g_goto hX 105 dX6_draw_72 (by decide) ?_
                refine g_top (zI v0) (by first | (rw [hv0e, if_neg (bI_z.mp c68)]; rfl) | (rw [hv0e, if_pos (bI_nz.mp c68), if_pos ((zI_lt (by omega) (by omega)).mp c87), u2c _ _ (by decide)]; exact e73) | (rw [hv0e, if_pos (bI_nz.mp c68), if_neg (fun z => c87 ((zI_lt (by omega) (by omega)).mpr z)), u2c _ _ (by decide)]; exact e74)) ?_
                refine g_istore_4 hX dX6_draw_105 rfl ?_
                refine g_aload_0 hX dX6_draw_107 ?_
                refine gt_X6_need hX dX6_draw_108 ?_
                refine g_iload_1 hX dX6_draw_111 ?_
                refine g_dup2 hX dX6_draw_112 rfl rfl ?_
                refine g_ialdN (k := l) hX (ar_73 Z) (by omega) (by decide) dX6_draw_113 ?_
                refine g_iload_4 hX dX6_draw_114 ?_
                refine g_isub hX dX6_draw_116 ?_
                refine g_top (zI (nd l - v0)) (by rw [u2c _ _ (by decide), e73, zI_sub]) ?_
                refine g_iastN (k := l) hX (ar_73 Z) (by omega) (by decide) dX6_draw_117 ?_
                refine g_aload_0 hX dX6_draw_118 ?_
                refine gt_X6_room hX dX6_draw_119 ?_
                refine g_iload_2 hX dX6_draw_122 ?_
                refine g_dup2 hX dX6_draw_123 rfl rfl ?_
                refine g_ialdN (k := p) hX (ar_74 Z) (by omega) (by decide) dX6_draw_124 ?_
                refine g_iload_4 hX dX6_draw_125 ?_
                refine g_isub hX dX6_draw_127 ?_
                refine g_top (zI (rm p - v0)) (by rw [u2c _ _ (by decide), u2c _ _ (by decide), e74, zI_sub]) ?_
                refine g_iastN (k := p) hX (ar_74 Z) (by omega) (by decide) dX6_draw_128 ?_
                refine g_loop ((v0 - vs).toNat) (fun j => up2 (up2 (up2 m2 75 l (nI t)) 73 l (zI (nd l - (v0 - ((j : Nat) : Int))))) 74 p (zI (rm p - (v0 - ((j : Nat) : Int))))) (fun j => [some (.ref (zad Z 69)), some (.int (nI l)), some (.int (nI p)), some (.int (bI ((my l).testBit p = true))), some (.int (zI (v0 - ((j : Nat) : Int))))]) (by rw [show ((0 : Nat) : Int) = 0 from rfl, Int.sub_zero]) (by rw [show ((0 : Nat) : Int) = 0 from rfl, Int.sub_zero]) (fun j hk129 ih129 => ?_) ?_
                · show G Z X (up2 (up2 (up2 m2 75 l (nI t)) 73 l (zI (nd l - (v0 - ((j : Nat) : Int))))) 74 p (zI (rm p - (v0 - ((j : Nat) : Int))))) 129 ([some (.ref (zad Z 69)), some (.int (nI l)), some (.int (nI p)), some (.int (bI ((my l).testBit p = true))), some (.int (zI (v0 - ((j : Nat) : Int))))]) _
                  refine g_iload_4 hX dX6_draw_129 ?_
                  refine g_if_le hX 167 dX6_draw_131 (by decide) (fun c131 => ?_) (fun c131 => ?_)
                  · exact absurd c131 (not_not_intro (by rw [← zI_0]; exact (zI_lt (by omega) (by omega)).mpr (by omega)))
                  · refine g_aload_0 hX dX6_draw_134 ?_
                    refine g_cV0r hX mkX6_areEnough ml_X6_163 (c_X6_areEnough (NmA (t := t) (v := v0 - (j : Int)) hNm hk11 hk23 (by omega) (by omega) (by omega))) (ob_69 Z _) dX6_draw_135 rfl (by decide) (Nat.le_of_ble_eq_true rfl) ?_
                    refine g_if_ne hX 167 dX6_draw_138 (by decide) (fun c138 => ?_) (fun c138 => ?_)
                    · replace c138 := bI_nz.mp c138
                      exact absurd c138 (fun z => hnF (v0 - (j : Int)) (by omega) (by omega) (hall_ae.mp z))
                    · replace c138 := bI_z.mp c138
                      refine g_iinc_4 hX (-1) dX6_draw_141 (by decide) rfl ?_
                      refine g_aload_0 hX dX6_draw_144 ?_
                      refine gt_X6_need hX dX6_draw_145 ?_
                      refine g_iload_1 hX dX6_draw_148 ?_
                      refine g_dup2 hX dX6_draw_149 rfl rfl ?_
                      refine g_ialdN (k := l) hX (ar_73 Z) (by omega) (by decide) dX6_draw_150 ?_
                      refine g_iconst hX 1 dX6_draw_151 (by decide) ?_
                      refine g_iadd hX dX6_draw_152 ?_
                      refine g_top (zI (nd l - (v0 - ((j + 1 : Nat) : Int)))) (by rw [u2c _ _ (by decide), u2s, show (1 : Int32) = zI 1 from rfl, zI_add]; congr 1; omega) ?_
                      refine g_iastN (k := l) hX (ar_73 Z) (by omega) (by decide) dX6_draw_153 ?_
                      refine g_aload_0 hX dX6_draw_154 ?_
                      refine gt_X6_room hX dX6_draw_155 ?_
                      refine g_iload_2 hX dX6_draw_158 ?_
                      refine g_dup2 hX dX6_draw_159 rfl rfl ?_
                      refine g_ialdN (k := p) hX (ar_74 Z) (by omega) (by decide) dX6_draw_160 ?_
                      refine g_iconst hX 1 dX6_draw_161 (by decide) ?_
                      refine g_iadd hX dX6_draw_162 ?_
                      refine g_top (zI (rm p - (v0 - ((j + 1 : Nat) : Int)))) (by rw [u2c _ _ (by decide), u2s, show (1 : Int32) = zI 1 from rfl, zI_add]; congr 1; omega) ?_
                      refine g_iastN (k := p) hX (ar_74 Z) (by omega) (by decide) dX6_draw_163 ?_
                      refine g_goto hX 129 dX6_draw_164 (by decide) ?_
                      exact g_cast ih129 (dd _ _ _ _ _ _ _ _) (by rw [show (-1 : Int32) = zI (-1) from rfl, zI_add, show v0 - ((j : Nat) : Int) + -1 = v0 - ((j + 1 : Nat) : Int) by omega]) rfl
                · show G Z X (up2 (up2 (up2 m2 75 l (nI t)) 73 l (zI (nd l - (v0 - ((((v0 - vs).toNat) : Nat) : Int))))) 74 p (zI (rm p - (v0 - ((((v0 - vs).toNat) : Nat) : Int))))) 129 ([some (.ref (zad Z 69)), some (.int (nI l)), some (.int (nI p)), some (.int (bI ((my l).testBit p = true))), some (.int (zI (v0 - ((((v0 - vs).toNat) : Nat) : Int))))]) _
                  rw [show v0 - (((v0 - vs).toNat : Nat) : Int) = vs by omega]
                  refine g_iload_4 hX dX6_draw_129 ?_
                  refine g_if_le hX 167 dX6_draw_131 (by decide) (fun c131 => ?_) (fun c131 => ?_)
                  · refine g_aload_0 hX dX6_draw_167 ?_
                    refine gt_X6_drawn hX dX6_draw_168 ?_
                    refine g_bipush hX 6 dX6_draw_171 (by decide) ?_
                    refine g_iload_1 hX dX6_draw_173 ?_
                    refine g_imul hX dX6_draw_174 ?_
                    refine g_iload_2 hX dX6_draw_175 ?_
                    refine g_iadd hX dX6_draw_176 ?_
                    refine g_top (nI (6 * l + p)) (ix6 l p) ?_
                    refine g_iload_4 hX dX6_draw_177 ?_
                    refine g_iastN (k := (6 * l + p)) hX (ar_76 Z) (by omega) (by decide) dX6_draw_179 ?_
                    refine g_iinc_2 hX 1 dX6_draw_180 (by decide) rfl ?_
                    refine g_goto hX 23 dX6_draw_183 (by decide) ?_
                    exact g_weak (lvw_c (lvw_c (lvw_c (lvw_n (lvw_n lvw_nil))))) (ih23 _ _ ⟨hst, by simp only [nI_succ]⟩)
                  · refine g_aload_0 hX dX6_draw_134 ?_
                    refine g_cV0r hX mkX6_areEnough ml_X6_163 (c_X6_areEnough (NmA (t := t) (v := vs) hNm hk11 hk23 (by omega) (by omega) (by omega))) (ob_69 Z _) dX6_draw_135 rfl (by decide) (Nat.le_of_ble_eq_true rfl) ?_
                    refine g_if_ne hX 167 dX6_draw_138 (by decide) (fun c138 => ?_) (fun c138 => ?_)
                    · replace c138 := bI_nz.mp c138
                      refine g_aload_0 hX dX6_draw_167 ?_
                      refine gt_X6_drawn hX dX6_draw_168 ?_
                      refine g_bipush hX 6 dX6_draw_171 (by decide) ?_
                      refine g_iload_1 hX dX6_draw_173 ?_
                      refine g_imul hX dX6_draw_174 ?_
                      refine g_iload_2 hX dX6_draw_175 ?_
                      refine g_iadd hX dX6_draw_176 ?_
                      refine g_top (nI (6 * l + p)) (ix6 l p) ?_
                      refine g_iload_4 hX dX6_draw_177 ?_
                      refine g_iastN (k := (6 * l + p)) hX (ar_76 Z) (by omega) (by decide) dX6_draw_179 ?_
                      refine g_iinc_2 hX 1 dX6_draw_180 (by decide) rfl ?_
                      refine g_goto hX 23 dX6_draw_183 (by decide) ?_
                      exact g_weak (lvw_c (lvw_c (lvw_c (lvw_n (lvw_n lvw_nil))))) (ih23 _ _ ⟨hst, by simp only [nI_succ]⟩)
                    · replace c138 := bI_z.mp c138
                      exact absurd c138 (not_not_intro (hall_ae.mpr hF))
        · rintro m2 _ ⟨hJ, rfl⟩
          refine g_iload_2 hX dX6_draw_23 ?_
          refine g_aload_0 hX dX6_draw_24 ?_
          refine gt_X6_now hX dX6_draw_25 ?_
          refine g_iconst hX 1 dX6_draw_28 (by decide) ?_
          refine g_ialdN (k := 1) hX (ar_71 Z) (by decide) (by decide) dX6_draw_29 ?_
          refine g_icmp_ge hX 186 dX6_draw_30 (by decide) (fun c30 => ?_) (fun c30 => ?_)
          · refine g_iinc_1 hX 1 dX6_draw_186 (by decide) rfl ?_
            refine g_goto hX 11 dX6_draw_189 (by decide) ?_
            exact g_weak (lvw_c (lvw_c (lvw_n (lvw_n (lvw_n lvw_nil))))) (ih11 _ _ ⟨DI_next hV hk11 hJ, by simp only [nI_succ]⟩)
          · exact absurd c30 (by rw [hJ.1.1 71 (by omega), hp]; exact Int32.lt_irrefl)
    · rintro m _ ⟨hI, rfl⟩
      refine g_iload_1 hX dX6_draw_11 ?_
      refine g_aload_0 hX dX6_draw_12 ?_
      refine gt_X6_now hX dX6_draw_13 ?_
      refine g_iconst hX 0 dX6_draw_16 (by decide) ?_
      refine g_ialdN (k := 0) hX (ar_71 Z) (by decide) (by decide) dX6_draw_17 ?_
      refine g_icmp_ge hX 192 dX6_draw_18 (by decide) (fun c18 => ?_) (fun c18 => ?_)
      · refine g_iconst hX 1 dX6_draw_192 (by decide) ?_
        exact hq _ _ _ _ dX6_draw_193 (by rfl) (⟨(bI_t c4).symm, hI.1, fun _ i j hi hj => by obtain ⟨_, _, _, _, _, _, _, _, _, _, h7⟩ := hI; exact h7 i j (by omega) hi hj⟩)
      · exact absurd c18 (by rw [hI.1.1 71 (by omega), hn]; exact Int32.lt_irrefl)
  · replace c4 := bI_z.mp c4
    refine g_iconst hX 0 dX6_draw_7 (by decide) ?_
    exact hq _ _ _ _ dX6_draw_8 (by rfl) (⟨(bI_f c4).symm, lyM_mg b _, fun z => absurd z c4⟩)
