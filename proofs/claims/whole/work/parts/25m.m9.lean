/-! the reference: bumps -/
def Rm (m : Mem) (c : Nat) (T : Int → Nat) : Prop := ∀ a : Nat, a < 17 → m c a = nI (T ((a : Int) - 8))
def Tk (T : Int → Nat) : Prop := ∀ z, T z ≤ 1000 ∧ (T z < 1000 → z.natAbs ≤ 3)
theorem tU_k {T : Int → Nat} (h : Tk T) {e : Int} {x : Nat} (he : e.natAbs ≤ 3) : Tk (tU T e x) := by
  intro z
  have h1 := h z
  unfold tU
  by_cases c : z = e
  · rw [if_pos c, c]
    rw [c] at h1
    split
    · omega
    · omega
  · rw [if_neg c]; exact h1
theorem tB_k {T : Int → Nat} (h : Tk T) {q : Int} {sp ph : Nat} (hp : ph ≤ 6) : ∀ k, Tk (tB T q sp ph k) := by
  intro k
  induction k with
  | zero => exact h
  | succ k ih =>
    simp only [tB]
    split
    · exact tU_k ih (by omega)
    · exact ih
theorem tP_k {F : Int → Nat} {s : Int} {r ph : Nat} (hp : ph ≤ 6) : ∀ k, Tk (tP F s r ph k) := by
  intro k
  induction k with
  | zero => intro z; exact ⟨Nat.le_refl _, fun q => by simp only [tP] at q; omega⟩
  | succ k ih =>
    simp only [tP]
    unfold tQ
    split
    · exact tB_k ih hp _
    · exact ih
theorem tF_k {v : View} (hV : Val v) (l : Nat) : ∀ k, Tk (tF v l k) := by
  intro k
  cases k with
  | zero =>
    intro z
    simp only [tF]
    by_cases c : z = 0
    · rw [if_pos c, c]; simp
    · rw [if_neg c]; simp
  | succ k => exact tP_k hV.ph.2 15
def tX (F : Int → Nat) (s : Int) (r ph h : Nat) : Int → Nat := tP F s r ph (min (h - 1) 15)
theorem tX_skip {F : Int → Nat} {s : Int} {r ph h : Nat} (hh : h < 17) (hF : Tk F) (hn : ¬ F ((h : Int) - 8) < 1000) : tX F s r ph (h + 1) = tX F s r ph h := by
  unfold tX
  rcases Nat.eq_zero_or_pos h with c | c
  · subst c; rfl
  · rcases Nat.lt_or_ge h 16 with d | d
    · have e1 : min (h + 1 - 1) 15 = (h - 1) + 1 := by omega
      have e2 : min (h - 1) 15 = h - 1 := by omega
      rw [e1, e2]
      simp only [tP]
      unfold tQ
      rw [if_neg (by rw [show ((h - 1 : Nat) : Int) - 7 = (h : Int) - 8 by omega]; exact hn)]
    · have e1 : min (h + 1 - 1) 15 = 15 := by omega
      have e2 : min (h - 1) 15 = 15 := by omega
      rw [e1, e2]
theorem tX_do {F : Int → Nat} {s : Int} {r ph h : Nat} (hh : h < 17) (hF : Tk F) (hn : F ((h : Int) - 8) < 1000) : tX F s r ph (h + 1) = tB (tX F s r ph h) ((h : Int) - 8 + s) (F ((h : Int) - 8)) ph (min (r + 1) (((h : Int) - 8 + s).natAbs + 1)) := by
  have h3 := (hF _).2 hn
  unfold tX
  have e1 : min (h + 1 - 1) 15 = (h - 1) + 1 := by omega
  have e2 : min (h - 1) 15 = h - 1 := by omega
  have e3 : ((h - 1 : Nat) : Int) - 7 = (h : Int) - 8 := by omega
  rw [e1, e2]
  simp only [tP]
  unfold tQ
  rw [e3, if_pos hn]
  congr 1
  omega
/-- one more bump -/
theorem tB_min {T : Int → Nat} {q : Int} {sp ph k : Nat} : tB T q sp ph (min (k + 1) (q.natAbs + 1)) = if q.natAbs < k then tB T q sp ph (min k (q.natAbs + 1)) else if 2 * (eI q k).natAbs ≤ ph then tU (tB T q sp ph (min k (q.natAbs + 1))) (eI q k) (sp + k) else tB T q sp ph (min k (q.natAbs + 1)) := by
  by_cases c : q.natAbs < k
  · rw [if_pos c, show min (k + 1) (q.natAbs + 1) = min k (q.natAbs + 1) by omega]
  · rw [if_neg c, show min (k + 1) (q.natAbs + 1) = k + 1 by omega, show min k (q.natAbs + 1) = k by omega]
    rfl
theorem Rm_up {m : Mem} {T : Int → Nat} (h : Rm m 78 T) {e : Int} (he : e.natAbs ≤ 3) {x : Nat} (hx : x < T e) : Rm (up2 m 78 (e + 8).toNat (nI x)) 78 (tU T e x) := by
  intro a ha
  unfold tU
  by_cases c : (a : Int) - 8 = e
  · have : a = (e + 8).toNat := by omega
    rw [if_pos c, c, if_pos hx, ← this, u2s]
  · rw [if_neg c, u2k _ _ (by omega)]; exact h a ha
theorem Rm_st {m : Mem} {T : Int → Nat} (h : Rm m 78 T) {e : Int} {x : Nat} (hx : ¬ x < T e) : Rm m 78 (tU T e x) := by
  have : tU T e x = T := by
    funext z
    unfold tU
    by_cases c : z = e
    · rw [if_pos c, c, if_neg hx]
    · rw [if_neg c]
  rw [this]; exact h
theorem tX_b0 {m3 : Mem} {F : Int → Nat} {s : Int} {r ph h k : Nat} (hh : h < 17) (hF : Tk F) (h1 : Rm m3 78 (tB (tX F s r ph h) ((h : Int) - 8 + s) (F ((h : Int) - 8)) ph (min k (((h : Int) - 8 + s).natAbs + 1)))) (h2 : 0 < k → F ((h : Int) - 8) < 1000) (hn : ¬ F ((h : Int) - 8) < 1000) : Rm m3 78 (tX F s r ph (h + 1)) := by
  rw [tX_skip hh hF hn]
  have h0 : k = 0 := by
    rcases Nat.eq_zero_or_pos k with z | z
    · exact z
    · exact absurd (h2 z) hn
  rw [h0, Nat.zero_min] at h1
  exact h1
theorem absN {z : Int} (h : -1000 ≤ z ∧ z ≤ 1000) : (zI z < 0 → -zI z = nI z.natAbs) ∧ (¬ zI z < 0 → zI z = nI z.natAbs) := by
  have k : zI z < 0 ↔ z < 0 := by rw [← zI_0]; exact zI_lt (by omega) (by omega)
  constructor
  · intro q
    have := k.mp q
    rw [show -zI z = (0 : Int32) - zI z from (Int32.zero_sub _).symm, ← zI_0, zI_sub, nI_z]; congr 1; omega
  · intro q
    have : ¬ z < 0 := fun w => q (k.mpr w)
    rw [nI_z]; congr 1; omega
set_option maxRecDepth 100000 in
set_option maxHeartbeats 4000000 in
theorem c_X6_fewestBumps {Z : Zt} {b : Mem} {l : Nat} (hV : Val (mv b)) (hl : l < nl (mv b)) : ConE Z yX6_fewestBumps cX6_fewestBumps 11 (some .int) 2 [.ref (zad Z 69), .int (nI l)] b (pI (fun x b' => x = bpV (mv b) l ∧ MG b 0 b')) := by
  have hr : b 71 (9 + 17 * l) = nI (rn (mv b) l) := hV.runs hl
  have hr8 := hV.r8 hl
  have hl6 := hV.l6 hl
  have hph6 := hV.ph.2
  have hph : b 71 7 = nI (phN (mv b)) := hV.ph.1
  refine conE_i (by decide) (Nat.le_of_ble_eq_true rfl) rfl (fun X hX hq => ?_)
  have hX : Ok Z X cX6_fewestBumps 11 RX6 2 := hX
  show G Z X b 0 [some (.ref (zad Z 69)), some (.int (nI l)), none, none, none, none, none, none, none, none, none] []
  refine g_iconst hX 0 dX6_fewestBumps_0 (by decide) ?_
  refine g_istore_2 hX dX6_fewestBumps_1 rfl ?_
  refine g_loop (17) (fun k => up1 b 77 (cpF (fun h => if h = 8 then 0 else 1000) (b 77) 0 k)) (fun k => [some (.ref (zad Z 69)), some (.int (nI l)), some (.int (nI k)), none, none, none, none, none, none, none, none]) (cpF_0 b 77 _ _) rfl (fun k hk2 ih2 => ?_) ?_
  · show G Z X (up1 b 77 (cpF (fun h => if h = 8 then 0 else 1000) (b 77) 0 k)) 2 ([some (.ref (zad Z 69)), some (.int (nI l)), some (.int (nI k)), none, none, none, none, none, none, none, none]) _
    refine g_iload_2 hX dX6_fewestBumps_2 ?_
    refine g_bipush hX 17 dX6_fewestBumps_3 (by decide) ?_
    refine g_icmp_ge hX 33 dX6_fewestBumps_5 (by decide) (fun c5 => ?_) (fun c5 => ?_)
    · exact absurd c5 (not_not_intro (nI_lt (b := 17) hk2 (by decide)))
    · refine g_aload_0 hX dX6_fewestBumps_8 ?_
      refine gt_X6_fewest hX dX6_fewestBumps_9 ?_
      refine g_iload_2 hX dX6_fewestBumps_12 ?_
      refine g_iload_2 hX dX6_fewestBumps_13 ?_
      refine g_bipush hX 8 dX6_fewestBumps_14 (by decide) ?_
      refine g_icmp_ne hX 23 dX6_fewestBumps_16 (by decide) (fun c16 => ?_) (fun c16 => ?_)
      · skip
        refine g_sipush hX 1000 dX6_fewestBumps_23 (by decide) ?_
        refine g_top ((fun h => if h = 8 then (0 : Int32) else 1000) k) (by first | (show _ = if k = 8 then (0 : Int32) else 1000; rw [if_pos ((nI_eq (b := 8) (by omega) (by decide)).mp c16)]) | (show _ = if k = 8 then (0 : Int32) else 1000; rw [if_neg (fun z => c16 ((nI_eq (b := 8) (by omega) (by decide)).mpr z))])) ?_
        refine g_iastN (k := k) hX (ar_77 Z) (by omega) (by decide) dX6_fewestBumps_26 ?_
        refine g_iinc_2 hX 1 dX6_fewestBumps_27 (by decide) rfl ?_
        refine g_goto hX 2 dX6_fewestBumps_30 (by decide) ?_
        exact g_cast ih2 (by have := cpF_s b 77 (fun h => if h = 8 then 0 else 1000) (b 77) 0 k; rw [Nat.zero_add] at this; exact this) (by simp only [nI_succ]) rfl
      · refine g_iconst hX 0 dX6_fewestBumps_19 (by decide) ?_
        refine g_goto hX 26 dX6_fewestBumps_20 (by decide) ?_
        refine g_top ((fun h => if h = 8 then (0 : Int32) else 1000) k) (by first | (show _ = if k = 8 then (0 : Int32) else 1000; rw [if_pos ((nI_eq (b := 8) (by omega) (by decide)).mp c16)]) | (show _ = if k = 8 then (0 : Int32) else 1000; rw [if_neg (fun z => c16 ((nI_eq (b := 8) (by omega) (by decide)).mpr z))])) ?_
        refine g_iastN (k := k) hX (ar_77 Z) (by omega) (by decide) dX6_fewestBumps_26 ?_
        refine g_iinc_2 hX 1 dX6_fewestBumps_27 (by decide) rfl ?_
        refine g_goto hX 2 dX6_fewestBumps_30 (by decide) ?_
        exact g_cast ih2 (by have := cpF_s b 77 (fun h => if h = 8 then 0 else 1000) (b 77) 0 k; rw [Nat.zero_add] at this; exact this) (by simp only [nI_succ]) rfl
  · show G Z X (up1 b 77 (cpF (fun h => if h = 8 then 0 else 1000) (b 77) 0 (17))) 2 ([some (.ref (zad Z 69)), some (.int (nI l)), some (.int (nI (17))), none, none, none, none, none, none, none, none]) _
    refine g_iload_2 hX dX6_fewestBumps_2 ?_
    refine g_bipush hX 17 dX6_fewestBumps_3 (by decide) ?_
    refine g_icmp_ge hX 33 dX6_fewestBumps_5 (by decide) (fun c5 => ?_) (fun c5 => ?_)
    · refine g_iconst hX 0 dX6_fewestBumps_33 (by decide) ?_
      refine g_istore_2 hX dX6_fewestBumps_34 rfl ?_
      refine g_weak (lvw_c (lvw_c (lvw_c (lvw_n (lvw_n (lvw_n (lvw_n (lvw_n (lvw_n (lvw_n (lvw_n lvw_nil))))))))))) (g_loopI (rn (mv b) l) (fun i m LL => ((∀ j, j ≠ 77 → j ≠ 78 → m j = b j) ∧ Rm m 77 (tF (mv b) l i)) ∧ LL = [some (.ref (zad Z 69)), some (.int (nI l)), some (.int (nI i)), none, none, none, none, none, none, none, none]) ⟨⟨fun j h1 _ => by rw [u1c _ _ h1], fun a ha => by
  rw [u1s]
  have := cpF_in (f := fun h => if h = 8 then (0 : Int32) else 1000) (g := b 77) (o := 0) ha
  rw [Nat.zero_add] at this
  rw [this]
  simp only [tF]
  by_cases c : a = 8
  · rw [if_pos c, if_pos (by omega)]; rfl
  · rw [if_neg c, if_neg (by omega)]; rfl⟩, rfl⟩ ?_ ?_)
      · rintro i m _ hk35 ⟨hI, rfl⟩ ih35
        have em : mv m = mv b := ly_v (hI.1 71 (by decide) (by decide))
        obtain ⟨hro, hro60⟩ := hV.room hl hk35
        have hsb := stp_b (mv b) l i
        have hFk := tF_k hV l i
        refine g_iload_2 hX dX6_fewestBumps_35 ?_
        refine g_aload_0 hX dX6_fewestBumps_36 ?_
        refine g_iload_1 hX dX6_fewestBumps_37 ?_
        refine g_cV1r hX mkX6_runsOf ml_X6_69 (c_X6_runsOf hl6) (ob_69 Z _) dX6_fewestBumps_38 rfl (by decide) (Nat.le_of_ble_eq_true rfl) ?_
        refine g_icmp_ge hX 320 dX6_fewestBumps_41 (by decide) (fun c41 => ?_) (fun c41 => ?_)
        · exact absurd c41 (not_not_intro (by rw [hI.1 71 (by decide) (by decide), hr]; exact nI_lt hk35 (by omega)))
        · refine g_iload_2 hX dX6_fewestBumps_44 ?_
          refine g_if_ne hX 52 dX6_fewestBumps_45 (by decide) (fun c45 => ?_) (fun c45 => ?_)
          · refine g_aload_0 hX dX6_fewestBumps_52 ?_
            refine g_iload_1 hX dX6_fewestBumps_53 ?_
            refine g_iload_2 hX dX6_fewestBumps_54 ?_
            refine g_cV2r hX mkX6_turnOf ml_X6_132 (c_X6_turnOf hl6 (by omega)) (ob_69 Z _) dX6_fewestBumps_55 rfl (by decide) (Nat.le_of_ble_eq_true rfl) ?_
            refine g_iconst hX 1 dX6_fewestBumps_58 (by decide) ?_
            refine g_icmp_ne hX 66 dX6_fewestBumps_59 (by decide) (fun c59 => ?_) (fun c59 => ?_)
            · refine g_iconst hX (-1) dX6_fewestBumps_66 (by decide) ?_
              refine g_top (zI (stp (mv b) l i)) (by first | (rw [stp, if_pos ((nI0 (by omega)).mp c45)]; rfl) | (rw [stp, if_neg (fun z => c45 ((nI0 (by omega)).mpr z)), if_pos (show mv b 2 l i = 1 by rw [← em]; exact c59)]; rfl) | (rw [stp, if_neg (fun z => c45 ((nI0 (by omega)).mpr z)), if_neg (show ¬ mv b 2 l i = 1 by rw [← em]; exact c59)]; rfl)) ?_
              refine g_istore_3 hX dX6_fewestBumps_67 rfl ?_
              refine g_aload_0 hX dX6_fewestBumps_68 ?_
              refine g_iload_1 hX dX6_fewestBumps_69 ?_
              refine g_iload_2 hX dX6_fewestBumps_70 ?_
              refine g_iconst hX 2 dX6_fewestBumps_71 (by decide) ?_
              refine g_cV3r hX mkX6_toldRun ml_X6_151 (c_X6_toldRun (b := m) (by rw [em]; exact hV) hl6 (by omega)) (ob_69 Z _) dX6_fewestBumps_72 rfl (by decide) (Nat.le_of_ble_eq_true rfl) ?_
              refine g_top (nI (roN (mv b) l i)) (by rw [em]; exact hro) ?_
              refine g_istore_4 hX dX6_fewestBumps_75 rfl ?_
              refine g_iconst hX 0 dX6_fewestBumps_77 (by decide) ?_
              refine g_istore_5 hX dX6_fewestBumps_78 rfl ?_
              refine g_loop (17) (fun k => up1 m 78 (cpF (fun _ => 1000) (m 78) 0 k)) (fun k => [some (.ref (zad Z 69)), some (.int (nI l)), some (.int (nI i)), some (.int (zI (stp (mv b) l i))), some (.int (nI (roN (mv b) l i))), some (.int (nI k)), none, none, none, none, none]) (cpF_0 m 78 _ _) rfl (fun k hk80 ih80 => ?_) ?_
              · show G Z X (up1 m 78 (cpF (fun _ => 1000) (m 78) 0 k)) 80 ([some (.ref (zad Z 69)), some (.int (nI l)), some (.int (nI i)), some (.int (zI (stp (mv b) l i))), some (.int (nI (roN (mv b) l i))), some (.int (nI k)), none, none, none, none, none]) _
                refine g_iload_5 hX dX6_fewestBumps_80 ?_
                refine g_bipush hX 17 dX6_fewestBumps_82 (by decide) ?_
                refine g_icmp_ge hX 103 dX6_fewestBumps_84 (by decide) (fun c84 => ?_) (fun c84 => ?_)
                · exact absurd c84 (not_not_intro (nI_lt (b := 17) hk80 (by decide)))
                · refine g_aload_0 hX dX6_fewestBumps_87 ?_
                  refine gt_X6_then hX dX6_fewestBumps_88 ?_
                  refine g_iload_5 hX dX6_fewestBumps_91 ?_
                  refine g_sipush hX 1000 dX6_fewestBumps_93 (by decide) ?_
                  refine g_iastN (k := k) hX (ar_78 Z) (by omega) (by decide) dX6_fewestBumps_96 ?_
                  refine g_iinc_5 hX 1 dX6_fewestBumps_97 (by decide) rfl ?_
                  refine g_goto hX 80 dX6_fewestBumps_100 (by decide) ?_
                  exact g_cast ih80 (by have := cpF_s m 78 (fun _ => 1000) (m 78) 0 k; rw [Nat.zero_add] at this; exact this) (by simp only [nI_succ]) rfl
              · show G Z X (up1 m 78 (cpF (fun _ => 1000) (m 78) 0 (17))) 80 ([some (.ref (zad Z 69)), some (.int (nI l)), some (.int (nI i)), some (.int (zI (stp (mv b) l i))), some (.int (nI (roN (mv b) l i))), some (.int (nI (17))), none, none, none, none, none]) _
                refine g_iload_5 hX dX6_fewestBumps_80 ?_
                refine g_bipush hX 17 dX6_fewestBumps_82 (by decide) ?_
                refine g_icmp_ge hX 103 dX6_fewestBumps_84 (by decide) (fun c84 => ?_) (fun c84 => ?_)
                · refine g_iconst hX 0 dX6_fewestBumps_103 (by decide) ?_
                  refine g_istore_5 hX dX6_fewestBumps_104 rfl ?_
                  refine g_weak (lvw_c (lvw_c (lvw_c (lvw_c (lvw_c (lvw_c (lvw_n (lvw_n (lvw_n (lvw_n (lvw_n lvw_nil))))))))))) (g_loopI (17) (fun h m2 LL => ((∀ j, j ≠ 78 → m2 j = up1 m 78 (cpF (fun _ => 1000) (m 78) 0 17) j) ∧ Rm m2 78 (tX (tF (mv b) l i) (stp (mv b) l i) (roN (mv b) l i) (phN (mv b)) h)) ∧ LL = [some (.ref (zad Z 69)), some (.int (nI l)), some (.int (nI i)), some (.int (zI (stp (mv b) l i))), some (.int (nI (roN (mv b) l i))), some (.int (nI h)), none, none, none, none, none]) ⟨⟨fun _ _ => rfl, fun a ha => by
  rw [u1s]
  have := cpF_in (f := fun _ => (1000 : Int32)) (g := m 78) (o := 0) ha
  rw [Nat.zero_add] at this
  rw [this]; rfl⟩, rfl⟩ ?_ ?_)
                  · rintro h m2 _ hk106 ⟨hO2, rfl⟩ ih106
                    have e77 : m2 77 = m 77 := by rw [hO2.1 77 (by decide), u1c _ _ (by decide)]
                    have e71 : m2 71 = b 71 := by rw [hO2.1 71 (by decide), u1c _ _ (by decide), hI.1 71 (by decide) (by decide)]
                    have hF8 := hFk ((h : Int) - 8)
                    refine g_iload_5 hX dX6_fewestBumps_106 ?_
                    refine g_bipush hX 17 dX6_fewestBumps_108 (by decide) ?_
                    refine g_icmp_ge hX 284 dX6_fewestBumps_110 (by decide) (fun c110 => ?_) (fun c110 => ?_)
                    · exact absurd c110 (not_not_intro (nI_lt (b := 17) hk106 (by decide)))
                    · refine g_iload_5 hX dX6_fewestBumps_113 ?_
                      refine g_bipush hX 8 dX6_fewestBumps_115 (by decide) ?_
                      refine g_isub hX dX6_fewestBumps_117 ?_
                      refine g_iload_3 hX dX6_fewestBumps_118 ?_
                      refine g_iadd hX dX6_fewestBumps_119 ?_
                      refine g_top (zI ((h : Int) - 8 + (stp (mv b) l i))) (by rw [nI_z, show (8 : Int32) = zI 8 from rfl, zI_sub, zI_add]) ?_
                      refine g_istore_6 hX dX6_fewestBumps_120 rfl ?_
                      refine g_iconst hX 0 dX6_fewestBumps_122 (by decide) ?_
                      refine g_istore_7 hX dX6_fewestBumps_123 rfl ?_
                      refine g_weak (lvw_c (lvw_c (lvw_c (lvw_c (lvw_c (lvw_c (lvw_c (lvw_c (lvw_n (lvw_n (lvw_n lvw_nil))))))))))) (g_loopI ((roN (mv b) l i) + 1) (fun k m3 LL => ((∀ j, j ≠ 78 → m3 j = m2 j) ∧ Rm m3 78 (tB (tX (tF (mv b) l i) (stp (mv b) l i) (roN (mv b) l i) (phN (mv b)) h) ((h : Int) - 8 + (stp (mv b) l i)) ((tF (mv b) l i) ((h : Int) - 8)) (phN (mv b)) (min k (((h : Int) - 8 + (stp (mv b) l i)).natAbs + 1))) ∧ (0 < k → ((tF (mv b) l i) ((h : Int) - 8)) < 1000)) ∧ LL = [some (.ref (zad Z 69)), some (.int (nI l)), some (.int (nI i)), some (.int (zI (stp (mv b) l i))), some (.int (nI (roN (mv b) l i))), some (.int (nI h)), some (.int (zI ((h : Int) - 8 + (stp (mv b) l i)))), some (.int (nI k)), none, none, none]) ⟨⟨fun _ _ => rfl, by rw [Nat.zero_min]; exact hO2.2, fun z => by omega⟩, rfl⟩ ?_ ?_)
                      · rintro k m3 _ hk125 ⟨hO3, rfl⟩ ih125
                        have f77 : m3 77 h = nI ((tF (mv b) l i) ((h : Int) - 8)) := by rw [hO3.1 77 (by decide), e77]; exact hI.2 h hk106
                        have f71 : m3 71 7 = nI (phN (mv b)) := by rw [hO3.1 71 (by decide), e71]; exact hph
                        have hpos : 0 < zI ((h : Int) - 8 + (stp (mv b) l i)) ↔ 0 < ((h : Int) - 8 + (stp (mv b) l i)) := by rw [← zI_0]; exact zI_lt (by omega) (by omega)
                        have hei : -1000 ≤ (eI ((h : Int) - 8 + (stp (mv b) l i)) k) ∧ (eI ((h : Int) - 8 + (stp (mv b) l i)) k) ≤ 1000 := by unfold eI; split <;> omega
                        have hTe : (tB (tX (tF (mv b) l i) (stp (mv b) l i) (roN (mv b) l i) (phN (mv b)) h) ((h : Int) - 8 + (stp (mv b) l i)) ((tF (mv b) l i) ((h : Int) - 8)) (phN (mv b)) (min k (((h : Int) - 8 + (stp (mv b) l i)).natAbs + 1))) (eI ((h : Int) - 8 + (stp (mv b) l i)) k) ≤ 1000 := (tB_k (tP_k hph6 _) hph6 _ _).1
                        refine g_iload_7 hX dX6_fewestBumps_125 ?_
                        refine g_iload_4 hX dX6_fewestBumps_127 ?_
                        refine g_icmp_gt hX 278 dX6_fewestBumps_129 (by decide) (fun c129 => ?_) (fun c129 => ?_)
                        · exact absurd c129 (nI_nlt (by omega) (by omega))
                        · refine g_aload_0 hX dX6_fewestBumps_132 ?_
                          refine gt_X6_fewest hX dX6_fewestBumps_133 ?_
                          refine g_iload_5 hX dX6_fewestBumps_136 ?_
                          refine g_ialdN (k := h) hX (ar_77 Z) (by omega) (by decide) dX6_fewestBumps_138 ?_
                          refine g_top (nI ((tF (mv b) l i) ((h : Int) - 8))) f77 ?_
                          refine g_sipush hX 1000 dX6_fewestBumps_139 (by decide) ?_
                          refine g_icmp_ge hX 278 dX6_fewestBumps_142 (by decide) (fun c142 => ?_) (fun c142 => ?_)
                          · refine g_iinc_5 hX 1 dX6_fewestBumps_278 (by decide) rfl ?_
                            refine g_goto hX 106 dX6_fewestBumps_281 (by decide) ?_
                            exact g_weak (lvw_c (lvw_c (lvw_c (lvw_c (lvw_c (lvw_c (lvw_n (lvw_n (lvw_n (lvw_n (lvw_n lvw_nil))))))))))) (ih106 _ _ ⟨⟨fun j hj => by rw [hO3.1 j hj]; exact hO2.1 j hj, tX_b0 hk106 hFk hO3.2.1 hO3.2.2 (fun z => c142 (nI_lt z (by decide)))⟩, by simp only [nI_succ]⟩)
                          · have hsp : ((tF (mv b) l i) ((h : Int) - 8)) < 1000 := (nI_ltI (b := 1000) (by omega) (by decide)).mp c142
                            refine g_iload_6 hX dX6_fewestBumps_145 ?_
                            refine g_if_le hX 158 dX6_fewestBumps_147 (by decide) (fun c147 => ?_) (fun c147 => ?_)
                            · refine g_iload_6 hX dX6_fewestBumps_158 ?_
                              refine g_iload_7 hX dX6_fewestBumps_160 ?_
                              refine g_iadd hX dX6_fewestBumps_162 ?_
                              refine g_top (zI (eI ((h : Int) - 8 + (stp (mv b) l i)) k)) (by first | (rw [eI, if_pos (hpos.mp c147), nI_z, zI_sub]; done) | (rw [eI, if_neg (fun q => c147 (hpos.mpr q)), nI_z, zI_add]; done)) ?_
                              refine g_istore_8 hX dX6_fewestBumps_163 rfl ?_
                              refine g_iload_6 hX dX6_fewestBumps_165 ?_
                              refine g_if_le hX 183 dX6_fewestBumps_167 (by decide) (fun c167 => ?_) (fun c167 => ?_)
                              · refine g_iload_8 hX dX6_fewestBumps_183 ?_
                                refine g_if_le hX 192 dX6_fewestBumps_185 (by decide) (fun c185 => ?_) (fun c185 => ?_)
                                · refine g_iconst hX 0 dX6_fewestBumps_192 (by decide) ?_
                                  refine g_top (bI (((h : Int) - 8 + (stp (mv b) l i)).natAbs < k)) (by first | (rw [bI_t (by have := hpos.mp c167; have h9 : (eI ((h : Int) - 8 + (stp (mv b) l i)) k) < 0 := (zI_lt (b := 0) (by omega) (by omega)).mp c172; unfold eI at h9; rw [if_pos this] at h9; omega)]; done) | (rw [bI_f (by have := hpos.mp c167; have h9 : ¬ (eI ((h : Int) - 8 + (stp (mv b) l i)) k) < 0 := fun z => c172 ((zI_lt (b := 0) (by omega) (by omega)).mpr z); unfold eI at h9; rw [if_pos this] at h9; omega)]; done) | (rw [bI_t (by have : ¬ 0 < ((h : Int) - 8 + (stp (mv b) l i)) := fun z => c167 (hpos.mpr z); have h9 : 0 < (eI ((h : Int) - 8 + (stp (mv b) l i)) k) := (zI_lt (a := 0) (by omega) (by omega)).mp c185; unfold eI at h9; rw [if_neg this] at h9; omega)]; done) | (rw [bI_f (by have : ¬ 0 < ((h : Int) - 8 + (stp (mv b) l i)) := fun z => c167 (hpos.mpr z); have h9 : ¬ 0 < (eI ((h : Int) - 8 + (stp (mv b) l i)) k) := fun z => c185 ((zI_lt (a := 0) (by omega) (by omega)).mpr z); unfold eI at h9; rw [if_neg this] at h9; omega)]; done)) ?_
                                  refine g_istore_9 hX dX6_fewestBumps_193 rfl ?_
                                  refine g_iload_8 hX dX6_fewestBumps_195 ?_
                                  refine g_if_ge hX 206 dX6_fewestBumps_197 (by decide) (fun c197 => ?_) (fun c197 => ?_)
                                  · refine g_iload_8 hX dX6_fewestBumps_206 ?_
                                    refine g_top (nI (eI ((h : Int) - 8 + (stp (mv b) l i)) k).natAbs) (by first | exact (absN hei).1 c197 | exact (absN hei).2 c197) ?_
                                    refine g_istore_10 hX dX6_fewestBumps_208 rfl ?_
                                    refine g_iload_9 hX dX6_fewestBumps_210 ?_
                                    refine g_if_ne hX 272 dX6_fewestBumps_212 (by decide) (fun c212 => ?_) (fun c212 => ?_)
                                    · refine g_iinc_7 hX 1 dX6_fewestBumps_272 (by decide) rfl ?_
                                      refine g_goto hX 125 dX6_fewestBumps_275 (by decide) ?_
                                      exact g_weak (lvw_c (lvw_c (lvw_c (lvw_c (lvw_c (lvw_c (lvw_c (lvw_c (lvw_n (lvw_n (lvw_n lvw_nil))))))))))) (ih125 _ _ ⟨⟨hO3.1, by rw [tB_min, if_pos (bI_nz.mp c212)]; exact hO3.2.1, fun _ => hsp⟩, by simp only [nI_succ]⟩)
                                    · refine g_iconst hX 2 dX6_fewestBumps_215 (by decide) ?_
                                      refine g_iload_10 hX dX6_fewestBumps_216 ?_
                                      refine g_imul hX dX6_fewestBumps_218 ?_
                                      refine g_top (nI (2 * (eI ((h : Int) - 8 + (stp (mv b) l i)) k).natAbs)) (pk_mul 2 _) ?_
                                      refine g_aload_0 hX dX6_fewestBumps_219 ?_
                                      refine gt_X6_now hX dX6_fewestBumps_220 ?_
                                      refine g_bipush hX 7 dX6_fewestBumps_223 (by decide) ?_
                                      refine g_ialdN (k := 7) hX (ar_71 Z) (by decide) (by decide) dX6_fewestBumps_225 ?_
                                      refine g_top (nI (phN (mv b))) f71 ?_
                                      refine g_icmp_gt hX 272 dX6_fewestBumps_226 (by decide) (fun c226 => ?_) (fun c226 => ?_)
                                      · refine g_iinc_7 hX 1 dX6_fewestBumps_272 (by decide) rfl ?_
                                        refine g_goto hX 125 dX6_fewestBumps_275 (by decide) ?_
                                        exact g_weak (lvw_c (lvw_c (lvw_c (lvw_c (lvw_c (lvw_c (lvw_c (lvw_c (lvw_n (lvw_n (lvw_n lvw_nil))))))))))) (ih125 _ _ ⟨⟨hO3.1, by rw [tB_min, if_neg (bI_z.mp c212), if_neg (fun z => nI_nlt z (by omega) c226)]; exact hO3.2.1, fun _ => hsp⟩, by simp only [nI_succ]⟩)
                                      · have h2e : 2 * (eI ((h : Int) - 8 + (stp (mv b) l i)) k).natAbs ≤ phN (mv b) := by
                                          rcases Nat.lt_or_ge (phN (mv b)) (2 * (eI ((h : Int) - 8 + (stp (mv b) l i)) k).natAbs) with q | q
                                          · exact absurd (nI_lt q (by omega)) c226
                                          · exact q
                                        have he3 : (eI ((h : Int) - 8 + (stp (mv b) l i)) k).natAbs ≤ 3 := by omega
                                        refine g_aload_0 hX dX6_fewestBumps_229 ?_
                                        refine gt_X6_fewest hX dX6_fewestBumps_230 ?_
                                        refine g_iload_5 hX dX6_fewestBumps_233 ?_
                                        refine g_ialdN (k := h) hX (ar_77 Z) (by omega) (by decide) dX6_fewestBumps_235 ?_
                                        refine g_top (nI ((tF (mv b) l i) ((h : Int) - 8))) f77 ?_
                                        refine g_iload_7 hX dX6_fewestBumps_236 ?_
                                        refine g_iadd hX dX6_fewestBumps_238 ?_
                                        refine g_top (nI (((tF (mv b) l i) ((h : Int) - 8)) + k)) (by rw [nI_add]) ?_
                                        refine g_aload_0 hX dX6_fewestBumps_239 ?_
                                        refine gt_X6_then hX dX6_fewestBumps_240 ?_
                                        refine g_iload_8 hX dX6_fewestBumps_243 ?_
                                        refine g_bipush hX 8 dX6_fewestBumps_245 (by decide) ?_
                                        refine g_iadd hX dX6_fewestBumps_247 ?_
                                        refine g_top (nI ((eI ((h : Int) - 8 + (stp (mv b) l i)) k) + 8).toNat) (by rw [show (8 : Int32) = zI 8 from rfl, zI_add, zI_nat (by omega)]) ?_
                                        refine g_ialdN (k := ((eI ((h : Int) - 8 + (stp (mv b) l i)) k) + 8).toNat) hX (ar_78 Z) (by omega) (by decide) dX6_fewestBumps_248 ?_
                                        refine g_top (nI ((tB (tX (tF (mv b) l i) (stp (mv b) l i) (roN (mv b) l i) (phN (mv b)) h) ((h : Int) - 8 + (stp (mv b) l i)) ((tF (mv b) l i) ((h : Int) - 8)) (phN (mv b)) (min k (((h : Int) - 8 + (stp (mv b) l i)).natAbs + 1))) (eI ((h : Int) - 8 + (stp (mv b) l i)) k))) (by rw [hO3.2.1 _ (by omega), show (((eI ((h : Int) - 8 + (stp (mv b) l i)) k) + 8).toNat : Int) - 8 = (eI ((h : Int) - 8 + (stp (mv b) l i)) k) by omega]) ?_
                                        refine g_icmp_ge hX 272 dX6_fewestBumps_249 (by decide) (fun c249 => ?_) (fun c249 => ?_)
                                        · refine g_iinc_7 hX 1 dX6_fewestBumps_272 (by decide) rfl ?_
                                          refine g_goto hX 125 dX6_fewestBumps_275 (by decide) ?_
                                          exact g_weak (lvw_c (lvw_c (lvw_c (lvw_c (lvw_c (lvw_c (lvw_c (lvw_c (lvw_n (lvw_n (lvw_n lvw_nil))))))))))) (ih125 _ _ ⟨⟨hO3.1, by rw [tB_min, if_neg (bI_z.mp c212), if_pos h2e]; exact Rm_st hO3.2.1 (fun z => c249 (nI_lt z (Nat.lt_of_le_of_lt hTe (by decide)))), fun _ => hsp⟩, by simp only [nI_succ]⟩)
                                        · refine g_aload_0 hX dX6_fewestBumps_252 ?_
                                          refine gt_X6_then hX dX6_fewestBumps_253 ?_
                                          refine g_iload_8 hX dX6_fewestBumps_256 ?_
                                          refine g_bipush hX 8 dX6_fewestBumps_258 (by decide) ?_
                                          refine g_iadd hX dX6_fewestBumps_260 ?_
                                          refine g_top (nI ((eI ((h : Int) - 8 + (stp (mv b) l i)) k) + 8).toNat) (by rw [show (8 : Int32) = zI 8 from rfl, zI_add, zI_nat (by omega)]) ?_
                                          refine g_aload_0 hX dX6_fewestBumps_261 ?_
                                          refine gt_X6_fewest hX dX6_fewestBumps_262 ?_
                                          refine g_iload_5 hX dX6_fewestBumps_265 ?_
                                          refine g_ialdN (k := h) hX (ar_77 Z) (by omega) (by decide) dX6_fewestBumps_267 ?_
                                          refine g_top (nI ((tF (mv b) l i) ((h : Int) - 8))) f77 ?_
                                          refine g_iload_7 hX dX6_fewestBumps_268 ?_
                                          refine g_iadd hX dX6_fewestBumps_270 ?_
                                          refine g_top (nI (((tF (mv b) l i) ((h : Int) - 8)) + k)) (by rw [nI_add]) ?_
                                          refine g_iastN (k := ((eI ((h : Int) - 8 + (stp (mv b) l i)) k) + 8).toNat) hX (ar_78 Z) (by omega) (by decide) dX6_fewestBumps_271 ?_
                                          refine g_iinc_7 hX 1 dX6_fewestBumps_272 (by decide) rfl ?_
                                          refine g_goto hX 125 dX6_fewestBumps_275 (by decide) ?_
                                          exact g_weak (lvw_c (lvw_c (lvw_c (lvw_c (lvw_c (lvw_c (lvw_c (lvw_c (lvw_n (lvw_n (lvw_n lvw_nil))))))))))) (ih125 _ _ ⟨⟨fun j hj => by rw [u2c _ _ hj]; exact hO3.1 j hj, by rw [tB_min, if_neg (bI_z.mp c212), if_pos h2e]; exact Rm_up hO3.2.1 he3 ((nI_ltI (by omega) (Nat.lt_of_le_of_lt hTe (by decide))).mp c249), fun _ => hsp⟩, by simp only [nI_succ]⟩)
                                  · refine g_iload_8 hX dX6_fewestBumps_200 ?_
                                    refine g_ineg hX dX6_fewestBumps_202 ?_
                                    refine g_goto hX 208 dX6_fewestBumps_203 (by decide) ?_
                                    refine g_top (nI (eI ((h : Int) - 8 + (stp (mv b) l i)) k).natAbs) (by first | exact (absN hei).1 c197 | exact (absN hei).2 c197) ?_
                                    refine g_istore_10 hX dX6_fewestBumps_208 rfl ?_
                                    refine g_iload_9 hX dX6_fewestBumps_210 ?_
                                    refine g_if_ne hX 272 dX6_fewestBumps_212 (by decide) (fun c212 => ?_) (fun c212 => ?_)
                                    · refine g_iinc_7 hX 1 dX6_fewestBumps_272 (by decide) rfl ?_
                                      refine g_goto hX 125 dX6_fewestBumps_275 (by decide) ?_
                                      exact g_weak (lvw_c (lvw_c (lvw_c (lvw_c (lvw_c (lvw_c (lvw_c (lvw_c (lvw_n (lvw_n (lvw_n lvw_nil))))))))))) (ih125 _ _ ⟨⟨hO3.1, by rw [tB_min, if_pos (bI_nz.mp c212)]; exact hO3.2.1, fun _ => hsp⟩, by simp only [nI_succ]⟩)
                                    · refine g_iconst hX 2 dX6_fewestBumps_215 (by decide) ?_
                                      refine g_iload_10 hX dX6_fewestBumps_216 ?_
                                      refine g_imul hX dX6_fewestBumps_218 ?_
                                      refine g_top (nI (2 * (eI ((h : Int) - 8 + (stp (mv b) l i)) k).natAbs)) (pk_mul 2 _) ?_
                                      refine g_aload_0 hX dX6_fewestBumps_219 ?_
                                      refine gt_X6_now hX dX6_fewestBumps_220 ?_
                                      refine g_bipush hX 7 dX6_fewestBumps_223 (by decide) ?_
                                      refine g_ialdN (k := 7) hX (ar_71 Z) (by decide) (by decide) dX6_fewestBumps_225 ?_
                                      refine g_top (nI (phN (mv b))) f71 ?_
                                      refine g_icmp_gt hX 272 dX6_fewestBumps_226 (by decide) (fun c226 => ?_) (fun c226 => ?_)
                                      · refine g_iinc_7 hX 1 dX6_fewestBumps_272 (by decide) rfl ?_
                                        refine g_goto hX 125 dX6_fewestBumps_275 (by decide) ?_
                                        exact g_weak (lvw_c (lvw_c (lvw_c (lvw_c (lvw_c (lvw_c (lvw_c (lvw_c (lvw_n (lvw_n (lvw_n lvw_nil))))))))))) (ih125 _ _ ⟨⟨hO3.1, by rw [tB_min, if_neg (bI_z.mp c212), if_neg (fun z => nI_nlt z (by omega) c226)]; exact hO3.2.1, fun _ => hsp⟩, by simp only [nI_succ]⟩)
                                      · have h2e : 2 * (eI ((h : Int) - 8 + (stp (mv b) l i)) k).natAbs ≤ phN (mv b) := by
                                          rcases Nat.lt_or_ge (phN (mv b)) (2 * (eI ((h : Int) - 8 + (stp (mv b) l i)) k).natAbs) with q | q
                                          · exact absurd (nI_lt q (by omega)) c226
                                          · exact q
                                        have he3 : (eI ((h : Int) - 8 + (stp (mv b) l i)) k).natAbs ≤ 3 := by omega
                                        refine g_aload_0 hX dX6_fewestBumps_229 ?_
                                        refine gt_X6_fewest hX dX6_fewestBumps_230 ?_
                                        refine g_iload_5 hX dX6_fewestBumps_233 ?_
                                        refine g_ialdN (k := h) hX (ar_77 Z) (by omega) (by decide) dX6_fewestBumps_235 ?_
                                        refine g_top (nI ((tF (mv b) l i) ((h : Int) - 8))) f77 ?_
                                        refine g_iload_7 hX dX6_fewestBumps_236 ?_
                                        refine g_iadd hX dX6_fewestBumps_238 ?_
                                        refine g_top (nI (((tF (mv b) l i) ((h : Int) - 8)) + k)) (by rw [nI_add]) ?_
                                        refine g_aload_0 hX dX6_fewestBumps_239 ?_
                                        refine gt_X6_then hX dX6_fewestBumps_240 ?_
                                        refine g_iload_8 hX dX6_fewestBumps_243 ?_
                                        refine g_bipush hX 8 dX6_fewestBumps_245 (by decide) ?_
                                        refine g_iadd hX dX6_fewestBumps_247 ?_
                                        refine g_top (nI ((eI ((h : Int) - 8 + (stp (mv b) l i)) k) + 8).toNat) (by rw [show (8 : Int32) = zI 8 from rfl, zI_add, zI_nat (by omega)]) ?_
                                        refine g_ialdN (k := ((eI ((h : Int) - 8 + (stp (mv b) l i)) k) + 8).toNat) hX (ar_78 Z) (by omega) (by decide) dX6_fewestBumps_248 ?_
                                        refine g_top (nI ((tB (tX (tF (mv b) l i) (stp (mv b) l i) (roN (mv b) l i) (phN (mv b)) h) ((h : Int) - 8 + (stp (mv b) l i)) ((tF (mv b) l i) ((h : Int) - 8)) (phN (mv b)) (min k (((h : Int) - 8 + (stp (mv b) l i)).natAbs + 1))) (eI ((h : Int) - 8 + (stp (mv b) l i)) k))) (by rw [hO3.2.1 _ (by omega), show (((eI ((h : Int) - 8 + (stp (mv b) l i)) k) + 8).toNat : Int) - 8 = (eI ((h : Int) - 8 + (stp (mv b) l i)) k) by omega]) ?_
                                        refine g_icmp_ge hX 272 dX6_fewestBumps_249 (by decide) (fun c249 => ?_) (fun c249 => ?_)
                                        · refine g_iinc_7 hX 1 dX6_fewestBumps_272 (by decide) rfl ?_
                                          refine g_goto hX 125 dX6_fewestBumps_275 (by decide) ?_
                                          exact g_weak (lvw_c (lvw_c (lvw_c (lvw_c (lvw_c (lvw_c (lvw_c (lvw_c (lvw_n (lvw_n (lvw_n lvw_nil))))))))))) (ih125 _ _ ⟨⟨hO3.1, by rw [tB_min, if_neg (bI_z.mp c212), if_pos h2e]; exact Rm_st hO3.2.1 (fun z => c249 (nI_lt z (Nat.lt_of_le_of_lt hTe (by decide)))), fun _ => hsp⟩, by simp only [nI_succ]⟩)
                                        · refine g_aload_0 hX dX6_fewestBumps_252 ?_
                                          refine gt_X6_then hX dX6_fewestBumps_253 ?_
                                          refine g_iload_8 hX dX6_fewestBumps_256 ?_
                                          refine g_bipush hX 8 dX6_fewestBumps_258 (by decide) ?_
                                          refine g_iadd hX dX6_fewestBumps_260 ?_
                                          refine g_top (nI ((eI ((h : Int) - 8 + (stp (mv b) l i)) k) + 8).toNat) (by rw [show (8 : Int32) = zI 8 from rfl, zI_add, zI_nat (by omega)]) ?_
                                          refine g_aload_0 hX dX6_fewestBumps_261 ?_
                                          refine gt_X6_fewest hX dX6_fewestBumps_262 ?_
                                          refine g_iload_5 hX dX6_fewestBumps_265 ?_
                                          refine g_ialdN (k := h) hX (ar_77 Z) (by omega) (by decide) dX6_fewestBumps_267 ?_
                                          refine g_top (nI ((tF (mv b) l i) ((h : Int) - 8))) f77 ?_
                                          refine g_iload_7 hX dX6_fewestBumps_268 ?_
                                          refine g_iadd hX dX6_fewestBumps_270 ?_
                                          refine g_top (nI (((tF (mv b) l i) ((h : Int) - 8)) + k)) (by rw [nI_add]) ?_
                                          refine g_iastN (k := ((eI ((h : Int) - 8 + (stp (mv b) l i)) k) + 8).toNat) hX (ar_78 Z) (by omega) (by decide) dX6_fewestBumps_271 ?_
                                          refine g_iinc_7 hX 1 dX6_fewestBumps_272 (by decide) rfl ?_
                                          refine g_goto hX 125 dX6_fewestBumps_275 (by decide) ?_
                                          exact g_weak (lvw_c (lvw_c (lvw_c (lvw_c (lvw_c (lvw_c (lvw_c (lvw_c (lvw_n (lvw_n (lvw_n lvw_nil))))))))))) (ih125 _ _ ⟨⟨fun j hj => by rw [u2c _ _ hj]; exact hO3.1 j hj, by rw [tB_min, if_neg (bI_z.mp c212), if_pos h2e]; exact Rm_up hO3.2.1 he3 ((nI_ltI (by omega) (Nat.lt_of_le_of_lt hTe (by decide))).mp c249), fun _ => hsp⟩, by simp only [nI_succ]⟩)
                                · refine g_iconst hX 1 dX6_fewestBumps_188 (by decide) ?_
                                  refine g_goto hX 193 dX6_fewestBumps_189 (by decide) ?_
                                  refine g_top (bI (((h : Int) - 8 + (stp (mv b) l i)).natAbs < k)) (by first | (rw [bI_t (by have := hpos.mp c167; have h9 : (eI ((h : Int) - 8 + (stp (mv b) l i)) k) < 0 := (zI_lt (b := 0) (by omega) (by omega)).mp c172; unfold eI at h9; rw [if_pos this] at h9; omega)]; done) | (rw [bI_f (by have := hpos.mp c167; have h9 : ¬ (eI ((h : Int) - 8 + (stp (mv b) l i)) k) < 0 := fun z => c172 ((zI_lt (b := 0) (by omega) (by omega)).mpr z); unfold eI at h9; rw [if_pos this] at h9; omega)]; done) | (rw [bI_t (by have : ¬ 0 < ((h : Int) - 8 + (stp (mv b) l i)) := fun z => c167 (hpos.mpr z); have h9 : 0 < (eI ((h : Int) - 8 + (stp (mv b) l i)) k) := (zI_lt (a := 0) (by omega) (by omega)).mp c185; unfold eI at h9; rw [if_neg this] at h9; omega)]; done) | (rw [bI_f (by have : ¬ 0 < ((h : Int) - 8 + (stp (mv b) l i)) := fun z => c167 (hpos.mpr z); have h9 : ¬ 0 < (eI ((h : Int) - 8 + (stp (mv b) l i)) k) := fun z => c185 ((zI_lt (a := 0) (by omega) (by omega)).mpr z); unfold eI at h9; rw [if_neg this] at h9; omega)]; done)) ?_
                                  refine g_istore_9 hX dX6_fewestBumps_193 rfl ?_
                                  refine g_iload_8 hX dX6_fewestBumps_195 ?_
                                  refine g_if_ge hX 206 dX6_fewestBumps_197 (by decide) (fun c197 => ?_) (fun c197 => ?_)
                                  · refine g_iload_8 hX dX6_fewestBumps_206 ?_
                                    refine g_top (nI (eI ((h : Int) - 8 + (stp (mv b) l i)) k).natAbs) (by first | exact (absN hei).1 c197 | exact (absN hei).2 c197) ?_
                                    refine g_istore_10 hX dX6_fewestBumps_208 rfl ?_
                                    refine g_iload_9 hX dX6_fewestBumps_210 ?_
                                    refine g_if_ne hX 272 dX6_fewestBumps_212 (by decide) (fun c212 => ?_) (fun c212 => ?_)
                                    · refine g_iinc_7 hX 1 dX6_fewestBumps_272 (by decide) rfl ?_
                                      refine g_goto hX 125 dX6_fewestBumps_275 (by decide) ?_
                                      exact g_weak (lvw_c (lvw_c (lvw_c (lvw_c (lvw_c (lvw_c (lvw_c (lvw_c (lvw_n (lvw_n (lvw_n lvw_nil))))))))))) (ih125 _ _ ⟨⟨hO3.1, by rw [tB_min, if_pos (bI_nz.mp c212)]; exact hO3.2.1, fun _ => hsp⟩, by simp only [nI_succ]⟩)
                                    · refine g_iconst hX 2 dX6_fewestBumps_215 (by decide) ?_
                                      refine g_iload_10 hX dX6_fewestBumps_216 ?_
                                      refine g_imul hX dX6_fewestBumps_218 ?_
                                      refine g_top (nI (2 * (eI ((h : Int) - 8 + (stp (mv b) l i)) k).natAbs)) (pk_mul 2 _) ?_
                                      refine g_aload_0 hX dX6_fewestBumps_219 ?_
                                      refine gt_X6_now hX dX6_fewestBumps_220 ?_
                                      refine g_bipush hX 7 dX6_fewestBumps_223 (by decide) ?_
                                      refine g_ialdN (k := 7) hX (ar_71 Z) (by decide) (by decide) dX6_fewestBumps_225 ?_
                                      refine g_top (nI (phN (mv b))) f71 ?_
                                      refine g_icmp_gt hX 272 dX6_fewestBumps_226 (by decide) (fun c226 => ?_) (fun c226 => ?_)
                                      · refine g_iinc_7 hX 1 dX6_fewestBumps_272 (by decide) rfl ?_
                                        refine g_goto hX 125 dX6_fewestBumps_275 (by decide) ?_
                                        exact g_weak (lvw_c (lvw_c (lvw_c (lvw_c (lvw_c (lvw_c (lvw_c (lvw_c (lvw_n (lvw_n (lvw_n lvw_nil))))))))))) (ih125 _ _ ⟨⟨hO3.1, by rw [tB_min, if_neg (bI_z.mp c212), if_neg (fun z => nI_nlt z (by omega) c226)]; exact hO3.2.1, fun _ => hsp⟩, by simp only [nI_succ]⟩)
                                      · have h2e : 2 * (eI ((h : Int) - 8 + (stp (mv b) l i)) k).natAbs ≤ phN (mv b) := by
                                          rcases Nat.lt_or_ge (phN (mv b)) (2 * (eI ((h : Int) - 8 + (stp (mv b) l i)) k).natAbs) with q | q
                                          · exact absurd (nI_lt q (by omega)) c226
                                          · exact q
                                        have he3 : (eI ((h : Int) - 8 + (stp (mv b) l i)) k).natAbs ≤ 3 := by omega
                                        refine g_aload_0 hX dX6_fewestBumps_229 ?_
                                        refine gt_X6_fewest hX dX6_fewestBumps_230 ?_
                                        refine g_iload_5 hX dX6_fewestBumps_233 ?_
                                        refine g_ialdN (k := h) hX (ar_77 Z) (by omega) (by decide) dX6_fewestBumps_235 ?_
                                        refine g_top (nI ((tF (mv b) l i) ((h : Int) - 8))) f77 ?_
                                        refine g_iload_7 hX dX6_fewestBumps_236 ?_
                                        refine g_iadd hX dX6_fewestBumps_238 ?_
                                        refine g_top (nI (((tF (mv b) l i) ((h : Int) - 8)) + k)) (by rw [nI_add]) ?_
                                        refine g_aload_0 hX dX6_fewestBumps_239 ?_
                                        refine gt_X6_then hX dX6_fewestBumps_240 ?_
                                        refine g_iload_8 hX dX6_fewestBumps_243 ?_
                                        refine g_bipush hX 8 dX6_fewestBumps_245 (by decide) ?_
                                        refine g_iadd hX dX6_fewestBumps_247 ?_
                                        refine g_top (nI ((eI ((h : Int) - 8 + (stp (mv b) l i)) k) + 8).toNat) (by rw [show (8 : Int32) = zI 8 from rfl, zI_add, zI_nat (by omega)]) ?_
                                        refine g_ialdN (k := ((eI ((h : Int) - 8 + (stp (mv b) l i)) k) + 8).toNat) hX (ar_78 Z) (by omega) (by decide) dX6_fewestBumps_248 ?_
                                        refine g_top (nI ((tB (tX (tF (mv b) l i) (stp (mv b) l i) (roN (mv b) l i) (phN (mv b)) h) ((h : Int) - 8 + (stp (mv b) l i)) ((tF (mv b) l i) ((h : Int) - 8)) (phN (mv b)) (min k (((h : Int) - 8 + (stp (mv b) l i)).natAbs + 1))) (eI ((h : Int) - 8 + (stp (mv b) l i)) k))) (by rw [hO3.2.1 _ (by omega), show (((eI ((h : Int) - 8 + (stp (mv b) l i)) k) + 8).toNat : Int) - 8 = (eI ((h : Int) - 8 + (stp (mv b) l i)) k) by omega]) ?_
                                        refine g_icmp_ge hX 272 dX6_fewestBumps_249 (by decide) (fun c249 => ?_) (fun c249 => ?_)
                                        · refine g_iinc_7 hX 1 dX6_fewestBumps_272 (by decide) rfl ?_
                                          refine g_goto hX 125 dX6_fewestBumps_275 (by decide) ?_
                                          exact g_weak (lvw_c (lvw_c (lvw_c (lvw_c (lvw_c (lvw_c (lvw_c (lvw_c (lvw_n (lvw_n (lvw_n lvw_nil))))))))))) (ih125 _ _ ⟨⟨hO3.1, by rw [tB_min, if_neg (bI_z.mp c212), if_pos h2e]; exact Rm_st hO3.2.1 (fun z => c249 (nI_lt z (Nat.lt_of_le_of_lt hTe (by decide)))), fun _ => hsp⟩, by simp only [nI_succ]⟩)
                                        · refine g_aload_0 hX dX6_fewestBumps_252 ?_
                                          refine gt_X6_then hX dX6_fewestBumps_253 ?_
                                          refine g_iload_8 hX dX6_fewestBumps_256 ?_
                                          refine g_bipush hX 8 dX6_fewestBumps_258 (by decide) ?_
                                          refine g_iadd hX dX6_fewestBumps_260 ?_
                                          refine g_top (nI ((eI ((h : Int) - 8 + (stp (mv b) l i)) k) + 8).toNat) (by rw [show (8 : Int32) = zI 8 from rfl, zI_add, zI_nat (by omega)]) ?_
                                          refine g_aload_0 hX dX6_fewestBumps_261 ?_
                                          refine gt_X6_fewest hX dX6_fewestBumps_262 ?_
                                          refine g_iload_5 hX dX6_fewestBumps_265 ?_
                                          refine g_ialdN (k := h) hX (ar_77 Z) (by omega) (by decide) dX6_fewestBumps_267 ?_
                                          refine g_top (nI ((tF (mv b) l i) ((h : Int) - 8))) f77 ?_
                                          refine g_iload_7 hX dX6_fewestBumps_268 ?_
                                          refine g_iadd hX dX6_fewestBumps_270 ?_
                                          refine g_top (nI (((tF (mv b) l i) ((h : Int) - 8)) + k)) (by rw [nI_add]) ?_
                                          refine g_iastN (k := ((eI ((h : Int) - 8 + (stp (mv b) l i)) k) + 8).toNat) hX (ar_78 Z) (by omega) (by decide) dX6_fewestBumps_271 ?_
                                          refine g_iinc_7 hX 1 dX6_fewestBumps_272 (by decide) rfl ?_
                                          refine g_goto hX 125 dX6_fewestBumps_275 (by decide) ?_
                                          exact g_weak (lvw_c (lvw_c (lvw_c (lvw_c (lvw_c (lvw_c (lvw_c (lvw_c (lvw_n (lvw_n (lvw_n lvw_nil))))))))))) (ih125 _ _ ⟨⟨fun j hj => by rw [u2c _ _ hj]; exact hO3.1 j hj, by rw [tB_min, if_neg (bI_z.mp c212), if_pos h2e]; exact Rm_up hO3.2.1 he3 ((nI_ltI (by omega) (Nat.lt_of_le_of_lt hTe (by decide))).mp c249), fun _ => hsp⟩, by simp only [nI_succ]⟩)
                                  · refine g_iload_8 hX dX6_fewestBumps_200 ?_
                                    refine g_ineg hX dX6_fewestBumps_202 ?_
                                    refine g_goto hX 208 dX6_fewestBumps_203 (by decide) ?_
                                    refine g_top (nI (eI ((h : Int) - 8 + (stp (mv b) l i)) k).natAbs) (by first | exact (absN hei).1 c197 | exact (absN hei).2 c197) ?_
                                    refine g_istore_10 hX dX6_fewestBumps_208 rfl ?_
                                    refine g_iload_9 hX dX6_fewestBumps_210 ?_
                                    refine g_if_ne hX 272 dX6_fewestBumps_212 (by decide) (fun c212 => ?_) (fun c212 => ?_)
                                    · refine g_iinc_7 hX 1 dX6_fewestBumps_272 (by decide) rfl ?_
                                      refine g_goto hX 125 dX6_fewestBumps_275 (by decide) ?_
                                      exact g_weak (lvw_c (lvw_c (lvw_c (lvw_c (lvw_c (lvw_c (lvw_c (lvw_c (lvw_n (lvw_n (lvw_n lvw_nil))))))))))) (ih125 _ _ ⟨⟨hO3.1, by rw [tB_min, if_pos (bI_nz.mp c212)]; exact hO3.2.1, fun _ => hsp⟩, by simp only [nI_succ]⟩)
                                    · refine g_iconst hX 2 dX6_fewestBumps_215 (by decide) ?_
                                      refine g_iload_10 hX dX6_fewestBumps_216 ?_
                                      refine g_imul hX dX6_fewestBumps_218 ?_
                                      refine g_top (nI (2 * (eI ((h : Int) - 8 + (stp (mv b) l i)) k).natAbs)) (pk_mul 2 _) ?_
                                      refine g_aload_0 hX dX6_fewestBumps_219 ?_
                                      refine gt_X6_now hX dX6_fewestBumps_220 ?_
                                      refine g_bipush hX 7 dX6_fewestBumps_223 (by decide) ?_
                                      refine g_ialdN (k := 7) hX (ar_71 Z) (by decide) (by decide) dX6_fewestBumps_225 ?_
                                      refine g_top (nI (phN (mv b))) f71 ?_
                                      refine g_icmp_gt hX 272 dX6_fewestBumps_226 (by decide) (fun c226 => ?_) (fun c226 => ?_)
                                      · refine g_iinc_7 hX 1 dX6_fewestBumps_272 (by decide) rfl ?_
                                        refine g_goto hX 125 dX6_fewestBumps_275 (by decide) ?_
                                        exact g_weak (lvw_c (lvw_c (lvw_c (lvw_c (lvw_c (lvw_c (lvw_c (lvw_c (lvw_n (lvw_n (lvw_n lvw_nil))))))))))) (ih125 _ _ ⟨⟨hO3.1, by rw [tB_min, if_neg (bI_z.mp c212), if_neg (fun z => nI_nlt z (by omega) c226)]; exact hO3.2.1, fun _ => hsp⟩, by simp only [nI_succ]⟩)
                                      · have h2e : 2 * (eI ((h : Int) - 8 + (stp (mv b) l i)) k).natAbs ≤ phN (mv b) := by
                                          rcases Nat.lt_or_ge (phN (mv b)) (2 * (eI ((h : Int) - 8 + (stp (mv b) l i)) k).natAbs) with q | q
                                          · exact absurd (nI_lt q (by omega)) c226
                                          · exact q
                                        have he3 : (eI ((h : Int) - 8 + (stp (mv b) l i)) k).natAbs ≤ 3 := by omega
                                        refine g_aload_0 hX dX6_fewestBumps_229 ?_
                                        refine gt_X6_fewest hX dX6_fewestBumps_230 ?_
                                        refine g_iload_5 hX dX6_fewestBumps_233 ?_
                                        refine g_ialdN (k := h) hX (ar_77 Z) (by omega) (by decide) dX6_fewestBumps_235 ?_
                                        refine g_top (nI ((tF (mv b) l i) ((h : Int) - 8))) f77 ?_
                                        refine g_iload_7 hX dX6_fewestBumps_236 ?_
                                        refine g_iadd hX dX6_fewestBumps_238 ?_
                                        refine g_top (nI (((tF (mv b) l i) ((h : Int) - 8)) + k)) (by rw [nI_add]) ?_
                                        refine g_aload_0 hX dX6_fewestBumps_239 ?_
                                        refine gt_X6_then hX dX6_fewestBumps_240 ?_
                                        refine g_iload_8 hX dX6_fewestBumps_243 ?_
                                        refine g_bipush hX 8 dX6_fewestBumps_245 (by decide) ?_
                                        refine g_iadd hX dX6_fewestBumps_247 ?_
                                        refine g_top (nI ((eI ((h : Int) - 8 + (stp (mv b) l i)) k) + 8).toNat) (by rw [show (8 : Int32) = zI 8 from rfl, zI_add, zI_nat (by omega)]) ?_
                                        refine g_ialdN (k := ((eI ((h : Int) - 8 + (stp (mv b) l i)) k) + 8).toNat) hX (ar_78 Z) (by omega) (by decide) dX6_fewestBumps_248 ?_
                                        refine g_top (nI ((tB (tX (tF (mv b) l i) (stp (mv b) l i) (roN (mv b) l i) (phN (mv b)) h) ((h : Int) - 8 + (stp (mv b) l i)) ((tF (mv b) l i) ((h : Int) - 8)) (phN (mv b)) (min k (((h : Int) - 8 + (stp (mv b) l i)).natAbs + 1))) (eI ((h : Int) - 8 + (stp (mv b) l i)) k))) (by rw [hO3.2.1 _ (by omega), show (((eI ((h : Int) - 8 + (stp (mv b) l i)) k) + 8).toNat : Int) - 8 = (eI ((h : Int) - 8 + (stp (mv b) l i)) k) by omega]) ?_
                                        refine g_icmp_ge hX 272 dX6_fewestBumps_249 (by decide) (fun c249 => ?_) (fun c249 => ?_)
                                        · refine g_iinc_7 hX 1 dX6_fewestBumps_272 (by decide) rfl ?_
                                          refine g_goto hX 125 dX6_fewestBumps_275 (by decide) ?_
                                          exact g_weak (lvw_c (lvw_c (lvw_c (lvw_c (lvw_c (lvw_c (lvw_c (lvw_c (lvw_n (lvw_n (lvw_n lvw_nil))))))))))) (ih125 _ _ ⟨⟨hO3.1, by rw [tB_min, if_neg (bI_z.mp c212), if_pos h2e]; exact Rm_st hO3.2.1 (fun z => c249 (nI_lt z (Nat.lt_of_le_of_lt hTe (by decide)))), fun _ => hsp⟩, by simp only [nI_succ]⟩)
                                        · refine g_aload_0 hX dX6_fewestBumps_252 ?_
                                          refine gt_X6_then hX dX6_fewestBumps_253 ?_
                                          refine g_iload_8 hX dX6_fewestBumps_256 ?_
                                          refine g_bipush hX 8 dX6_fewestBumps_258 (by decide) ?_
                                          refine g_iadd hX dX6_fewestBumps_260 ?_
                                          refine g_top (nI ((eI ((h : Int) - 8 + (stp (mv b) l i)) k) + 8).toNat) (by rw [show (8 : Int32) = zI 8 from rfl, zI_add, zI_nat (by omega)]) ?_
                                          refine g_aload_0 hX dX6_fewestBumps_261 ?_
                                          refine gt_X6_fewest hX dX6_fewestBumps_262 ?_
                                          refine g_iload_5 hX dX6_fewestBumps_265 ?_
                                          refine g_ialdN (k := h) hX (ar_77 Z) (by omega) (by decide) dX6_fewestBumps_267 ?_
                                          refine g_top (nI ((tF (mv b) l i) ((h : Int) - 8))) f77 ?_
                                          refine g_iload_7 hX dX6_fewestBumps_268 ?_
                                          refine g_iadd hX dX6_fewestBumps_270 ?_
                                          refine g_top (nI (((tF (mv b) l i) ((h : Int) - 8)) + k)) (by rw [nI_add]) ?_
                                          refine g_iastN (k := ((eI ((h : Int) - 8 + (stp (mv b) l i)) k) + 8).toNat) hX (ar_78 Z) (by omega) (by decide) dX6_fewestBumps_271 ?_
                                          refine g_iinc_7 hX 1 dX6_fewestBumps_272 (by decide) rfl ?_
                                          refine g_goto hX 125 dX6_fewestBumps_275 (by decide) ?_
                                          exact g_weak (lvw_c (lvw_c (lvw_c (lvw_c (lvw_c (lvw_c (lvw_c (lvw_c (lvw_n (lvw_n (lvw_n lvw_nil))))))))))) (ih125 _ _ ⟨⟨fun j hj => by rw [u2c _ _ hj]; exact hO3.1 j hj, by rw [tB_min, if_neg (bI_z.mp c212), if_pos h2e]; exact Rm_up hO3.2.1 he3 ((nI_ltI (by omega) (Nat.lt_of_le_of_lt hTe (by decide))).mp c249), fun _ => hsp⟩, by simp only [nI_succ]⟩)
                              · refine g_iload_8 hX dX6_fewestBumps_170 ?_
                                refine g_if_ge hX 179 dX6_fewestBumps_172 (by decide) (fun c172 => ?_) (fun c172 => ?_)
                                · refine g_iconst hX 0 dX6_fewestBumps_179 (by decide) ?_
                                  refine g_goto hX 193 dX6_fewestBumps_180 (by decide) ?_
                                  refine g_top (bI (((h : Int) - 8 + (stp (mv b) l i)).natAbs < k)) (by first | (rw [bI_t (by have := hpos.mp c167; have h9 : (eI ((h : Int) - 8 + (stp (mv b) l i)) k) < 0 := (zI_lt (b := 0) (by omega) (by omega)).mp c172; unfold eI at h9; rw [if_pos this] at h9; omega)]; done) | (rw [bI_f (by have := hpos.mp c167; have h9 : ¬ (eI ((h : Int) - 8 + (stp (mv b) l i)) k) < 0 := fun z => c172 ((zI_lt (b := 0) (by omega) (by omega)).mpr z); unfold eI at h9; rw [if_pos this] at h9; omega)]; done) | (rw [bI_t (by have : ¬ 0 < ((h : Int) - 8 + (stp (mv b) l i)) := fun z => c167 (hpos.mpr z); have h9 : 0 < (eI ((h : Int) - 8 + (stp (mv b) l i)) k) := (zI_lt (a := 0) (by omega) (by omega)).mp c185; unfold eI at h9; rw [if_neg this] at h9; omega)]; done) | (rw [bI_f (by have : ¬ 0 < ((h : Int) - 8 + (stp (mv b) l i)) := fun z => c167 (hpos.mpr z); have h9 : ¬ 0 < (eI ((h : Int) - 8 + (stp (mv b) l i)) k) := fun z => c185 ((zI_lt (a := 0) (by omega) (by omega)).mpr z); unfold eI at h9; rw [if_neg this] at h9; omega)]; done)) ?_
                                  refine g_istore_9 hX dX6_fewestBumps_193 rfl ?_
                                  refine g_iload_8 hX dX6_fewestBumps_195 ?_
                                  refine g_if_ge hX 206 dX6_fewestBumps_197 (by decide) (fun c197 => ?_) (fun c197 => ?_)
                                  · refine g_iload_8 hX dX6_fewestBumps_206 ?_
                                    refine g_top (nI (eI ((h : Int) - 8 + (stp (mv b) l i)) k).natAbs) (by first | exact (absN hei).1 c197 | exact (absN hei).2 c197) ?_
                                    refine g_istore_10 hX dX6_fewestBumps_208 rfl ?_
                                    refine g_iload_9 hX dX6_fewestBumps_210 ?_
                                    refine g_if_ne hX 272 dX6_fewestBumps_212 (by decide) (fun c212 => ?_) (fun c212 => ?_)
                                    · refine g_iinc_7 hX 1 dX6_fewestBumps_272 (by decide) rfl ?_
                                      refine g_goto hX 125 dX6_fewestBumps_275 (by decide) ?_
                                      exact g_weak (lvw_c (lvw_c (lvw_c (lvw_c (lvw_c (lvw_c (lvw_c (lvw_c (lvw_n (lvw_n (lvw_n lvw_nil))))))))))) (ih125 _ _ ⟨⟨hO3.1, by rw [tB_min, if_pos (bI_nz.mp c212)]; exact hO3.2.1, fun _ => hsp⟩, by simp only [nI_succ]⟩)
                                    · refine g_iconst hX 2 dX6_fewestBumps_215 (by decide) ?_
                                      refine g_iload_10 hX dX6_fewestBumps_216 ?_
                                      refine g_imul hX dX6_fewestBumps_218 ?_
                                      refine g_top (nI (2 * (eI ((h : Int) - 8 + (stp (mv b) l i)) k).natAbs)) (pk_mul 2 _) ?_
                                      refine g_aload_0 hX dX6_fewestBumps_219 ?_
                                      refine gt_X6_now hX dX6_fewestBumps_220 ?_
                                      refine g_bipush hX 7 dX6_fewestBumps_223 (by decide) ?_
                                      refine g_ialdN (k := 7) hX (ar_71 Z) (by decide) (by decide) dX6_fewestBumps_225 ?_
                                      refine g_top (nI (phN (mv b))) f71 ?_
                                      refine g_icmp_gt hX 272 dX6_fewestBumps_226 (by decide) (fun c226 => ?_) (fun c226 => ?_)
                                      · refine g_iinc_7 hX 1 dX6_fewestBumps_272 (by decide) rfl ?_
                                        refine g_goto hX 125 dX6_fewestBumps_275 (by decide) ?_
                                        exact g_weak (lvw_c (lvw_c (lvw_c (lvw_c (lvw_c (lvw_c (lvw_c (lvw_c (lvw_n (lvw_n (lvw_n lvw_nil))))))))))) (ih125 _ _ ⟨⟨hO3.1, by rw [tB_min, if_neg (bI_z.mp c212), if_neg (fun z => nI_nlt z (by omega) c226)]; exact hO3.2.1, fun _ => hsp⟩, by simp only [nI_succ]⟩)
                                      · have h2e : 2 * (eI ((h : Int) - 8 + (stp (mv b) l i)) k).natAbs ≤ phN (mv b) := by
                                          rcases Nat.lt_or_ge (phN (mv b)) (2 * (eI ((h : Int) - 8 + (stp (mv b) l i)) k).natAbs) with q | q
                                          · exact absurd (nI_lt q (by omega)) c226
                                          · exact q
                                        have he3 : (eI ((h : Int) - 8 + (stp (mv b) l i)) k).natAbs ≤ 3 := by omega
                                        refine g_aload_0 hX dX6_fewestBumps_229 ?_
                                        refine gt_X6_fewest hX dX6_fewestBumps_230 ?_
                                        refine g_iload_5 hX dX6_fewestBumps_233 ?_
                                        refine g_ialdN (k := h) hX (ar_77 Z) (by omega) (by decide) dX6_fewestBumps_235 ?_
                                        refine g_top (nI ((tF (mv b) l i) ((h : Int) - 8))) f77 ?_
                                        refine g_iload_7 hX dX6_fewestBumps_236 ?_
                                        refine g_iadd hX dX6_fewestBumps_238 ?_
                                        refine g_top (nI (((tF (mv b) l i) ((h : Int) - 8)) + k)) (by rw [nI_add]) ?_
                                        refine g_aload_0 hX dX6_fewestBumps_239 ?_
                                        refine gt_X6_then hX dX6_fewestBumps_240 ?_
                                        refine g_iload_8 hX dX6_fewestBumps_243 ?_
                                        refine g_bipush hX 8 dX6_fewestBumps_245 (by decide) ?_
                                        refine g_iadd hX dX6_fewestBumps_247 ?_
                                        refine g_top (nI ((eI ((h : Int) - 8 + (stp (mv b) l i)) k) + 8).toNat) (by rw [show (8 : Int32) = zI 8 from rfl, zI_add, zI_nat (by omega)]) ?_
                                        refine g_ialdN (k := ((eI ((h : Int) - 8 + (stp (mv b) l i)) k) + 8).toNat) hX (ar_78 Z) (by omega) (by decide) dX6_fewestBumps_248 ?_
                                        refine g_top (nI ((tB (tX (tF (mv b) l i) (stp (mv b) l i) (roN (mv b) l i) (phN (mv b)) h) ((h : Int) - 8 + (stp (mv b) l i)) ((tF (mv b) l i) ((h : Int) - 8)) (phN (mv b)) (min k (((h : Int) - 8 + (stp (mv b) l i)).natAbs + 1))) (eI ((h : Int) - 8 + (stp (mv b) l i)) k))) (by rw [hO3.2.1 _ (by omega), show (((eI ((h : Int) - 8 + (stp (mv b) l i)) k) + 8).toNat : Int) - 8 = (eI ((h : Int) - 8 + (stp (mv b) l i)) k) by omega]) ?_
                                        refine g_icmp_ge hX 272 dX6_fewestBumps_249 (by decide) (fun c249 => ?_) (fun c249 => ?_)
                                        · refine g_iinc_7 hX 1 dX6_fewestBumps_272 (by decide) rfl ?_
                                          refine g_goto hX 125 dX6_fewestBumps_275 (by decide) ?_
                                          exact g_weak (lvw_c (lvw_c (lvw_c (lvw_c (lvw_c (lvw_c (lvw_c (lvw_c (lvw_n (lvw_n (lvw_n lvw_nil))))))))))) (ih125 _ _ ⟨⟨hO3.1, by rw [tB_min, if_neg (bI_z.mp c212), if_pos h2e]; exact Rm_st hO3.2.1 (fun z => c249 (nI_lt z (Nat.lt_of_le_of_lt hTe (by decide)))), fun _ => hsp⟩, by simp only [nI_succ]⟩)
                                        · refine g_aload_0 hX dX6_fewestBumps_252 ?_
                                          refine gt_X6_then hX dX6_fewestBumps_253 ?_
                                          refine g_iload_8 hX dX6_fewestBumps_256 ?_
                                          refine g_bipush hX 8 dX6_fewestBumps_258 (by decide) ?_
                                          refine g_iadd hX dX6_fewestBumps_260 ?_
                                          refine g_top (nI ((eI ((h : Int) - 8 + (stp (mv b) l i)) k) + 8).toNat) (by rw [show (8 : Int32) = zI 8 from rfl, zI_add, zI_nat (by omega)]) ?_
                                          refine g_aload_0 hX dX6_fewestBumps_261 ?_
                                          refine gt_X6_fewest hX dX6_fewestBumps_262 ?_
                                          refine g_iload_5 hX dX6_fewestBumps_265 ?_
                                          refine g_ialdN (k := h) hX (ar_77 Z) (by omega) (by decide) dX6_fewestBumps_267 ?_
                                          refine g_top (nI ((tF (mv b) l i) ((h : Int) - 8))) f77 ?_
                                          refine g_iload_7 hX dX6_fewestBumps_268 ?_
                                          refine g_iadd hX dX6_fewestBumps_270 ?_
                                          refine g_top (nI (((tF (mv b) l i) ((h : Int) - 8)) + k)) (by rw [nI_add]) ?_
                                          refine g_iastN (k := ((eI ((h : Int) - 8 + (stp (mv b) l i)) k) + 8).toNat) hX (ar_78 Z) (by omega) (by decide) dX6_fewestBumps_271 ?_
                                          refine g_iinc_7 hX 1 dX6_fewestBumps_272 (by decide) rfl ?_
                                          refine g_goto hX 125 dX6_fewestBumps_275 (by decide) ?_
                                          exact g_weak (lvw_c (lvw_c (lvw_c (lvw_c (lvw_c (lvw_c (lvw_c (lvw_c (lvw_n (lvw_n (lvw_n lvw_nil))))))))))) (ih125 _ _ ⟨⟨fun j hj => by rw [u2c _ _ hj]; exact hO3.1 j hj, by rw [tB_min, if_neg (bI_z.mp c212), if_pos h2e]; exact Rm_up hO3.2.1 he3 ((nI_ltI (by omega) (Nat.lt_of_le_of_lt hTe (by decide))).mp c249), fun _ => hsp⟩, by simp only [nI_succ]⟩)
                                  · refine g_iload_8 hX dX6_fewestBumps_200 ?_
                                    refine g_ineg hX dX6_fewestBumps_202 ?_
                                    refine g_goto hX 208 dX6_fewestBumps_203 (by decide) ?_
                                    refine g_top (nI (eI ((h : Int) - 8 + (stp (mv b) l i)) k).natAbs) (by first | exact (absN hei).1 c197 | exact (absN hei).2 c197) ?_
                                    refine g_istore_10 hX dX6_fewestBumps_208 rfl ?_
                                    refine g_iload_9 hX dX6_fewestBumps_210 ?_
                                    refine g_if_ne hX 272 dX6_fewestBumps_212 (by decide) (fun c212 => ?_) (fun c212 => ?_)
                                    · refine g_iinc_7 hX 1 dX6_fewestBumps_272 (by decide) rfl ?_
                                      refine g_goto hX 125 dX6_fewestBumps_275 (by decide) ?_
                                      exact g_weak (lvw_c (lvw_c (lvw_c (lvw_c (lvw_c (lvw_c (lvw_c (lvw_c (lvw_n (lvw_n (lvw_n lvw_nil))))))))))) (ih125 _ _ ⟨⟨hO3.1, by rw [tB_min, if_pos (bI_nz.mp c212)]; exact hO3.2.1, fun _ => hsp⟩, by simp only [nI_succ]⟩)
                                    · refine g_iconst hX 2 dX6_fewestBumps_215 (by decide) ?_
                                      refine g_iload_10 hX dX6_fewestBumps_216 ?_
                                      refine g_imul hX dX6_fewestBumps_218 ?_
                                      refine g_top (nI (2 * (eI ((h : Int) - 8 + (stp (mv b) l i)) k).natAbs)) (pk_mul 2 _) ?_
                                      refine g_aload_0 hX dX6_fewestBumps_219 ?_
                                      refine gt_X6_now hX dX6_fewestBumps_220 ?_
                                      refine g_bipush hX 7 dX6_fewestBumps_223 (by decide) ?_
                                      refine g_ialdN (k := 7) hX (ar_71 Z) (by decide) (by decide) dX6_fewestBumps_225 ?_
                                      refine g_top (nI (phN (mv b))) f71 ?_
                                      refine g_icmp_gt hX 272 dX6_fewestBumps_226 (by decide) (fun c226 => ?_) (fun c226 => ?_)
                                      · refine g_iinc_7 hX 1 dX6_fewestBumps_272 (by decide) rfl ?_
                                        refine g_goto hX 125 dX6_fewestBumps_275 (by decide) ?_
                                        exact g_weak (lvw_c (lvw_c (lvw_c (lvw_c (lvw_c (lvw_c (lvw_c (lvw_c (lvw_n (lvw_n (lvw_n lvw_nil))))))))))) (ih125 _ _ ⟨⟨hO3.1, by rw [tB_min, if_neg (bI_z.mp c212), if_neg (fun z => nI_nlt z (by omega) c226)]; exact hO3.2.1, fun _ => hsp⟩, by simp only [nI_succ]⟩)
                                      · have h2e : 2 * (eI ((h : Int) - 8 + (stp (mv b) l i)) k).natAbs ≤ phN (mv b) := by
                                          rcases Nat.lt_or_ge (phN (mv b)) (2 * (eI ((h : Int) - 8 + (stp (mv b) l i)) k).natAbs) with q | q
                                          · exact absurd (nI_lt q (by omega)) c226
                                          · exact q
                                        have he3 : (eI ((h : Int) - 8 + (stp (mv b) l i)) k).natAbs ≤ 3 := by omega
                                        refine g_aload_0 hX dX6_fewestBumps_229 ?_
                                        refine gt_X6_fewest hX dX6_fewestBumps_230 ?_
                                        refine g_iload_5 hX dX6_fewestBumps_233 ?_
                                        refine g_ialdN (k := h) hX (ar_77 Z) (by omega) (by decide) dX6_fewestBumps_235 ?_
                                        refine g_top (nI ((tF (mv b) l i) ((h : Int) - 8))) f77 ?_
                                        refine g_iload_7 hX dX6_fewestBumps_236 ?_
                                        refine g_iadd hX dX6_fewestBumps_238 ?_
                                        refine g_top (nI (((tF (mv b) l i) ((h : Int) - 8)) + k)) (by rw [nI_add]) ?_
                                        refine g_aload_0 hX dX6_fewestBumps_239 ?_
                                        refine gt_X6_then hX dX6_fewestBumps_240 ?_
                                        refine g_iload_8 hX dX6_fewestBumps_243 ?_
                                        refine g_bipush hX 8 dX6_fewestBumps_245 (by decide) ?_
                                        refine g_iadd hX dX6_fewestBumps_247 ?_
                                        refine g_top (nI ((eI ((h : Int) - 8 + (stp (mv b) l i)) k) + 8).toNat) (by rw [show (8 : Int32) = zI 8 from rfl, zI_add, zI_nat (by omega)]) ?_
                                        refine g_ialdN (k := ((eI ((h : Int) - 8 + (stp (mv b) l i)) k) + 8).toNat) hX (ar_78 Z) (by omega) (by decide) dX6_fewestBumps_248 ?_
                                        refine g_top (nI ((tB (tX (tF (mv b) l i) (stp (mv b) l i) (roN (mv b) l i) (phN (mv b)) h) ((h : Int) - 8 + (stp (mv b) l i)) ((tF (mv b) l i) ((h : Int) - 8)) (phN (mv b)) (min k (((h : Int) - 8 + (stp (mv b) l i)).natAbs + 1))) (eI ((h : Int) - 8 + (stp (mv b) l i)) k))) (by rw [hO3.2.1 _ (by omega), show (((eI ((h : Int) - 8 + (stp (mv b) l i)) k) + 8).toNat : Int) - 8 = (eI ((h : Int) - 8 + (stp (mv b) l i)) k) by omega]) ?_
                                        refine g_icmp_ge hX 272 dX6_fewestBumps_249 (by decide) (fun c249 => ?_) (fun c249 => ?_)
                                        · refine g_iinc_7 hX 1 dX6_fewestBumps_272 (by decide) rfl ?_
                                          refine g_goto hX 125 dX6_fewestBumps_275 (by decide) ?_
                                          exact g_weak (lvw_c (lvw_c (lvw_c (lvw_c (lvw_c (lvw_c (lvw_c (lvw_c (lvw_n (lvw_n (lvw_n lvw_nil))))))))))) (ih125 _ _ ⟨⟨hO3.1, by rw [tB_min, if_neg (bI_z.mp c212), if_pos h2e]; exact Rm_st hO3.2.1 (fun z => c249 (nI_lt z (Nat.lt_of_le_of_lt hTe (by decide)))), fun _ => hsp⟩, by simp only [nI_succ]⟩)
                                        · refine g_aload_0 hX dX6_fewestBumps_252 ?_
                                          refine gt_X6_then hX dX6_fewestBumps_253 ?_
                                          refine g_iload_8 hX dX6_fewestBumps_256 ?_
                                          refine g_bipush hX 8 dX6_fewestBumps_258 (by decide) ?_
                                          refine g_iadd hX dX6_fewestBumps_260 ?_
                                          refine g_top (nI ((eI ((h : Int) - 8 + (stp (mv b) l i)) k) + 8).toNat) (by rw [show (8 : Int32) = zI 8 from rfl, zI_add, zI_nat (by omega)]) ?_
                                          refine g_aload_0 hX dX6_fewestBumps_261 ?_
                                          refine gt_X6_fewest hX dX6_fewestBumps_262 ?_
                                          refine g_iload_5 hX dX6_fewestBumps_265 ?_
                                          refine g_ialdN (k := h) hX (ar_77 Z) (by omega) (by decide) dX6_fewestBumps_267 ?_
                                          refine g_top (nI ((tF (mv b) l i) ((h : Int) - 8))) f77 ?_
                                          refine g_iload_7 hX dX6_fewestBumps_268 ?_
                                          refine g_iadd hX dX6_fewestBumps_270 ?_
                                          refine g_top (nI (((tF (mv b) l i) ((h : Int) - 8)) + k)) (by rw [nI_add]) ?_
                                          refine g_iastN (k := ((eI ((h : Int) - 8 + (stp (mv b) l i)) k) + 8).toNat) hX (ar_78 Z) (by omega) (by decide) dX6_fewestBumps_271 ?_
                                          refine g_iinc_7 hX 1 dX6_fewestBumps_272 (by decide) rfl ?_
                                          refine g_goto hX 125 dX6_fewestBumps_275 (by decide) ?_
                                          exact g_weak (lvw_c (lvw_c (lvw_c (lvw_c (lvw_c (lvw_c (lvw_c (lvw_c (lvw_n (lvw_n (lvw_n lvw_nil))))))))))) (ih125 _ _ ⟨⟨fun j hj => by rw [u2c _ _ hj]; exact hO3.1 j hj, by rw [tB_min, if_neg (bI_z.mp c212), if_pos h2e]; exact Rm_up hO3.2.1 he3 ((nI_ltI (by omega) (Nat.lt_of_le_of_lt hTe (by decide))).mp c249), fun _ => hsp⟩, by simp only [nI_succ]⟩)
                                · refine g_iconst hX 1 dX6_fewestBumps_175 (by decide) ?_
                                  refine g_goto hX 193 dX6_fewestBumps_176 (by decide) ?_
                                  refine g_top (bI (((h : Int) - 8 + (stp (mv b) l i)).natAbs < k)) (by first | (rw [bI_t (by have := hpos.mp c167; have h9 : (eI ((h : Int) - 8 + (stp (mv b) l i)) k) < 0 := (zI_lt (b := 0) (by omega) (by omega)).mp c172; unfold eI at h9; rw [if_pos this] at h9; omega)]; done) | (rw [bI_f (by have := hpos.mp c167; have h9 : ¬ (eI ((h : Int) - 8 + (stp (mv b) l i)) k) < 0 := fun z => c172 ((zI_lt (b := 0) (by omega) (by omega)).mpr z); unfold eI at h9; rw [if_pos this] at h9; omega)]; done) | (rw [bI_t (by have : ¬ 0 < ((h : Int) - 8 + (stp (mv b) l i)) := fun z => c167 (hpos.mpr z); have h9 : 0 < (eI ((h : Int) - 8 + (stp (mv b) l i)) k) := (zI_lt (a := 0) (by omega) (by omega)).mp c185; unfold eI at h9; rw [if_neg this] at h9; omega)]; done) | (rw [bI_f (by have : ¬ 0 < ((h : Int) - 8 + (stp (mv b) l i)) := fun z => c167 (hpos.mpr z); have h9 : ¬ 0 < (eI ((h : Int) - 8 + (stp (mv b) l i)) k) := fun z => c185 ((zI_lt (a := 0) (by omega) (by omega)).mpr z); unfold eI at h9; rw [if_neg this] at h9; omega)]; done)) ?_
                                  refine g_istore_9 hX dX6_fewestBumps_193 rfl ?_
                                  refine g_iload_8 hX dX6_fewestBumps_195 ?_
                                  refine g_if_ge hX 206 dX6_fewestBumps_197 (by decide) (fun c197 => ?_) (fun c197 => ?_)
                                  · refine g_iload_8 hX dX6_fewestBumps_206 ?_
                                    refine g_top (nI (eI ((h : Int) - 8 + (stp (mv b) l i)) k).natAbs) (by first | exact (absN hei).1 c197 | exact (absN hei).2 c197) ?_
                                    refine g_istore_10 hX dX6_fewestBumps_208 rfl ?_
                                    refine g_iload_9 hX dX6_fewestBumps_210 ?_
                                    refine g_if_ne hX 272 dX6_fewestBumps_212 (by decide) (fun c212 => ?_) (fun c212 => ?_)
                                    · refine g_iinc_7 hX 1 dX6_fewestBumps_272 (by decide) rfl ?_
                                      refine g_goto hX 125 dX6_fewestBumps_275 (by decide) ?_
                                      exact g_weak (lvw_c (lvw_c (lvw_c (lvw_c (lvw_c (lvw_c (lvw_c (lvw_c (lvw_n (lvw_n (lvw_n lvw_nil))))))))))) (ih125 _ _ ⟨⟨hO3.1, by rw [tB_min, if_pos (bI_nz.mp c212)]; exact hO3.2.1, fun _ => hsp⟩, by simp only [nI_succ]⟩)
                                    · refine g_iconst hX 2 dX6_fewestBumps_215 (by decide) ?_
                                      refine g_iload_10 hX dX6_fewestBumps_216 ?_
                                      refine g_imul hX dX6_fewestBumps_218 ?_
                                      refine g_top (nI (2 * (eI ((h : Int) - 8 + (stp (mv b) l i)) k).natAbs)) (pk_mul 2 _) ?_
                                      refine g_aload_0 hX dX6_fewestBumps_219 ?_
                                      refine gt_X6_now hX dX6_fewestBumps_220 ?_
                                      refine g_bipush hX 7 dX6_fewestBumps_223 (by decide) ?_
                                      refine g_ialdN (k := 7) hX (ar_71 Z) (by decide) (by decide) dX6_fewestBumps_225 ?_
                                      refine g_top (nI (phN (mv b))) f71 ?_
                                      refine g_icmp_gt hX 272 dX6_fewestBumps_226 (by decide) (fun c226 => ?_) (fun c226 => ?_)
                                      · refine g_iinc_7 hX 1 dX6_fewestBumps_272 (by decide) rfl ?_
                                        refine g_goto hX 125 dX6_fewestBumps_275 (by decide) ?_
                                        exact g_weak (lvw_c (lvw_c (lvw_c (lvw_c (lvw_c (lvw_c (lvw_c (lvw_c (lvw_n (lvw_n (lvw_n lvw_nil))))))))))) (ih125 _ _ ⟨⟨hO3.1, by rw [tB_min, if_neg (bI_z.mp c212), if_neg (fun z => nI_nlt z (by omega) c226)]; exact hO3.2.1, fun _ => hsp⟩, by simp only [nI_succ]⟩)
                                      · have h2e : 2 * (eI ((h : Int) - 8 + (stp (mv b) l i)) k).natAbs ≤ phN (mv b) := by
                                          rcases Nat.lt_or_ge (phN (mv b)) (2 * (eI ((h : Int) - 8 + (stp (mv b) l i)) k).natAbs) with q | q
                                          · exact absurd (nI_lt q (by omega)) c226
                                          · exact q
                                        have he3 : (eI ((h : Int) - 8 + (stp (mv b) l i)) k).natAbs ≤ 3 := by omega
                                        refine g_aload_0 hX dX6_fewestBumps_229 ?_
                                        refine gt_X6_fewest hX dX6_fewestBumps_230 ?_
                                        refine g_iload_5 hX dX6_fewestBumps_233 ?_
                                        refine g_ialdN (k := h) hX (ar_77 Z) (by omega) (by decide) dX6_fewestBumps_235 ?_
                                        refine g_top (nI ((tF (mv b) l i) ((h : Int) - 8))) f77 ?_
                                        refine g_iload_7 hX dX6_fewestBumps_236 ?_
                                        refine g_iadd hX dX6_fewestBumps_238 ?_
                                        refine g_top (nI (((tF (mv b) l i) ((h : Int) - 8)) + k)) (by rw [nI_add]) ?_
                                        refine g_aload_0 hX dX6_fewestBumps_239 ?_
                                        refine gt_X6_then hX dX6_fewestBumps_240 ?_
                                        refine g_iload_8 hX dX6_fewestBumps_243 ?_
                                        refine g_bipush hX 8 dX6_fewestBumps_245 (by decide) ?_
                                        refine g_iadd hX dX6_fewestBumps_247 ?_
                                        refine g_top (nI ((eI ((h : Int) - 8 + (stp (mv b) l i)) k) + 8).toNat) (by rw [show (8 : Int32) = zI 8 from rfl, zI_add, zI_nat (by omega)]) ?_
                                        refine g_ialdN (k := ((eI ((h : Int) - 8 + (stp (mv b) l i)) k) + 8).toNat) hX (ar_78 Z) (by omega) (by decide) dX6_fewestBumps_248 ?_
                                        refine g_top (nI ((tB (tX (tF (mv b) l i) (stp (mv b) l i) (roN (mv b) l i) (phN (mv b)) h) ((h : Int) - 8 + (stp (mv b) l i)) ((tF (mv b) l i) ((h : Int) - 8)) (phN (mv b)) (min k (((h : Int) - 8 + (stp (mv b) l i)).natAbs + 1))) (eI ((h : Int) - 8 + (stp (mv b) l i)) k))) (by rw [hO3.2.1 _ (by omega), show (((eI ((h : Int) - 8 + (stp (mv b) l i)) k) + 8).toNat : Int) - 8 = (eI ((h : Int) - 8 + (stp (mv b) l i)) k) by omega]) ?_
                                        refine g_icmp_ge hX 272 dX6_fewestBumps_249 (by decide) (fun c249 => ?_) (fun c249 => ?_)
                                        · refine g_iinc_7 hX 1 dX6_fewestBumps_272 (by decide) rfl ?_
                                          refine g_goto hX 125 dX6_fewestBumps_275 (by decide) ?_
                                          exact g_weak (lvw_c (lvw_c (lvw_c (lvw_c (lvw_c (lvw_c (lvw_c (lvw_c (lvw_n (lvw_n (lvw_n lvw_nil))))))))))) (ih125 _ _ ⟨⟨hO3.1, by rw [tB_min, if_neg (bI_z.mp c212), if_pos h2e]; exact Rm_st hO3.2.1 (fun z => c249 (nI_lt z (Nat.lt_of_le_of_lt hTe (by decide)))), fun _ => hsp⟩, by simp only [nI_succ]⟩)
                                        · refine g_aload_0 hX dX6_fewestBumps_252 ?_
                                          refine gt_X6_then hX dX6_fewestBumps_253 ?_
                                          refine g_iload_8 hX dX6_fewestBumps_256 ?_
                                          refine g_bipush hX 8 dX6_fewestBumps_258 (by decide) ?_
                                          refine g_iadd hX dX6_fewestBumps_260 ?_
                                          refine g_top (nI ((eI ((h : Int) - 8 + (stp (mv b) l i)) k) + 8).toNat) (by rw [show (8 : Int32) = zI 8 from rfl, zI_add, zI_nat (by omega)]) ?_
                                          refine g_aload_0 hX dX6_fewestBumps_261 ?_
                                          refine gt_X6_fewest hX dX6_fewestBumps_262 ?_
                                          refine g_iload_5 hX dX6_fewestBumps_265 ?_
                                          refine g_ialdN (k := h) hX (ar_77 Z) (by omega) (by decide) dX6_fewestBumps_267 ?_
                                          refine g_top (nI ((tF (mv b) l i) ((h : Int) - 8))) f77 ?_
                                          refine g_iload_7 hX dX6_fewestBumps_268 ?_
                                          refine g_iadd hX dX6_fewestBumps_270 ?_
                                          refine g_top (nI (((tF (mv b) l i) ((h : Int) - 8)) + k)) (by rw [nI_add]) ?_
                                          refine g_iastN (k := ((eI ((h : Int) - 8 + (stp (mv b) l i)) k) + 8).toNat) hX (ar_78 Z) (by omega) (by decide) dX6_fewestBumps_271 ?_
                                          refine g_iinc_7 hX 1 dX6_fewestBumps_272 (by decide) rfl ?_
                                          refine g_goto hX 125 dX6_fewestBumps_275 (by decide) ?_
                                          exact g_weak (lvw_c (lvw_c (lvw_c (lvw_c (lvw_c (lvw_c (lvw_c (lvw_c (lvw_n (lvw_n (lvw_n lvw_nil))))))))))) (ih125 _ _ ⟨⟨fun j hj => by rw [u2c _ _ hj]; exact hO3.1 j hj, by rw [tB_min, if_neg (bI_z.mp c212), if_pos h2e]; exact Rm_up hO3.2.1 he3 ((nI_ltI (by omega) (Nat.lt_of_le_of_lt hTe (by decide))).mp c249), fun _ => hsp⟩, by simp only [nI_succ]⟩)
                                  · refine g_iload_8 hX dX6_fewestBumps_200 ?_
                                    refine g_ineg hX dX6_fewestBumps_202 ?_
                                    refine g_goto hX 208 dX6_fewestBumps_203 (by decide) ?_
                                    refine g_top (nI (eI ((h : Int) - 8 + (stp (mv b) l i)) k).natAbs) (by first | exact (absN hei).1 c197 | exact (absN hei).2 c197) ?_
                                    refine g_istore_10 hX dX6_fewestBumps_208 rfl ?_
                                    refine g_iload_9 hX dX6_fewestBumps_210 ?_
                                    refine g_if_ne hX 272 dX6_fewestBumps_212 (by decide) (fun c212 => ?_) (fun c212 => ?_)
                                    · refine g_iinc_7 hX 1 dX6_fewestBumps_272 (by decide) rfl ?_
                                      refine g_goto hX 125 dX6_fewestBumps_275 (by decide) ?_
                                      exact g_weak (lvw_c (lvw_c (lvw_c (lvw_c (lvw_c (lvw_c (lvw_c (lvw_c (lvw_n (lvw_n (lvw_n lvw_nil))))))))))) (ih125 _ _ ⟨⟨hO3.1, by rw [tB_min, if_pos (bI_nz.mp c212)]; exact hO3.2.1, fun _ => hsp⟩, by simp only [nI_succ]⟩)
                                    · refine g_iconst hX 2 dX6_fewestBumps_215 (by decide) ?_
                                      refine g_iload_10 hX dX6_fewestBumps_216 ?_
                                      refine g_imul hX dX6_fewestBumps_218 ?_
                                      refine g_top (nI (2 * (eI ((h : Int) - 8 + (stp (mv b) l i)) k).natAbs)) (pk_mul 2 _) ?_
                                      refine g_aload_0 hX dX6_fewestBumps_219 ?_
                                      refine gt_X6_now hX dX6_fewestBumps_220 ?_
                                      refine g_bipush hX 7 dX6_fewestBumps_223 (by decide) ?_
                                      refine g_ialdN (k := 7) hX (ar_71 Z) (by decide) (by decide) dX6_fewestBumps_225 ?_
                                      refine g_top (nI (phN (mv b))) f71 ?_
                                      refine g_icmp_gt hX 272 dX6_fewestBumps_226 (by decide) (fun c226 => ?_) (fun c226 => ?_)
                                      · refine g_iinc_7 hX 1 dX6_fewestBumps_272 (by decide) rfl ?_
                                        refine g_goto hX 125 dX6_fewestBumps_275 (by decide) ?_
                                        exact g_weak (lvw_c (lvw_c (lvw_c (lvw_c (lvw_c (lvw_c (lvw_c (lvw_c (lvw_n (lvw_n (lvw_n lvw_nil))))))))))) (ih125 _ _ ⟨⟨hO3.1, by rw [tB_min, if_neg (bI_z.mp c212), if_neg (fun z => nI_nlt z (by omega) c226)]; exact hO3.2.1, fun _ => hsp⟩, by simp only [nI_succ]⟩)
                                      · have h2e : 2 * (eI ((h : Int) - 8 + (stp (mv b) l i)) k).natAbs ≤ phN (mv b) := by
                                          rcases Nat.lt_or_ge (phN (mv b)) (2 * (eI ((h : Int) - 8 + (stp (mv b) l i)) k).natAbs) with q | q
                                          · exact absurd (nI_lt q (by omega)) c226
                                          · exact q
                                        have he3 : (eI ((h : Int) - 8 + (stp (mv b) l i)) k).natAbs ≤ 3 := by omega
                                        refine g_aload_0 hX dX6_fewestBumps_229 ?_
                                        refine gt_X6_fewest hX dX6_fewestBumps_230 ?_
                                        refine g_iload_5 hX dX6_fewestBumps_233 ?_
                                        refine g_ialdN (k := h) hX (ar_77 Z) (by omega) (by decide) dX6_fewestBumps_235 ?_
                                        refine g_top (nI ((tF (mv b) l i) ((h : Int) - 8))) f77 ?_
                                        refine g_iload_7 hX dX6_fewestBumps_236 ?_
                                        refine g_iadd hX dX6_fewestBumps_238 ?_
                                        refine g_top (nI (((tF (mv b) l i) ((h : Int) - 8)) + k)) (by rw [nI_add]) ?_
                                        refine g_aload_0 hX dX6_fewestBumps_239 ?_
                                        refine gt_X6_then hX dX6_fewestBumps_240 ?_
                                        refine g_iload_8 hX dX6_fewestBumps_243 ?_
                                        refine g_bipush hX 8 dX6_fewestBumps_245 (by decide) ?_
                                        refine g_iadd hX dX6_fewestBumps_247 ?_
                                        refine g_top (nI ((eI ((h : Int) - 8 + (stp (mv b) l i)) k) + 8).toNat) (by rw [show (8 : Int32) = zI 8 from rfl, zI_add, zI_nat (by omega)]) ?_
                                        refine g_ialdN (k := ((eI ((h : Int) - 8 + (stp (mv b) l i)) k) + 8).toNat) hX (ar_78 Z) (by omega) (by decide) dX6_fewestBumps_248 ?_
                                        refine g_top (nI ((tB (tX (tF (mv b) l i) (stp (mv b) l i) (roN (mv b) l i) (phN (mv b)) h) ((h : Int) - 8 + (stp (mv b) l i)) ((tF (mv b) l i) ((h : Int) - 8)) (phN (mv b)) (min k (((h : Int) - 8 + (stp (mv b) l i)).natAbs + 1))) (eI ((h : Int) - 8 + (stp (mv b) l i)) k))) (by rw [hO3.2.1 _ (by omega), show (((eI ((h : Int) - 8 + (stp (mv b) l i)) k) + 8).toNat : Int) - 8 = (eI ((h : Int) - 8 + (stp (mv b) l i)) k) by omega]) ?_
                                        refine g_icmp_ge hX 272 dX6_fewestBumps_249 (by decide) (fun c249 => ?_) (fun c249 => ?_)
                                        · refine g_iinc_7 hX 1 dX6_fewestBumps_272 (by decide) rfl ?_
                                          refine g_goto hX 125 dX6_fewestBumps_275 (by decide) ?_
                                          exact g_weak (lvw_c (lvw_c (lvw_c (lvw_c (lvw_c (lvw_c (lvw_c (lvw_c (lvw_n (lvw_n (lvw_n lvw_nil))))))))))) (ih125 _ _ ⟨⟨hO3.1, by rw [tB_min, if_neg (bI_z.mp c212), if_pos h2e]; exact Rm_st hO3.2.1 (fun z => c249 (nI_lt z (Nat.lt_of_le_of_lt hTe (by decide)))), fun _ => hsp⟩, by simp only [nI_succ]⟩)
                                        · refine g_aload_0 hX dX6_fewestBumps_252 ?_
                                          refine gt_X6_then hX dX6_fewestBumps_253 ?_
                                          refine g_iload_8 hX dX6_fewestBumps_256 ?_
                                          refine g_bipush hX 8 dX6_fewestBumps_258 (by decide) ?_
                                          refine g_iadd hX dX6_fewestBumps_260 ?_
                                          refine g_top (nI ((eI ((h : Int) - 8 + (stp (mv b) l i)) k) + 8).toNat) (by rw [show (8 : Int32) = zI 8 from rfl, zI_add, zI_nat (by omega)]) ?_
                                          refine g_aload_0 hX dX6_fewestBumps_261 ?_
                                          refine gt_X6_fewest hX dX6_fewestBumps_262 ?_
                                          refine g_iload_5 hX dX6_fewestBumps_265 ?_
                                          refine g_ialdN (k := h) hX (ar_77 Z) (by omega) (by decide) dX6_fewestBumps_267 ?_
                                          refine g_top (nI ((tF (mv b) l i) ((h : Int) - 8))) f77 ?_
                                          refine g_iload_7 hX dX6_fewestBumps_268 ?_
                                          refine g_iadd hX dX6_fewestBumps_270 ?_
                                          refine g_top (nI (((tF (mv b) l i) ((h : Int) - 8)) + k)) (by rw [nI_add]) ?_
                                          refine g_iastN (k := ((eI ((h : Int) - 8 + (stp (mv b) l i)) k) + 8).toNat) hX (ar_78 Z) (by omega) (by decide) dX6_fewestBumps_271 ?_
                                          refine g_iinc_7 hX 1 dX6_fewestBumps_272 (by decide) rfl ?_
                                          refine g_goto hX 125 dX6_fewestBumps_275 (by decide) ?_
                                          exact g_weak (lvw_c (lvw_c (lvw_c (lvw_c (lvw_c (lvw_c (lvw_c (lvw_c (lvw_n (lvw_n (lvw_n lvw_nil))))))))))) (ih125 _ _ ⟨⟨fun j hj => by rw [u2c _ _ hj]; exact hO3.1 j hj, by rw [tB_min, if_neg (bI_z.mp c212), if_pos h2e]; exact Rm_up hO3.2.1 he3 ((nI_ltI (by omega) (Nat.lt_of_le_of_lt hTe (by decide))).mp c249), fun _ => hsp⟩, by simp only [nI_succ]⟩)
                            · refine g_iload_6 hX dX6_fewestBumps_150 ?_
                              refine g_iload_7 hX dX6_fewestBumps_152 ?_
                              refine g_isub hX dX6_fewestBumps_154 ?_
                              refine g_goto hX 163 dX6_fewestBumps_155 (by decide) ?_
                              refine g_top (zI (eI ((h : Int) - 8 + (stp (mv b) l i)) k)) (by first | (rw [eI, if_pos (hpos.mp c147), nI_z, zI_sub]; done) | (rw [eI, if_neg (fun q => c147 (hpos.mpr q)), nI_z, zI_add]; done)) ?_
                              refine g_istore_8 hX dX6_fewestBumps_163 rfl ?_
                              refine g_iload_6 hX dX6_fewestBumps_165 ?_
                              refine g_if_le hX 183 dX6_fewestBumps_167 (by decide) (fun c167 => ?_) (fun c167 => ?_)
                              · refine g_iload_8 hX dX6_fewestBumps_183 ?_
                                refine g_if_le hX 192 dX6_fewestBumps_185 (by decide) (fun c185 => ?_) (fun c185 => ?_)
                                · refine g_iconst hX 0 dX6_fewestBumps_192 (by decide) ?_
                                  refine g_top (bI (((h : Int) - 8 + (stp (mv b) l i)).natAbs < k)) (by first | (rw [bI_t (by have := hpos.mp c167; have h9 : (eI ((h : Int) - 8 + (stp (mv b) l i)) k) < 0 := (zI_lt (b := 0) (by omega) (by omega)).mp c172; unfold eI at h9; rw [if_pos this] at h9; omega)]; done) | (rw [bI_f (by have := hpos.mp c167; have h9 : ¬ (eI ((h : Int) - 8 + (stp (mv b) l i)) k) < 0 := fun z => c172 ((zI_lt (b := 0) (by omega) (by omega)).mpr z); unfold eI at h9; rw [if_pos this] at h9; omega)]; done) | (rw [bI_t (by have : ¬ 0 < ((h : Int) - 8 + (stp (mv b) l i)) := fun z => c167 (hpos.mpr z); have h9 : 0 < (eI ((h : Int) - 8 + (stp (mv b) l i)) k) := (zI_lt (a := 0) (by omega) (by omega)).mp c185; unfold eI at h9; rw [if_neg this] at h9; omega)]; done) | (rw [bI_f (by have : ¬ 0 < ((h : Int) - 8 + (stp (mv b) l i)) := fun z => c167 (hpos.mpr z); have h9 : ¬ 0 < (eI ((h : Int) - 8 + (stp (mv b) l i)) k) := fun z => c185 ((zI_lt (a := 0) (by omega) (by omega)).mpr z); unfold eI at h9; rw [if_neg this] at h9; omega)]; done)) ?_
                                  refine g_istore_9 hX dX6_fewestBumps_193 rfl ?_
                                  refine g_iload_8 hX dX6_fewestBumps_195 ?_
                                  refine g_if_ge hX 206 dX6_fewestBumps_197 (by decide) (fun c197 => ?_) (fun c197 => ?_)
                                  · refine g_iload_8 hX dX6_fewestBumps_206 ?_
                                    refine g_top (nI (eI ((h : Int) - 8 + (stp (mv b) l i)) k).natAbs) (by first | exact (absN hei).1 c197 | exact (absN hei).2 c197) ?_
                                    refine g_istore_10 hX dX6_fewestBumps_208 rfl ?_
                                    refine g_iload_9 hX dX6_fewestBumps_210 ?_
                                    refine g_if_ne hX 272 dX6_fewestBumps_212 (by decide) (fun c212 => ?_) (fun c212 => ?_)
                                    · refine g_iinc_7 hX 1 dX6_fewestBumps_272 (by decide) rfl ?_
                                      refine g_goto hX 125 dX6_fewestBumps_275 (by decide) ?_
                                      exact g_weak (lvw_c (lvw_c (lvw_c (lvw_c (lvw_c (lvw_c (lvw_c (lvw_c (lvw_n (lvw_n (lvw_n lvw_nil))))))))))) (ih125 _ _ ⟨⟨hO3.1, by rw [tB_min, if_pos (bI_nz.mp c212)]; exact hO3.2.1, fun _ => hsp⟩, by simp only [nI_succ]⟩)
                                    · refine g_iconst hX 2 dX6_fewestBumps_215 (by decide) ?_
                                      refine g_iload_10 hX dX6_fewestBumps_216 ?_
                                      refine g_imul hX dX6_fewestBumps_218 ?_
                                      refine g_top (nI (2 * (eI ((h : Int) - 8 + (stp (mv b) l i)) k).natAbs)) (pk_mul 2 _) ?_
                                      refine g_aload_0 hX dX6_fewestBumps_219 ?_
                                      refine gt_X6_now hX dX6_fewestBumps_220 ?_
                                      refine g_bipush hX 7 dX6_fewestBumps_223 (by decide) ?_
                                      refine g_ialdN (k := 7) hX (ar_71 Z) (by decide) (by decide) dX6_fewestBumps_225 ?_
                                      refine g_top (nI (phN (mv b))) f71 ?_
                                      refine g_icmp_gt hX 272 dX6_fewestBumps_226 (by decide) (fun c226 => ?_) (fun c226 => ?_)
                                      · refine g_iinc_7 hX 1 dX6_fewestBumps_272 (by decide) rfl ?_
                                        refine g_goto hX 125 dX6_fewestBumps_275 (by decide) ?_
                                        exact g_weak (lvw_c (lvw_c (lvw_c (lvw_c (lvw_c (lvw_c (lvw_c (lvw_c (lvw_n (lvw_n (lvw_n lvw_nil))))))))))) (ih125 _ _ ⟨⟨hO3.1, by rw [tB_min, if_neg (bI_z.mp c212), if_neg (fun z => nI_nlt z (by omega) c226)]; exact hO3.2.1, fun _ => hsp⟩, by simp only [nI_succ]⟩)
                                      · have h2e : 2 * (eI ((h : Int) - 8 + (stp (mv b) l i)) k).natAbs ≤ phN (mv b) := by
                                          rcases Nat.lt_or_ge (phN (mv b)) (2 * (eI ((h : Int) - 8 + (stp (mv b) l i)) k).natAbs) with q | q
                                          · exact absurd (nI_lt q (by omega)) c226
                                          · exact q
                                        have he3 : (eI ((h : Int) - 8 + (stp (mv b) l i)) k).natAbs ≤ 3 := by omega
                                        refine g_aload_0 hX dX6_fewestBumps_229 ?_
                                        refine gt_X6_fewest hX dX6_fewestBumps_230 ?_
                                        refine g_iload_5 hX dX6_fewestBumps_233 ?_
                                        refine g_ialdN (k := h) hX (ar_77 Z) (by omega) (by decide) dX6_fewestBumps_235 ?_
                                        refine g_top (nI ((tF (mv b) l i) ((h : Int) - 8))) f77 ?_
                                        refine g_iload_7 hX dX6_fewestBumps_236 ?_
                                        refine g_iadd hX dX6_fewestBumps_238 ?_
                                        refine g_top (nI (((tF (mv b) l i) ((h : Int) - 8)) + k)) (by rw [nI_add]) ?_
                                        refine g_aload_0 hX dX6_fewestBumps_239 ?_
                                        refine gt_X6_then hX dX6_fewestBumps_240 ?_
                                        refine g_iload_8 hX dX6_fewestBumps_243 ?_
                                        refine g_bipush hX 8 dX6_fewestBumps_245 (by decide) ?_
                                        refine g_iadd hX dX6_fewestBumps_247 ?_
                                        refine g_top (nI ((eI ((h : Int) - 8 + (stp (mv b) l i)) k) + 8).toNat) (by rw [show (8 : Int32) = zI 8 from rfl, zI_add, zI_nat (by omega)]) ?_
                                        refine g_ialdN (k := ((eI ((h : Int) - 8 + (stp (mv b) l i)) k) + 8).toNat) hX (ar_78 Z) (by omega) (by decide) dX6_fewestBumps_248 ?_
                                        refine g_top (nI ((tB (tX (tF (mv b) l i) (stp (mv b) l i) (roN (mv b) l i) (phN (mv b)) h) ((h : Int) - 8 + (stp (mv b) l i)) ((tF (mv b) l i) ((h : Int) - 8)) (phN (mv b)) (min k (((h : Int) - 8 + (stp (mv b) l i)).natAbs + 1))) (eI ((h : Int) - 8 + (stp (mv b) l i)) k))) (by rw [hO3.2.1 _ (by omega), show (((eI ((h : Int) - 8 + (stp (mv b) l i)) k) + 8).toNat : Int) - 8 = (eI ((h : Int) - 8 + (stp (mv b) l i)) k) by omega]) ?_
                                        refine g_icmp_ge hX 272 dX6_fewestBumps_249 (by decide) (fun c249 => ?_) (fun c249 => ?_)
                                        · refine g_iinc_7 hX 1 dX6_fewestBumps_272 (by decide) rfl ?_
                                          refine g_goto hX 125 dX6_fewestBumps_275 (by decide) ?_
                                          exact g_weak (lvw_c (lvw_c (lvw_c (lvw_c (lvw_c (lvw_c (lvw_c (lvw_c (lvw_n (lvw_n (lvw_n lvw_nil))))))))))) (ih125 _ _ ⟨⟨hO3.1, by rw [tB_min, if_neg (bI_z.mp c212), if_pos h2e]; exact Rm_st hO3.2.1 (fun z => c249 (nI_lt z (Nat.lt_of_le_of_lt hTe (by decide)))), fun _ => hsp⟩, by simp only [nI_succ]⟩)
                                        · refine g_aload_0 hX dX6_fewestBumps_252 ?_
                                          refine gt_X6_then hX dX6_fewestBumps_253 ?_
                                          refine g_iload_8 hX dX6_fewestBumps_256 ?_
                                          refine g_bipush hX 8 dX6_fewestBumps_258 (by decide) ?_
                                          refine g_iadd hX dX6_fewestBumps_260 ?_
                                          refine g_top (nI ((eI ((h : Int) - 8 + (stp (mv b) l i)) k) + 8).toNat) (by rw [show (8 : Int32) = zI 8 from rfl, zI_add, zI_nat (by omega)]) ?_
                                          refine g_aload_0 hX dX6_fewestBumps_261 ?_
                                          refine gt_X6_fewest hX dX6_fewestBumps_262 ?_
                                          refine g_iload_5 hX dX6_fewestBumps_265 ?_
                                          refine g_ialdN (k := h) hX (ar_77 Z) (by omega) (by decide) dX6_fewestBumps_267 ?_
                                          refine g_top (nI ((tF (mv b) l i) ((h : Int) - 8))) f77 ?_
                                          refine g_iload_7 hX dX6_fewestBumps_268 ?_
                                          refine g_iadd hX dX6_fewestBumps_270 ?_
                                          refine g_top (nI (((tF (mv b) l i) ((h : Int) - 8)) + k)) (by rw [nI_add]) ?_
                                          refine g_iastN (k := ((eI ((h : Int) - 8 + (stp (mv b) l i)) k) + 8).toNat) hX (ar_78 Z) (by omega) (by decide) dX6_fewestBumps_271 ?_
                                          refine g_iinc_7 hX 1 dX6_fewestBumps_272 (by decide) rfl ?_
                                          refine g_goto hX 125 dX6_fewestBumps_275 (by decide) ?_
                                          exact g_weak (lvw_c (lvw_c (lvw_c (lvw_c (lvw_c (lvw_c (lvw_c (lvw_c (lvw_n (lvw_n (lvw_n lvw_nil))))))))))) (ih125 _ _ ⟨⟨fun j hj => by rw [u2c _ _ hj]; exact hO3.1 j hj, by rw [tB_min, if_neg (bI_z.mp c212), if_pos h2e]; exact Rm_up hO3.2.1 he3 ((nI_ltI (by omega) (Nat.lt_of_le_of_lt hTe (by decide))).mp c249), fun _ => hsp⟩, by simp only [nI_succ]⟩)
                                  · refine g_iload_8 hX dX6_fewestBumps_200 ?_
                                    refine g_ineg hX dX6_fewestBumps_202 ?_
                                    refine g_goto hX 208 dX6_fewestBumps_203 (by decide) ?_
                                    refine g_top (nI (eI ((h : Int) - 8 + (stp (mv b) l i)) k).natAbs) (by first | exact (absN hei).1 c197 | exact (absN hei).2 c197) ?_
                                    refine g_istore_10 hX dX6_fewestBumps_208 rfl ?_
                                    refine g_iload_9 hX dX6_fewestBumps_210 ?_
                                    refine g_if_ne hX 272 dX6_fewestBumps_212 (by decide) (fun c212 => ?_) (fun c212 => ?_)
                                    · refine g_iinc_7 hX 1 dX6_fewestBumps_272 (by decide) rfl ?_
                                      refine g_goto hX 125 dX6_fewestBumps_275 (by decide) ?_
                                      exact g_weak (lvw_c (lvw_c (lvw_c (lvw_c (lvw_c (lvw_c (lvw_c (lvw_c (lvw_n (lvw_n (lvw_n lvw_nil))))))))))) (ih125 _ _ ⟨⟨hO3.1, by rw [tB_min, if_pos (bI_nz.mp c212)]; exact hO3.2.1, fun _ => hsp⟩, by simp only [nI_succ]⟩)
                                    · refine g_iconst hX 2 dX6_fewestBumps_215 (by decide) ?_
                                      refine g_iload_10 hX dX6_fewestBumps_216 ?_
                                      refine g_imul hX dX6_fewestBumps_218 ?_
                                      refine g_top (nI (2 * (eI ((h : Int) - 8 + (stp (mv b) l i)) k).natAbs)) (pk_mul 2 _) ?_
                                      refine g_aload_0 hX dX6_fewestBumps_219 ?_
                                      refine gt_X6_now hX dX6_fewestBumps_220 ?_
                                      refine g_bipush hX 7 dX6_fewestBumps_223 (by decide) ?_
                                      refine g_ialdN (k := 7) hX (ar_71 Z) (by decide) (by decide) dX6_fewestBumps_225 ?_
                                      refine g_top (nI (phN (mv b))) f71 ?_
                                      refine g_icmp_gt hX 272 dX6_fewestBumps_226 (by decide) (fun c226 => ?_) (fun c226 => ?_)
                                      · refine g_iinc_7 hX 1 dX6_fewestBumps_272 (by decide) rfl ?_
                                        refine g_goto hX 125 dX6_fewestBumps_275 (by decide) ?_
                                        exact g_weak (lvw_c (lvw_c (lvw_c (lvw_c (lvw_c (lvw_c (lvw_c (lvw_c (lvw_n (lvw_n (lvw_n lvw_nil))))))))))) (ih125 _ _ ⟨⟨hO3.1, by rw [tB_min, if_neg (bI_z.mp c212), if_neg (fun z => nI_nlt z (by omega) c226)]; exact hO3.2.1, fun _ => hsp⟩, by simp only [nI_succ]⟩)
                                      · have h2e : 2 * (eI ((h : Int) - 8 + (stp (mv b) l i)) k).natAbs ≤ phN (mv b) := by
                                          rcases Nat.lt_or_ge (phN (mv b)) (2 * (eI ((h : Int) - 8 + (stp (mv b) l i)) k).natAbs) with q | q
                                          · exact absurd (nI_lt q (by omega)) c226
                                          · exact q
                                        have he3 : (eI ((h : Int) - 8 + (stp (mv b) l i)) k).natAbs ≤ 3 := by omega
                                        refine g_aload_0 hX dX6_fewestBumps_229 ?_
                                        refine gt_X6_fewest hX dX6_fewestBumps_230 ?_
                                        refine g_iload_5 hX dX6_fewestBumps_233 ?_
                                        refine g_ialdN (k := h) hX (ar_77 Z) (by omega) (by decide) dX6_fewestBumps_235 ?_
                                        refine g_top (nI ((tF (mv b) l i) ((h : Int) - 8))) f77 ?_
                                        refine g_iload_7 hX dX6_fewestBumps_236 ?_
                                        refine g_iadd hX dX6_fewestBumps_238 ?_
                                        refine g_top (nI (((tF (mv b) l i) ((h : Int) - 8)) + k)) (by rw [nI_add]) ?_
                                        refine g_aload_0 hX dX6_fewestBumps_239 ?_
                                        refine gt_X6_then hX dX6_fewestBumps_240 ?_
                                        refine g_iload_8 hX dX6_fewestBumps_243 ?_
                                        refine g_bipush hX 8 dX6_fewestBumps_245 (by decide) ?_
                                        refine g_iadd hX dX6_fewestBumps_247 ?_
                                        refine g_top (nI ((eI ((h : Int) - 8 + (stp (mv b) l i)) k) + 8).toNat) (by rw [show (8 : Int32) = zI 8 from rfl, zI_add, zI_nat (by omega)]) ?_
                                        refine g_ialdN (k := ((eI ((h : Int) - 8 + (stp (mv b) l i)) k) + 8).toNat) hX (ar_78 Z) (by omega) (by decide) dX6_fewestBumps_248 ?_
                                        refine g_top (nI ((tB (tX (tF (mv b) l i) (stp (mv b) l i) (roN (mv b) l i) (phN (mv b)) h) ((h : Int) - 8 + (stp (mv b) l i)) ((tF (mv b) l i) ((h : Int) - 8)) (phN (mv b)) (min k (((h : Int) - 8 + (stp (mv b) l i)).natAbs + 1))) (eI ((h : Int) - 8 + (stp (mv b) l i)) k))) (by rw [hO3.2.1 _ (by omega), show (((eI ((h : Int) - 8 + (stp (mv b) l i)) k) + 8).toNat : Int) - 8 = (eI ((h : Int) - 8 + (stp (mv b) l i)) k) by omega]) ?_
                                        refine g_icmp_ge hX 272 dX6_fewestBumps_249 (by decide) (fun c249 => ?_) (fun c249 => ?_)
                                        · refine g_iinc_7 hX 1 dX6_fewestBumps_272 (by decide) rfl ?_
                                          refine g_goto hX 125 dX6_fewestBumps_275 (by decide) ?_
                                          exact g_weak (lvw_c (lvw_c (lvw_c (lvw_c (lvw_c (lvw_c (lvw_c (lvw_c (lvw_n (lvw_n (lvw_n lvw_nil))))))))))) (ih125 _ _ ⟨⟨hO3.1, by rw [tB_min, if_neg (bI_z.mp c212), if_pos h2e]; exact Rm_st hO3.2.1 (fun z => c249 (nI_lt z (Nat.lt_of_le_of_lt hTe (by decide)))), fun _ => hsp⟩, by simp only [nI_succ]⟩)
                                        · refine g_aload_0 hX dX6_fewestBumps_252 ?_
                                          refine gt_X6_then hX dX6_fewestBumps_253 ?_
                                          refine g_iload_8 hX dX6_fewestBumps_256 ?_
                                          refine g_bipush hX 8 dX6_fewestBumps_258 (by decide) ?_
                                          refine g_iadd hX dX6_fewestBumps_260 ?_
                                          refine g_top (nI ((eI ((h : Int) - 8 + (stp (mv b) l i)) k) + 8).toNat) (by rw [show (8 : Int32) = zI 8 from rfl, zI_add, zI_nat (by omega)]) ?_
                                          refine g_aload_0 hX dX6_fewestBumps_261 ?_
                                          refine gt_X6_fewest hX dX6_fewestBumps_262 ?_
                                          refine g_iload_5 hX dX6_fewestBumps_265 ?_
                                          refine g_ialdN (k := h) hX (ar_77 Z) (by omega) (by decide) dX6_fewestBumps_267 ?_
                                          refine g_top (nI ((tF (mv b) l i) ((h : Int) - 8))) f77 ?_
                                          refine g_iload_7 hX dX6_fewestBumps_268 ?_
                                          refine g_iadd hX dX6_fewestBumps_270 ?_
                                          refine g_top (nI (((tF (mv b) l i) ((h : Int) - 8)) + k)) (by rw [nI_add]) ?_
                                          refine g_iastN (k := ((eI ((h : Int) - 8 + (stp (mv b) l i)) k) + 8).toNat) hX (ar_78 Z) (by omega) (by decide) dX6_fewestBumps_271 ?_
                                          refine g_iinc_7 hX 1 dX6_fewestBumps_272 (by decide) rfl ?_
                                          refine g_goto hX 125 dX6_fewestBumps_275 (by decide) ?_
                                          exact g_weak (lvw_c (lvw_c (lvw_c (lvw_c (lvw_c (lvw_c (lvw_c (lvw_c (lvw_n (lvw_n (lvw_n lvw_nil))))))))))) (ih125 _ _ ⟨⟨fun j hj => by rw [u2c _ _ hj]; exact hO3.1 j hj, by rw [tB_min, if_neg (bI_z.mp c212), if_pos h2e]; exact Rm_up hO3.2.1 he3 ((nI_ltI (by omega) (Nat.lt_of_le_of_lt hTe (by decide))).mp c249), fun _ => hsp⟩, by simp only [nI_succ]⟩)
                                · refine g_iconst hX 1 dX6_fewestBumps_188 (by decide) ?_
                                  refine g_goto hX 193 dX6_fewestBumps_189 (by decide) ?_
                                  refine g_top (bI (((h : Int) - 8 + (stp (mv b) l i)).natAbs < k)) (by first | (rw [bI_t (by have := hpos.mp c167; have h9 : (eI ((h : Int) - 8 + (stp (mv b) l i)) k) < 0 := (zI_lt (b := 0) (by omega) (by omega)).mp c172; unfold eI at h9; rw [if_pos this] at h9; omega)]; done) | (rw [bI_f (by have := hpos.mp c167; have h9 : ¬ (eI ((h : Int) - 8 + (stp (mv b) l i)) k) < 0 := fun z => c172 ((zI_lt (b := 0) (by omega) (by omega)).mpr z); unfold eI at h9; rw [if_pos this] at h9; omega)]; done) | (rw [bI_t (by have : ¬ 0 < ((h : Int) - 8 + (stp (mv b) l i)) := fun z => c167 (hpos.mpr z); have h9 : 0 < (eI ((h : Int) - 8 + (stp (mv b) l i)) k) := (zI_lt (a := 0) (by omega) (by omega)).mp c185; unfold eI at h9; rw [if_neg this] at h9; omega)]; done) | (rw [bI_f (by have : ¬ 0 < ((h : Int) - 8 + (stp (mv b) l i)) := fun z => c167 (hpos.mpr z); have h9 : ¬ 0 < (eI ((h : Int) - 8 + (stp (mv b) l i)) k) := fun z => c185 ((zI_lt (a := 0) (by omega) (by omega)).mpr z); unfold eI at h9; rw [if_neg this] at h9; omega)]; done)) ?_
                                  refine g_istore_9 hX dX6_fewestBumps_193 rfl ?_
                                  refine g_iload_8 hX dX6_fewestBumps_195 ?_
                                  refine g_if_ge hX 206 dX6_fewestBumps_197 (by decide) (fun c197 => ?_) (fun c197 => ?_)
                                  · refine g_iload_8 hX dX6_fewestBumps_206 ?_
                                    refine g_top (nI (eI ((h : Int) - 8 + (stp (mv b) l i)) k).natAbs) (by first | exact (absN hei).1 c197 | exact (absN hei).2 c197) ?_
                                    refine g_istore_10 hX dX6_fewestBumps_208 rfl ?_
                                    refine g_iload_9 hX dX6_fewestBumps_210 ?_
                                    refine g_if_ne hX 272 dX6_fewestBumps_212 (by decide) (fun c212 => ?_) (fun c212 => ?_)
                                    · refine g_iinc_7 hX 1 dX6_fewestBumps_272 (by decide) rfl ?_
                                      refine g_goto hX 125 dX6_fewestBumps_275 (by decide) ?_
                                      exact g_weak (lvw_c (lvw_c (lvw_c (lvw_c (lvw_c (lvw_c (lvw_c (lvw_c (lvw_n (lvw_n (lvw_n lvw_nil))))))))))) (ih125 _ _ ⟨⟨hO3.1, by rw [tB_min, if_pos (bI_nz.mp c212)]; exact hO3.2.1, fun _ => hsp⟩, by simp only [nI_succ]⟩)
                                    · refine g_iconst hX 2 dX6_fewestBumps_215 (by decide) ?_
                                      refine g_iload_10 hX dX6_fewestBumps_216 ?_
                                      refine g_imul hX dX6_fewestBumps_218 ?_
                                      refine g_top (nI (2 * (eI ((h : Int) - 8 + (stp (mv b) l i)) k).natAbs)) (pk_mul 2 _) ?_
                                      refine g_aload_0 hX dX6_fewestBumps_219 ?_
                                      refine gt_X6_now hX dX6_fewestBumps_220 ?_
                                      refine g_bipush hX 7 dX6_fewestBumps_223 (by decide) ?_
                                      refine g_ialdN (k := 7) hX (ar_71 Z) (by decide) (by decide) dX6_fewestBumps_225 ?_
                                      refine g_top (nI (phN (mv b))) f71 ?_
                                      refine g_icmp_gt hX 272 dX6_fewestBumps_226 (by decide) (fun c226 => ?_) (fun c226 => ?_)
                                      · refine g_iinc_7 hX 1 dX6_fewestBumps_272 (by decide) rfl ?_
                                        refine g_goto hX 125 dX6_fewestBumps_275 (by decide) ?_
                                        exact g_weak (lvw_c (lvw_c (lvw_c (lvw_c (lvw_c (lvw_c (lvw_c (lvw_c (lvw_n (lvw_n (lvw_n lvw_nil))))))))))) (ih125 _ _ ⟨⟨hO3.1, by rw [tB_min, if_neg (bI_z.mp c212), if_neg (fun z => nI_nlt z (by omega) c226)]; exact hO3.2.1, fun _ => hsp⟩, by simp only [nI_succ]⟩)
                                      · have h2e : 2 * (eI ((h : Int) - 8 + (stp (mv b) l i)) k).natAbs ≤ phN (mv b) := by
                                          rcases Nat.lt_or_ge (phN (mv b)) (2 * (eI ((h : Int) - 8 + (stp (mv b) l i)) k).natAbs) with q | q
                                          · exact absurd (nI_lt q (by omega)) c226
                                          · exact q
                                        have he3 : (eI ((h : Int) - 8 + (stp (mv b) l i)) k).natAbs ≤ 3 := by omega
                                        refine g_aload_0 hX dX6_fewestBumps_229 ?_
                                        refine gt_X6_fewest hX dX6_fewestBumps_230 ?_
                                        refine g_iload_5 hX dX6_fewestBumps_233 ?_
                                        refine g_ialdN (k := h) hX (ar_77 Z) (by omega) (by decide) dX6_fewestBumps_235 ?_
                                        refine g_top (nI ((tF (mv b) l i) ((h : Int) - 8))) f77 ?_
                                        refine g_iload_7 hX dX6_fewestBumps_236 ?_
                                        refine g_iadd hX dX6_fewestBumps_238 ?_
                                        refine g_top (nI (((tF (mv b) l i) ((h : Int) - 8)) + k)) (by rw [nI_add]) ?_
                                        refine g_aload_0 hX dX6_fewestBumps_239 ?_
                                        refine gt_X6_then hX dX6_fewestBumps_240 ?_
                                        refine g_iload_8 hX dX6_fewestBumps_243 ?_
                                        refine g_bipush hX 8 dX6_fewestBumps_245 (by decide) ?_
                                        refine g_iadd hX dX6_fewestBumps_247 ?_
                                        refine g_top (nI ((eI ((h : Int) - 8 + (stp (mv b) l i)) k) + 8).toNat) (by rw [show (8 : Int32) = zI 8 from rfl, zI_add, zI_nat (by omega)]) ?_
                                        refine g_ialdN (k := ((eI ((h : Int) - 8 + (stp (mv b) l i)) k) + 8).toNat) hX (ar_78 Z) (by omega) (by decide) dX6_fewestBumps_248 ?_
                                        refine g_top (nI ((tB (tX (tF (mv b) l i) (stp (mv b) l i) (roN (mv b) l i) (phN (mv b)) h) ((h : Int) - 8 + (stp (mv b) l i)) ((tF (mv b) l i) ((h : Int) - 8)) (phN (mv b)) (min k (((h : Int) - 8 + (stp (mv b) l i)).natAbs + 1))) (eI ((h : Int) - 8 + (stp (mv b) l i)) k))) (by rw [hO3.2.1 _ (by omega), show (((eI ((h : Int) - 8 + (stp (mv b) l i)) k) + 8).toNat : Int) - 8 = (eI ((h : Int) - 8 + (stp (mv b) l i)) k) by omega]) ?_
                                        refine g_icmp_ge hX 272 dX6_fewestBumps_249 (by decide) (fun c249 => ?_) (fun c249 => ?_)
                                        · refine g_iinc_7 hX 1 dX6_fewestBumps_272 (by decide) rfl ?_
                                          refine g_goto hX 125 dX6_fewestBumps_275 (by decide) ?_
                                          exact g_weak (lvw_c (lvw_c (lvw_c (lvw_c (lvw_c (lvw_c (lvw_c (lvw_c (lvw_n (lvw_n (lvw_n lvw_nil))))))))))) (ih125 _ _ ⟨⟨hO3.1, by rw [tB_min, if_neg (bI_z.mp c212), if_pos h2e]; exact Rm_st hO3.2.1 (fun z => c249 (nI_lt z (Nat.lt_of_le_of_lt hTe (by decide)))), fun _ => hsp⟩, by simp only [nI_succ]⟩)
                                        · refine g_aload_0 hX dX6_fewestBumps_252 ?_
                                          refine gt_X6_then hX dX6_fewestBumps_253 ?_
                                          refine g_iload_8 hX dX6_fewestBumps_256 ?_
                                          refine g_bipush hX 8 dX6_fewestBumps_258 (by decide) ?_
                                          refine g_iadd hX dX6_fewestBumps_260 ?_
                                          refine g_top (nI ((eI ((h : Int) - 8 + (stp (mv b) l i)) k) + 8).toNat) (by rw [show (8 : Int32) = zI 8 from rfl, zI_add, zI_nat (by omega)]) ?_
                                          refine g_aload_0 hX dX6_fewestBumps_261 ?_
                                          refine gt_X6_fewest hX dX6_fewestBumps_262 ?_
                                          refine g_iload_5 hX dX6_fewestBumps_265 ?_
                                          refine g_ialdN (k := h) hX (ar_77 Z) (by omega) (by decide) dX6_fewestBumps_267 ?_
                                          refine g_top (nI ((tF (mv b) l i) ((h : Int) - 8))) f77 ?_
                                          refine g_iload_7 hX dX6_fewestBumps_268 ?_
                                          refine g_iadd hX dX6_fewestBumps_270 ?_
                                          refine g_top (nI (((tF (mv b) l i) ((h : Int) - 8)) + k)) (by rw [nI_add]) ?_
                                          refine g_iastN (k := ((eI ((h : Int) - 8 + (stp (mv b) l i)) k) + 8).toNat) hX (ar_78 Z) (by omega) (by decide) dX6_fewestBumps_271 ?_
                                          refine g_iinc_7 hX 1 dX6_fewestBumps_272 (by decide) rfl ?_
                                          refine g_goto hX 125 dX6_fewestBumps_275 (by decide) ?_
                                          exact g_weak (lvw_c (lvw_c (lvw_c (lvw_c (lvw_c (lvw_c (lvw_c (lvw_c (lvw_n (lvw_n (lvw_n lvw_nil))))))))))) (ih125 _ _ ⟨⟨fun j hj => by rw [u2c _ _ hj]; exact hO3.1 j hj, by rw [tB_min, if_neg (bI_z.mp c212), if_pos h2e]; exact Rm_up hO3.2.1 he3 ((nI_ltI (by omega) (Nat.lt_of_le_of_lt hTe (by decide))).mp c249), fun _ => hsp⟩, by simp only [nI_succ]⟩)
                                  · refine g_iload_8 hX dX6_fewestBumps_200 ?_
                                    refine g_ineg hX dX6_fewestBumps_202 ?_
                                    refine g_goto hX 208 dX6_fewestBumps_203 (by decide) ?_
                                    refine g_top (nI (eI ((h : Int) - 8 + (stp (mv b) l i)) k).natAbs) (by first | exact (absN hei).1 c197 | exact (absN hei).2 c197) ?_
                                    refine g_istore_10 hX dX6_fewestBumps_208 rfl ?_
                                    refine g_iload_9 hX dX6_fewestBumps_210 ?_
                                    refine g_if_ne hX 272 dX6_fewestBumps_212 (by decide) (fun c212 => ?_) (fun c212 => ?_)
                                    · refine g_iinc_7 hX 1 dX6_fewestBumps_272 (by decide) rfl ?_
                                      refine g_goto hX 125 dX6_fewestBumps_275 (by decide) ?_
                                      exact g_weak (lvw_c (lvw_c (lvw_c (lvw_c (lvw_c (lvw_c (lvw_c (lvw_c (lvw_n (lvw_n (lvw_n lvw_nil))))))))))) (ih125 _ _ ⟨⟨hO3.1, by rw [tB_min, if_pos (bI_nz.mp c212)]; exact hO3.2.1, fun _ => hsp⟩, by simp only [nI_succ]⟩)
                                    · refine g_iconst hX 2 dX6_fewestBumps_215 (by decide) ?_
                                      refine g_iload_10 hX dX6_fewestBumps_216 ?_
                                      refine g_imul hX dX6_fewestBumps_218 ?_
                                      refine g_top (nI (2 * (eI ((h : Int) - 8 + (stp (mv b) l i)) k).natAbs)) (pk_mul 2 _) ?_
                                      refine g_aload_0 hX dX6_fewestBumps_219 ?_
                                      refine gt_X6_now hX dX6_fewestBumps_220 ?_
                                      refine g_bipush hX 7 dX6_fewestBumps_223 (by decide) ?_
                                      refine g_ialdN (k := 7) hX (ar_71 Z) (by decide) (by decide) dX6_fewestBumps_225 ?_
                                      refine g_top (nI (phN (mv b))) f71 ?_
                                      refine g_icmp_gt hX 272 dX6_fewestBumps_226 (by decide) (fun c226 => ?_) (fun c226 => ?_)
                                      · refine g_iinc_7 hX 1 dX6_fewestBumps_272 (by decide) rfl ?_
                                        refine g_goto hX 125 dX6_fewestBumps_275 (by decide) ?_
                                        exact g_weak (lvw_c (lvw_c (lvw_c (lvw_c (lvw_c (lvw_c (lvw_c (lvw_c (lvw_n (lvw_n (lvw_n lvw_nil))))))))))) (ih125 _ _ ⟨⟨hO3.1, by rw [tB_min, if_neg (bI_z.mp c212), if_neg (fun z => nI_nlt z (by omega) c226)]; exact hO3.2.1, fun _ => hsp⟩, by simp only [nI_succ]⟩)
                                      · have h2e : 2 * (eI ((h : Int) - 8 + (stp (mv b) l i)) k).natAbs ≤ phN (mv b) := by
                                          rcases Nat.lt_or_ge (phN (mv b)) (2 * (eI ((h : Int) - 8 + (stp (mv b) l i)) k).natAbs) with q | q
                                          · exact absurd (nI_lt q (by omega)) c226
                                          · exact q
                                        have he3 : (eI ((h : Int) - 8 + (stp (mv b) l i)) k).natAbs ≤ 3 := by omega
                                        refine g_aload_0 hX dX6_fewestBumps_229 ?_
                                        refine gt_X6_fewest hX dX6_fewestBumps_230 ?_
                                        refine g_iload_5 hX dX6_fewestBumps_233 ?_
                                        refine g_ialdN (k := h) hX (ar_77 Z) (by omega) (by decide) dX6_fewestBumps_235 ?_
                                        refine g_top (nI ((tF (mv b) l i) ((h : Int) - 8))) f77 ?_
                                        refine g_iload_7 hX dX6_fewestBumps_236 ?_
                                        refine g_iadd hX dX6_fewestBumps_238 ?_
                                        refine g_top (nI (((tF (mv b) l i) ((h : Int) - 8)) + k)) (by rw [nI_add]) ?_
                                        refine g_aload_0 hX dX6_fewestBumps_239 ?_
                                        refine gt_X6_then hX dX6_fewestBumps_240 ?_
                                        refine g_iload_8 hX dX6_fewestBumps_243 ?_
                                        refine g_bipush hX 8 dX6_fewestBumps_245 (by decide) ?_
                                        refine g_iadd hX dX6_fewestBumps_247 ?_
                                        refine g_top (nI ((eI ((h : Int) - 8 + (stp (mv b) l i)) k) + 8).toNat) (by rw [show (8 : Int32) = zI 8 from rfl, zI_add, zI_nat (by omega)]) ?_
                                        refine g_ialdN (k := ((eI ((h : Int) - 8 + (stp (mv b) l i)) k) + 8).toNat) hX (ar_78 Z) (by omega) (by decide) dX6_fewestBumps_248 ?_
                                        refine g_top (nI ((tB (tX (tF (mv b) l i) (stp (mv b) l i) (roN (mv b) l i) (phN (mv b)) h) ((h : Int) - 8 + (stp (mv b) l i)) ((tF (mv b) l i) ((h : Int) - 8)) (phN (mv b)) (min k (((h : Int) - 8 + (stp (mv b) l i)).natAbs + 1))) (eI ((h : Int) - 8 + (stp (mv b) l i)) k))) (by rw [hO3.2.1 _ (by omega), show (((eI ((h : Int) - 8 + (stp (mv b) l i)) k) + 8).toNat : Int) - 8 = (eI ((h : Int) - 8 + (stp (mv b) l i)) k) by omega]) ?_
                                        refine g_icmp_ge hX 272 dX6_fewestBumps_249 (by decide) (fun c249 => ?_) (fun c249 => ?_)
                                        · refine g_iinc_7 hX 1 dX6_fewestBumps_272 (by decide) rfl ?_
                                          refine g_goto hX 125 dX6_fewestBumps_275 (by decide) ?_
                                          exact g_weak (lvw_c (lvw_c (lvw_c (lvw_c (lvw_c (lvw_c (lvw_c (lvw_c (lvw_n (lvw_n (lvw_n lvw_nil))))))))))) (ih125 _ _ ⟨⟨hO3.1, by rw [tB_min, if_neg (bI_z.mp c212), if_pos h2e]; exact Rm_st hO3.2.1 (fun z => c249 (nI_lt z (Nat.lt_of_le_of_lt hTe (by decide)))), fun _ => hsp⟩, by simp only [nI_succ]⟩)
                                        · refine g_aload_0 hX dX6_fewestBumps_252 ?_
                                          refine gt_X6_then hX dX6_fewestBumps_253 ?_
                                          refine g_iload_8 hX dX6_fewestBumps_256 ?_
                                          refine g_bipush hX 8 dX6_fewestBumps_258 (by decide) ?_
                                          refine g_iadd hX dX6_fewestBumps_260 ?_
                                          refine g_top (nI ((eI ((h : Int) - 8 + (stp (mv b) l i)) k) + 8).toNat) (by rw [show (8 : Int32) = zI 8 from rfl, zI_add, zI_nat (by omega)]) ?_
                                          refine g_aload_0 hX dX6_fewestBumps_261 ?_
                                          refine gt_X6_fewest hX dX6_fewestBumps_262 ?_
                                          refine g_iload_5 hX dX6_fewestBumps_265 ?_
                                          refine g_ialdN (k := h) hX (ar_77 Z) (by omega) (by decide) dX6_fewestBumps_267 ?_
                                          refine g_top (nI ((tF (mv b) l i) ((h : Int) - 8))) f77 ?_
                                          refine g_iload_7 hX dX6_fewestBumps_268 ?_
                                          refine g_iadd hX dX6_fewestBumps_270 ?_
                                          refine g_top (nI (((tF (mv b) l i) ((h : Int) - 8)) + k)) (by rw [nI_add]) ?_
                                          refine g_iastN (k := ((eI ((h : Int) - 8 + (stp (mv b) l i)) k) + 8).toNat) hX (ar_78 Z) (by omega) (by decide) dX6_fewestBumps_271 ?_
                                          refine g_iinc_7 hX 1 dX6_fewestBumps_272 (by decide) rfl ?_
                                          refine g_goto hX 125 dX6_fewestBumps_275 (by decide) ?_
                                          exact g_weak (lvw_c (lvw_c (lvw_c (lvw_c (lvw_c (lvw_c (lvw_c (lvw_c (lvw_n (lvw_n (lvw_n lvw_nil))))))))))) (ih125 _ _ ⟨⟨fun j hj => by rw [u2c _ _ hj]; exact hO3.1 j hj, by rw [tB_min, if_neg (bI_z.mp c212), if_pos h2e]; exact Rm_up hO3.2.1 he3 ((nI_ltI (by omega) (Nat.lt_of_le_of_lt hTe (by decide))).mp c249), fun _ => hsp⟩, by simp only [nI_succ]⟩)
                              · refine g_iload_8 hX dX6_fewestBumps_170 ?_
                                refine g_if_ge hX 179 dX6_fewestBumps_172 (by decide) (fun c172 => ?_) (fun c172 => ?_)
                                · refine g_iconst hX 0 dX6_fewestBumps_179 (by decide) ?_
                                  refine g_goto hX 193 dX6_fewestBumps_180 (by decide) ?_
                                  refine g_top (bI (((h : Int) - 8 + (stp (mv b) l i)).natAbs < k)) (by first | (rw [bI_t (by have := hpos.mp c167; have h9 : (eI ((h : Int) - 8 + (stp (mv b) l i)) k) < 0 := (zI_lt (b := 0) (by omega) (by omega)).mp c172; unfold eI at h9; rw [if_pos this] at h9; omega)]; done) | (rw [bI_f (by have := hpos.mp c167; have h9 : ¬ (eI ((h : Int) - 8 + (stp (mv b) l i)) k) < 0 := fun z => c172 ((zI_lt (b := 0) (by omega) (by omega)).mpr z); unfold eI at h9; rw [if_pos this] at h9; omega)]; done) | (rw [bI_t (by have : ¬ 0 < ((h : Int) - 8 + (stp (mv b) l i)) := fun z => c167 (hpos.mpr z); have h9 : 0 < (eI ((h : Int) - 8 + (stp (mv b) l i)) k) := (zI_lt (a := 0) (by omega) (by omega)).mp c185; unfold eI at h9; rw [if_neg this] at h9; omega)]; done) | (rw [bI_f (by have : ¬ 0 < ((h : Int) - 8 + (stp (mv b) l i)) := fun z => c167 (hpos.mpr z); have h9 : ¬ 0 < (eI ((h : Int) - 8 + (stp (mv b) l i)) k) := fun z => c185 ((zI_lt (a := 0) (by omega) (by omega)).mpr z); unfold eI at h9; rw [if_neg this] at h9; omega)]; done)) ?_
                                  refine g_istore_9 hX dX6_fewestBumps_193 rfl ?_
                                  refine g_iload_8 hX dX6_fewestBumps_195 ?_
                                  refine g_if_ge hX 206 dX6_fewestBumps_197 (by decide) (fun c197 => ?_) (fun c197 => ?_)
                                  · refine g_iload_8 hX dX6_fewestBumps_206 ?_
                                    refine g_top (nI (eI ((h : Int) - 8 + (stp (mv b) l i)) k).natAbs) (by first | exact (absN hei).1 c197 | exact (absN hei).2 c197) ?_
                                    refine g_istore_10 hX dX6_fewestBumps_208 rfl ?_
                                    refine g_iload_9 hX dX6_fewestBumps_210 ?_
                                    refine g_if_ne hX 272 dX6_fewestBumps_212 (by decide) (fun c212 => ?_) (fun c212 => ?_)
                                    · refine g_iinc_7 hX 1 dX6_fewestBumps_272 (by decide) rfl ?_
                                      refine g_goto hX 125 dX6_fewestBumps_275 (by decide) ?_
                                      exact g_weak (lvw_c (lvw_c (lvw_c (lvw_c (lvw_c (lvw_c (lvw_c (lvw_c (lvw_n (lvw_n (lvw_n lvw_nil))))))))))) (ih125 _ _ ⟨⟨hO3.1, by rw [tB_min, if_pos (bI_nz.mp c212)]; exact hO3.2.1, fun _ => hsp⟩, by simp only [nI_succ]⟩)
                                    · refine g_iconst hX 2 dX6_fewestBumps_215 (by decide) ?_
                                      refine g_iload_10 hX dX6_fewestBumps_216 ?_
                                      refine g_imul hX dX6_fewestBumps_218 ?_
                                      refine g_top (nI (2 * (eI ((h : Int) - 8 + (stp (mv b) l i)) k).natAbs)) (pk_mul 2 _) ?_
                                      refine g_aload_0 hX dX6_fewestBumps_219 ?_
                                      refine gt_X6_now hX dX6_fewestBumps_220 ?_
                                      refine g_bipush hX 7 dX6_fewestBumps_223 (by decide) ?_
                                      refine g_ialdN (k := 7) hX (ar_71 Z) (by decide) (by decide) dX6_fewestBumps_225 ?_
                                      refine g_top (nI (phN (mv b))) f71 ?_
                                      refine g_icmp_gt hX 272 dX6_fewestBumps_226 (by decide) (fun c226 => ?_) (fun c226 => ?_)
                                      · refine g_iinc_7 hX 1 dX6_fewestBumps_272 (by decide) rfl ?_
                                        refine g_goto hX 125 dX6_fewestBumps_275 (by decide) ?_
                                        exact g_weak (lvw_c (lvw_c (lvw_c (lvw_c (lvw_c (lvw_c (lvw_c (lvw_c (lvw_n (lvw_n (lvw_n lvw_nil))))))))))) (ih125 _ _ ⟨⟨hO3.1, by rw [tB_min, if_neg (bI_z.mp c212), if_neg (fun z => nI_nlt z (by omega) c226)]; exact hO3.2.1, fun _ => hsp⟩, by simp only [nI_succ]⟩)
                                      · have h2e : 2 * (eI ((h : Int) - 8 + (stp (mv b) l i)) k).natAbs ≤ phN (mv b) := by
                                          rcases Nat.lt_or_ge (phN (mv b)) (2 * (eI ((h : Int) - 8 + (stp (mv b) l i)) k).natAbs) with q | q
                                          · exact absurd (nI_lt q (by omega)) c226
                                          · exact q
                                        have he3 : (eI ((h : Int) - 8 + (stp (mv b) l i)) k).natAbs ≤ 3 := by omega
                                        refine g_aload_0 hX dX6_fewestBumps_229 ?_
                                        refine gt_X6_fewest hX dX6_fewestBumps_230 ?_
                                        refine g_iload_5 hX dX6_fewestBumps_233 ?_
                                        refine g_ialdN (k := h) hX (ar_77 Z) (by omega) (by decide) dX6_fewestBumps_235 ?_
                                        refine g_top (nI ((tF (mv b) l i) ((h : Int) - 8))) f77 ?_
                                        refine g_iload_7 hX dX6_fewestBumps_236 ?_
                                        refine g_iadd hX dX6_fewestBumps_238 ?_
                                        refine g_top (nI (((tF (mv b) l i) ((h : Int) - 8)) + k)) (by rw [nI_add]) ?_
                                        refine g_aload_0 hX dX6_fewestBumps_239 ?_
                                        refine gt_X6_then hX dX6_fewestBumps_240 ?_
                                        refine g_iload_8 hX dX6_fewestBumps_243 ?_
                                        refine g_bipush hX 8 dX6_fewestBumps_245 (by decide) ?_
                                        refine g_iadd hX dX6_fewestBumps_247 ?_
                                        refine g_top (nI ((eI ((h : Int) - 8 + (stp (mv b) l i)) k) + 8).toNat) (by rw [show (8 : Int32) = zI 8 from rfl, zI_add, zI_nat (by omega)]) ?_
                                        refine g_ialdN (k := ((eI ((h : Int) - 8 + (stp (mv b) l i)) k) + 8).toNat) hX (ar_78 Z) (by omega) (by decide) dX6_fewestBumps_248 ?_
                                        refine g_top (nI ((tB (tX (tF (mv b) l i) (stp (mv b) l i) (roN (mv b) l i) (phN (mv b)) h) ((h : Int) - 8 + (stp (mv b) l i)) ((tF (mv b) l i) ((h : Int) - 8)) (phN (mv b)) (min k (((h : Int) - 8 + (stp (mv b) l i)).natAbs + 1))) (eI ((h : Int) - 8 + (stp (mv b) l i)) k))) (by rw [hO3.2.1 _ (by omega), show (((eI ((h : Int) - 8 + (stp (mv b) l i)) k) + 8).toNat : Int) - 8 = (eI ((h : Int) - 8 + (stp (mv b) l i)) k) by omega]) ?_
                                        refine g_icmp_ge hX 272 dX6_fewestBumps_249 (by decide) (fun c249 => ?_) (fun c249 => ?_)
                                        · refine g_iinc_7 hX 1 dX6_fewestBumps_272 (by decide) rfl ?_
                                          refine g_goto hX 125 dX6_fewestBumps_275 (by decide) ?_
                                          exact g_weak (lvw_c (lvw_c (lvw_c (lvw_c (lvw_c (lvw_c (lvw_c (lvw_c (lvw_n (lvw_n (lvw_n lvw_nil))))))))))) (ih125 _ _ ⟨⟨hO3.1, by rw [tB_min, if_neg (bI_z.mp c212), if_pos h2e]; exact Rm_st hO3.2.1 (fun z => c249 (nI_lt z (Nat.lt_of_le_of_lt hTe (by decide)))), fun _ => hsp⟩, by simp only [nI_succ]⟩)
                                        · refine g_aload_0 hX dX6_fewestBumps_252 ?_
                                          refine gt_X6_then hX dX6_fewestBumps_253 ?_
                                          refine g_iload_8 hX dX6_fewestBumps_256 ?_
                                          refine g_bipush hX 8 dX6_fewestBumps_258 (by decide) ?_
                                          refine g_iadd hX dX6_fewestBumps_260 ?_
                                          refine g_top (nI ((eI ((h : Int) - 8 + (stp (mv b) l i)) k) + 8).toNat) (by rw [show (8 : Int32) = zI 8 from rfl, zI_add, zI_nat (by omega)]) ?_
                                          refine g_aload_0 hX dX6_fewestBumps_261 ?_
                                          refine gt_X6_fewest hX dX6_fewestBumps_262 ?_
                                          refine g_iload_5 hX dX6_fewestBumps_265 ?_
                                          refine g_ialdN (k := h) hX (ar_77 Z) (by omega) (by decide) dX6_fewestBumps_267 ?_
                                          refine g_top (nI ((tF (mv b) l i) ((h : Int) - 8))) f77 ?_
                                          refine g_iload_7 hX dX6_fewestBumps_268 ?_
                                          refine g_iadd hX dX6_fewestBumps_270 ?_
                                          refine g_top (nI (((tF (mv b) l i) ((h : Int) - 8)) + k)) (by rw [nI_add]) ?_
                                          refine g_iastN (k := ((eI ((h : Int) - 8 + (stp (mv b) l i)) k) + 8).toNat) hX (ar_78 Z) (by omega) (by decide) dX6_fewestBumps_271 ?_
                                          refine g_iinc_7 hX 1 dX6_fewestBumps_272 (by decide) rfl ?_
                                          refine g_goto hX 125 dX6_fewestBumps_275 (by decide) ?_
                                          exact g_weak (lvw_c (lvw_c (lvw_c (lvw_c (lvw_c (lvw_c (lvw_c (lvw_c (lvw_n (lvw_n (lvw_n lvw_nil))))))))))) (ih125 _ _ ⟨⟨fun j hj => by rw [u2c _ _ hj]; exact hO3.1 j hj, by rw [tB_min, if_neg (bI_z.mp c212), if_pos h2e]; exact Rm_up hO3.2.1 he3 ((nI_ltI (by omega) (Nat.lt_of_le_of_lt hTe (by decide))).mp c249), fun _ => hsp⟩, by simp only [nI_succ]⟩)
                                  · refine g_iload_8 hX dX6_fewestBumps_200 ?_
                                    refine g_ineg hX dX6_fewestBumps_202 ?_
                                    refine g_goto hX 208 dX6_fewestBumps_203 (by decide) ?_
                                    refine g_top (nI (eI ((h : Int) - 8 + (stp (mv b) l i)) k).natAbs) (by first | exact (absN hei).1 c197 | exact (absN hei).2 c197) ?_
                                    refine g_istore_10 hX dX6_fewestBumps_208 rfl ?_
                                    refine g_iload_9 hX dX6_fewestBumps_210 ?_
                                    refine g_if_ne hX 272 dX6_fewestBumps_212 (by decide) (fun c212 => ?_) (fun c212 => ?_)
                                    · refine g_iinc_7 hX 1 dX6_fewestBumps_272 (by decide) rfl ?_
                                      refine g_goto hX 125 dX6_fewestBumps_275 (by decide) ?_
                                      exact g_weak (lvw_c (lvw_c (lvw_c (lvw_c (lvw_c (lvw_c (lvw_c (lvw_c (lvw_n (lvw_n (lvw_n lvw_nil))))))))))) (ih125 _ _ ⟨⟨hO3.1, by rw [tB_min, if_pos (bI_nz.mp c212)]; exact hO3.2.1, fun _ => hsp⟩, by simp only [nI_succ]⟩)
                                    · refine g_iconst hX 2 dX6_fewestBumps_215 (by decide) ?_
                                      refine g_iload_10 hX dX6_fewestBumps_216 ?_
                                      refine g_imul hX dX6_fewestBumps_218 ?_
                                      refine g_top (nI (2 * (eI ((h : Int) - 8 + (stp (mv b) l i)) k).natAbs)) (pk_mul 2 _) ?_
                                      refine g_aload_0 hX dX6_fewestBumps_219 ?_
                                      refine gt_X6_now hX dX6_fewestBumps_220 ?_
                                      refine g_bipush hX 7 dX6_fewestBumps_223 (by decide) ?_
                                      refine g_ialdN (k := 7) hX (ar_71 Z) (by decide) (by decide) dX6_fewestBumps_225 ?_
                                      refine g_top (nI (phN (mv b))) f71 ?_
                                      refine g_icmp_gt hX 272 dX6_fewestBumps_226 (by decide) (fun c226 => ?_) (fun c226 => ?_)
                                      · refine g_iinc_7 hX 1 dX6_fewestBumps_272 (by decide) rfl ?_
                                        refine g_goto hX 125 dX6_fewestBumps_275 (by decide) ?_
                                        exact g_weak (lvw_c (lvw_c (lvw_c (lvw_c (lvw_c (lvw_c (lvw_c (lvw_c (lvw_n (lvw_n (lvw_n lvw_nil))))))))))) (ih125 _ _ ⟨⟨hO3.1, by rw [tB_min, if_neg (bI_z.mp c212), if_neg (fun z => nI_nlt z (by omega) c226)]; exact hO3.2.1, fun _ => hsp⟩, by simp only [nI_succ]⟩)
                                      · have h2e : 2 * (eI ((h : Int) - 8 + (stp (mv b) l i)) k).natAbs ≤ phN (mv b) := by
                                          rcases Nat.lt_or_ge (phN (mv b)) (2 * (eI ((h : Int) - 8 + (stp (mv b) l i)) k).natAbs) with q | q
                                          · exact absurd (nI_lt q (by omega)) c226
                                          · exact q
                                        have he3 : (eI ((h : Int) - 8 + (stp (mv b) l i)) k).natAbs ≤ 3 := by omega
                                        refine g_aload_0 hX dX6_fewestBumps_229 ?_
                                        refine gt_X6_fewest hX dX6_fewestBumps_230 ?_
                                        refine g_iload_5 hX dX6_fewestBumps_233 ?_
                                        refine g_ialdN (k := h) hX (ar_77 Z) (by omega) (by decide) dX6_fewestBumps_235 ?_
                                        refine g_top (nI ((tF (mv b) l i) ((h : Int) - 8))) f77 ?_
                                        refine g_iload_7 hX dX6_fewestBumps_236 ?_
                                        refine g_iadd hX dX6_fewestBumps_238 ?_
                                        refine g_top (nI (((tF (mv b) l i) ((h : Int) - 8)) + k)) (by rw [nI_add]) ?_
                                        refine g_aload_0 hX dX6_fewestBumps_239 ?_
                                        refine gt_X6_then hX dX6_fewestBumps_240 ?_
                                        refine g_iload_8 hX dX6_fewestBumps_243 ?_
                                        refine g_bipush hX 8 dX6_fewestBumps_245 (by decide) ?_
                                        refine g_iadd hX dX6_fewestBumps_247 ?_
                                        refine g_top (nI ((eI ((h : Int) - 8 + (stp (mv b) l i)) k) + 8).toNat) (by rw [show (8 : Int32) = zI 8 from rfl, zI_add, zI_nat (by omega)]) ?_
                                        refine g_ialdN (k := ((eI ((h : Int) - 8 + (stp (mv b) l i)) k) + 8).toNat) hX (ar_78 Z) (by omega) (by decide) dX6_fewestBumps_248 ?_
                                        refine g_top (nI ((tB (tX (tF (mv b) l i) (stp (mv b) l i) (roN (mv b) l i) (phN (mv b)) h) ((h : Int) - 8 + (stp (mv b) l i)) ((tF (mv b) l i) ((h : Int) - 8)) (phN (mv b)) (min k (((h : Int) - 8 + (stp (mv b) l i)).natAbs + 1))) (eI ((h : Int) - 8 + (stp (mv b) l i)) k))) (by rw [hO3.2.1 _ (by omega), show (((eI ((h : Int) - 8 + (stp (mv b) l i)) k) + 8).toNat : Int) - 8 = (eI ((h : Int) - 8 + (stp (mv b) l i)) k) by omega]) ?_
                                        refine g_icmp_ge hX 272 dX6_fewestBumps_249 (by decide) (fun c249 => ?_) (fun c249 => ?_)
                                        · refine g_iinc_7 hX 1 dX6_fewestBumps_272 (by decide) rfl ?_
                                          refine g_goto hX 125 dX6_fewestBumps_275 (by decide) ?_
                                          exact g_weak (lvw_c (lvw_c (lvw_c (lvw_c (lvw_c (lvw_c (lvw_c (lvw_c (lvw_n (lvw_n (lvw_n lvw_nil))))))))))) (ih125 _ _ ⟨⟨hO3.1, by rw [tB_min, if_neg (bI_z.mp c212), if_pos h2e]; exact Rm_st hO3.2.1 (fun z => c249 (nI_lt z (Nat.lt_of_le_of_lt hTe (by decide)))), fun _ => hsp⟩, by simp only [nI_succ]⟩)
                                        · refine g_aload_0 hX dX6_fewestBumps_252 ?_
                                          refine gt_X6_then hX dX6_fewestBumps_253 ?_
                                          refine g_iload_8 hX dX6_fewestBumps_256 ?_
                                          refine g_bipush hX 8 dX6_fewestBumps_258 (by decide) ?_
                                          refine g_iadd hX dX6_fewestBumps_260 ?_
                                          refine g_top (nI ((eI ((h : Int) - 8 + (stp (mv b) l i)) k) + 8).toNat) (by rw [show (8 : Int32) = zI 8 from rfl, zI_add, zI_nat (by omega)]) ?_
                                          refine g_aload_0 hX dX6_fewestBumps_261 ?_
                                          refine gt_X6_fewest hX dX6_fewestBumps_262 ?_
                                          refine g_iload_5 hX dX6_fewestBumps_265 ?_
                                          refine g_ialdN (k := h) hX (ar_77 Z) (by omega) (by decide) dX6_fewestBumps_267 ?_
                                          refine g_top (nI ((tF (mv b) l i) ((h : Int) - 8))) f77 ?_
                                          refine g_iload_7 hX dX6_fewestBumps_268 ?_
                                          refine g_iadd hX dX6_fewestBumps_270 ?_
                                          refine g_top (nI (((tF (mv b) l i) ((h : Int) - 8)) + k)) (by rw [nI_add]) ?_
                                          refine g_iastN (k := ((eI ((h : Int) - 8 + (stp (mv b) l i)) k) + 8).toNat) hX (ar_78 Z) (by omega) (by decide) dX6_fewestBumps_271 ?_
                                          refine g_iinc_7 hX 1 dX6_fewestBumps_272 (by decide) rfl ?_
                                          refine g_goto hX 125 dX6_fewestBumps_275 (by decide) ?_
                                          exact g_weak (lvw_c (lvw_c (lvw_c (lvw_c (lvw_c (lvw_c (lvw_c (lvw_c (lvw_n (lvw_n (lvw_n lvw_nil))))))))))) (ih125 _ _ ⟨⟨fun j hj => by rw [u2c _ _ hj]; exact hO3.1 j hj, by rw [tB_min, if_neg (bI_z.mp c212), if_pos h2e]; exact Rm_up hO3.2.1 he3 ((nI_ltI (by omega) (Nat.lt_of_le_of_lt hTe (by decide))).mp c249), fun _ => hsp⟩, by simp only [nI_succ]⟩)
                                · refine g_iconst hX 1 dX6_fewestBumps_175 (by decide) ?_
                                  refine g_goto hX 193 dX6_fewestBumps_176 (by decide) ?_
                                  refine g_top (bI (((h : Int) - 8 + (stp (mv b) l i)).natAbs < k)) (by first | (rw [bI_t (by have := hpos.mp c167; have h9 : (eI ((h : Int) - 8 + (stp (mv b) l i)) k) < 0 := (zI_lt (b := 0) (by omega) (by omega)).mp c172; unfold eI at h9; rw [if_pos this] at h9; omega)]; done) | (rw [bI_f (by have := hpos.mp c167; have h9 : ¬ (eI ((h : Int) - 8 + (stp (mv b) l i)) k) < 0 := fun z => c172 ((zI_lt (b := 0) (by omega) (by omega)).mpr z); unfold eI at h9; rw [if_pos this] at h9; omega)]; done) | (rw [bI_t (by have : ¬ 0 < ((h : Int) - 8 + (stp (mv b) l i)) := fun z => c167 (hpos.mpr z); have h9 : 0 < (eI ((h : Int) - 8 + (stp (mv b) l i)) k) := (zI_lt (a := 0) (by omega) (by omega)).mp c185; unfold eI at h9; rw [if_neg this] at h9; omega)]; done) | (rw [bI_f (by have : ¬ 0 < ((h : Int) - 8 + (stp (mv b) l i)) := fun z => c167 (hpos.mpr z); have h9 : ¬ 0 < (eI ((h : Int) - 8 + (stp (mv b) l i)) k) := fun z => c185 ((zI_lt (a := 0) (by omega) (by omega)).mpr z); unfold eI at h9; rw [if_neg this] at h9; omega)]; done)) ?_
                                  refine g_istore_9 hX dX6_fewestBumps_193 rfl ?_
                                  refine g_iload_8 hX dX6_fewestBumps_195 ?_
                                  refine g_if_ge hX 206 dX6_fewestBumps_197 (by decide) (fun c197 => ?_) (fun c197 => ?_)
                                  · refine g_iload_8 hX dX6_fewestBumps_206 ?_
                                    refine g_top (nI (eI ((h : Int) - 8 + (stp (mv b) l i)) k).natAbs) (by first | exact (absN hei).1 c197 | exact (absN hei).2 c197) ?_
                                    refine g_istore_10 hX dX6_fewestBumps_208 rfl ?_
                                    refine g_iload_9 hX dX6_fewestBumps_210 ?_
                                    refine g_if_ne hX 272 dX6_fewestBumps_212 (by decide) (fun c212 => ?_) (fun c212 => ?_)
                                    · refine g_iinc_7 hX 1 dX6_fewestBumps_272 (by decide) rfl ?_
                                      refine g_goto hX 125 dX6_fewestBumps_275 (by decide) ?_
                                      exact g_weak (lvw_c (lvw_c (lvw_c (lvw_c (lvw_c (lvw_c (lvw_c (lvw_c (lvw_n (lvw_n (lvw_n lvw_nil))))))))))) (ih125 _ _ ⟨⟨hO3.1, by rw [tB_min, if_pos (bI_nz.mp c212)]; exact hO3.2.1, fun _ => hsp⟩, by simp only [nI_succ]⟩)
                                    · refine g_iconst hX 2 dX6_fewestBumps_215 (by decide) ?_
                                      refine g_iload_10 hX dX6_fewestBumps_216 ?_
                                      refine g_imul hX dX6_fewestBumps_218 ?_
                                      refine g_top (nI (2 * (eI ((h : Int) - 8 + (stp (mv b) l i)) k).natAbs)) (pk_mul 2 _) ?_
                                      refine g_aload_0 hX dX6_fewestBumps_219 ?_
                                      refine gt_X6_now hX dX6_fewestBumps_220 ?_
                                      refine g_bipush hX 7 dX6_fewestBumps_223 (by decide) ?_
                                      refine g_ialdN (k := 7) hX (ar_71 Z) (by decide) (by decide) dX6_fewestBumps_225 ?_
                                      refine g_top (nI (phN (mv b))) f71 ?_
                                      refine g_icmp_gt hX 272 dX6_fewestBumps_226 (by decide) (fun c226 => ?_) (fun c226 => ?_)
                                      · refine g_iinc_7 hX 1 dX6_fewestBumps_272 (by decide) rfl ?_
                                        refine g_goto hX 125 dX6_fewestBumps_275 (by decide) ?_
                                        exact g_weak (lvw_c (lvw_c (lvw_c (lvw_c (lvw_c (lvw_c (lvw_c (lvw_c (lvw_n (lvw_n (lvw_n lvw_nil))))))))))) (ih125 _ _ ⟨⟨hO3.1, by rw [tB_min, if_neg (bI_z.mp c212), if_neg (fun z => nI_nlt z (by omega) c226)]; exact hO3.2.1, fun _ => hsp⟩, by simp only [nI_succ]⟩)
                                      · have h2e : 2 * (eI ((h : Int) - 8 + (stp (mv b) l i)) k).natAbs ≤ phN (mv b) := by
                                          rcases Nat.lt_or_ge (phN (mv b)) (2 * (eI ((h : Int) - 8 + (stp (mv b) l i)) k).natAbs) with q | q
                                          · exact absurd (nI_lt q (by omega)) c226
                                          · exact q
                                        have he3 : (eI ((h : Int) - 8 + (stp (mv b) l i)) k).natAbs ≤ 3 := by omega
                                        refine g_aload_0 hX dX6_fewestBumps_229 ?_
                                        refine gt_X6_fewest hX dX6_fewestBumps_230 ?_
                                        refine g_iload_5 hX dX6_fewestBumps_233 ?_
                                        refine g_ialdN (k := h) hX (ar_77 Z) (by omega) (by decide) dX6_fewestBumps_235 ?_
                                        refine g_top (nI ((tF (mv b) l i) ((h : Int) - 8))) f77 ?_
                                        refine g_iload_7 hX dX6_fewestBumps_236 ?_
                                        refine g_iadd hX dX6_fewestBumps_238 ?_
                                        refine g_top (nI (((tF (mv b) l i) ((h : Int) - 8)) + k)) (by rw [nI_add]) ?_
                                        refine g_aload_0 hX dX6_fewestBumps_239 ?_
                                        refine gt_X6_then hX dX6_fewestBumps_240 ?_
                                        refine g_iload_8 hX dX6_fewestBumps_243 ?_
                                        refine g_bipush hX 8 dX6_fewestBumps_245 (by decide) ?_
                                        refine g_iadd hX dX6_fewestBumps_247 ?_
                                        refine g_top (nI ((eI ((h : Int) - 8 + (stp (mv b) l i)) k) + 8).toNat) (by rw [show (8 : Int32) = zI 8 from rfl, zI_add, zI_nat (by omega)]) ?_
                                        refine g_ialdN (k := ((eI ((h : Int) - 8 + (stp (mv b) l i)) k) + 8).toNat) hX (ar_78 Z) (by omega) (by decide) dX6_fewestBumps_248 ?_
                                        refine g_top (nI ((tB (tX (tF (mv b) l i) (stp (mv b) l i) (roN (mv b) l i) (phN (mv b)) h) ((h : Int) - 8 + (stp (mv b) l i)) ((tF (mv b) l i) ((h : Int) - 8)) (phN (mv b)) (min k (((h : Int) - 8 + (stp (mv b) l i)).natAbs + 1))) (eI ((h : Int) - 8 + (stp (mv b) l i)) k))) (by rw [hO3.2.1 _ (by omega), show (((eI ((h : Int) - 8 + (stp (mv b) l i)) k) + 8).toNat : Int) - 8 = (eI ((h : Int) - 8 + (stp (mv b) l i)) k) by omega]) ?_
                                        refine g_icmp_ge hX 272 dX6_fewestBumps_249 (by decide) (fun c249 => ?_) (fun c249 => ?_)
                                        · refine g_iinc_7 hX 1 dX6_fewestBumps_272 (by decide) rfl ?_
                                          refine g_goto hX 125 dX6_fewestBumps_275 (by decide) ?_
                                          exact g_weak (lvw_c (lvw_c (lvw_c (lvw_c (lvw_c (lvw_c (lvw_c (lvw_c (lvw_n (lvw_n (lvw_n lvw_nil))))))))))) (ih125 _ _ ⟨⟨hO3.1, by rw [tB_min, if_neg (bI_z.mp c212), if_pos h2e]; exact Rm_st hO3.2.1 (fun z => c249 (nI_lt z (Nat.lt_of_le_of_lt hTe (by decide)))), fun _ => hsp⟩, by simp only [nI_succ]⟩)
                                        · refine g_aload_0 hX dX6_fewestBumps_252 ?_
                                          refine gt_X6_then hX dX6_fewestBumps_253 ?_
                                          refine g_iload_8 hX dX6_fewestBumps_256 ?_
                                          refine g_bipush hX 8 dX6_fewestBumps_258 (by decide) ?_
                                          refine g_iadd hX dX6_fewestBumps_260 ?_
                                          refine g_top (nI ((eI ((h : Int) - 8 + (stp (mv b) l i)) k) + 8).toNat) (by rw [show (8 : Int32) = zI 8 from rfl, zI_add, zI_nat (by omega)]) ?_
                                          refine g_aload_0 hX dX6_fewestBumps_261 ?_
                                          refine gt_X6_fewest hX dX6_fewestBumps_262 ?_
                                          refine g_iload_5 hX dX6_fewestBumps_265 ?_
                                          refine g_ialdN (k := h) hX (ar_77 Z) (by omega) (by decide) dX6_fewestBumps_267 ?_
                                          refine g_top (nI ((tF (mv b) l i) ((h : Int) - 8))) f77 ?_
                                          refine g_iload_7 hX dX6_fewestBumps_268 ?_
                                          refine g_iadd hX dX6_fewestBumps_270 ?_
                                          refine g_top (nI (((tF (mv b) l i) ((h : Int) - 8)) + k)) (by rw [nI_add]) ?_
                                          refine g_iastN (k := ((eI ((h : Int) - 8 + (stp (mv b) l i)) k) + 8).toNat) hX (ar_78 Z) (by omega) (by decide) dX6_fewestBumps_271 ?_
                                          refine g_iinc_7 hX 1 dX6_fewestBumps_272 (by decide) rfl ?_
                                          refine g_goto hX 125 dX6_fewestBumps_275 (by decide) ?_
                                          exact g_weak (lvw_c (lvw_c (lvw_c (lvw_c (lvw_c (lvw_c (lvw_c (lvw_c (lvw_n (lvw_n (lvw_n lvw_nil))))))))))) (ih125 _ _ ⟨⟨fun j hj => by rw [u2c _ _ hj]; exact hO3.1 j hj, by rw [tB_min, if_neg (bI_z.mp c212), if_pos h2e]; exact Rm_up hO3.2.1 he3 ((nI_ltI (by omega) (Nat.lt_of_le_of_lt hTe (by decide))).mp c249), fun _ => hsp⟩, by simp only [nI_succ]⟩)
                                  · refine g_iload_8 hX dX6_fewestBumps_200 ?_
                                    refine g_ineg hX dX6_fewestBumps_202 ?_
                                    refine g_goto hX 208 dX6_fewestBumps_203 (by decide) ?_
                                    refine g_top (nI (eI ((h : Int) - 8 + (stp (mv b) l i)) k).natAbs) (by first | exact (absN hei).1 c197 | exact (absN hei).2 c197) ?_
                                    refine g_istore_10 hX dX6_fewestBumps_208 rfl ?_
                                    refine g_iload_9 hX dX6_fewestBumps_210 ?_
                                    refine g_if_ne hX 272 dX6_fewestBumps_212 (by decide) (fun c212 => ?_) (fun c212 => ?_)
                                    · refine g_iinc_7 hX 1 dX6_fewestBumps_272 (by decide) rfl ?_
                                      refine g_goto hX 125 dX6_fewestBumps_275 (by decide) ?_
                                      exact g_weak (lvw_c (lvw_c (lvw_c (lvw_c (lvw_c (lvw_c (lvw_c (lvw_c (lvw_n (lvw_n (lvw_n lvw_nil))))))))))) (ih125 _ _ ⟨⟨hO3.1, by rw [tB_min, if_pos (bI_nz.mp c212)]; exact hO3.2.1, fun _ => hsp⟩, by simp only [nI_succ]⟩)
                                    · refine g_iconst hX 2 dX6_fewestBumps_215 (by decide) ?_
                                      refine g_iload_10 hX dX6_fewestBumps_216 ?_
                                      refine g_imul hX dX6_fewestBumps_218 ?_
                                      refine g_top (nI (2 * (eI ((h : Int) - 8 + (stp (mv b) l i)) k).natAbs)) (pk_mul 2 _) ?_
                                      refine g_aload_0 hX dX6_fewestBumps_219 ?_
                                      refine gt_X6_now hX dX6_fewestBumps_220 ?_
                                      refine g_bipush hX 7 dX6_fewestBumps_223 (by decide) ?_
                                      refine g_ialdN (k := 7) hX (ar_71 Z) (by decide) (by decide) dX6_fewestBumps_225 ?_
                                      refine g_top (nI (phN (mv b))) f71 ?_
                                      refine g_icmp_gt hX 272 dX6_fewestBumps_226 (by decide) (fun c226 => ?_) (fun c226 => ?_)
                                      · refine g_iinc_7 hX 1 dX6_fewestBumps_272 (by decide) rfl ?_
                                        refine g_goto hX 125 dX6_fewestBumps_275 (by decide) ?_
                                        exact g_weak (lvw_c (lvw_c (lvw_c (lvw_c (lvw_c (lvw_c (lvw_c (lvw_c (lvw_n (lvw_n (lvw_n lvw_nil))))))))))) (ih125 _ _ ⟨⟨hO3.1, by rw [tB_min, if_neg (bI_z.mp c212), if_neg (fun z => nI_nlt z (by omega) c226)]; exact hO3.2.1, fun _ => hsp⟩, by simp only [nI_succ]⟩)
                                      · have h2e : 2 * (eI ((h : Int) - 8 + (stp (mv b) l i)) k).natAbs ≤ phN (mv b) := by
                                          rcases Nat.lt_or_ge (phN (mv b)) (2 * (eI ((h : Int) - 8 + (stp (mv b) l i)) k).natAbs) with q | q
                                          · exact absurd (nI_lt q (by omega)) c226
                                          · exact q
                                        have he3 : (eI ((h : Int) - 8 + (stp (mv b) l i)) k).natAbs ≤ 3 := by omega
                                        refine g_aload_0 hX dX6_fewestBumps_229 ?_
                                        refine gt_X6_fewest hX dX6_fewestBumps_230 ?_
                                        refine g_iload_5 hX dX6_fewestBumps_233 ?_
                                        refine g_ialdN (k := h) hX (ar_77 Z) (by omega) (by decide) dX6_fewestBumps_235 ?_
                                        refine g_top (nI ((tF (mv b) l i) ((h : Int) - 8))) f77 ?_
                                        refine g_iload_7 hX dX6_fewestBumps_236 ?_
                                        refine g_iadd hX dX6_fewestBumps_238 ?_
                                        refine g_top (nI (((tF (mv b) l i) ((h : Int) - 8)) + k)) (by rw [nI_add]) ?_
                                        refine g_aload_0 hX dX6_fewestBumps_239 ?_
                                        refine gt_X6_then hX dX6_fewestBumps_240 ?_
                                        refine g_iload_8 hX dX6_fewestBumps_243 ?_
                                        refine g_bipush hX 8 dX6_fewestBumps_245 (by decide) ?_
                                        refine g_iadd hX dX6_fewestBumps_247 ?_
                                        refine g_top (nI ((eI ((h : Int) - 8 + (stp (mv b) l i)) k) + 8).toNat) (by rw [show (8 : Int32) = zI 8 from rfl, zI_add, zI_nat (by omega)]) ?_
                                        refine g_ialdN (k := ((eI ((h : Int) - 8 + (stp (mv b) l i)) k) + 8).toNat) hX (ar_78 Z) (by omega) (by decide) dX6_fewestBumps_248 ?_
                                        refine g_top (nI ((tB (tX (tF (mv b) l i) (stp (mv b) l i) (roN (mv b) l i) (phN (mv b)) h) ((h : Int) - 8 + (stp (mv b) l i)) ((tF (mv b) l i) ((h : Int) - 8)) (phN (mv b)) (min k (((h : Int) - 8 + (stp (mv b) l i)).natAbs + 1))) (eI ((h : Int) - 8 + (stp (mv b) l i)) k))) (by rw [hO3.2.1 _ (by omega), show (((eI ((h : Int) - 8 + (stp (mv b) l i)) k) + 8).toNat : Int) - 8 = (eI ((h : Int) - 8 + (stp (mv b) l i)) k) by omega]) ?_
                                        refine g_icmp_ge hX 272 dX6_fewestBumps_249 (by decide) (fun c249 => ?_) (fun c249 => ?_)
                                        · refine g_iinc_7 hX 1 dX6_fewestBumps_272 (by decide) rfl ?_
                                          refine g_goto hX 125 dX6_fewestBumps_275 (by decide) ?_
                                          exact g_weak (lvw_c (lvw_c (lvw_c (lvw_c (lvw_c (lvw_c (lvw_c (lvw_c (lvw_n (lvw_n (lvw_n lvw_nil))))))))))) (ih125 _ _ ⟨⟨hO3.1, by rw [tB_min, if_neg (bI_z.mp c212), if_pos h2e]; exact Rm_st hO3.2.1 (fun z => c249 (nI_lt z (Nat.lt_of_le_of_lt hTe (by decide)))), fun _ => hsp⟩, by simp only [nI_succ]⟩)
                                        · refine g_aload_0 hX dX6_fewestBumps_252 ?_
                                          refine gt_X6_then hX dX6_fewestBumps_253 ?_
                                          refine g_iload_8 hX dX6_fewestBumps_256 ?_
                                          refine g_bipush hX 8 dX6_fewestBumps_258 (by decide) ?_
                                          refine g_iadd hX dX6_fewestBumps_260 ?_
                                          refine g_top (nI ((eI ((h : Int) - 8 + (stp (mv b) l i)) k) + 8).toNat) (by rw [show (8 : Int32) = zI 8 from rfl, zI_add, zI_nat (by omega)]) ?_
                                          refine g_aload_0 hX dX6_fewestBumps_261 ?_
                                          refine gt_X6_fewest hX dX6_fewestBumps_262 ?_
                                          refine g_iload_5 hX dX6_fewestBumps_265 ?_
                                          refine g_ialdN (k := h) hX (ar_77 Z) (by omega) (by decide) dX6_fewestBumps_267 ?_
                                          refine g_top (nI ((tF (mv b) l i) ((h : Int) - 8))) f77 ?_
                                          refine g_iload_7 hX dX6_fewestBumps_268 ?_
                                          refine g_iadd hX dX6_fewestBumps_270 ?_
                                          refine g_top (nI (((tF (mv b) l i) ((h : Int) - 8)) + k)) (by rw [nI_add]) ?_
                                          refine g_iastN (k := ((eI ((h : Int) - 8 + (stp (mv b) l i)) k) + 8).toNat) hX (ar_78 Z) (by omega) (by decide) dX6_fewestBumps_271 ?_
                                          refine g_iinc_7 hX 1 dX6_fewestBumps_272 (by decide) rfl ?_
                                          refine g_goto hX 125 dX6_fewestBumps_275 (by decide) ?_
                                          exact g_weak (lvw_c (lvw_c (lvw_c (lvw_c (lvw_c (lvw_c (lvw_c (lvw_c (lvw_n (lvw_n (lvw_n lvw_nil))))))))))) (ih125 _ _ ⟨⟨fun j hj => by rw [u2c _ _ hj]; exact hO3.1 j hj, by rw [tB_min, if_neg (bI_z.mp c212), if_pos h2e]; exact Rm_up hO3.2.1 he3 ((nI_ltI (by omega) (Nat.lt_of_le_of_lt hTe (by decide))).mp c249), fun _ => hsp⟩, by simp only [nI_succ]⟩)
                      · rintro m3 _ ⟨hO3, rfl⟩
                        refine g_iload_7 hX dX6_fewestBumps_125 ?_
                        refine g_iload_4 hX dX6_fewestBumps_127 ?_
                        refine g_icmp_gt hX 278 dX6_fewestBumps_129 (by decide) (fun c129 => ?_) (fun c129 => ?_)
                        · refine g_iinc_5 hX 1 dX6_fewestBumps_278 (by decide) rfl ?_
                          refine g_goto hX 106 dX6_fewestBumps_281 (by decide) ?_
                          exact g_weak (lvw_c (lvw_c (lvw_c (lvw_c (lvw_c (lvw_c (lvw_n (lvw_n (lvw_n (lvw_n (lvw_n lvw_nil))))))))))) (ih106 _ _ ⟨⟨fun j hj => by rw [hO3.1 j hj]; exact hO2.1 j hj, by rw [tX_do hk106 hFk (hO3.2.2 (by omega))]; exact hO3.2.1⟩, by simp only [nI_succ]⟩)
                        · exact absurd c129 (not_not_intro (nI_lt (by omega) (by omega)))
                  · rintro m2 _ ⟨hO2, rfl⟩
                    refine g_iload_5 hX dX6_fewestBumps_106 ?_
                    refine g_bipush hX 17 dX6_fewestBumps_108 (by decide) ?_
                    refine g_icmp_ge hX 284 dX6_fewestBumps_110 (by decide) (fun c110 => ?_) (fun c110 => ?_)
                    · refine g_iconst hX 0 dX6_fewestBumps_284 (by decide) ?_
                      refine g_istore_5 hX dX6_fewestBumps_285 rfl ?_
                      refine g_loop (17) (fun k => up1 m2 77 (cpF (m2 78) (m2 77) 0 k)) (fun k => [some (.ref (zad Z 69)), some (.int (nI l)), some (.int (nI i)), some (.int (zI (stp (mv b) l i))), some (.int (nI (roN (mv b) l i))), some (.int (nI k)), none, none, none, none, none]) (cpF_0 m2 77 _ _) rfl (fun k hk287 ih287 => ?_) ?_
                      · show G Z X (up1 m2 77 (cpF (m2 78) (m2 77) 0 k)) 287 ([some (.ref (zad Z 69)), some (.int (nI l)), some (.int (nI i)), some (.int (zI (stp (mv b) l i))), some (.int (nI (roN (mv b) l i))), some (.int (nI k)), none, none, none, none, none]) _
                        refine g_iload_5 hX dX6_fewestBumps_287 ?_
                        refine g_bipush hX 17 dX6_fewestBumps_289 (by decide) ?_
                        refine g_icmp_ge hX 314 dX6_fewestBumps_291 (by decide) (fun c291 => ?_) (fun c291 => ?_)
                        · exact absurd c291 (not_not_intro (nI_lt (b := 17) hk287 (by decide)))
                        · refine g_aload_0 hX dX6_fewestBumps_294 ?_
                          refine gt_X6_fewest hX dX6_fewestBumps_295 ?_
                          refine g_iload_5 hX dX6_fewestBumps_298 ?_
                          refine g_aload_0 hX dX6_fewestBumps_300 ?_
                          refine gt_X6_then hX dX6_fewestBumps_301 ?_
                          refine g_iload_5 hX dX6_fewestBumps_304 ?_
                          refine g_ialdN (k := k) hX (ar_78 Z) (by omega) (by decide) dX6_fewestBumps_306 ?_
                          refine g_iastN (k := k) hX (ar_77 Z) (by omega) (by decide) dX6_fewestBumps_307 ?_
                          refine g_iinc_5 hX 1 dX6_fewestBumps_308 (by decide) rfl ?_
                          refine g_goto hX 287 dX6_fewestBumps_311 (by decide) ?_
                          exact g_cast ih287 (by rw [u1c _ _ (show (78 : Nat) ≠ 77 by decide)]; have := cpF_s m2 77 (m2 78) (m2 77) 0 k; rw [Nat.zero_add] at this; exact this) (by simp only [nI_succ]) rfl
                      · show G Z X (up1 m2 77 (cpF (m2 78) (m2 77) 0 (17))) 287 ([some (.ref (zad Z 69)), some (.int (nI l)), some (.int (nI i)), some (.int (zI (stp (mv b) l i))), some (.int (nI (roN (mv b) l i))), some (.int (nI (17))), none, none, none, none, none]) _
                        refine g_iload_5 hX dX6_fewestBumps_287 ?_
                        refine g_bipush hX 17 dX6_fewestBumps_289 (by decide) ?_
                        refine g_icmp_ge hX 314 dX6_fewestBumps_291 (by decide) (fun c291 => ?_) (fun c291 => ?_)
                        · refine g_iinc_2 hX 1 dX6_fewestBumps_314 (by decide) rfl ?_
                          refine g_goto hX 35 dX6_fewestBumps_317 (by decide) ?_
                          exact g_weak (lvw_c (lvw_c (lvw_c (lvw_n (lvw_n (lvw_n (lvw_n (lvw_n (lvw_n (lvw_n (lvw_n lvw_nil))))))))))) (ih35 _ _ ⟨⟨fun j h1 h2 => by rw [u1c _ _ h1, hO2.1 j h2, u1c _ _ h2, hI.1 j h1 h2], fun a ha => by
  rw [u1s]
  have := cpF_in (f := m2 78) (g := m2 77) (o := 0) ha
  rw [Nat.zero_add] at this
  rw [this]
  exact hO2.2 a ha⟩, by simp only [nI_succ]⟩)
                        · exact absurd c291 (Int32.lt_irrefl)
                    · exact absurd c110 (Int32.lt_irrefl)
                · exact absurd c84 (Int32.lt_irrefl)
            · refine g_iconst hX 1 dX6_fewestBumps_62 (by decide) ?_
              refine g_goto hX 67 dX6_fewestBumps_63 (by decide) ?_
              refine g_top (zI (stp (mv b) l i)) (by first | (rw [stp, if_pos ((nI0 (by omega)).mp c45)]; rfl) | (rw [stp, if_neg (fun z => c45 ((nI0 (by omega)).mpr z)), if_pos (show mv b 2 l i = 1 by rw [← em]; exact c59)]; rfl) | (rw [stp, if_neg (fun z => c45 ((nI0 (by omega)).mpr z)), if_neg (show ¬ mv b 2 l i = 1 by rw [← em]; exact c59)]; rfl)) ?_
              refine g_istore_3 hX dX6_fewestBumps_67 rfl ?_
              refine g_aload_0 hX dX6_fewestBumps_68 ?_
              refine g_iload_1 hX dX6_fewestBumps_69 ?_
              refine g_iload_2 hX dX6_fewestBumps_70 ?_
              refine g_iconst hX 2 dX6_fewestBumps_71 (by decide) ?_
              refine g_cV3r hX mkX6_toldRun ml_X6_151 (c_X6_toldRun (b := m) (by rw [em]; exact hV) hl6 (by omega)) (ob_69 Z _) dX6_fewestBumps_72 rfl (by decide) (Nat.le_of_ble_eq_true rfl) ?_
              refine g_top (nI (roN (mv b) l i)) (by rw [em]; exact hro) ?_
              refine g_istore_4 hX dX6_fewestBumps_75 rfl ?_
              refine g_iconst hX 0 dX6_fewestBumps_77 (by decide) ?_
              refine g_istore_5 hX dX6_fewestBumps_78 rfl ?_
              refine g_loop (17) (fun k => up1 m 78 (cpF (fun _ => 1000) (m 78) 0 k)) (fun k => [some (.ref (zad Z 69)), some (.int (nI l)), some (.int (nI i)), some (.int (zI (stp (mv b) l i))), some (.int (nI (roN (mv b) l i))), some (.int (nI k)), none, none, none, none, none]) (cpF_0 m 78 _ _) rfl (fun k hk80 ih80 => ?_) ?_
              · show G Z X (up1 m 78 (cpF (fun _ => 1000) (m 78) 0 k)) 80 ([some (.ref (zad Z 69)), some (.int (nI l)), some (.int (nI i)), some (.int (zI (stp (mv b) l i))), some (.int (nI (roN (mv b) l i))), some (.int (nI k)), none, none, none, none, none]) _
                refine g_iload_5 hX dX6_fewestBumps_80 ?_
                refine g_bipush hX 17 dX6_fewestBumps_82 (by decide) ?_
                refine g_icmp_ge hX 103 dX6_fewestBumps_84 (by decide) (fun c84 => ?_) (fun c84 => ?_)
                · exact absurd c84 (not_not_intro (nI_lt (b := 17) hk80 (by decide)))
                · refine g_aload_0 hX dX6_fewestBumps_87 ?_
                  refine gt_X6_then hX dX6_fewestBumps_88 ?_
                  refine g_iload_5 hX dX6_fewestBumps_91 ?_
                  refine g_sipush hX 1000 dX6_fewestBumps_93 (by decide) ?_
                  refine g_iastN (k := k) hX (ar_78 Z) (by omega) (by decide) dX6_fewestBumps_96 ?_
                  refine g_iinc_5 hX 1 dX6_fewestBumps_97 (by decide) rfl ?_
                  refine g_goto hX 80 dX6_fewestBumps_100 (by decide) ?_
                  exact g_cast ih80 (by have := cpF_s m 78 (fun _ => 1000) (m 78) 0 k; rw [Nat.zero_add] at this; exact this) (by simp only [nI_succ]) rfl
              · show G Z X (up1 m 78 (cpF (fun _ => 1000) (m 78) 0 (17))) 80 ([some (.ref (zad Z 69)), some (.int (nI l)), some (.int (nI i)), some (.int (zI (stp (mv b) l i))), some (.int (nI (roN (mv b) l i))), some (.int (nI (17))), none, none, none, none, none]) _
                refine g_iload_5 hX dX6_fewestBumps_80 ?_
                refine g_bipush hX 17 dX6_fewestBumps_82 (by decide) ?_
                refine g_icmp_ge hX 103 dX6_fewestBumps_84 (by decide) (fun c84 => ?_) (fun c84 => ?_)
                · refine g_iconst hX 0 dX6_fewestBumps_103 (by decide) ?_
                  refine g_istore_5 hX dX6_fewestBumps_104 rfl ?_
                  refine g_weak (lvw_c (lvw_c (lvw_c (lvw_c (lvw_c (lvw_c (lvw_n (lvw_n (lvw_n (lvw_n (lvw_n lvw_nil))))))))))) (g_loopI (17) (fun h m2 LL => ((∀ j, j ≠ 78 → m2 j = up1 m 78 (cpF (fun _ => 1000) (m 78) 0 17) j) ∧ Rm m2 78 (tX (tF (mv b) l i) (stp (mv b) l i) (roN (mv b) l i) (phN (mv b)) h)) ∧ LL = [some (.ref (zad Z 69)), some (.int (nI l)), some (.int (nI i)), some (.int (zI (stp (mv b) l i))), some (.int (nI (roN (mv b) l i))), some (.int (nI h)), none, none, none, none, none]) ⟨⟨fun _ _ => rfl, fun a ha => by
  rw [u1s]
  have := cpF_in (f := fun _ => (1000 : Int32)) (g := m 78) (o := 0) ha
  rw [Nat.zero_add] at this
  rw [this]; rfl⟩, rfl⟩ ?_ ?_)
                  · rintro h m2 _ hk106 ⟨hO2, rfl⟩ ih106
                    have e77 : m2 77 = m 77 := by rw [hO2.1 77 (by decide), u1c _ _ (by decide)]
                    have e71 : m2 71 = b 71 := by rw [hO2.1 71 (by decide), u1c _ _ (by decide), hI.1 71 (by decide) (by decide)]
                    have hF8 := hFk ((h : Int) - 8)
                    refine g_iload_5 hX dX6_fewestBumps_106 ?_
                    refine g_bipush hX 17 dX6_fewestBumps_108 (by decide) ?_
                    refine g_icmp_ge hX 284 dX6_fewestBumps_110 (by decide) (fun c110 => ?_) (fun c110 => ?_)
                    · exact absurd c110 (not_not_intro (nI_lt (b := 17) hk106 (by decide)))
                    · refine g_iload_5 hX dX6_fewestBumps_113 ?_
                      refine g_bipush hX 8 dX6_fewestBumps_115 (by decide) ?_
                      refine g_isub hX dX6_fewestBumps_117 ?_
                      refine g_iload_3 hX dX6_fewestBumps_118 ?_
                      refine g_iadd hX dX6_fewestBumps_119 ?_
                      refine g_top (zI ((h : Int) - 8 + (stp (mv b) l i))) (by rw [nI_z, show (8 : Int32) = zI 8 from rfl, zI_sub, zI_add]) ?_
                      refine g_istore_6 hX dX6_fewestBumps_120 rfl ?_
                      refine g_iconst hX 0 dX6_fewestBumps_122 (by decide) ?_
                      refine g_istore_7 hX dX6_fewestBumps_123 rfl ?_
                      refine g_weak (lvw_c (lvw_c (lvw_c (lvw_c (lvw_c (lvw_c (lvw_c (lvw_c (lvw_n (lvw_n (lvw_n lvw_nil))))))))))) (g_loopI ((roN (mv b) l i) + 1) (fun k m3 LL => ((∀ j, j ≠ 78 → m3 j = m2 j) ∧ Rm m3 78 (tB (tX (tF (mv b) l i) (stp (mv b) l i) (roN (mv b) l i) (phN (mv b)) h) ((h : Int) - 8 + (stp (mv b) l i)) ((tF (mv b) l i) ((h : Int) - 8)) (phN (mv b)) (min k (((h : Int) - 8 + (stp (mv b) l i)).natAbs + 1))) ∧ (0 < k → ((tF (mv b) l i) ((h : Int) - 8)) < 1000)) ∧ LL = [some (.ref (zad Z 69)), some (.int (nI l)), some (.int (nI i)), some (.int (zI (stp (mv b) l i))), some (.int (nI (roN (mv b) l i))), some (.int (nI h)), some (.int (zI ((h : Int) - 8 + (stp (mv b) l i)))), some (.int (nI k)), none, none, none]) ⟨⟨fun _ _ => rfl, by rw [Nat.zero_min]; exact hO2.2, fun z => by omega⟩, rfl⟩ ?_ ?_)
                      · rintro k m3 _ hk125 ⟨hO3, rfl⟩ ih125
                        have f77 : m3 77 h = nI ((tF (mv b) l i) ((h : Int) - 8)) := by rw [hO3.1 77 (by decide), e77]; exact hI.2 h hk106
                        have f71 : m3 71 7 = nI (phN (mv b)) := by rw [hO3.1 71 (by decide), e71]; exact hph
                        have hpos : 0 < zI ((h : Int) - 8 + (stp (mv b) l i)) ↔ 0 < ((h : Int) - 8 + (stp (mv b) l i)) := by rw [← zI_0]; exact zI_lt (by omega) (by omega)
                        have hei : -1000 ≤ (eI ((h : Int) - 8 + (stp (mv b) l i)) k) ∧ (eI ((h : Int) - 8 + (stp (mv b) l i)) k) ≤ 1000 := by unfold eI; split <;> omega
                        have hTe : (tB (tX (tF (mv b) l i) (stp (mv b) l i) (roN (mv b) l i) (phN (mv b)) h) ((h : Int) - 8 + (stp (mv b) l i)) ((tF (mv b) l i) ((h : Int) - 8)) (phN (mv b)) (min k (((h : Int) - 8 + (stp (mv b) l i)).natAbs + 1))) (eI ((h : Int) - 8 + (stp (mv b) l i)) k) ≤ 1000 := (tB_k (tP_k hph6 _) hph6 _ _).1
                        refine g_iload_7 hX dX6_fewestBumps_125 ?_
                        refine g_iload_4 hX dX6_fewestBumps_127 ?_
                        refine g_icmp_gt hX 278 dX6_fewestBumps_129 (by decide) (fun c129 => ?_) (fun c129 => ?_)
                        · exact absurd c129 (nI_nlt (by omega) (by omega))
                        · refine g_aload_0 hX dX6_fewestBumps_132 ?_
                          refine gt_X6_fewest hX dX6_fewestBumps_133 ?_
                          refine g_iload_5 hX dX6_fewestBumps_136 ?_
                          refine g_ialdN (k := h) hX (ar_77 Z) (by omega) (by decide) dX6_fewestBumps_138 ?_
                          refine g_top (nI ((tF (mv b) l i) ((h : Int) - 8))) f77 ?_
                          refine g_sipush hX 1000 dX6_fewestBumps_139 (by decide) ?_
                          refine g_icmp_ge hX 278 dX6_fewestBumps_142 (by decide) (fun c142 => ?_) (fun c142 => ?_)
                          · refine g_iinc_5 hX 1 dX6_fewestBumps_278 (by decide) rfl ?_
                            refine g_goto hX 106 dX6_fewestBumps_281 (by decide) ?_
                            exact g_weak (lvw_c (lvw_c (lvw_c (lvw_c (lvw_c (lvw_c (lvw_n (lvw_n (lvw_n (lvw_n (lvw_n lvw_nil))))))))))) (ih106 _ _ ⟨⟨fun j hj => by rw [hO3.1 j hj]; exact hO2.1 j hj, tX_b0 hk106 hFk hO3.2.1 hO3.2.2 (fun z => c142 (nI_lt z (by decide)))⟩, by simp only [nI_succ]⟩)
                          · have hsp : ((tF (mv b) l i) ((h : Int) - 8)) < 1000 := (nI_ltI (b := 1000) (by omega) (by decide)).mp c142
                            refine g_iload_6 hX dX6_fewestBumps_145 ?_
                            refine g_if_le hX 158 dX6_fewestBumps_147 (by decide) (fun c147 => ?_) (fun c147 => ?_)
                            · refine g_iload_6 hX dX6_fewestBumps_158 ?_
                              refine g_iload_7 hX dX6_fewestBumps_160 ?_
                              refine g_iadd hX dX6_fewestBumps_162 ?_
                              refine g_top (zI (eI ((h : Int) - 8 + (stp (mv b) l i)) k)) (by first | (rw [eI, if_pos (hpos.mp c147), nI_z, zI_sub]; done) | (rw [eI, if_neg (fun q => c147 (hpos.mpr q)), nI_z, zI_add]; done)) ?_
                              refine g_istore_8 hX dX6_fewestBumps_163 rfl ?_
                              refine g_iload_6 hX dX6_fewestBumps_165 ?_
                              refine g_if_le hX 183 dX6_fewestBumps_167 (by decide) (fun c167 => ?_) (fun c167 => ?_)
                              · refine g_iload_8 hX dX6_fewestBumps_183 ?_
                                refine g_if_le hX 192 dX6_fewestBumps_185 (by decide) (fun c185 => ?_) (fun c185 => ?_)
                                · refine g_iconst hX 0 dX6_fewestBumps_192 (by decide) ?_
                                  refine g_top (bI (((h : Int) - 8 + (stp (mv b) l i)).natAbs < k)) (by first | (rw [bI_t (by have := hpos.mp c167; have h9 : (eI ((h : Int) - 8 + (stp (mv b) l i)) k) < 0 := (zI_lt (b := 0) (by omega) (by omega)).mp c172; unfold eI at h9; rw [if_pos this] at h9; omega)]; done) | (rw [bI_f (by have := hpos.mp c167; have h9 : ¬ (eI ((h : Int) - 8 + (stp (mv b) l i)) k) < 0 := fun z => c172 ((zI_lt (b := 0) (by omega) (by omega)).mpr z); unfold eI at h9; rw [if_pos this] at h9; omega)]; done) | (rw [bI_t (by have : ¬ 0 < ((h : Int) - 8 + (stp (mv b) l i)) := fun z => c167 (hpos.mpr z); have h9 : 0 < (eI ((h : Int) - 8 + (stp (mv b) l i)) k) := (zI_lt (a := 0) (by omega) (by omega)).mp c185; unfold eI at h9; rw [if_neg this] at h9; omega)]; done) | (rw [bI_f (by have : ¬ 0 < ((h : Int) - 8 + (stp (mv b) l i)) := fun z => c167 (hpos.mpr z); have h9 : ¬ 0 < (eI ((h : Int) - 8 + (stp (mv b) l i)) k) := fun z => c185 ((zI_lt (a := 0) (by omega) (by omega)).mpr z); unfold eI at h9; rw [if_neg this] at h9; omega)]; done)) ?_
                                  refine g_istore_9 hX dX6_fewestBumps_193 rfl ?_
                                  refine g_iload_8 hX dX6_fewestBumps_195 ?_
                                  refine g_if_ge hX 206 dX6_fewestBumps_197 (by decide) (fun c197 => ?_) (fun c197 => ?_)
                                  · refine g_iload_8 hX dX6_fewestBumps_206 ?_
                                    refine g_top (nI (eI ((h : Int) - 8 + (stp (mv b) l i)) k).natAbs) (by first | exact (absN hei).1 c197 | exact (absN hei).2 c197) ?_
                                    refine g_istore_10 hX dX6_fewestBumps_208 rfl ?_
                                    refine g_iload_9 hX dX6_fewestBumps_210 ?_
                                    refine g_if_ne hX 272 dX6_fewestBumps_212 (by decide) (fun c212 => ?_) (fun c212 => ?_)
                                    · refine g_iinc_7 hX 1 dX6_fewestBumps_272 (by decide) rfl ?_
                                      refine g_goto hX 125 dX6_fewestBumps_275 (by decide) ?_
                                      exact g_weak (lvw_c (lvw_c (lvw_c (lvw_c (lvw_c (lvw_c (lvw_c (lvw_c (lvw_n (lvw_n (lvw_n lvw_nil))))))))))) (ih125 _ _ ⟨⟨hO3.1, by rw [tB_min, if_pos (bI_nz.mp c212)]; exact hO3.2.1, fun _ => hsp⟩, by simp only [nI_succ]⟩)
                                    · refine g_iconst hX 2 dX6_fewestBumps_215 (by decide) ?_
                                      refine g_iload_10 hX dX6_fewestBumps_216 ?_
                                      refine g_imul hX dX6_fewestBumps_218 ?_
                                      refine g_top (nI (2 * (eI ((h : Int) - 8 + (stp (mv b) l i)) k).natAbs)) (pk_mul 2 _) ?_
                                      refine g_aload_0 hX dX6_fewestBumps_219 ?_
                                      refine gt_X6_now hX dX6_fewestBumps_220 ?_
                                      refine g_bipush hX 7 dX6_fewestBumps_223 (by decide) ?_
                                      refine g_ialdN (k := 7) hX (ar_71 Z) (by decide) (by decide) dX6_fewestBumps_225 ?_
                                      refine g_top (nI (phN (mv b))) f71 ?_
                                      refine g_icmp_gt hX 272 dX6_fewestBumps_226 (by decide) (fun c226 => ?_) (fun c226 => ?_)
                                      · refine g_iinc_7 hX 1 dX6_fewestBumps_272 (by decide) rfl ?_
                                        refine g_goto hX 125 dX6_fewestBumps_275 (by decide) ?_
                                        exact g_weak (lvw_c (lvw_c (lvw_c (lvw_c (lvw_c (lvw_c (lvw_c (lvw_c (lvw_n (lvw_n (lvw_n lvw_nil))))))))))) (ih125 _ _ ⟨⟨hO3.1, by rw [tB_min, if_neg (bI_z.mp c212), if_neg (fun z => nI_nlt z (by omega) c226)]; exact hO3.2.1, fun _ => hsp⟩, by simp only [nI_succ]⟩)
                                      · have h2e : 2 * (eI ((h : Int) - 8 + (stp (mv b) l i)) k).natAbs ≤ phN (mv b) := by
                                          rcases Nat.lt_or_ge (phN (mv b)) (2 * (eI ((h : Int) - 8 + (stp (mv b) l i)) k).natAbs) with q | q
                                          · exact absurd (nI_lt q (by omega)) c226
                                          · exact q
                                        have he3 : (eI ((h : Int) - 8 + (stp (mv b) l i)) k).natAbs ≤ 3 := by omega
                                        refine g_aload_0 hX dX6_fewestBumps_229 ?_
                                        refine gt_X6_fewest hX dX6_fewestBumps_230 ?_
                                        refine g_iload_5 hX dX6_fewestBumps_233 ?_
                                        refine g_ialdN (k := h) hX (ar_77 Z) (by omega) (by decide) dX6_fewestBumps_235 ?_
                                        refine g_top (nI ((tF (mv b) l i) ((h : Int) - 8))) f77 ?_
                                        refine g_iload_7 hX dX6_fewestBumps_236 ?_
                                        refine g_iadd hX dX6_fewestBumps_238 ?_
                                        refine g_top (nI (((tF (mv b) l i) ((h : Int) - 8)) + k)) (by rw [nI_add]) ?_
                                        refine g_aload_0 hX dX6_fewestBumps_239 ?_
                                        refine gt_X6_then hX dX6_fewestBumps_240 ?_
                                        refine g_iload_8 hX dX6_fewestBumps_243 ?_
                                        refine g_bipush hX 8 dX6_fewestBumps_245 (by decide) ?_
                                        refine g_iadd hX dX6_fewestBumps_247 ?_
                                        refine g_top (nI ((eI ((h : Int) - 8 + (stp (mv b) l i)) k) + 8).toNat) (by rw [show (8 : Int32) = zI 8 from rfl, zI_add, zI_nat (by omega)]) ?_
                                        refine g_ialdN (k := ((eI ((h : Int) - 8 + (stp (mv b) l i)) k) + 8).toNat) hX (ar_78 Z) (by omega) (by decide) dX6_fewestBumps_248 ?_
                                        refine g_top (nI ((tB (tX (tF (mv b) l i) (stp (mv b) l i) (roN (mv b) l i) (phN (mv b)) h) ((h : Int) - 8 + (stp (mv b) l i)) ((tF (mv b) l i) ((h : Int) - 8)) (phN (mv b)) (min k (((h : Int) - 8 + (stp (mv b) l i)).natAbs + 1))) (eI ((h : Int) - 8 + (stp (mv b) l i)) k))) (by rw [hO3.2.1 _ (by omega), show (((eI ((h : Int) - 8 + (stp (mv b) l i)) k) + 8).toNat : Int) - 8 = (eI ((h : Int) - 8 + (stp (mv b) l i)) k) by omega]) ?_
                                        refine g_icmp_ge hX 272 dX6_fewestBumps_249 (by decide) (fun c249 => ?_) (fun c249 => ?_)
                                        · refine g_iinc_7 hX 1 dX6_fewestBumps_272 (by decide) rfl ?_
                                          refine g_goto hX 125 dX6_fewestBumps_275 (by decide) ?_
                                          exact g_weak (lvw_c (lvw_c (lvw_c (lvw_c (lvw_c (lvw_c (lvw_c (lvw_c (lvw_n (lvw_n (lvw_n lvw_nil))))))))))) (ih125 _ _ ⟨⟨hO3.1, by rw [tB_min, if_neg (bI_z.mp c212), if_pos h2e]; exact Rm_st hO3.2.1 (fun z => c249 (nI_lt z (Nat.lt_of_le_of_lt hTe (by decide)))), fun _ => hsp⟩, by simp only [nI_succ]⟩)
                                        · refine g_aload_0 hX dX6_fewestBumps_252 ?_
                                          refine gt_X6_then hX dX6_fewestBumps_253 ?_
                                          refine g_iload_8 hX dX6_fewestBumps_256 ?_
                                          refine g_bipush hX 8 dX6_fewestBumps_258 (by decide) ?_
                                          refine g_iadd hX dX6_fewestBumps_260 ?_
                                          refine g_top (nI ((eI ((h : Int) - 8 + (stp (mv b) l i)) k) + 8).toNat) (by rw [show (8 : Int32) = zI 8 from rfl, zI_add, zI_nat (by omega)]) ?_
                                          refine g_aload_0 hX dX6_fewestBumps_261 ?_
                                          refine gt_X6_fewest hX dX6_fewestBumps_262 ?_
                                          refine g_iload_5 hX dX6_fewestBumps_265 ?_
                                          refine g_ialdN (k := h) hX (ar_77 Z) (by omega) (by decide) dX6_fewestBumps_267 ?_
                                          refine g_top (nI ((tF (mv b) l i) ((h : Int) - 8))) f77 ?_
                                          refine g_iload_7 hX dX6_fewestBumps_268 ?_
                                          refine g_iadd hX dX6_fewestBumps_270 ?_
                                          refine g_top (nI (((tF (mv b) l i) ((h : Int) - 8)) + k)) (by rw [nI_add]) ?_
                                          refine g_iastN (k := ((eI ((h : Int) - 8 + (stp (mv b) l i)) k) + 8).toNat) hX (ar_78 Z) (by omega) (by decide) dX6_fewestBumps_271 ?_
                                          refine g_iinc_7 hX 1 dX6_fewestBumps_272 (by decide) rfl ?_
                                          refine g_goto hX 125 dX6_fewestBumps_275 (by decide) ?_
                                          exact g_weak (lvw_c (lvw_c (lvw_c (lvw_c (lvw_c (lvw_c (lvw_c (lvw_c (lvw_n (lvw_n (lvw_n lvw_nil))))))))))) (ih125 _ _ ⟨⟨fun j hj => by rw [u2c _ _ hj]; exact hO3.1 j hj, by rw [tB_min, if_neg (bI_z.mp c212), if_pos h2e]; exact Rm_up hO3.2.1 he3 ((nI_ltI (by omega) (Nat.lt_of_le_of_lt hTe (by decide))).mp c249), fun _ => hsp⟩, by simp only [nI_succ]⟩)
                                  · refine g_iload_8 hX dX6_fewestBumps_200 ?_
                                    refine g_ineg hX dX6_fewestBumps_202 ?_
                                    refine g_goto hX 208 dX6_fewestBumps_203 (by decide) ?_
                                    refine g_top (nI (eI ((h : Int) - 8 + (stp (mv b) l i)) k).natAbs) (by first | exact (absN hei).1 c197 | exact (absN hei).2 c197) ?_
                                    refine g_istore_10 hX dX6_fewestBumps_208 rfl ?_
                                    refine g_iload_9 hX dX6_fewestBumps_210 ?_
                                    refine g_if_ne hX 272 dX6_fewestBumps_212 (by decide) (fun c212 => ?_) (fun c212 => ?_)
                                    · refine g_iinc_7 hX 1 dX6_fewestBumps_272 (by decide) rfl ?_
                                      refine g_goto hX 125 dX6_fewestBumps_275 (by decide) ?_
                                      exact g_weak (lvw_c (lvw_c (lvw_c (lvw_c (lvw_c (lvw_c (lvw_c (lvw_c (lvw_n (lvw_n (lvw_n lvw_nil))))))))))) (ih125 _ _ ⟨⟨hO3.1, by rw [tB_min, if_pos (bI_nz.mp c212)]; exact hO3.2.1, fun _ => hsp⟩, by simp only [nI_succ]⟩)
                                    · refine g_iconst hX 2 dX6_fewestBumps_215 (by decide) ?_
                                      refine g_iload_10 hX dX6_fewestBumps_216 ?_
                                      refine g_imul hX dX6_fewestBumps_218 ?_
                                      refine g_top (nI (2 * (eI ((h : Int) - 8 + (stp (mv b) l i)) k).natAbs)) (pk_mul 2 _) ?_
                                      refine g_aload_0 hX dX6_fewestBumps_219 ?_
                                      refine gt_X6_now hX dX6_fewestBumps_220 ?_
                                      refine g_bipush hX 7 dX6_fewestBumps_223 (by decide) ?_
                                      refine g_ialdN (k := 7) hX (ar_71 Z) (by decide) (by decide) dX6_fewestBumps_225 ?_
                                      refine g_top (nI (phN (mv b))) f71 ?_
                                      refine g_icmp_gt hX 272 dX6_fewestBumps_226 (by decide) (fun c226 => ?_) (fun c226 => ?_)
                                      · refine g_iinc_7 hX 1 dX6_fewestBumps_272 (by decide) rfl ?_
                                        refine g_goto hX 125 dX6_fewestBumps_275 (by decide) ?_
                                        exact g_weak (lvw_c (lvw_c (lvw_c (lvw_c (lvw_c (lvw_c (lvw_c (lvw_c (lvw_n (lvw_n (lvw_n lvw_nil))))))))))) (ih125 _ _ ⟨⟨hO3.1, by rw [tB_min, if_neg (bI_z.mp c212), if_neg (fun z => nI_nlt z (by omega) c226)]; exact hO3.2.1, fun _ => hsp⟩, by simp only [nI_succ]⟩)
                                      · have h2e : 2 * (eI ((h : Int) - 8 + (stp (mv b) l i)) k).natAbs ≤ phN (mv b) := by
                                          rcases Nat.lt_or_ge (phN (mv b)) (2 * (eI ((h : Int) - 8 + (stp (mv b) l i)) k).natAbs) with q | q
                                          · exact absurd (nI_lt q (by omega)) c226
                                          · exact q
                                        have he3 : (eI ((h : Int) - 8 + (stp (mv b) l i)) k).natAbs ≤ 3 := by omega
                                        refine g_aload_0 hX dX6_fewestBumps_229 ?_
                                        refine gt_X6_fewest hX dX6_fewestBumps_230 ?_
                                        refine g_iload_5 hX dX6_fewestBumps_233 ?_
                                        refine g_ialdN (k := h) hX (ar_77 Z) (by omega) (by decide) dX6_fewestBumps_235 ?_
                                        refine g_top (nI ((tF (mv b) l i) ((h : Int) - 8))) f77 ?_
                                        refine g_iload_7 hX dX6_fewestBumps_236 ?_
                                        refine g_iadd hX dX6_fewestBumps_238 ?_
                                        refine g_top (nI (((tF (mv b) l i) ((h : Int) - 8)) + k)) (by rw [nI_add]) ?_
                                        refine g_aload_0 hX dX6_fewestBumps_239 ?_
                                        refine gt_X6_then hX dX6_fewestBumps_240 ?_
                                        refine g_iload_8 hX dX6_fewestBumps_243 ?_
                                        refine g_bipush hX 8 dX6_fewestBumps_245 (by decide) ?_
                                        refine g_iadd hX dX6_fewestBumps_247 ?_
                                        refine g_top (nI ((eI ((h : Int) - 8 + (stp (mv b) l i)) k) + 8).toNat) (by rw [show (8 : Int32) = zI 8 from rfl, zI_add, zI_nat (by omega)]) ?_
                                        refine g_ialdN (k := ((eI ((h : Int) - 8 + (stp (mv b) l i)) k) + 8).toNat) hX (ar_78 Z) (by omega) (by decide) dX6_fewestBumps_248 ?_
                                        refine g_top (nI ((tB (tX (tF (mv b) l i) (stp (mv b) l i) (roN (mv b) l i) (phN (mv b)) h) ((h : Int) - 8 + (stp (mv b) l i)) ((tF (mv b) l i) ((h : Int) - 8)) (phN (mv b)) (min k (((h : Int) - 8 + (stp (mv b) l i)).natAbs + 1))) (eI ((h : Int) - 8 + (stp (mv b) l i)) k))) (by rw [hO3.2.1 _ (by omega), show (((eI ((h : Int) - 8 + (stp (mv b) l i)) k) + 8).toNat : Int) - 8 = (eI ((h : Int) - 8 + (stp (mv b) l i)) k) by omega]) ?_
                                        refine g_icmp_ge hX 272 dX6_fewestBumps_249 (by decide) (fun c249 => ?_) (fun c249 => ?_)
                                        · refine g_iinc_7 hX 1 dX6_fewestBumps_272 (by decide) rfl ?_
                                          refine g_goto hX 125 dX6_fewestBumps_275 (by decide) ?_
                                          exact g_weak (lvw_c (lvw_c (lvw_c (lvw_c (lvw_c (lvw_c (lvw_c (lvw_c (lvw_n (lvw_n (lvw_n lvw_nil))))))))))) (ih125 _ _ ⟨⟨hO3.1, by rw [tB_min, if_neg (bI_z.mp c212), if_pos h2e]; exact Rm_st hO3.2.1 (fun z => c249 (nI_lt z (Nat.lt_of_le_of_lt hTe (by decide)))), fun _ => hsp⟩, by simp only [nI_succ]⟩)
                                        · refine g_aload_0 hX dX6_fewestBumps_252 ?_
                                          refine gt_X6_then hX dX6_fewestBumps_253 ?_
                                          refine g_iload_8 hX dX6_fewestBumps_256 ?_
                                          refine g_bipush hX 8 dX6_fewestBumps_258 (by decide) ?_
                                          refine g_iadd hX dX6_fewestBumps_260 ?_
                                          refine g_top (nI ((eI ((h : Int) - 8 + (stp (mv b) l i)) k) + 8).toNat) (by rw [show (8 : Int32) = zI 8 from rfl, zI_add, zI_nat (by omega)]) ?_
                                          refine g_aload_0 hX dX6_fewestBumps_261 ?_
                                          refine gt_X6_fewest hX dX6_fewestBumps_262 ?_
                                          refine g_iload_5 hX dX6_fewestBumps_265 ?_
                                          refine g_ialdN (k := h) hX (ar_77 Z) (by omega) (by decide) dX6_fewestBumps_267 ?_
                                          refine g_top (nI ((tF (mv b) l i) ((h : Int) - 8))) f77 ?_
                                          refine g_iload_7 hX dX6_fewestBumps_268 ?_
                                          refine g_iadd hX dX6_fewestBumps_270 ?_
                                          refine g_top (nI (((tF (mv b) l i) ((h : Int) - 8)) + k)) (by rw [nI_add]) ?_
                                          refine g_iastN (k := ((eI ((h : Int) - 8 + (stp (mv b) l i)) k) + 8).toNat) hX (ar_78 Z) (by omega) (by decide) dX6_fewestBumps_271 ?_
                                          refine g_iinc_7 hX 1 dX6_fewestBumps_272 (by decide) rfl ?_
                                          refine g_goto hX 125 dX6_fewestBumps_275 (by decide) ?_
                                          exact g_weak (lvw_c (lvw_c (lvw_c (lvw_c (lvw_c (lvw_c (lvw_c (lvw_c (lvw_n (lvw_n (lvw_n lvw_nil))))))))))) (ih125 _ _ ⟨⟨fun j hj => by rw [u2c _ _ hj]; exact hO3.1 j hj, by rw [tB_min, if_neg (bI_z.mp c212), if_pos h2e]; exact Rm_up hO3.2.1 he3 ((nI_ltI (by omega) (Nat.lt_of_le_of_lt hTe (by decide))).mp c249), fun _ => hsp⟩, by simp only [nI_succ]⟩)
                                · refine g_iconst hX 1 dX6_fewestBumps_188 (by decide) ?_
                                  refine g_goto hX 193 dX6_fewestBumps_189 (by decide) ?_
                                  refine g_top (bI (((h : Int) - 8 + (stp (mv b) l i)).natAbs < k)) (by first | (rw [bI_t (by have := hpos.mp c167; have h9 : (eI ((h : Int) - 8 + (stp (mv b) l i)) k) < 0 := (zI_lt (b := 0) (by omega) (by omega)).mp c172; unfold eI at h9; rw [if_pos this] at h9; omega)]; done) | (rw [bI_f (by have := hpos.mp c167; have h9 : ¬ (eI ((h : Int) - 8 + (stp (mv b) l i)) k) < 0 := fun z => c172 ((zI_lt (b := 0) (by omega) (by omega)).mpr z); unfold eI at h9; rw [if_pos this] at h9; omega)]; done) | (rw [bI_t (by have : ¬ 0 < ((h : Int) - 8 + (stp (mv b) l i)) := fun z => c167 (hpos.mpr z); have h9 : 0 < (eI ((h : Int) - 8 + (stp (mv b) l i)) k) := (zI_lt (a := 0) (by omega) (by omega)).mp c185; unfold eI at h9; rw [if_neg this] at h9; omega)]; done) | (rw [bI_f (by have : ¬ 0 < ((h : Int) - 8 + (stp (mv b) l i)) := fun z => c167 (hpos.mpr z); have h9 : ¬ 0 < (eI ((h : Int) - 8 + (stp (mv b) l i)) k) := fun z => c185 ((zI_lt (a := 0) (by omega) (by omega)).mpr z); unfold eI at h9; rw [if_neg this] at h9; omega)]; done)) ?_
                                  refine g_istore_9 hX dX6_fewestBumps_193 rfl ?_
                                  refine g_iload_8 hX dX6_fewestBumps_195 ?_
                                  refine g_if_ge hX 206 dX6_fewestBumps_197 (by decide) (fun c197 => ?_) (fun c197 => ?_)
                                  · refine g_iload_8 hX dX6_fewestBumps_206 ?_
                                    refine g_top (nI (eI ((h : Int) - 8 + (stp (mv b) l i)) k).natAbs) (by first | exact (absN hei).1 c197 | exact (absN hei).2 c197) ?_
                                    refine g_istore_10 hX dX6_fewestBumps_208 rfl ?_
                                    refine g_iload_9 hX dX6_fewestBumps_210 ?_
                                    refine g_if_ne hX 272 dX6_fewestBumps_212 (by decide) (fun c212 => ?_) (fun c212 => ?_)
                                    · refine g_iinc_7 hX 1 dX6_fewestBumps_272 (by decide) rfl ?_
                                      refine g_goto hX 125 dX6_fewestBumps_275 (by decide) ?_
                                      exact g_weak (lvw_c (lvw_c (lvw_c (lvw_c (lvw_c (lvw_c (lvw_c (lvw_c (lvw_n (lvw_n (lvw_n lvw_nil))))))))))) (ih125 _ _ ⟨⟨hO3.1, by rw [tB_min, if_pos (bI_nz.mp c212)]; exact hO3.2.1, fun _ => hsp⟩, by simp only [nI_succ]⟩)
                                    · refine g_iconst hX 2 dX6_fewestBumps_215 (by decide) ?_
                                      refine g_iload_10 hX dX6_fewestBumps_216 ?_
                                      refine g_imul hX dX6_fewestBumps_218 ?_
                                      refine g_top (nI (2 * (eI ((h : Int) - 8 + (stp (mv b) l i)) k).natAbs)) (pk_mul 2 _) ?_
                                      refine g_aload_0 hX dX6_fewestBumps_219 ?_
                                      refine gt_X6_now hX dX6_fewestBumps_220 ?_
                                      refine g_bipush hX 7 dX6_fewestBumps_223 (by decide) ?_
                                      refine g_ialdN (k := 7) hX (ar_71 Z) (by decide) (by decide) dX6_fewestBumps_225 ?_
                                      refine g_top (nI (phN (mv b))) f71 ?_
                                      refine g_icmp_gt hX 272 dX6_fewestBumps_226 (by decide) (fun c226 => ?_) (fun c226 => ?_)
                                      · refine g_iinc_7 hX 1 dX6_fewestBumps_272 (by decide) rfl ?_
                                        refine g_goto hX 125 dX6_fewestBumps_275 (by decide) ?_
                                        exact g_weak (lvw_c (lvw_c (lvw_c (lvw_c (lvw_c (lvw_c (lvw_c (lvw_c (lvw_n (lvw_n (lvw_n lvw_nil))))))))))) (ih125 _ _ ⟨⟨hO3.1, by rw [tB_min, if_neg (bI_z.mp c212), if_neg (fun z => nI_nlt z (by omega) c226)]; exact hO3.2.1, fun _ => hsp⟩, by simp only [nI_succ]⟩)
                                      · have h2e : 2 * (eI ((h : Int) - 8 + (stp (mv b) l i)) k).natAbs ≤ phN (mv b) := by
                                          rcases Nat.lt_or_ge (phN (mv b)) (2 * (eI ((h : Int) - 8 + (stp (mv b) l i)) k).natAbs) with q | q
                                          · exact absurd (nI_lt q (by omega)) c226
                                          · exact q
                                        have he3 : (eI ((h : Int) - 8 + (stp (mv b) l i)) k).natAbs ≤ 3 := by omega
                                        refine g_aload_0 hX dX6_fewestBumps_229 ?_
                                        refine gt_X6_fewest hX dX6_fewestBumps_230 ?_
                                        refine g_iload_5 hX dX6_fewestBumps_233 ?_
                                        refine g_ialdN (k := h) hX (ar_77 Z) (by omega) (by decide) dX6_fewestBumps_235 ?_
                                        refine g_top (nI ((tF (mv b) l i) ((h : Int) - 8))) f77 ?_
                                        refine g_iload_7 hX dX6_fewestBumps_236 ?_
                                        refine g_iadd hX dX6_fewestBumps_238 ?_
                                        refine g_top (nI (((tF (mv b) l i) ((h : Int) - 8)) + k)) (by rw [nI_add]) ?_
                                        refine g_aload_0 hX dX6_fewestBumps_239 ?_
                                        refine gt_X6_then hX dX6_fewestBumps_240 ?_
                                        refine g_iload_8 hX dX6_fewestBumps_243 ?_
                                        refine g_bipush hX 8 dX6_fewestBumps_245 (by decide) ?_
                                        refine g_iadd hX dX6_fewestBumps_247 ?_
                                        refine g_top (nI ((eI ((h : Int) - 8 + (stp (mv b) l i)) k) + 8).toNat) (by rw [show (8 : Int32) = zI 8 from rfl, zI_add, zI_nat (by omega)]) ?_
                                        refine g_ialdN (k := ((eI ((h : Int) - 8 + (stp (mv b) l i)) k) + 8).toNat) hX (ar_78 Z) (by omega) (by decide) dX6_fewestBumps_248 ?_
                                        refine g_top (nI ((tB (tX (tF (mv b) l i) (stp (mv b) l i) (roN (mv b) l i) (phN (mv b)) h) ((h : Int) - 8 + (stp (mv b) l i)) ((tF (mv b) l i) ((h : Int) - 8)) (phN (mv b)) (min k (((h : Int) - 8 + (stp (mv b) l i)).natAbs + 1))) (eI ((h : Int) - 8 + (stp (mv b) l i)) k))) (by rw [hO3.2.1 _ (by omega), show (((eI ((h : Int) - 8 + (stp (mv b) l i)) k) + 8).toNat : Int) - 8 = (eI ((h : Int) - 8 + (stp (mv b) l i)) k) by omega]) ?_
                                        refine g_icmp_ge hX 272 dX6_fewestBumps_249 (by decide) (fun c249 => ?_) (fun c249 => ?_)
                                        · refine g_iinc_7 hX 1 dX6_fewestBumps_272 (by decide) rfl ?_
                                          refine g_goto hX 125 dX6_fewestBumps_275 (by decide) ?_
                                          exact g_weak (lvw_c (lvw_c (lvw_c (lvw_c (lvw_c (lvw_c (lvw_c (lvw_c (lvw_n (lvw_n (lvw_n lvw_nil))))))))))) (ih125 _ _ ⟨⟨hO3.1, by rw [tB_min, if_neg (bI_z.mp c212), if_pos h2e]; exact Rm_st hO3.2.1 (fun z => c249 (nI_lt z (Nat.lt_of_le_of_lt hTe (by decide)))), fun _ => hsp⟩, by simp only [nI_succ]⟩)
                                        · refine g_aload_0 hX dX6_fewestBumps_252 ?_
                                          refine gt_X6_then hX dX6_fewestBumps_253 ?_
                                          refine g_iload_8 hX dX6_fewestBumps_256 ?_
                                          refine g_bipush hX 8 dX6_fewestBumps_258 (by decide) ?_
                                          refine g_iadd hX dX6_fewestBumps_260 ?_
                                          refine g_top (nI ((eI ((h : Int) - 8 + (stp (mv b) l i)) k) + 8).toNat) (by rw [show (8 : Int32) = zI 8 from rfl, zI_add, zI_nat (by omega)]) ?_
                                          refine g_aload_0 hX dX6_fewestBumps_261 ?_
                                          refine gt_X6_fewest hX dX6_fewestBumps_262 ?_
                                          refine g_iload_5 hX dX6_fewestBumps_265 ?_
                                          refine g_ialdN (k := h) hX (ar_77 Z) (by omega) (by decide) dX6_fewestBumps_267 ?_
                                          refine g_top (nI ((tF (mv b) l i) ((h : Int) - 8))) f77 ?_
                                          refine g_iload_7 hX dX6_fewestBumps_268 ?_
                                          refine g_iadd hX dX6_fewestBumps_270 ?_
                                          refine g_top (nI (((tF (mv b) l i) ((h : Int) - 8)) + k)) (by rw [nI_add]) ?_
                                          refine g_iastN (k := ((eI ((h : Int) - 8 + (stp (mv b) l i)) k) + 8).toNat) hX (ar_78 Z) (by omega) (by decide) dX6_fewestBumps_271 ?_
                                          refine g_iinc_7 hX 1 dX6_fewestBumps_272 (by decide) rfl ?_
                                          refine g_goto hX 125 dX6_fewestBumps_275 (by decide) ?_
                                          exact g_weak (lvw_c (lvw_c (lvw_c (lvw_c (lvw_c (lvw_c (lvw_c (lvw_c (lvw_n (lvw_n (lvw_n lvw_nil))))))))))) (ih125 _ _ ⟨⟨fun j hj => by rw [u2c _ _ hj]; exact hO3.1 j hj, by rw [tB_min, if_neg (bI_z.mp c212), if_pos h2e]; exact Rm_up hO3.2.1 he3 ((nI_ltI (by omega) (Nat.lt_of_le_of_lt hTe (by decide))).mp c249), fun _ => hsp⟩, by simp only [nI_succ]⟩)
                                  · refine g_iload_8 hX dX6_fewestBumps_200 ?_
                                    refine g_ineg hX dX6_fewestBumps_202 ?_
                                    refine g_goto hX 208 dX6_fewestBumps_203 (by decide) ?_
                                    refine g_top (nI (eI ((h : Int) - 8 + (stp (mv b) l i)) k).natAbs) (by first | exact (absN hei).1 c197 | exact (absN hei).2 c197) ?_
                                    refine g_istore_10 hX dX6_fewestBumps_208 rfl ?_
                                    refine g_iload_9 hX dX6_fewestBumps_210 ?_
                                    refine g_if_ne hX 272 dX6_fewestBumps_212 (by decide) (fun c212 => ?_) (fun c212 => ?_)
                                    · refine g_iinc_7 hX 1 dX6_fewestBumps_272 (by decide) rfl ?_
                                      refine g_goto hX 125 dX6_fewestBumps_275 (by decide) ?_
                                      exact g_weak (lvw_c (lvw_c (lvw_c (lvw_c (lvw_c (lvw_c (lvw_c (lvw_c (lvw_n (lvw_n (lvw_n lvw_nil))))))))))) (ih125 _ _ ⟨⟨hO3.1, by rw [tB_min, if_pos (bI_nz.mp c212)]; exact hO3.2.1, fun _ => hsp⟩, by simp only [nI_succ]⟩)
                                    · refine g_iconst hX 2 dX6_fewestBumps_215 (by decide) ?_
                                      refine g_iload_10 hX dX6_fewestBumps_216 ?_
                                      refine g_imul hX dX6_fewestBumps_218 ?_
                                      refine g_top (nI (2 * (eI ((h : Int) - 8 + (stp (mv b) l i)) k).natAbs)) (pk_mul 2 _) ?_
                                      refine g_aload_0 hX dX6_fewestBumps_219 ?_
                                      refine gt_X6_now hX dX6_fewestBumps_220 ?_
                                      refine g_bipush hX 7 dX6_fewestBumps_223 (by decide) ?_
                                      refine g_ialdN (k := 7) hX (ar_71 Z) (by decide) (by decide) dX6_fewestBumps_225 ?_
                                      refine g_top (nI (phN (mv b))) f71 ?_
                                      refine g_icmp_gt hX 272 dX6_fewestBumps_226 (by decide) (fun c226 => ?_) (fun c226 => ?_)
                                      · refine g_iinc_7 hX 1 dX6_fewestBumps_272 (by decide) rfl ?_
                                        refine g_goto hX 125 dX6_fewestBumps_275 (by decide) ?_
                                        exact g_weak (lvw_c (lvw_c (lvw_c (lvw_c (lvw_c (lvw_c (lvw_c (lvw_c (lvw_n (lvw_n (lvw_n lvw_nil))))))))))) (ih125 _ _ ⟨⟨hO3.1, by rw [tB_min, if_neg (bI_z.mp c212), if_neg (fun z => nI_nlt z (by omega) c226)]; exact hO3.2.1, fun _ => hsp⟩, by simp only [nI_succ]⟩)
                                      · have h2e : 2 * (eI ((h : Int) - 8 + (stp (mv b) l i)) k).natAbs ≤ phN (mv b) := by
                                          rcases Nat.lt_or_ge (phN (mv b)) (2 * (eI ((h : Int) - 8 + (stp (mv b) l i)) k).natAbs) with q | q
                                          · exact absurd (nI_lt q (by omega)) c226
                                          · exact q
                                        have he3 : (eI ((h : Int) - 8 + (stp (mv b) l i)) k).natAbs ≤ 3 := by omega
                                        refine g_aload_0 hX dX6_fewestBumps_229 ?_
                                        refine gt_X6_fewest hX dX6_fewestBumps_230 ?_
                                        refine g_iload_5 hX dX6_fewestBumps_233 ?_
                                        refine g_ialdN (k := h) hX (ar_77 Z) (by omega) (by decide) dX6_fewestBumps_235 ?_
                                        refine g_top (nI ((tF (mv b) l i) ((h : Int) - 8))) f77 ?_
                                        refine g_iload_7 hX dX6_fewestBumps_236 ?_
                                        refine g_iadd hX dX6_fewestBumps_238 ?_
                                        refine g_top (nI (((tF (mv b) l i) ((h : Int) - 8)) + k)) (by rw [nI_add]) ?_
                                        refine g_aload_0 hX dX6_fewestBumps_239 ?_
                                        refine gt_X6_then hX dX6_fewestBumps_240 ?_
                                        refine g_iload_8 hX dX6_fewestBumps_243 ?_
                                        refine g_bipush hX 8 dX6_fewestBumps_245 (by decide) ?_
                                        refine g_iadd hX dX6_fewestBumps_247 ?_
                                        refine g_top (nI ((eI ((h : Int) - 8 + (stp (mv b) l i)) k) + 8).toNat) (by rw [show (8 : Int32) = zI 8 from rfl, zI_add, zI_nat (by omega)]) ?_
                                        refine g_ialdN (k := ((eI ((h : Int) - 8 + (stp (mv b) l i)) k) + 8).toNat) hX (ar_78 Z) (by omega) (by decide) dX6_fewestBumps_248 ?_
                                        refine g_top (nI ((tB (tX (tF (mv b) l i) (stp (mv b) l i) (roN (mv b) l i) (phN (mv b)) h) ((h : Int) - 8 + (stp (mv b) l i)) ((tF (mv b) l i) ((h : Int) - 8)) (phN (mv b)) (min k (((h : Int) - 8 + (stp (mv b) l i)).natAbs + 1))) (eI ((h : Int) - 8 + (stp (mv b) l i)) k))) (by rw [hO3.2.1 _ (by omega), show (((eI ((h : Int) - 8 + (stp (mv b) l i)) k) + 8).toNat : Int) - 8 = (eI ((h : Int) - 8 + (stp (mv b) l i)) k) by omega]) ?_
                                        refine g_icmp_ge hX 272 dX6_fewestBumps_249 (by decide) (fun c249 => ?_) (fun c249 => ?_)
                                        · refine g_iinc_7 hX 1 dX6_fewestBumps_272 (by decide) rfl ?_
                                          refine g_goto hX 125 dX6_fewestBumps_275 (by decide) ?_
                                          exact g_weak (lvw_c (lvw_c (lvw_c (lvw_c (lvw_c (lvw_c (lvw_c (lvw_c (lvw_n (lvw_n (lvw_n lvw_nil))))))))))) (ih125 _ _ ⟨⟨hO3.1, by rw [tB_min, if_neg (bI_z.mp c212), if_pos h2e]; exact Rm_st hO3.2.1 (fun z => c249 (nI_lt z (Nat.lt_of_le_of_lt hTe (by decide)))), fun _ => hsp⟩, by simp only [nI_succ]⟩)
                                        · refine g_aload_0 hX dX6_fewestBumps_252 ?_
                                          refine gt_X6_then hX dX6_fewestBumps_253 ?_
                                          refine g_iload_8 hX dX6_fewestBumps_256 ?_
                                          refine g_bipush hX 8 dX6_fewestBumps_258 (by decide) ?_
                                          refine g_iadd hX dX6_fewestBumps_260 ?_
                                          refine g_top (nI ((eI ((h : Int) - 8 + (stp (mv b) l i)) k) + 8).toNat) (by rw [show (8 : Int32) = zI 8 from rfl, zI_add, zI_nat (by omega)]) ?_
                                          refine g_aload_0 hX dX6_fewestBumps_261 ?_
                                          refine gt_X6_fewest hX dX6_fewestBumps_262 ?_
                                          refine g_iload_5 hX dX6_fewestBumps_265 ?_
                                          refine g_ialdN (k := h) hX (ar_77 Z) (by omega) (by decide) dX6_fewestBumps_267 ?_
                                          refine g_top (nI ((tF (mv b) l i) ((h : Int) - 8))) f77 ?_
                                          refine g_iload_7 hX dX6_fewestBumps_268 ?_
                                          refine g_iadd hX dX6_fewestBumps_270 ?_
                                          refine g_top (nI (((tF (mv b) l i) ((h : Int) - 8)) + k)) (by rw [nI_add]) ?_
                                          refine g_iastN (k := ((eI ((h : Int) - 8 + (stp (mv b) l i)) k) + 8).toNat) hX (ar_78 Z) (by omega) (by decide) dX6_fewestBumps_271 ?_
                                          refine g_iinc_7 hX 1 dX6_fewestBumps_272 (by decide) rfl ?_
                                          refine g_goto hX 125 dX6_fewestBumps_275 (by decide) ?_
                                          exact g_weak (lvw_c (lvw_c (lvw_c (lvw_c (lvw_c (lvw_c (lvw_c (lvw_c (lvw_n (lvw_n (lvw_n lvw_nil))))))))))) (ih125 _ _ ⟨⟨fun j hj => by rw [u2c _ _ hj]; exact hO3.1 j hj, by rw [tB_min, if_neg (bI_z.mp c212), if_pos h2e]; exact Rm_up hO3.2.1 he3 ((nI_ltI (by omega) (Nat.lt_of_le_of_lt hTe (by decide))).mp c249), fun _ => hsp⟩, by simp only [nI_succ]⟩)
                              · refine g_iload_8 hX dX6_fewestBumps_170 ?_
                                refine g_if_ge hX 179 dX6_fewestBumps_172 (by decide) (fun c172 => ?_) (fun c172 => ?_)
                                · refine g_iconst hX 0 dX6_fewestBumps_179 (by decide) ?_
                                  refine g_goto hX 193 dX6_fewestBumps_180 (by decide) ?_
                                  refine g_top (bI (((h : Int) - 8 + (stp (mv b) l i)).natAbs < k)) (by first | (rw [bI_t (by have := hpos.mp c167; have h9 : (eI ((h : Int) - 8 + (stp (mv b) l i)) k) < 0 := (zI_lt (b := 0) (by omega) (by omega)).mp c172; unfold eI at h9; rw [if_pos this] at h9; omega)]; done) | (rw [bI_f (by have := hpos.mp c167; have h9 : ¬ (eI ((h : Int) - 8 + (stp (mv b) l i)) k) < 0 := fun z => c172 ((zI_lt (b := 0) (by omega) (by omega)).mpr z); unfold eI at h9; rw [if_pos this] at h9; omega)]; done) | (rw [bI_t (by have : ¬ 0 < ((h : Int) - 8 + (stp (mv b) l i)) := fun z => c167 (hpos.mpr z); have h9 : 0 < (eI ((h : Int) - 8 + (stp (mv b) l i)) k) := (zI_lt (a := 0) (by omega) (by omega)).mp c185; unfold eI at h9; rw [if_neg this] at h9; omega)]; done) | (rw [bI_f (by have : ¬ 0 < ((h : Int) - 8 + (stp (mv b) l i)) := fun z => c167 (hpos.mpr z); have h9 : ¬ 0 < (eI ((h : Int) - 8 + (stp (mv b) l i)) k) := fun z => c185 ((zI_lt (a := 0) (by omega) (by omega)).mpr z); unfold eI at h9; rw [if_neg this] at h9; omega)]; done)) ?_
                                  refine g_istore_9 hX dX6_fewestBumps_193 rfl ?_
                                  refine g_iload_8 hX dX6_fewestBumps_195 ?_
                                  refine g_if_ge hX 206 dX6_fewestBumps_197 (by decide) (fun c197 => ?_) (fun c197 => ?_)
                                  · refine g_iload_8 hX dX6_fewestBumps_206 ?_
                                    refine g_top (nI (eI ((h : Int) - 8 + (stp (mv b) l i)) k).natAbs) (by first | exact (absN hei).1 c197 | exact (absN hei).2 c197) ?_
                                    refine g_istore_10 hX dX6_fewestBumps_208 rfl ?_
                                    refine g_iload_9 hX dX6_fewestBumps_210 ?_
                                    refine g_if_ne hX 272 dX6_fewestBumps_212 (by decide) (fun c212 => ?_) (fun c212 => ?_)
                                    · refine g_iinc_7 hX 1 dX6_fewestBumps_272 (by decide) rfl ?_
                                      refine g_goto hX 125 dX6_fewestBumps_275 (by decide) ?_
                                      exact g_weak (lvw_c (lvw_c (lvw_c (lvw_c (lvw_c (lvw_c (lvw_c (lvw_c (lvw_n (lvw_n (lvw_n lvw_nil))))))))))) (ih125 _ _ ⟨⟨hO3.1, by rw [tB_min, if_pos (bI_nz.mp c212)]; exact hO3.2.1, fun _ => hsp⟩, by simp only [nI_succ]⟩)
                                    · refine g_iconst hX 2 dX6_fewestBumps_215 (by decide) ?_
                                      refine g_iload_10 hX dX6_fewestBumps_216 ?_
                                      refine g_imul hX dX6_fewestBumps_218 ?_
                                      refine g_top (nI (2 * (eI ((h : Int) - 8 + (stp (mv b) l i)) k).natAbs)) (pk_mul 2 _) ?_
                                      refine g_aload_0 hX dX6_fewestBumps_219 ?_
                                      refine gt_X6_now hX dX6_fewestBumps_220 ?_
                                      refine g_bipush hX 7 dX6_fewestBumps_223 (by decide) ?_
                                      refine g_ialdN (k := 7) hX (ar_71 Z) (by decide) (by decide) dX6_fewestBumps_225 ?_
                                      refine g_top (nI (phN (mv b))) f71 ?_
                                      refine g_icmp_gt hX 272 dX6_fewestBumps_226 (by decide) (fun c226 => ?_) (fun c226 => ?_)
                                      · refine g_iinc_7 hX 1 dX6_fewestBumps_272 (by decide) rfl ?_
                                        refine g_goto hX 125 dX6_fewestBumps_275 (by decide) ?_
                                        exact g_weak (lvw_c (lvw_c (lvw_c (lvw_c (lvw_c (lvw_c (lvw_c (lvw_c (lvw_n (lvw_n (lvw_n lvw_nil))))))))))) (ih125 _ _ ⟨⟨hO3.1, by rw [tB_min, if_neg (bI_z.mp c212), if_neg (fun z => nI_nlt z (by omega) c226)]; exact hO3.2.1, fun _ => hsp⟩, by simp only [nI_succ]⟩)
                                      · have h2e : 2 * (eI ((h : Int) - 8 + (stp (mv b) l i)) k).natAbs ≤ phN (mv b) := by
                                          rcases Nat.lt_or_ge (phN (mv b)) (2 * (eI ((h : Int) - 8 + (stp (mv b) l i)) k).natAbs) with q | q
                                          · exact absurd (nI_lt q (by omega)) c226
                                          · exact q
                                        have he3 : (eI ((h : Int) - 8 + (stp (mv b) l i)) k).natAbs ≤ 3 := by omega
                                        refine g_aload_0 hX dX6_fewestBumps_229 ?_
                                        refine gt_X6_fewest hX dX6_fewestBumps_230 ?_
                                        refine g_iload_5 hX dX6_fewestBumps_233 ?_
                                        refine g_ialdN (k := h) hX (ar_77 Z) (by omega) (by decide) dX6_fewestBumps_235 ?_
                                        refine g_top (nI ((tF (mv b) l i) ((h : Int) - 8))) f77 ?_
                                        refine g_iload_7 hX dX6_fewestBumps_236 ?_
                                        refine g_iadd hX dX6_fewestBumps_238 ?_
                                        refine g_top (nI (((tF (mv b) l i) ((h : Int) - 8)) + k)) (by rw [nI_add]) ?_
                                        refine g_aload_0 hX dX6_fewestBumps_239 ?_
                                        refine gt_X6_then hX dX6_fewestBumps_240 ?_
                                        refine g_iload_8 hX dX6_fewestBumps_243 ?_
                                        refine g_bipush hX 8 dX6_fewestBumps_245 (by decide) ?_
                                        refine g_iadd hX dX6_fewestBumps_247 ?_
                                        refine g_top (nI ((eI ((h : Int) - 8 + (stp (mv b) l i)) k) + 8).toNat) (by rw [show (8 : Int32) = zI 8 from rfl, zI_add, zI_nat (by omega)]) ?_
                                        refine g_ialdN (k := ((eI ((h : Int) - 8 + (stp (mv b) l i)) k) + 8).toNat) hX (ar_78 Z) (by omega) (by decide) dX6_fewestBumps_248 ?_
                                        refine g_top (nI ((tB (tX (tF (mv b) l i) (stp (mv b) l i) (roN (mv b) l i) (phN (mv b)) h) ((h : Int) - 8 + (stp (mv b) l i)) ((tF (mv b) l i) ((h : Int) - 8)) (phN (mv b)) (min k (((h : Int) - 8 + (stp (mv b) l i)).natAbs + 1))) (eI ((h : Int) - 8 + (stp (mv b) l i)) k))) (by rw [hO3.2.1 _ (by omega), show (((eI ((h : Int) - 8 + (stp (mv b) l i)) k) + 8).toNat : Int) - 8 = (eI ((h : Int) - 8 + (stp (mv b) l i)) k) by omega]) ?_
                                        refine g_icmp_ge hX 272 dX6_fewestBumps_249 (by decide) (fun c249 => ?_) (fun c249 => ?_)
                                        · refine g_iinc_7 hX 1 dX6_fewestBumps_272 (by decide) rfl ?_
                                          refine g_goto hX 125 dX6_fewestBumps_275 (by decide) ?_
                                          exact g_weak (lvw_c (lvw_c (lvw_c (lvw_c (lvw_c (lvw_c (lvw_c (lvw_c (lvw_n (lvw_n (lvw_n lvw_nil))))))))))) (ih125 _ _ ⟨⟨hO3.1, by rw [tB_min, if_neg (bI_z.mp c212), if_pos h2e]; exact Rm_st hO3.2.1 (fun z => c249 (nI_lt z (Nat.lt_of_le_of_lt hTe (by decide)))), fun _ => hsp⟩, by simp only [nI_succ]⟩)
                                        · refine g_aload_0 hX dX6_fewestBumps_252 ?_
                                          refine gt_X6_then hX dX6_fewestBumps_253 ?_
                                          refine g_iload_8 hX dX6_fewestBumps_256 ?_
                                          refine g_bipush hX 8 dX6_fewestBumps_258 (by decide) ?_
                                          refine g_iadd hX dX6_fewestBumps_260 ?_
                                          refine g_top (nI ((eI ((h : Int) - 8 + (stp (mv b) l i)) k) + 8).toNat) (by rw [show (8 : Int32) = zI 8 from rfl, zI_add, zI_nat (by omega)]) ?_
                                          refine g_aload_0 hX dX6_fewestBumps_261 ?_
                                          refine gt_X6_fewest hX dX6_fewestBumps_262 ?_
                                          refine g_iload_5 hX dX6_fewestBumps_265 ?_
                                          refine g_ialdN (k := h) hX (ar_77 Z) (by omega) (by decide) dX6_fewestBumps_267 ?_
                                          refine g_top (nI ((tF (mv b) l i) ((h : Int) - 8))) f77 ?_
                                          refine g_iload_7 hX dX6_fewestBumps_268 ?_
                                          refine g_iadd hX dX6_fewestBumps_270 ?_
                                          refine g_top (nI (((tF (mv b) l i) ((h : Int) - 8)) + k)) (by rw [nI_add]) ?_
                                          refine g_iastN (k := ((eI ((h : Int) - 8 + (stp (mv b) l i)) k) + 8).toNat) hX (ar_78 Z) (by omega) (by decide) dX6_fewestBumps_271 ?_
                                          refine g_iinc_7 hX 1 dX6_fewestBumps_272 (by decide) rfl ?_
                                          refine g_goto hX 125 dX6_fewestBumps_275 (by decide) ?_
                                          exact g_weak (lvw_c (lvw_c (lvw_c (lvw_c (lvw_c (lvw_c (lvw_c (lvw_c (lvw_n (lvw_n (lvw_n lvw_nil))))))))))) (ih125 _ _ ⟨⟨fun j hj => by rw [u2c _ _ hj]; exact hO3.1 j hj, by rw [tB_min, if_neg (bI_z.mp c212), if_pos h2e]; exact Rm_up hO3.2.1 he3 ((nI_ltI (by omega) (Nat.lt_of_le_of_lt hTe (by decide))).mp c249), fun _ => hsp⟩, by simp only [nI_succ]⟩)
                                  · refine g_iload_8 hX dX6_fewestBumps_200 ?_
                                    refine g_ineg hX dX6_fewestBumps_202 ?_
                                    refine g_goto hX 208 dX6_fewestBumps_203 (by decide) ?_
                                    refine g_top (nI (eI ((h : Int) - 8 + (stp (mv b) l i)) k).natAbs) (by first | exact (absN hei).1 c197 | exact (absN hei).2 c197) ?_
                                    refine g_istore_10 hX dX6_fewestBumps_208 rfl ?_
                                    refine g_iload_9 hX dX6_fewestBumps_210 ?_
                                    refine g_if_ne hX 272 dX6_fewestBumps_212 (by decide) (fun c212 => ?_) (fun c212 => ?_)
                                    · refine g_iinc_7 hX 1 dX6_fewestBumps_272 (by decide) rfl ?_
                                      refine g_goto hX 125 dX6_fewestBumps_275 (by decide) ?_
                                      exact g_weak (lvw_c (lvw_c (lvw_c (lvw_c (lvw_c (lvw_c (lvw_c (lvw_c (lvw_n (lvw_n (lvw_n lvw_nil))))))))))) (ih125 _ _ ⟨⟨hO3.1, by rw [tB_min, if_pos (bI_nz.mp c212)]; exact hO3.2.1, fun _ => hsp⟩, by simp only [nI_succ]⟩)
                                    · refine g_iconst hX 2 dX6_fewestBumps_215 (by decide) ?_
                                      refine g_iload_10 hX dX6_fewestBumps_216 ?_
                                      refine g_imul hX dX6_fewestBumps_218 ?_
                                      refine g_top (nI (2 * (eI ((h : Int) - 8 + (stp (mv b) l i)) k).natAbs)) (pk_mul 2 _) ?_
                                      refine g_aload_0 hX dX6_fewestBumps_219 ?_
                                      refine gt_X6_now hX dX6_fewestBumps_220 ?_
                                      refine g_bipush hX 7 dX6_fewestBumps_223 (by decide) ?_
                                      refine g_ialdN (k := 7) hX (ar_71 Z) (by decide) (by decide) dX6_fewestBumps_225 ?_
                                      refine g_top (nI (phN (mv b))) f71 ?_
                                      refine g_icmp_gt hX 272 dX6_fewestBumps_226 (by decide) (fun c226 => ?_) (fun c226 => ?_)
                                      · refine g_iinc_7 hX 1 dX6_fewestBumps_272 (by decide) rfl ?_
                                        refine g_goto hX 125 dX6_fewestBumps_275 (by decide) ?_
                                        exact g_weak (lvw_c (lvw_c (lvw_c (lvw_c (lvw_c (lvw_c (lvw_c (lvw_c (lvw_n (lvw_n (lvw_n lvw_nil))))))))))) (ih125 _ _ ⟨⟨hO3.1, by rw [tB_min, if_neg (bI_z.mp c212), if_neg (fun z => nI_nlt z (by omega) c226)]; exact hO3.2.1, fun _ => hsp⟩, by simp only [nI_succ]⟩)
                                      · have h2e : 2 * (eI ((h : Int) - 8 + (stp (mv b) l i)) k).natAbs ≤ phN (mv b) := by
                                          rcases Nat.lt_or_ge (phN (mv b)) (2 * (eI ((h : Int) - 8 + (stp (mv b) l i)) k).natAbs) with q | q
                                          · exact absurd (nI_lt q (by omega)) c226
                                          · exact q
                                        have he3 : (eI ((h : Int) - 8 + (stp (mv b) l i)) k).natAbs ≤ 3 := by omega
                                        refine g_aload_0 hX dX6_fewestBumps_229 ?_
                                        refine gt_X6_fewest hX dX6_fewestBumps_230 ?_
                                        refine g_iload_5 hX dX6_fewestBumps_233 ?_
                                        refine g_ialdN (k := h) hX (ar_77 Z) (by omega) (by decide) dX6_fewestBumps_235 ?_
                                        refine g_top (nI ((tF (mv b) l i) ((h : Int) - 8))) f77 ?_
                                        refine g_iload_7 hX dX6_fewestBumps_236 ?_
                                        refine g_iadd hX dX6_fewestBumps_238 ?_
                                        refine g_top (nI (((tF (mv b) l i) ((h : Int) - 8)) + k)) (by rw [nI_add]) ?_
                                        refine g_aload_0 hX dX6_fewestBumps_239 ?_
                                        refine gt_X6_then hX dX6_fewestBumps_240 ?_
                                        refine g_iload_8 hX dX6_fewestBumps_243 ?_
                                        refine g_bipush hX 8 dX6_fewestBumps_245 (by decide) ?_
                                        refine g_iadd hX dX6_fewestBumps_247 ?_
                                        refine g_top (nI ((eI ((h : Int) - 8 + (stp (mv b) l i)) k) + 8).toNat) (by rw [show (8 : Int32) = zI 8 from rfl, zI_add, zI_nat (by omega)]) ?_
                                        refine g_ialdN (k := ((eI ((h : Int) - 8 + (stp (mv b) l i)) k) + 8).toNat) hX (ar_78 Z) (by omega) (by decide) dX6_fewestBumps_248 ?_
                                        refine g_top (nI ((tB (tX (tF (mv b) l i) (stp (mv b) l i) (roN (mv b) l i) (phN (mv b)) h) ((h : Int) - 8 + (stp (mv b) l i)) ((tF (mv b) l i) ((h : Int) - 8)) (phN (mv b)) (min k (((h : Int) - 8 + (stp (mv b) l i)).natAbs + 1))) (eI ((h : Int) - 8 + (stp (mv b) l i)) k))) (by rw [hO3.2.1 _ (by omega), show (((eI ((h : Int) - 8 + (stp (mv b) l i)) k) + 8).toNat : Int) - 8 = (eI ((h : Int) - 8 + (stp (mv b) l i)) k) by omega]) ?_
                                        refine g_icmp_ge hX 272 dX6_fewestBumps_249 (by decide) (fun c249 => ?_) (fun c249 => ?_)
                                        · refine g_iinc_7 hX 1 dX6_fewestBumps_272 (by decide) rfl ?_
                                          refine g_goto hX 125 dX6_fewestBumps_275 (by decide) ?_
                                          exact g_weak (lvw_c (lvw_c (lvw_c (lvw_c (lvw_c (lvw_c (lvw_c (lvw_c (lvw_n (lvw_n (lvw_n lvw_nil))))))))))) (ih125 _ _ ⟨⟨hO3.1, by rw [tB_min, if_neg (bI_z.mp c212), if_pos h2e]; exact Rm_st hO3.2.1 (fun z => c249 (nI_lt z (Nat.lt_of_le_of_lt hTe (by decide)))), fun _ => hsp⟩, by simp only [nI_succ]⟩)
                                        · refine g_aload_0 hX dX6_fewestBumps_252 ?_
                                          refine gt_X6_then hX dX6_fewestBumps_253 ?_
                                          refine g_iload_8 hX dX6_fewestBumps_256 ?_
                                          refine g_bipush hX 8 dX6_fewestBumps_258 (by decide) ?_
                                          refine g_iadd hX dX6_fewestBumps_260 ?_
                                          refine g_top (nI ((eI ((h : Int) - 8 + (stp (mv b) l i)) k) + 8).toNat) (by rw [show (8 : Int32) = zI 8 from rfl, zI_add, zI_nat (by omega)]) ?_
                                          refine g_aload_0 hX dX6_fewestBumps_261 ?_
                                          refine gt_X6_fewest hX dX6_fewestBumps_262 ?_
                                          refine g_iload_5 hX dX6_fewestBumps_265 ?_
                                          refine g_ialdN (k := h) hX (ar_77 Z) (by omega) (by decide) dX6_fewestBumps_267 ?_
                                          refine g_top (nI ((tF (mv b) l i) ((h : Int) - 8))) f77 ?_
                                          refine g_iload_7 hX dX6_fewestBumps_268 ?_
                                          refine g_iadd hX dX6_fewestBumps_270 ?_
                                          refine g_top (nI (((tF (mv b) l i) ((h : Int) - 8)) + k)) (by rw [nI_add]) ?_
                                          refine g_iastN (k := ((eI ((h : Int) - 8 + (stp (mv b) l i)) k) + 8).toNat) hX (ar_78 Z) (by omega) (by decide) dX6_fewestBumps_271 ?_
                                          refine g_iinc_7 hX 1 dX6_fewestBumps_272 (by decide) rfl ?_
                                          refine g_goto hX 125 dX6_fewestBumps_275 (by decide) ?_
                                          exact g_weak (lvw_c (lvw_c (lvw_c (lvw_c (lvw_c (lvw_c (lvw_c (lvw_c (lvw_n (lvw_n (lvw_n lvw_nil))))))))))) (ih125 _ _ ⟨⟨fun j hj => by rw [u2c _ _ hj]; exact hO3.1 j hj, by rw [tB_min, if_neg (bI_z.mp c212), if_pos h2e]; exact Rm_up hO3.2.1 he3 ((nI_ltI (by omega) (Nat.lt_of_le_of_lt hTe (by decide))).mp c249), fun _ => hsp⟩, by simp only [nI_succ]⟩)
                                · refine g_iconst hX 1 dX6_fewestBumps_175 (by decide) ?_
                                  refine g_goto hX 193 dX6_fewestBumps_176 (by decide) ?_
                                  refine g_top (bI (((h : Int) - 8 + (stp (mv b) l i)).natAbs < k)) (by first | (rw [bI_t (by have := hpos.mp c167; have h9 : (eI ((h : Int) - 8 + (stp (mv b) l i)) k) < 0 := (zI_lt (b := 0) (by omega) (by omega)).mp c172; unfold eI at h9; rw [if_pos this] at h9; omega)]; done) | (rw [bI_f (by have := hpos.mp c167; have h9 : ¬ (eI ((h : Int) - 8 + (stp (mv b) l i)) k) < 0 := fun z => c172 ((zI_lt (b := 0) (by omega) (by omega)).mpr z); unfold eI at h9; rw [if_pos this] at h9; omega)]; done) | (rw [bI_t (by have : ¬ 0 < ((h : Int) - 8 + (stp (mv b) l i)) := fun z => c167 (hpos.mpr z); have h9 : 0 < (eI ((h : Int) - 8 + (stp (mv b) l i)) k) := (zI_lt (a := 0) (by omega) (by omega)).mp c185; unfold eI at h9; rw [if_neg this] at h9; omega)]; done) | (rw [bI_f (by have : ¬ 0 < ((h : Int) - 8 + (stp (mv b) l i)) := fun z => c167 (hpos.mpr z); have h9 : ¬ 0 < (eI ((h : Int) - 8 + (stp (mv b) l i)) k) := fun z => c185 ((zI_lt (a := 0) (by omega) (by omega)).mpr z); unfold eI at h9; rw [if_neg this] at h9; omega)]; done)) ?_
                                  refine g_istore_9 hX dX6_fewestBumps_193 rfl ?_
                                  refine g_iload_8 hX dX6_fewestBumps_195 ?_
                                  refine g_if_ge hX 206 dX6_fewestBumps_197 (by decide) (fun c197 => ?_) (fun c197 => ?_)
                                  · refine g_iload_8 hX dX6_fewestBumps_206 ?_
                                    refine g_top (nI (eI ((h : Int) - 8 + (stp (mv b) l i)) k).natAbs) (by first | exact (absN hei).1 c197 | exact (absN hei).2 c197) ?_
                                    refine g_istore_10 hX dX6_fewestBumps_208 rfl ?_
                                    refine g_iload_9 hX dX6_fewestBumps_210 ?_
                                    refine g_if_ne hX 272 dX6_fewestBumps_212 (by decide) (fun c212 => ?_) (fun c212 => ?_)
                                    · refine g_iinc_7 hX 1 dX6_fewestBumps_272 (by decide) rfl ?_
                                      refine g_goto hX 125 dX6_fewestBumps_275 (by decide) ?_
                                      exact g_weak (lvw_c (lvw_c (lvw_c (lvw_c (lvw_c (lvw_c (lvw_c (lvw_c (lvw_n (lvw_n (lvw_n lvw_nil))))))))))) (ih125 _ _ ⟨⟨hO3.1, by rw [tB_min, if_pos (bI_nz.mp c212)]; exact hO3.2.1, fun _ => hsp⟩, by simp only [nI_succ]⟩)
                                    · refine g_iconst hX 2 dX6_fewestBumps_215 (by decide) ?_
                                      refine g_iload_10 hX dX6_fewestBumps_216 ?_
                                      refine g_imul hX dX6_fewestBumps_218 ?_
                                      refine g_top (nI (2 * (eI ((h : Int) - 8 + (stp (mv b) l i)) k).natAbs)) (pk_mul 2 _) ?_
                                      refine g_aload_0 hX dX6_fewestBumps_219 ?_
                                      refine gt_X6_now hX dX6_fewestBumps_220 ?_
                                      refine g_bipush hX 7 dX6_fewestBumps_223 (by decide) ?_
                                      refine g_ialdN (k := 7) hX (ar_71 Z) (by decide) (by decide) dX6_fewestBumps_225 ?_
                                      refine g_top (nI (phN (mv b))) f71 ?_
                                      refine g_icmp_gt hX 272 dX6_fewestBumps_226 (by decide) (fun c226 => ?_) (fun c226 => ?_)
                                      · refine g_iinc_7 hX 1 dX6_fewestBumps_272 (by decide) rfl ?_
                                        refine g_goto hX 125 dX6_fewestBumps_275 (by decide) ?_
                                        exact g_weak (lvw_c (lvw_c (lvw_c (lvw_c (lvw_c (lvw_c (lvw_c (lvw_c (lvw_n (lvw_n (lvw_n lvw_nil))))))))))) (ih125 _ _ ⟨⟨hO3.1, by rw [tB_min, if_neg (bI_z.mp c212), if_neg (fun z => nI_nlt z (by omega) c226)]; exact hO3.2.1, fun _ => hsp⟩, by simp only [nI_succ]⟩)
                                      · have h2e : 2 * (eI ((h : Int) - 8 + (stp (mv b) l i)) k).natAbs ≤ phN (mv b) := by
                                          rcases Nat.lt_or_ge (phN (mv b)) (2 * (eI ((h : Int) - 8 + (stp (mv b) l i)) k).natAbs) with q | q
                                          · exact absurd (nI_lt q (by omega)) c226
                                          · exact q
                                        have he3 : (eI ((h : Int) - 8 + (stp (mv b) l i)) k).natAbs ≤ 3 := by omega
                                        refine g_aload_0 hX dX6_fewestBumps_229 ?_
                                        refine gt_X6_fewest hX dX6_fewestBumps_230 ?_
                                        refine g_iload_5 hX dX6_fewestBumps_233 ?_
                                        refine g_ialdN (k := h) hX (ar_77 Z) (by omega) (by decide) dX6_fewestBumps_235 ?_
                                        refine g_top (nI ((tF (mv b) l i) ((h : Int) - 8))) f77 ?_
                                        refine g_iload_7 hX dX6_fewestBumps_236 ?_
                                        refine g_iadd hX dX6_fewestBumps_238 ?_
                                        refine g_top (nI (((tF (mv b) l i) ((h : Int) - 8)) + k)) (by rw [nI_add]) ?_
                                        refine g_aload_0 hX dX6_fewestBumps_239 ?_
                                        refine gt_X6_then hX dX6_fewestBumps_240 ?_
                                        refine g_iload_8 hX dX6_fewestBumps_243 ?_
                                        refine g_bipush hX 8 dX6_fewestBumps_245 (by decide) ?_
                                        refine g_iadd hX dX6_fewestBumps_247 ?_
                                        refine g_top (nI ((eI ((h : Int) - 8 + (stp (mv b) l i)) k) + 8).toNat) (by rw [show (8 : Int32) = zI 8 from rfl, zI_add, zI_nat (by omega)]) ?_
                                        refine g_ialdN (k := ((eI ((h : Int) - 8 + (stp (mv b) l i)) k) + 8).toNat) hX (ar_78 Z) (by omega) (by decide) dX6_fewestBumps_248 ?_
                                        refine g_top (nI ((tB (tX (tF (mv b) l i) (stp (mv b) l i) (roN (mv b) l i) (phN (mv b)) h) ((h : Int) - 8 + (stp (mv b) l i)) ((tF (mv b) l i) ((h : Int) - 8)) (phN (mv b)) (min k (((h : Int) - 8 + (stp (mv b) l i)).natAbs + 1))) (eI ((h : Int) - 8 + (stp (mv b) l i)) k))) (by rw [hO3.2.1 _ (by omega), show (((eI ((h : Int) - 8 + (stp (mv b) l i)) k) + 8).toNat : Int) - 8 = (eI ((h : Int) - 8 + (stp (mv b) l i)) k) by omega]) ?_
                                        refine g_icmp_ge hX 272 dX6_fewestBumps_249 (by decide) (fun c249 => ?_) (fun c249 => ?_)
                                        · refine g_iinc_7 hX 1 dX6_fewestBumps_272 (by decide) rfl ?_
                                          refine g_goto hX 125 dX6_fewestBumps_275 (by decide) ?_
                                          exact g_weak (lvw_c (lvw_c (lvw_c (lvw_c (lvw_c (lvw_c (lvw_c (lvw_c (lvw_n (lvw_n (lvw_n lvw_nil))))))))))) (ih125 _ _ ⟨⟨hO3.1, by rw [tB_min, if_neg (bI_z.mp c212), if_pos h2e]; exact Rm_st hO3.2.1 (fun z => c249 (nI_lt z (Nat.lt_of_le_of_lt hTe (by decide)))), fun _ => hsp⟩, by simp only [nI_succ]⟩)
                                        · refine g_aload_0 hX dX6_fewestBumps_252 ?_
                                          refine gt_X6_then hX dX6_fewestBumps_253 ?_
                                          refine g_iload_8 hX dX6_fewestBumps_256 ?_
                                          refine g_bipush hX 8 dX6_fewestBumps_258 (by decide) ?_
                                          refine g_iadd hX dX6_fewestBumps_260 ?_
                                          refine g_top (nI ((eI ((h : Int) - 8 + (stp (mv b) l i)) k) + 8).toNat) (by rw [show (8 : Int32) = zI 8 from rfl, zI_add, zI_nat (by omega)]) ?_
                                          refine g_aload_0 hX dX6_fewestBumps_261 ?_
                                          refine gt_X6_fewest hX dX6_fewestBumps_262 ?_
                                          refine g_iload_5 hX dX6_fewestBumps_265 ?_
                                          refine g_ialdN (k := h) hX (ar_77 Z) (by omega) (by decide) dX6_fewestBumps_267 ?_
                                          refine g_top (nI ((tF (mv b) l i) ((h : Int) - 8))) f77 ?_
                                          refine g_iload_7 hX dX6_fewestBumps_268 ?_
                                          refine g_iadd hX dX6_fewestBumps_270 ?_
                                          refine g_top (nI (((tF (mv b) l i) ((h : Int) - 8)) + k)) (by rw [nI_add]) ?_
                                          refine g_iastN (k := ((eI ((h : Int) - 8 + (stp (mv b) l i)) k) + 8).toNat) hX (ar_78 Z) (by omega) (by decide) dX6_fewestBumps_271 ?_
                                          refine g_iinc_7 hX 1 dX6_fewestBumps_272 (by decide) rfl ?_
                                          refine g_goto hX 125 dX6_fewestBumps_275 (by decide) ?_
                                          exact g_weak (lvw_c (lvw_c (lvw_c (lvw_c (lvw_c (lvw_c (lvw_c (lvw_c (lvw_n (lvw_n (lvw_n lvw_nil))))))))))) (ih125 _ _ ⟨⟨fun j hj => by rw [u2c _ _ hj]; exact hO3.1 j hj, by rw [tB_min, if_neg (bI_z.mp c212), if_pos h2e]; exact Rm_up hO3.2.1 he3 ((nI_ltI (by omega) (Nat.lt_of_le_of_lt hTe (by decide))).mp c249), fun _ => hsp⟩, by simp only [nI_succ]⟩)
                                  · refine g_iload_8 hX dX6_fewestBumps_200 ?_
                                    refine g_ineg hX dX6_fewestBumps_202 ?_
                                    refine g_goto hX 208 dX6_fewestBumps_203 (by decide) ?_
                                    refine g_top (nI (eI ((h : Int) - 8 + (stp (mv b) l i)) k).natAbs) (by first | exact (absN hei).1 c197 | exact (absN hei).2 c197) ?_
                                    refine g_istore_10 hX dX6_fewestBumps_208 rfl ?_
                                    refine g_iload_9 hX dX6_fewestBumps_210 ?_
                                    refine g_if_ne hX 272 dX6_fewestBumps_212 (by decide) (fun c212 => ?_) (fun c212 => ?_)
                                    · refine g_iinc_7 hX 1 dX6_fewestBumps_272 (by decide) rfl ?_
                                      refine g_goto hX 125 dX6_fewestBumps_275 (by decide) ?_
                                      exact g_weak (lvw_c (lvw_c (lvw_c (lvw_c (lvw_c (lvw_c (lvw_c (lvw_c (lvw_n (lvw_n (lvw_n lvw_nil))))))))))) (ih125 _ _ ⟨⟨hO3.1, by rw [tB_min, if_pos (bI_nz.mp c212)]; exact hO3.2.1, fun _ => hsp⟩, by simp only [nI_succ]⟩)
                                    · refine g_iconst hX 2 dX6_fewestBumps_215 (by decide) ?_
                                      refine g_iload_10 hX dX6_fewestBumps_216 ?_
                                      refine g_imul hX dX6_fewestBumps_218 ?_
                                      refine g_top (nI (2 * (eI ((h : Int) - 8 + (stp (mv b) l i)) k).natAbs)) (pk_mul 2 _) ?_
                                      refine g_aload_0 hX dX6_fewestBumps_219 ?_
                                      refine gt_X6_now hX dX6_fewestBumps_220 ?_
                                      refine g_bipush hX 7 dX6_fewestBumps_223 (by decide) ?_
                                      refine g_ialdN (k := 7) hX (ar_71 Z) (by decide) (by decide) dX6_fewestBumps_225 ?_
                                      refine g_top (nI (phN (mv b))) f71 ?_
                                      refine g_icmp_gt hX 272 dX6_fewestBumps_226 (by decide) (fun c226 => ?_) (fun c226 => ?_)
                                      · refine g_iinc_7 hX 1 dX6_fewestBumps_272 (by decide) rfl ?_
                                        refine g_goto hX 125 dX6_fewestBumps_275 (by decide) ?_
                                        exact g_weak (lvw_c (lvw_c (lvw_c (lvw_c (lvw_c (lvw_c (lvw_c (lvw_c (lvw_n (lvw_n (lvw_n lvw_nil))))))))))) (ih125 _ _ ⟨⟨hO3.1, by rw [tB_min, if_neg (bI_z.mp c212), if_neg (fun z => nI_nlt z (by omega) c226)]; exact hO3.2.1, fun _ => hsp⟩, by simp only [nI_succ]⟩)
                                      · have h2e : 2 * (eI ((h : Int) - 8 + (stp (mv b) l i)) k).natAbs ≤ phN (mv b) := by
                                          rcases Nat.lt_or_ge (phN (mv b)) (2 * (eI ((h : Int) - 8 + (stp (mv b) l i)) k).natAbs) with q | q
                                          · exact absurd (nI_lt q (by omega)) c226
                                          · exact q
                                        have he3 : (eI ((h : Int) - 8 + (stp (mv b) l i)) k).natAbs ≤ 3 := by omega
                                        refine g_aload_0 hX dX6_fewestBumps_229 ?_
                                        refine gt_X6_fewest hX dX6_fewestBumps_230 ?_
                                        refine g_iload_5 hX dX6_fewestBumps_233 ?_
                                        refine g_ialdN (k := h) hX (ar_77 Z) (by omega) (by decide) dX6_fewestBumps_235 ?_
                                        refine g_top (nI ((tF (mv b) l i) ((h : Int) - 8))) f77 ?_
                                        refine g_iload_7 hX dX6_fewestBumps_236 ?_
                                        refine g_iadd hX dX6_fewestBumps_238 ?_
                                        refine g_top (nI (((tF (mv b) l i) ((h : Int) - 8)) + k)) (by rw [nI_add]) ?_
                                        refine g_aload_0 hX dX6_fewestBumps_239 ?_
                                        refine gt_X6_then hX dX6_fewestBumps_240 ?_
                                        refine g_iload_8 hX dX6_fewestBumps_243 ?_
                                        refine g_bipush hX 8 dX6_fewestBumps_245 (by decide) ?_
                                        refine g_iadd hX dX6_fewestBumps_247 ?_
                                        refine g_top (nI ((eI ((h : Int) - 8 + (stp (mv b) l i)) k) + 8).toNat) (by rw [show (8 : Int32) = zI 8 from rfl, zI_add, zI_nat (by omega)]) ?_
                                        refine g_ialdN (k := ((eI ((h : Int) - 8 + (stp (mv b) l i)) k) + 8).toNat) hX (ar_78 Z) (by omega) (by decide) dX6_fewestBumps_248 ?_
                                        refine g_top (nI ((tB (tX (tF (mv b) l i) (stp (mv b) l i) (roN (mv b) l i) (phN (mv b)) h) ((h : Int) - 8 + (stp (mv b) l i)) ((tF (mv b) l i) ((h : Int) - 8)) (phN (mv b)) (min k (((h : Int) - 8 + (stp (mv b) l i)).natAbs + 1))) (eI ((h : Int) - 8 + (stp (mv b) l i)) k))) (by rw [hO3.2.1 _ (by omega), show (((eI ((h : Int) - 8 + (stp (mv b) l i)) k) + 8).toNat : Int) - 8 = (eI ((h : Int) - 8 + (stp (mv b) l i)) k) by omega]) ?_
                                        refine g_icmp_ge hX 272 dX6_fewestBumps_249 (by decide) (fun c249 => ?_) (fun c249 => ?_)
                                        · refine g_iinc_7 hX 1 dX6_fewestBumps_272 (by decide) rfl ?_
                                          refine g_goto hX 125 dX6_fewestBumps_275 (by decide) ?_
                                          exact g_weak (lvw_c (lvw_c (lvw_c (lvw_c (lvw_c (lvw_c (lvw_c (lvw_c (lvw_n (lvw_n (lvw_n lvw_nil))))))))))) (ih125 _ _ ⟨⟨hO3.1, by rw [tB_min, if_neg (bI_z.mp c212), if_pos h2e]; exact Rm_st hO3.2.1 (fun z => c249 (nI_lt z (Nat.lt_of_le_of_lt hTe (by decide)))), fun _ => hsp⟩, by simp only [nI_succ]⟩)
                                        · refine g_aload_0 hX dX6_fewestBumps_252 ?_
                                          refine gt_X6_then hX dX6_fewestBumps_253 ?_
                                          refine g_iload_8 hX dX6_fewestBumps_256 ?_
                                          refine g_bipush hX 8 dX6_fewestBumps_258 (by decide) ?_
                                          refine g_iadd hX dX6_fewestBumps_260 ?_
                                          refine g_top (nI ((eI ((h : Int) - 8 + (stp (mv b) l i)) k) + 8).toNat) (by rw [show (8 : Int32) = zI 8 from rfl, zI_add, zI_nat (by omega)]) ?_
                                          refine g_aload_0 hX dX6_fewestBumps_261 ?_
                                          refine gt_X6_fewest hX dX6_fewestBumps_262 ?_
                                          refine g_iload_5 hX dX6_fewestBumps_265 ?_
                                          refine g_ialdN (k := h) hX (ar_77 Z) (by omega) (by decide) dX6_fewestBumps_267 ?_
                                          refine g_top (nI ((tF (mv b) l i) ((h : Int) - 8))) f77 ?_
                                          refine g_iload_7 hX dX6_fewestBumps_268 ?_
                                          refine g_iadd hX dX6_fewestBumps_270 ?_
                                          refine g_top (nI (((tF (mv b) l i) ((h : Int) - 8)) + k)) (by rw [nI_add]) ?_
                                          refine g_iastN (k := ((eI ((h : Int) - 8 + (stp (mv b) l i)) k) + 8).toNat) hX (ar_78 Z) (by omega) (by decide) dX6_fewestBumps_271 ?_
                                          refine g_iinc_7 hX 1 dX6_fewestBumps_272 (by decide) rfl ?_
                                          refine g_goto hX 125 dX6_fewestBumps_275 (by decide) ?_
                                          exact g_weak (lvw_c (lvw_c (lvw_c (lvw_c (lvw_c (lvw_c (lvw_c (lvw_c (lvw_n (lvw_n (lvw_n lvw_nil))))))))))) (ih125 _ _ ⟨⟨fun j hj => by rw [u2c _ _ hj]; exact hO3.1 j hj, by rw [tB_min, if_neg (bI_z.mp c212), if_pos h2e]; exact Rm_up hO3.2.1 he3 ((nI_ltI (by omega) (Nat.lt_of_le_of_lt hTe (by decide))).mp c249), fun _ => hsp⟩, by simp only [nI_succ]⟩)
                            · refine g_iload_6 hX dX6_fewestBumps_150 ?_
                              refine g_iload_7 hX dX6_fewestBumps_152 ?_
                              refine g_isub hX dX6_fewestBumps_154 ?_
                              refine g_goto hX 163 dX6_fewestBumps_155 (by decide) ?_
                              refine g_top (zI (eI ((h : Int) - 8 + (stp (mv b) l i)) k)) (by first | (rw [eI, if_pos (hpos.mp c147), nI_z, zI_sub]; done) | (rw [eI, if_neg (fun q => c147 (hpos.mpr q)), nI_z, zI_add]; done)) ?_
                              refine g_istore_8 hX dX6_fewestBumps_163 rfl ?_
                              refine g_iload_6 hX dX6_fewestBumps_165 ?_
                              refine g_if_le hX 183 dX6_fewestBumps_167 (by decide) (fun c167 => ?_) (fun c167 => ?_)
                              · refine g_iload_8 hX dX6_fewestBumps_183 ?_
                                refine g_if_le hX 192 dX6_fewestBumps_185 (by decide) (fun c185 => ?_) (fun c185 => ?_)
                                · refine g_iconst hX 0 dX6_fewestBumps_192 (by decide) ?_
                                  refine g_top (bI (((h : Int) - 8 + (stp (mv b) l i)).natAbs < k)) (by first | (rw [bI_t (by have := hpos.mp c167; have h9 : (eI ((h : Int) - 8 + (stp (mv b) l i)) k) < 0 := (zI_lt (b := 0) (by omega) (by omega)).mp c172; unfold eI at h9; rw [if_pos this] at h9; omega)]; done) | (rw [bI_f (by have := hpos.mp c167; have h9 : ¬ (eI ((h : Int) - 8 + (stp (mv b) l i)) k) < 0 := fun z => c172 ((zI_lt (b := 0) (by omega) (by omega)).mpr z); unfold eI at h9; rw [if_pos this] at h9; omega)]; done) | (rw [bI_t (by have : ¬ 0 < ((h : Int) - 8 + (stp (mv b) l i)) := fun z => c167 (hpos.mpr z); have h9 : 0 < (eI ((h : Int) - 8 + (stp (mv b) l i)) k) := (zI_lt (a := 0) (by omega) (by omega)).mp c185; unfold eI at h9; rw [if_neg this] at h9; omega)]; done) | (rw [bI_f (by have : ¬ 0 < ((h : Int) - 8 + (stp (mv b) l i)) := fun z => c167 (hpos.mpr z); have h9 : ¬ 0 < (eI ((h : Int) - 8 + (stp (mv b) l i)) k) := fun z => c185 ((zI_lt (a := 0) (by omega) (by omega)).mpr z); unfold eI at h9; rw [if_neg this] at h9; omega)]; done)) ?_
                                  refine g_istore_9 hX dX6_fewestBumps_193 rfl ?_
                                  refine g_iload_8 hX dX6_fewestBumps_195 ?_
                                  refine g_if_ge hX 206 dX6_fewestBumps_197 (by decide) (fun c197 => ?_) (fun c197 => ?_)
                                  · refine g_iload_8 hX dX6_fewestBumps_206 ?_
                                    refine g_top (nI (eI ((h : Int) - 8 + (stp (mv b) l i)) k).natAbs) (by first | exact (absN hei).1 c197 | exact (absN hei).2 c197) ?_
                                    refine g_istore_10 hX dX6_fewestBumps_208 rfl ?_
                                    refine g_iload_9 hX dX6_fewestBumps_210 ?_
                                    refine g_if_ne hX 272 dX6_fewestBumps_212 (by decide) (fun c212 => ?_) (fun c212 => ?_)
                                    · refine g_iinc_7 hX 1 dX6_fewestBumps_272 (by decide) rfl ?_
                                      refine g_goto hX 125 dX6_fewestBumps_275 (by decide) ?_
                                      exact g_weak (lvw_c (lvw_c (lvw_c (lvw_c (lvw_c (lvw_c (lvw_c (lvw_c (lvw_n (lvw_n (lvw_n lvw_nil))))))))))) (ih125 _ _ ⟨⟨hO3.1, by rw [tB_min, if_pos (bI_nz.mp c212)]; exact hO3.2.1, fun _ => hsp⟩, by simp only [nI_succ]⟩)
                                    · refine g_iconst hX 2 dX6_fewestBumps_215 (by decide) ?_
                                      refine g_iload_10 hX dX6_fewestBumps_216 ?_
                                      refine g_imul hX dX6_fewestBumps_218 ?_
                                      refine g_top (nI (2 * (eI ((h : Int) - 8 + (stp (mv b) l i)) k).natAbs)) (pk_mul 2 _) ?_
                                      refine g_aload_0 hX dX6_fewestBumps_219 ?_
                                      refine gt_X6_now hX dX6_fewestBumps_220 ?_
                                      refine g_bipush hX 7 dX6_fewestBumps_223 (by decide) ?_
                                      refine g_ialdN (k := 7) hX (ar_71 Z) (by decide) (by decide) dX6_fewestBumps_225 ?_
                                      refine g_top (nI (phN (mv b))) f71 ?_
                                      refine g_icmp_gt hX 272 dX6_fewestBumps_226 (by decide) (fun c226 => ?_) (fun c226 => ?_)
                                      · refine g_iinc_7 hX 1 dX6_fewestBumps_272 (by decide) rfl ?_
                                        refine g_goto hX 125 dX6_fewestBumps_275 (by decide) ?_
                                        exact g_weak (lvw_c (lvw_c (lvw_c (lvw_c (lvw_c (lvw_c (lvw_c (lvw_c (lvw_n (lvw_n (lvw_n lvw_nil))))))))))) (ih125 _ _ ⟨⟨hO3.1, by rw [tB_min, if_neg (bI_z.mp c212), if_neg (fun z => nI_nlt z (by omega) c226)]; exact hO3.2.1, fun _ => hsp⟩, by simp only [nI_succ]⟩)
                                      · have h2e : 2 * (eI ((h : Int) - 8 + (stp (mv b) l i)) k).natAbs ≤ phN (mv b) := by
                                          rcases Nat.lt_or_ge (phN (mv b)) (2 * (eI ((h : Int) - 8 + (stp (mv b) l i)) k).natAbs) with q | q
                                          · exact absurd (nI_lt q (by omega)) c226
                                          · exact q
                                        have he3 : (eI ((h : Int) - 8 + (stp (mv b) l i)) k).natAbs ≤ 3 := by omega
                                        refine g_aload_0 hX dX6_fewestBumps_229 ?_
                                        refine gt_X6_fewest hX dX6_fewestBumps_230 ?_
                                        refine g_iload_5 hX dX6_fewestBumps_233 ?_
                                        refine g_ialdN (k := h) hX (ar_77 Z) (by omega) (by decide) dX6_fewestBumps_235 ?_
                                        refine g_top (nI ((tF (mv b) l i) ((h : Int) - 8))) f77 ?_
                                        refine g_iload_7 hX dX6_fewestBumps_236 ?_
                                        refine g_iadd hX dX6_fewestBumps_238 ?_
                                        refine g_top (nI (((tF (mv b) l i) ((h : Int) - 8)) + k)) (by rw [nI_add]) ?_
                                        refine g_aload_0 hX dX6_fewestBumps_239 ?_
                                        refine gt_X6_then hX dX6_fewestBumps_240 ?_
                                        refine g_iload_8 hX dX6_fewestBumps_243 ?_
                                        refine g_bipush hX 8 dX6_fewestBumps_245 (by decide) ?_
                                        refine g_iadd hX dX6_fewestBumps_247 ?_
                                        refine g_top (nI ((eI ((h : Int) - 8 + (stp (mv b) l i)) k) + 8).toNat) (by rw [show (8 : Int32) = zI 8 from rfl, zI_add, zI_nat (by omega)]) ?_
                                        refine g_ialdN (k := ((eI ((h : Int) - 8 + (stp (mv b) l i)) k) + 8).toNat) hX (ar_78 Z) (by omega) (by decide) dX6_fewestBumps_248 ?_
                                        refine g_top (nI ((tB (tX (tF (mv b) l i) (stp (mv b) l i) (roN (mv b) l i) (phN (mv b)) h) ((h : Int) - 8 + (stp (mv b) l i)) ((tF (mv b) l i) ((h : Int) - 8)) (phN (mv b)) (min k (((h : Int) - 8 + (stp (mv b) l i)).natAbs + 1))) (eI ((h : Int) - 8 + (stp (mv b) l i)) k))) (by rw [hO3.2.1 _ (by omega), show (((eI ((h : Int) - 8 + (stp (mv b) l i)) k) + 8).toNat : Int) - 8 = (eI ((h : Int) - 8 + (stp (mv b) l i)) k) by omega]) ?_
                                        refine g_icmp_ge hX 272 dX6_fewestBumps_249 (by decide) (fun c249 => ?_) (fun c249 => ?_)
                                        · refine g_iinc_7 hX 1 dX6_fewestBumps_272 (by decide) rfl ?_
                                          refine g_goto hX 125 dX6_fewestBumps_275 (by decide) ?_
                                          exact g_weak (lvw_c (lvw_c (lvw_c (lvw_c (lvw_c (lvw_c (lvw_c (lvw_c (lvw_n (lvw_n (lvw_n lvw_nil))))))))))) (ih125 _ _ ⟨⟨hO3.1, by rw [tB_min, if_neg (bI_z.mp c212), if_pos h2e]; exact Rm_st hO3.2.1 (fun z => c249 (nI_lt z (Nat.lt_of_le_of_lt hTe (by decide)))), fun _ => hsp⟩, by simp only [nI_succ]⟩)
                                        · refine g_aload_0 hX dX6_fewestBumps_252 ?_
                                          refine gt_X6_then hX dX6_fewestBumps_253 ?_
                                          refine g_iload_8 hX dX6_fewestBumps_256 ?_
                                          refine g_bipush hX 8 dX6_fewestBumps_258 (by decide) ?_
                                          refine g_iadd hX dX6_fewestBumps_260 ?_
                                          refine g_top (nI ((eI ((h : Int) - 8 + (stp (mv b) l i)) k) + 8).toNat) (by rw [show (8 : Int32) = zI 8 from rfl, zI_add, zI_nat (by omega)]) ?_
                                          refine g_aload_0 hX dX6_fewestBumps_261 ?_
                                          refine gt_X6_fewest hX dX6_fewestBumps_262 ?_
                                          refine g_iload_5 hX dX6_fewestBumps_265 ?_
                                          refine g_ialdN (k := h) hX (ar_77 Z) (by omega) (by decide) dX6_fewestBumps_267 ?_
                                          refine g_top (nI ((tF (mv b) l i) ((h : Int) - 8))) f77 ?_
                                          refine g_iload_7 hX dX6_fewestBumps_268 ?_
                                          refine g_iadd hX dX6_fewestBumps_270 ?_
                                          refine g_top (nI (((tF (mv b) l i) ((h : Int) - 8)) + k)) (by rw [nI_add]) ?_
                                          refine g_iastN (k := ((eI ((h : Int) - 8 + (stp (mv b) l i)) k) + 8).toNat) hX (ar_78 Z) (by omega) (by decide) dX6_fewestBumps_271 ?_
                                          refine g_iinc_7 hX 1 dX6_fewestBumps_272 (by decide) rfl ?_
                                          refine g_goto hX 125 dX6_fewestBumps_275 (by decide) ?_
                                          exact g_weak (lvw_c (lvw_c (lvw_c (lvw_c (lvw_c (lvw_c (lvw_c (lvw_c (lvw_n (lvw_n (lvw_n lvw_nil))))))))))) (ih125 _ _ ⟨⟨fun j hj => by rw [u2c _ _ hj]; exact hO3.1 j hj, by rw [tB_min, if_neg (bI_z.mp c212), if_pos h2e]; exact Rm_up hO3.2.1 he3 ((nI_ltI (by omega) (Nat.lt_of_le_of_lt hTe (by decide))).mp c249), fun _ => hsp⟩, by simp only [nI_succ]⟩)
                                  · refine g_iload_8 hX dX6_fewestBumps_200 ?_
                                    refine g_ineg hX dX6_fewestBumps_202 ?_
                                    refine g_goto hX 208 dX6_fewestBumps_203 (by decide) ?_
                                    refine g_top (nI (eI ((h : Int) - 8 + (stp (mv b) l i)) k).natAbs) (by first | exact (absN hei).1 c197 | exact (absN hei).2 c197) ?_
                                    refine g_istore_10 hX dX6_fewestBumps_208 rfl ?_
                                    refine g_iload_9 hX dX6_fewestBumps_210 ?_
                                    refine g_if_ne hX 272 dX6_fewestBumps_212 (by decide) (fun c212 => ?_) (fun c212 => ?_)
                                    · refine g_iinc_7 hX 1 dX6_fewestBumps_272 (by decide) rfl ?_
                                      refine g_goto hX 125 dX6_fewestBumps_275 (by decide) ?_
                                      exact g_weak (lvw_c (lvw_c (lvw_c (lvw_c (lvw_c (lvw_c (lvw_c (lvw_c (lvw_n (lvw_n (lvw_n lvw_nil))))))))))) (ih125 _ _ ⟨⟨hO3.1, by rw [tB_min, if_pos (bI_nz.mp c212)]; exact hO3.2.1, fun _ => hsp⟩, by simp only [nI_succ]⟩)
                                    · refine g_iconst hX 2 dX6_fewestBumps_215 (by decide) ?_
                                      refine g_iload_10 hX dX6_fewestBumps_216 ?_
                                      refine g_imul hX dX6_fewestBumps_218 ?_
                                      refine g_top (nI (2 * (eI ((h : Int) - 8 + (stp (mv b) l i)) k).natAbs)) (pk_mul 2 _) ?_
                                      refine g_aload_0 hX dX6_fewestBumps_219 ?_
                                      refine gt_X6_now hX dX6_fewestBumps_220 ?_
                                      refine g_bipush hX 7 dX6_fewestBumps_223 (by decide) ?_
                                      refine g_ialdN (k := 7) hX (ar_71 Z) (by decide) (by decide) dX6_fewestBumps_225 ?_
                                      refine g_top (nI (phN (mv b))) f71 ?_
                                      refine g_icmp_gt hX 272 dX6_fewestBumps_226 (by decide) (fun c226 => ?_) (fun c226 => ?_)
                                      · refine g_iinc_7 hX 1 dX6_fewestBumps_272 (by decide) rfl ?_
                                        refine g_goto hX 125 dX6_fewestBumps_275 (by decide) ?_
                                        exact g_weak (lvw_c (lvw_c (lvw_c (lvw_c (lvw_c (lvw_c (lvw_c (lvw_c (lvw_n (lvw_n (lvw_n lvw_nil))))))))))) (ih125 _ _ ⟨⟨hO3.1, by rw [tB_min, if_neg (bI_z.mp c212), if_neg (fun z => nI_nlt z (by omega) c226)]; exact hO3.2.1, fun _ => hsp⟩, by simp only [nI_succ]⟩)
                                      · have h2e : 2 * (eI ((h : Int) - 8 + (stp (mv b) l i)) k).natAbs ≤ phN (mv b) := by
                                          rcases Nat.lt_or_ge (phN (mv b)) (2 * (eI ((h : Int) - 8 + (stp (mv b) l i)) k).natAbs) with q | q
                                          · exact absurd (nI_lt q (by omega)) c226
                                          · exact q
                                        have he3 : (eI ((h : Int) - 8 + (stp (mv b) l i)) k).natAbs ≤ 3 := by omega
                                        refine g_aload_0 hX dX6_fewestBumps_229 ?_
                                        refine gt_X6_fewest hX dX6_fewestBumps_230 ?_
                                        refine g_iload_5 hX dX6_fewestBumps_233 ?_
                                        refine g_ialdN (k := h) hX (ar_77 Z) (by omega) (by decide) dX6_fewestBumps_235 ?_
                                        refine g_top (nI ((tF (mv b) l i) ((h : Int) - 8))) f77 ?_
                                        refine g_iload_7 hX dX6_fewestBumps_236 ?_
                                        refine g_iadd hX dX6_fewestBumps_238 ?_
                                        refine g_top (nI (((tF (mv b) l i) ((h : Int) - 8)) + k)) (by rw [nI_add]) ?_
                                        refine g_aload_0 hX dX6_fewestBumps_239 ?_
                                        refine gt_X6_then hX dX6_fewestBumps_240 ?_
                                        refine g_iload_8 hX dX6_fewestBumps_243 ?_
                                        refine g_bipush hX 8 dX6_fewestBumps_245 (by decide) ?_
                                        refine g_iadd hX dX6_fewestBumps_247 ?_
                                        refine g_top (nI ((eI ((h : Int) - 8 + (stp (mv b) l i)) k) + 8).toNat) (by rw [show (8 : Int32) = zI 8 from rfl, zI_add, zI_nat (by omega)]) ?_
                                        refine g_ialdN (k := ((eI ((h : Int) - 8 + (stp (mv b) l i)) k) + 8).toNat) hX (ar_78 Z) (by omega) (by decide) dX6_fewestBumps_248 ?_
                                        refine g_top (nI ((tB (tX (tF (mv b) l i) (stp (mv b) l i) (roN (mv b) l i) (phN (mv b)) h) ((h : Int) - 8 + (stp (mv b) l i)) ((tF (mv b) l i) ((h : Int) - 8)) (phN (mv b)) (min k (((h : Int) - 8 + (stp (mv b) l i)).natAbs + 1))) (eI ((h : Int) - 8 + (stp (mv b) l i)) k))) (by rw [hO3.2.1 _ (by omega), show (((eI ((h : Int) - 8 + (stp (mv b) l i)) k) + 8).toNat : Int) - 8 = (eI ((h : Int) - 8 + (stp (mv b) l i)) k) by omega]) ?_
                                        refine g_icmp_ge hX 272 dX6_fewestBumps_249 (by decide) (fun c249 => ?_) (fun c249 => ?_)
                                        · refine g_iinc_7 hX 1 dX6_fewestBumps_272 (by decide) rfl ?_
                                          refine g_goto hX 125 dX6_fewestBumps_275 (by decide) ?_
                                          exact g_weak (lvw_c (lvw_c (lvw_c (lvw_c (lvw_c (lvw_c (lvw_c (lvw_c (lvw_n (lvw_n (lvw_n lvw_nil))))))))))) (ih125 _ _ ⟨⟨hO3.1, by rw [tB_min, if_neg (bI_z.mp c212), if_pos h2e]; exact Rm_st hO3.2.1 (fun z => c249 (nI_lt z (Nat.lt_of_le_of_lt hTe (by decide)))), fun _ => hsp⟩, by simp only [nI_succ]⟩)
                                        · refine g_aload_0 hX dX6_fewestBumps_252 ?_
                                          refine gt_X6_then hX dX6_fewestBumps_253 ?_
                                          refine g_iload_8 hX dX6_fewestBumps_256 ?_
                                          refine g_bipush hX 8 dX6_fewestBumps_258 (by decide) ?_
                                          refine g_iadd hX dX6_fewestBumps_260 ?_
                                          refine g_top (nI ((eI ((h : Int) - 8 + (stp (mv b) l i)) k) + 8).toNat) (by rw [show (8 : Int32) = zI 8 from rfl, zI_add, zI_nat (by omega)]) ?_
                                          refine g_aload_0 hX dX6_fewestBumps_261 ?_
                                          refine gt_X6_fewest hX dX6_fewestBumps_262 ?_
                                          refine g_iload_5 hX dX6_fewestBumps_265 ?_
                                          refine g_ialdN (k := h) hX (ar_77 Z) (by omega) (by decide) dX6_fewestBumps_267 ?_
                                          refine g_top (nI ((tF (mv b) l i) ((h : Int) - 8))) f77 ?_
                                          refine g_iload_7 hX dX6_fewestBumps_268 ?_
                                          refine g_iadd hX dX6_fewestBumps_270 ?_
                                          refine g_top (nI (((tF (mv b) l i) ((h : Int) - 8)) + k)) (by rw [nI_add]) ?_
                                          refine g_iastN (k := ((eI ((h : Int) - 8 + (stp (mv b) l i)) k) + 8).toNat) hX (ar_78 Z) (by omega) (by decide) dX6_fewestBumps_271 ?_
                                          refine g_iinc_7 hX 1 dX6_fewestBumps_272 (by decide) rfl ?_
                                          refine g_goto hX 125 dX6_fewestBumps_275 (by decide) ?_
                                          exact g_weak (lvw_c (lvw_c (lvw_c (lvw_c (lvw_c (lvw_c (lvw_c (lvw_c (lvw_n (lvw_n (lvw_n lvw_nil))))))))))) (ih125 _ _ ⟨⟨fun j hj => by rw [u2c _ _ hj]; exact hO3.1 j hj, by rw [tB_min, if_neg (bI_z.mp c212), if_pos h2e]; exact Rm_up hO3.2.1 he3 ((nI_ltI (by omega) (Nat.lt_of_le_of_lt hTe (by decide))).mp c249), fun _ => hsp⟩, by simp only [nI_succ]⟩)
                                · refine g_iconst hX 1 dX6_fewestBumps_188 (by decide) ?_
                                  refine g_goto hX 193 dX6_fewestBumps_189 (by decide) ?_
                                  refine g_top (bI (((h : Int) - 8 + (stp (mv b) l i)).natAbs < k)) (by first | (rw [bI_t (by have := hpos.mp c167; have h9 : (eI ((h : Int) - 8 + (stp (mv b) l i)) k) < 0 := (zI_lt (b := 0) (by omega) (by omega)).mp c172; unfold eI at h9; rw [if_pos this] at h9; omega)]; done) | (rw [bI_f (by have := hpos.mp c167; have h9 : ¬ (eI ((h : Int) - 8 + (stp (mv b) l i)) k) < 0 := fun z => c172 ((zI_lt (b := 0) (by omega) (by omega)).mpr z); unfold eI at h9; rw [if_pos this] at h9; omega)]; done) | (rw [bI_t (by have : ¬ 0 < ((h : Int) - 8 + (stp (mv b) l i)) := fun z => c167 (hpos.mpr z); have h9 : 0 < (eI ((h : Int) - 8 + (stp (mv b) l i)) k) := (zI_lt (a := 0) (by omega) (by omega)).mp c185; unfold eI at h9; rw [if_neg this] at h9; omega)]; done) | (rw [bI_f (by have : ¬ 0 < ((h : Int) - 8 + (stp (mv b) l i)) := fun z => c167 (hpos.mpr z); have h9 : ¬ 0 < (eI ((h : Int) - 8 + (stp (mv b) l i)) k) := fun z => c185 ((zI_lt (a := 0) (by omega) (by omega)).mpr z); unfold eI at h9; rw [if_neg this] at h9; omega)]; done)) ?_
                                  refine g_istore_9 hX dX6_fewestBumps_193 rfl ?_
                                  refine g_iload_8 hX dX6_fewestBumps_195 ?_
                                  refine g_if_ge hX 206 dX6_fewestBumps_197 (by decide) (fun c197 => ?_) (fun c197 => ?_)
                                  · refine g_iload_8 hX dX6_fewestBumps_206 ?_
                                    refine g_top (nI (eI ((h : Int) - 8 + (stp (mv b) l i)) k).natAbs) (by first | exact (absN hei).1 c197 | exact (absN hei).2 c197) ?_
                                    refine g_istore_10 hX dX6_fewestBumps_208 rfl ?_
                                    refine g_iload_9 hX dX6_fewestBumps_210 ?_
                                    refine g_if_ne hX 272 dX6_fewestBumps_212 (by decide) (fun c212 => ?_) (fun c212 => ?_)
                                    · refine g_iinc_7 hX 1 dX6_fewestBumps_272 (by decide) rfl ?_
                                      refine g_goto hX 125 dX6_fewestBumps_275 (by decide) ?_
                                      exact g_weak (lvw_c (lvw_c (lvw_c (lvw_c (lvw_c (lvw_c (lvw_c (lvw_c (lvw_n (lvw_n (lvw_n lvw_nil))))))))))) (ih125 _ _ ⟨⟨hO3.1, by rw [tB_min, if_pos (bI_nz.mp c212)]; exact hO3.2.1, fun _ => hsp⟩, by simp only [nI_succ]⟩)
                                    · refine g_iconst hX 2 dX6_fewestBumps_215 (by decide) ?_
                                      refine g_iload_10 hX dX6_fewestBumps_216 ?_
                                      refine g_imul hX dX6_fewestBumps_218 ?_
                                      refine g_top (nI (2 * (eI ((h : Int) - 8 + (stp (mv b) l i)) k).natAbs)) (pk_mul 2 _) ?_
                                      refine g_aload_0 hX dX6_fewestBumps_219 ?_
                                      refine gt_X6_now hX dX6_fewestBumps_220 ?_
                                      refine g_bipush hX 7 dX6_fewestBumps_223 (by decide) ?_
                                      refine g_ialdN (k := 7) hX (ar_71 Z) (by decide) (by decide) dX6_fewestBumps_225 ?_
                                      refine g_top (nI (phN (mv b))) f71 ?_
                                      refine g_icmp_gt hX 272 dX6_fewestBumps_226 (by decide) (fun c226 => ?_) (fun c226 => ?_)
                                      · refine g_iinc_7 hX 1 dX6_fewestBumps_272 (by decide) rfl ?_
                                        refine g_goto hX 125 dX6_fewestBumps_275 (by decide) ?_
                                        exact g_weak (lvw_c (lvw_c (lvw_c (lvw_c (lvw_c (lvw_c (lvw_c (lvw_c (lvw_n (lvw_n (lvw_n lvw_nil))))))))))) (ih125 _ _ ⟨⟨hO3.1, by rw [tB_min, if_neg (bI_z.mp c212), if_neg (fun z => nI_nlt z (by omega) c226)]; exact hO3.2.1, fun _ => hsp⟩, by simp only [nI_succ]⟩)
                                      · have h2e : 2 * (eI ((h : Int) - 8 + (stp (mv b) l i)) k).natAbs ≤ phN (mv b) := by
                                          rcases Nat.lt_or_ge (phN (mv b)) (2 * (eI ((h : Int) - 8 + (stp (mv b) l i)) k).natAbs) with q | q
                                          · exact absurd (nI_lt q (by omega)) c226
                                          · exact q
                                        have he3 : (eI ((h : Int) - 8 + (stp (mv b) l i)) k).natAbs ≤ 3 := by omega
                                        refine g_aload_0 hX dX6_fewestBumps_229 ?_
                                        refine gt_X6_fewest hX dX6_fewestBumps_230 ?_
                                        refine g_iload_5 hX dX6_fewestBumps_233 ?_
                                        refine g_ialdN (k := h) hX (ar_77 Z) (by omega) (by decide) dX6_fewestBumps_235 ?_
                                        refine g_top (nI ((tF (mv b) l i) ((h : Int) - 8))) f77 ?_
                                        refine g_iload_7 hX dX6_fewestBumps_236 ?_
                                        refine g_iadd hX dX6_fewestBumps_238 ?_
                                        refine g_top (nI (((tF (mv b) l i) ((h : Int) - 8)) + k)) (by rw [nI_add]) ?_
                                        refine g_aload_0 hX dX6_fewestBumps_239 ?_
                                        refine gt_X6_then hX dX6_fewestBumps_240 ?_
                                        refine g_iload_8 hX dX6_fewestBumps_243 ?_
                                        refine g_bipush hX 8 dX6_fewestBumps_245 (by decide) ?_
                                        refine g_iadd hX dX6_fewestBumps_247 ?_
                                        refine g_top (nI ((eI ((h : Int) - 8 + (stp (mv b) l i)) k) + 8).toNat) (by rw [show (8 : Int32) = zI 8 from rfl, zI_add, zI_nat (by omega)]) ?_
                                        refine g_ialdN (k := ((eI ((h : Int) - 8 + (stp (mv b) l i)) k) + 8).toNat) hX (ar_78 Z) (by omega) (by decide) dX6_fewestBumps_248 ?_
                                        refine g_top (nI ((tB (tX (tF (mv b) l i) (stp (mv b) l i) (roN (mv b) l i) (phN (mv b)) h) ((h : Int) - 8 + (stp (mv b) l i)) ((tF (mv b) l i) ((h : Int) - 8)) (phN (mv b)) (min k (((h : Int) - 8 + (stp (mv b) l i)).natAbs + 1))) (eI ((h : Int) - 8 + (stp (mv b) l i)) k))) (by rw [hO3.2.1 _ (by omega), show (((eI ((h : Int) - 8 + (stp (mv b) l i)) k) + 8).toNat : Int) - 8 = (eI ((h : Int) - 8 + (stp (mv b) l i)) k) by omega]) ?_
                                        refine g_icmp_ge hX 272 dX6_fewestBumps_249 (by decide) (fun c249 => ?_) (fun c249 => ?_)
                                        · refine g_iinc_7 hX 1 dX6_fewestBumps_272 (by decide) rfl ?_
                                          refine g_goto hX 125 dX6_fewestBumps_275 (by decide) ?_
                                          exact g_weak (lvw_c (lvw_c (lvw_c (lvw_c (lvw_c (lvw_c (lvw_c (lvw_c (lvw_n (lvw_n (lvw_n lvw_nil))))))))))) (ih125 _ _ ⟨⟨hO3.1, by rw [tB_min, if_neg (bI_z.mp c212), if_pos h2e]; exact Rm_st hO3.2.1 (fun z => c249 (nI_lt z (Nat.lt_of_le_of_lt hTe (by decide)))), fun _ => hsp⟩, by simp only [nI_succ]⟩)
                                        · refine g_aload_0 hX dX6_fewestBumps_252 ?_
                                          refine gt_X6_then hX dX6_fewestBumps_253 ?_
                                          refine g_iload_8 hX dX6_fewestBumps_256 ?_
                                          refine g_bipush hX 8 dX6_fewestBumps_258 (by decide) ?_
                                          refine g_iadd hX dX6_fewestBumps_260 ?_
                                          refine g_top (nI ((eI ((h : Int) - 8 + (stp (mv b) l i)) k) + 8).toNat) (by rw [show (8 : Int32) = zI 8 from rfl, zI_add, zI_nat (by omega)]) ?_
                                          refine g_aload_0 hX dX6_fewestBumps_261 ?_
                                          refine gt_X6_fewest hX dX6_fewestBumps_262 ?_
                                          refine g_iload_5 hX dX6_fewestBumps_265 ?_
                                          refine g_ialdN (k := h) hX (ar_77 Z) (by omega) (by decide) dX6_fewestBumps_267 ?_
                                          refine g_top (nI ((tF (mv b) l i) ((h : Int) - 8))) f77 ?_
                                          refine g_iload_7 hX dX6_fewestBumps_268 ?_
                                          refine g_iadd hX dX6_fewestBumps_270 ?_
                                          refine g_top (nI (((tF (mv b) l i) ((h : Int) - 8)) + k)) (by rw [nI_add]) ?_
                                          refine g_iastN (k := ((eI ((h : Int) - 8 + (stp (mv b) l i)) k) + 8).toNat) hX (ar_78 Z) (by omega) (by decide) dX6_fewestBumps_271 ?_
                                          refine g_iinc_7 hX 1 dX6_fewestBumps_272 (by decide) rfl ?_
                                          refine g_goto hX 125 dX6_fewestBumps_275 (by decide) ?_
                                          exact g_weak (lvw_c (lvw_c (lvw_c (lvw_c (lvw_c (lvw_c (lvw_c (lvw_c (lvw_n (lvw_n (lvw_n lvw_nil))))))))))) (ih125 _ _ ⟨⟨fun j hj => by rw [u2c _ _ hj]; exact hO3.1 j hj, by rw [tB_min, if_neg (bI_z.mp c212), if_pos h2e]; exact Rm_up hO3.2.1 he3 ((nI_ltI (by omega) (Nat.lt_of_le_of_lt hTe (by decide))).mp c249), fun _ => hsp⟩, by simp only [nI_succ]⟩)
                                  · refine g_iload_8 hX dX6_fewestBumps_200 ?_
                                    refine g_ineg hX dX6_fewestBumps_202 ?_
                                    refine g_goto hX 208 dX6_fewestBumps_203 (by decide) ?_
                                    refine g_top (nI (eI ((h : Int) - 8 + (stp (mv b) l i)) k).natAbs) (by first | exact (absN hei).1 c197 | exact (absN hei).2 c197) ?_
                                    refine g_istore_10 hX dX6_fewestBumps_208 rfl ?_
                                    refine g_iload_9 hX dX6_fewestBumps_210 ?_
                                    refine g_if_ne hX 272 dX6_fewestBumps_212 (by decide) (fun c212 => ?_) (fun c212 => ?_)
                                    · refine g_iinc_7 hX 1 dX6_fewestBumps_272 (by decide) rfl ?_
                                      refine g_goto hX 125 dX6_fewestBumps_275 (by decide) ?_
                                      exact g_weak (lvw_c (lvw_c (lvw_c (lvw_c (lvw_c (lvw_c (lvw_c (lvw_c (lvw_n (lvw_n (lvw_n lvw_nil))))))))))) (ih125 _ _ ⟨⟨hO3.1, by rw [tB_min, if_pos (bI_nz.mp c212)]; exact hO3.2.1, fun _ => hsp⟩, by simp only [nI_succ]⟩)
                                    · refine g_iconst hX 2 dX6_fewestBumps_215 (by decide) ?_
                                      refine g_iload_10 hX dX6_fewestBumps_216 ?_
                                      refine g_imul hX dX6_fewestBumps_218 ?_
                                      refine g_top (nI (2 * (eI ((h : Int) - 8 + (stp (mv b) l i)) k).natAbs)) (pk_mul 2 _) ?_
                                      refine g_aload_0 hX dX6_fewestBumps_219 ?_
                                      refine gt_X6_now hX dX6_fewestBumps_220 ?_
                                      refine g_bipush hX 7 dX6_fewestBumps_223 (by decide) ?_
                                      refine g_ialdN (k := 7) hX (ar_71 Z) (by decide) (by decide) dX6_fewestBumps_225 ?_
                                      refine g_top (nI (phN (mv b))) f71 ?_
                                      refine g_icmp_gt hX 272 dX6_fewestBumps_226 (by decide) (fun c226 => ?_) (fun c226 => ?_)
                                      · refine g_iinc_7 hX 1 dX6_fewestBumps_272 (by decide) rfl ?_
                                        refine g_goto hX 125 dX6_fewestBumps_275 (by decide) ?_
                                        exact g_weak (lvw_c (lvw_c (lvw_c (lvw_c (lvw_c (lvw_c (lvw_c (lvw_c (lvw_n (lvw_n (lvw_n lvw_nil))))))))))) (ih125 _ _ ⟨⟨hO3.1, by rw [tB_min, if_neg (bI_z.mp c212), if_neg (fun z => nI_nlt z (by omega) c226)]; exact hO3.2.1, fun _ => hsp⟩, by simp only [nI_succ]⟩)
                                      · have h2e : 2 * (eI ((h : Int) - 8 + (stp (mv b) l i)) k).natAbs ≤ phN (mv b) := by
                                          rcases Nat.lt_or_ge (phN (mv b)) (2 * (eI ((h : Int) - 8 + (stp (mv b) l i)) k).natAbs) with q | q
                                          · exact absurd (nI_lt q (by omega)) c226
                                          · exact q
                                        have he3 : (eI ((h : Int) - 8 + (stp (mv b) l i)) k).natAbs ≤ 3 := by omega
                                        refine g_aload_0 hX dX6_fewestBumps_229 ?_
                                        refine gt_X6_fewest hX dX6_fewestBumps_230 ?_
                                        refine g_iload_5 hX dX6_fewestBumps_233 ?_
                                        refine g_ialdN (k := h) hX (ar_77 Z) (by omega) (by decide) dX6_fewestBumps_235 ?_
                                        refine g_top (nI ((tF (mv b) l i) ((h : Int) - 8))) f77 ?_
                                        refine g_iload_7 hX dX6_fewestBumps_236 ?_
                                        refine g_iadd hX dX6_fewestBumps_238 ?_
                                        refine g_top (nI (((tF (mv b) l i) ((h : Int) - 8)) + k)) (by rw [nI_add]) ?_
                                        refine g_aload_0 hX dX6_fewestBumps_239 ?_
                                        refine gt_X6_then hX dX6_fewestBumps_240 ?_
                                        refine g_iload_8 hX dX6_fewestBumps_243 ?_
                                        refine g_bipush hX 8 dX6_fewestBumps_245 (by decide) ?_
                                        refine g_iadd hX dX6_fewestBumps_247 ?_
                                        refine g_top (nI ((eI ((h : Int) - 8 + (stp (mv b) l i)) k) + 8).toNat) (by rw [show (8 : Int32) = zI 8 from rfl, zI_add, zI_nat (by omega)]) ?_
                                        refine g_ialdN (k := ((eI ((h : Int) - 8 + (stp (mv b) l i)) k) + 8).toNat) hX (ar_78 Z) (by omega) (by decide) dX6_fewestBumps_248 ?_
                                        refine g_top (nI ((tB (tX (tF (mv b) l i) (stp (mv b) l i) (roN (mv b) l i) (phN (mv b)) h) ((h : Int) - 8 + (stp (mv b) l i)) ((tF (mv b) l i) ((h : Int) - 8)) (phN (mv b)) (min k (((h : Int) - 8 + (stp (mv b) l i)).natAbs + 1))) (eI ((h : Int) - 8 + (stp (mv b) l i)) k))) (by rw [hO3.2.1 _ (by omega), show (((eI ((h : Int) - 8 + (stp (mv b) l i)) k) + 8).toNat : Int) - 8 = (eI ((h : Int) - 8 + (stp (mv b) l i)) k) by omega]) ?_
                                        refine g_icmp_ge hX 272 dX6_fewestBumps_249 (by decide) (fun c249 => ?_) (fun c249 => ?_)
                                        · refine g_iinc_7 hX 1 dX6_fewestBumps_272 (by decide) rfl ?_
                                          refine g_goto hX 125 dX6_fewestBumps_275 (by decide) ?_
                                          exact g_weak (lvw_c (lvw_c (lvw_c (lvw_c (lvw_c (lvw_c (lvw_c (lvw_c (lvw_n (lvw_n (lvw_n lvw_nil))))))))))) (ih125 _ _ ⟨⟨hO3.1, by rw [tB_min, if_neg (bI_z.mp c212), if_pos h2e]; exact Rm_st hO3.2.1 (fun z => c249 (nI_lt z (Nat.lt_of_le_of_lt hTe (by decide)))), fun _ => hsp⟩, by simp only [nI_succ]⟩)
                                        · refine g_aload_0 hX dX6_fewestBumps_252 ?_
                                          refine gt_X6_then hX dX6_fewestBumps_253 ?_
                                          refine g_iload_8 hX dX6_fewestBumps_256 ?_
                                          refine g_bipush hX 8 dX6_fewestBumps_258 (by decide) ?_
                                          refine g_iadd hX dX6_fewestBumps_260 ?_
                                          refine g_top (nI ((eI ((h : Int) - 8 + (stp (mv b) l i)) k) + 8).toNat) (by rw [show (8 : Int32) = zI 8 from rfl, zI_add, zI_nat (by omega)]) ?_
                                          refine g_aload_0 hX dX6_fewestBumps_261 ?_
                                          refine gt_X6_fewest hX dX6_fewestBumps_262 ?_
                                          refine g_iload_5 hX dX6_fewestBumps_265 ?_
                                          refine g_ialdN (k := h) hX (ar_77 Z) (by omega) (by decide) dX6_fewestBumps_267 ?_
                                          refine g_top (nI ((tF (mv b) l i) ((h : Int) - 8))) f77 ?_
                                          refine g_iload_7 hX dX6_fewestBumps_268 ?_
                                          refine g_iadd hX dX6_fewestBumps_270 ?_
                                          refine g_top (nI (((tF (mv b) l i) ((h : Int) - 8)) + k)) (by rw [nI_add]) ?_
                                          refine g_iastN (k := ((eI ((h : Int) - 8 + (stp (mv b) l i)) k) + 8).toNat) hX (ar_78 Z) (by omega) (by decide) dX6_fewestBumps_271 ?_
                                          refine g_iinc_7 hX 1 dX6_fewestBumps_272 (by decide) rfl ?_
                                          refine g_goto hX 125 dX6_fewestBumps_275 (by decide) ?_
                                          exact g_weak (lvw_c (lvw_c (lvw_c (lvw_c (lvw_c (lvw_c (lvw_c (lvw_c (lvw_n (lvw_n (lvw_n lvw_nil))))))))))) (ih125 _ _ ⟨⟨fun j hj => by rw [u2c _ _ hj]; exact hO3.1 j hj, by rw [tB_min, if_neg (bI_z.mp c212), if_pos h2e]; exact Rm_up hO3.2.1 he3 ((nI_ltI (by omega) (Nat.lt_of_le_of_lt hTe (by decide))).mp c249), fun _ => hsp⟩, by simp only [nI_succ]⟩)
                              · refine g_iload_8 hX dX6_fewestBumps_170 ?_
                                refine g_if_ge hX 179 dX6_fewestBumps_172 (by decide) (fun c172 => ?_) (fun c172 => ?_)
                                · refine g_iconst hX 0 dX6_fewestBumps_179 (by decide) ?_
                                  refine g_goto hX 193 dX6_fewestBumps_180 (by decide) ?_
                                  refine g_top (bI (((h : Int) - 8 + (stp (mv b) l i)).natAbs < k)) (by first | (rw [bI_t (by have := hpos.mp c167; have h9 : (eI ((h : Int) - 8 + (stp (mv b) l i)) k) < 0 := (zI_lt (b := 0) (by omega) (by omega)).mp c172; unfold eI at h9; rw [if_pos this] at h9; omega)]; done) | (rw [bI_f (by have := hpos.mp c167; have h9 : ¬ (eI ((h : Int) - 8 + (stp (mv b) l i)) k) < 0 := fun z => c172 ((zI_lt (b := 0) (by omega) (by omega)).mpr z); unfold eI at h9; rw [if_pos this] at h9; omega)]; done) | (rw [bI_t (by have : ¬ 0 < ((h : Int) - 8 + (stp (mv b) l i)) := fun z => c167 (hpos.mpr z); have h9 : 0 < (eI ((h : Int) - 8 + (stp (mv b) l i)) k) := (zI_lt (a := 0) (by omega) (by omega)).mp c185; unfold eI at h9; rw [if_neg this] at h9; omega)]; done) | (rw [bI_f (by have : ¬ 0 < ((h : Int) - 8 + (stp (mv b) l i)) := fun z => c167 (hpos.mpr z); have h9 : ¬ 0 < (eI ((h : Int) - 8 + (stp (mv b) l i)) k) := fun z => c185 ((zI_lt (a := 0) (by omega) (by omega)).mpr z); unfold eI at h9; rw [if_neg this] at h9; omega)]; done)) ?_
                                  refine g_istore_9 hX dX6_fewestBumps_193 rfl ?_
                                  refine g_iload_8 hX dX6_fewestBumps_195 ?_
                                  refine g_if_ge hX 206 dX6_fewestBumps_197 (by decide) (fun c197 => ?_) (fun c197 => ?_)
                                  · refine g_iload_8 hX dX6_fewestBumps_206 ?_
                                    refine g_top (nI (eI ((h : Int) - 8 + (stp (mv b) l i)) k).natAbs) (by first | exact (absN hei).1 c197 | exact (absN hei).2 c197) ?_
                                    refine g_istore_10 hX dX6_fewestBumps_208 rfl ?_
                                    refine g_iload_9 hX dX6_fewestBumps_210 ?_
                                    refine g_if_ne hX 272 dX6_fewestBumps_212 (by decide) (fun c212 => ?_) (fun c212 => ?_)
                                    · refine g_iinc_7 hX 1 dX6_fewestBumps_272 (by decide) rfl ?_
                                      refine g_goto hX 125 dX6_fewestBumps_275 (by decide) ?_
                                      exact g_weak (lvw_c (lvw_c (lvw_c (lvw_c (lvw_c (lvw_c (lvw_c (lvw_c (lvw_n (lvw_n (lvw_n lvw_nil))))))))))) (ih125 _ _ ⟨⟨hO3.1, by rw [tB_min, if_pos (bI_nz.mp c212)]; exact hO3.2.1, fun _ => hsp⟩, by simp only [nI_succ]⟩)
                                    · refine g_iconst hX 2 dX6_fewestBumps_215 (by decide) ?_
                                      refine g_iload_10 hX dX6_fewestBumps_216 ?_
                                      refine g_imul hX dX6_fewestBumps_218 ?_
                                      refine g_top (nI (2 * (eI ((h : Int) - 8 + (stp (mv b) l i)) k).natAbs)) (pk_mul 2 _) ?_
                                      refine g_aload_0 hX dX6_fewestBumps_219 ?_
                                      refine gt_X6_now hX dX6_fewestBumps_220 ?_
                                      refine g_bipush hX 7 dX6_fewestBumps_223 (by decide) ?_
                                      refine g_ialdN (k := 7) hX (ar_71 Z) (by decide) (by decide) dX6_fewestBumps_225 ?_
                                      refine g_top (nI (phN (mv b))) f71 ?_
                                      refine g_icmp_gt hX 272 dX6_fewestBumps_226 (by decide) (fun c226 => ?_) (fun c226 => ?_)
                                      · refine g_iinc_7 hX 1 dX6_fewestBumps_272 (by decide) rfl ?_
                                        refine g_goto hX 125 dX6_fewestBumps_275 (by decide) ?_
                                        exact g_weak (lvw_c (lvw_c (lvw_c (lvw_c (lvw_c (lvw_c (lvw_c (lvw_c (lvw_n (lvw_n (lvw_n lvw_nil))))))))))) (ih125 _ _ ⟨⟨hO3.1, by rw [tB_min, if_neg (bI_z.mp c212), if_neg (fun z => nI_nlt z (by omega) c226)]; exact hO3.2.1, fun _ => hsp⟩, by simp only [nI_succ]⟩)
                                      · have h2e : 2 * (eI ((h : Int) - 8 + (stp (mv b) l i)) k).natAbs ≤ phN (mv b) := by
                                          rcases Nat.lt_or_ge (phN (mv b)) (2 * (eI ((h : Int) - 8 + (stp (mv b) l i)) k).natAbs) with q | q
                                          · exact absurd (nI_lt q (by omega)) c226
                                          · exact q
                                        have he3 : (eI ((h : Int) - 8 + (stp (mv b) l i)) k).natAbs ≤ 3 := by omega
                                        refine g_aload_0 hX dX6_fewestBumps_229 ?_
                                        refine gt_X6_fewest hX dX6_fewestBumps_230 ?_
                                        refine g_iload_5 hX dX6_fewestBumps_233 ?_
                                        refine g_ialdN (k := h) hX (ar_77 Z) (by omega) (by decide) dX6_fewestBumps_235 ?_
                                        refine g_top (nI ((tF (mv b) l i) ((h : Int) - 8))) f77 ?_
                                        refine g_iload_7 hX dX6_fewestBumps_236 ?_
                                        refine g_iadd hX dX6_fewestBumps_238 ?_
                                        refine g_top (nI (((tF (mv b) l i) ((h : Int) - 8)) + k)) (by rw [nI_add]) ?_
                                        refine g_aload_0 hX dX6_fewestBumps_239 ?_
                                        refine gt_X6_then hX dX6_fewestBumps_240 ?_
                                        refine g_iload_8 hX dX6_fewestBumps_243 ?_
                                        refine g_bipush hX 8 dX6_fewestBumps_245 (by decide) ?_
                                        refine g_iadd hX dX6_fewestBumps_247 ?_
                                        refine g_top (nI ((eI ((h : Int) - 8 + (stp (mv b) l i)) k) + 8).toNat) (by rw [show (8 : Int32) = zI 8 from rfl, zI_add, zI_nat (by omega)]) ?_
                                        refine g_ialdN (k := ((eI ((h : Int) - 8 + (stp (mv b) l i)) k) + 8).toNat) hX (ar_78 Z) (by omega) (by decide) dX6_fewestBumps_248 ?_
                                        refine g_top (nI ((tB (tX (tF (mv b) l i) (stp (mv b) l i) (roN (mv b) l i) (phN (mv b)) h) ((h : Int) - 8 + (stp (mv b) l i)) ((tF (mv b) l i) ((h : Int) - 8)) (phN (mv b)) (min k (((h : Int) - 8 + (stp (mv b) l i)).natAbs + 1))) (eI ((h : Int) - 8 + (stp (mv b) l i)) k))) (by rw [hO3.2.1 _ (by omega), show (((eI ((h : Int) - 8 + (stp (mv b) l i)) k) + 8).toNat : Int) - 8 = (eI ((h : Int) - 8 + (stp (mv b) l i)) k) by omega]) ?_
                                        refine g_icmp_ge hX 272 dX6_fewestBumps_249 (by decide) (fun c249 => ?_) (fun c249 => ?_)
                                        · refine g_iinc_7 hX 1 dX6_fewestBumps_272 (by decide) rfl ?_
                                          refine g_goto hX 125 dX6_fewestBumps_275 (by decide) ?_
                                          exact g_weak (lvw_c (lvw_c (lvw_c (lvw_c (lvw_c (lvw_c (lvw_c (lvw_c (lvw_n (lvw_n (lvw_n lvw_nil))))))))))) (ih125 _ _ ⟨⟨hO3.1, by rw [tB_min, if_neg (bI_z.mp c212), if_pos h2e]; exact Rm_st hO3.2.1 (fun z => c249 (nI_lt z (Nat.lt_of_le_of_lt hTe (by decide)))), fun _ => hsp⟩, by simp only [nI_succ]⟩)
                                        · refine g_aload_0 hX dX6_fewestBumps_252 ?_
                                          refine gt_X6_then hX dX6_fewestBumps_253 ?_
                                          refine g_iload_8 hX dX6_fewestBumps_256 ?_
                                          refine g_bipush hX 8 dX6_fewestBumps_258 (by decide) ?_
                                          refine g_iadd hX dX6_fewestBumps_260 ?_
                                          refine g_top (nI ((eI ((h : Int) - 8 + (stp (mv b) l i)) k) + 8).toNat) (by rw [show (8 : Int32) = zI 8 from rfl, zI_add, zI_nat (by omega)]) ?_
                                          refine g_aload_0 hX dX6_fewestBumps_261 ?_
                                          refine gt_X6_fewest hX dX6_fewestBumps_262 ?_
                                          refine g_iload_5 hX dX6_fewestBumps_265 ?_
                                          refine g_ialdN (k := h) hX (ar_77 Z) (by omega) (by decide) dX6_fewestBumps_267 ?_
                                          refine g_top (nI ((tF (mv b) l i) ((h : Int) - 8))) f77 ?_
                                          refine g_iload_7 hX dX6_fewestBumps_268 ?_
                                          refine g_iadd hX dX6_fewestBumps_270 ?_
                                          refine g_top (nI (((tF (mv b) l i) ((h : Int) - 8)) + k)) (by rw [nI_add]) ?_
                                          refine g_iastN (k := ((eI ((h : Int) - 8 + (stp (mv b) l i)) k) + 8).toNat) hX (ar_78 Z) (by omega) (by decide) dX6_fewestBumps_271 ?_
                                          refine g_iinc_7 hX 1 dX6_fewestBumps_272 (by decide) rfl ?_
                                          refine g_goto hX 125 dX6_fewestBumps_275 (by decide) ?_
                                          exact g_weak (lvw_c (lvw_c (lvw_c (lvw_c (lvw_c (lvw_c (lvw_c (lvw_c (lvw_n (lvw_n (lvw_n lvw_nil))))))))))) (ih125 _ _ ⟨⟨fun j hj => by rw [u2c _ _ hj]; exact hO3.1 j hj, by rw [tB_min, if_neg (bI_z.mp c212), if_pos h2e]; exact Rm_up hO3.2.1 he3 ((nI_ltI (by omega) (Nat.lt_of_le_of_lt hTe (by decide))).mp c249), fun _ => hsp⟩, by simp only [nI_succ]⟩)
                                  · refine g_iload_8 hX dX6_fewestBumps_200 ?_
                                    refine g_ineg hX dX6_fewestBumps_202 ?_
                                    refine g_goto hX 208 dX6_fewestBumps_203 (by decide) ?_
                                    refine g_top (nI (eI ((h : Int) - 8 + (stp (mv b) l i)) k).natAbs) (by first | exact (absN hei).1 c197 | exact (absN hei).2 c197) ?_
                                    refine g_istore_10 hX dX6_fewestBumps_208 rfl ?_
                                    refine g_iload_9 hX dX6_fewestBumps_210 ?_
                                    refine g_if_ne hX 272 dX6_fewestBumps_212 (by decide) (fun c212 => ?_) (fun c212 => ?_)
                                    · refine g_iinc_7 hX 1 dX6_fewestBumps_272 (by decide) rfl ?_
                                      refine g_goto hX 125 dX6_fewestBumps_275 (by decide) ?_
                                      exact g_weak (lvw_c (lvw_c (lvw_c (lvw_c (lvw_c (lvw_c (lvw_c (lvw_c (lvw_n (lvw_n (lvw_n lvw_nil))))))))))) (ih125 _ _ ⟨⟨hO3.1, by rw [tB_min, if_pos (bI_nz.mp c212)]; exact hO3.2.1, fun _ => hsp⟩, by simp only [nI_succ]⟩)
                                    · refine g_iconst hX 2 dX6_fewestBumps_215 (by decide) ?_
                                      refine g_iload_10 hX dX6_fewestBumps_216 ?_
                                      refine g_imul hX dX6_fewestBumps_218 ?_
                                      refine g_top (nI (2 * (eI ((h : Int) - 8 + (stp (mv b) l i)) k).natAbs)) (pk_mul 2 _) ?_
                                      refine g_aload_0 hX dX6_fewestBumps_219 ?_
                                      refine gt_X6_now hX dX6_fewestBumps_220 ?_
                                      refine g_bipush hX 7 dX6_fewestBumps_223 (by decide) ?_
                                      refine g_ialdN (k := 7) hX (ar_71 Z) (by decide) (by decide) dX6_fewestBumps_225 ?_
                                      refine g_top (nI (phN (mv b))) f71 ?_
                                      refine g_icmp_gt hX 272 dX6_fewestBumps_226 (by decide) (fun c226 => ?_) (fun c226 => ?_)
                                      · refine g_iinc_7 hX 1 dX6_fewestBumps_272 (by decide) rfl ?_
                                        refine g_goto hX 125 dX6_fewestBumps_275 (by decide) ?_
                                        exact g_weak (lvw_c (lvw_c (lvw_c (lvw_c (lvw_c (lvw_c (lvw_c (lvw_c (lvw_n (lvw_n (lvw_n lvw_nil))))))))))) (ih125 _ _ ⟨⟨hO3.1, by rw [tB_min, if_neg (bI_z.mp c212), if_neg (fun z => nI_nlt z (by omega) c226)]; exact hO3.2.1, fun _ => hsp⟩, by simp only [nI_succ]⟩)
                                      · have h2e : 2 * (eI ((h : Int) - 8 + (stp (mv b) l i)) k).natAbs ≤ phN (mv b) := by
                                          rcases Nat.lt_or_ge (phN (mv b)) (2 * (eI ((h : Int) - 8 + (stp (mv b) l i)) k).natAbs) with q | q
                                          · exact absurd (nI_lt q (by omega)) c226
                                          · exact q
                                        have he3 : (eI ((h : Int) - 8 + (stp (mv b) l i)) k).natAbs ≤ 3 := by omega
                                        refine g_aload_0 hX dX6_fewestBumps_229 ?_
                                        refine gt_X6_fewest hX dX6_fewestBumps_230 ?_
                                        refine g_iload_5 hX dX6_fewestBumps_233 ?_
                                        refine g_ialdN (k := h) hX (ar_77 Z) (by omega) (by decide) dX6_fewestBumps_235 ?_
                                        refine g_top (nI ((tF (mv b) l i) ((h : Int) - 8))) f77 ?_
                                        refine g_iload_7 hX dX6_fewestBumps_236 ?_
                                        refine g_iadd hX dX6_fewestBumps_238 ?_
                                        refine g_top (nI (((tF (mv b) l i) ((h : Int) - 8)) + k)) (by rw [nI_add]) ?_
                                        refine g_aload_0 hX dX6_fewestBumps_239 ?_
                                        refine gt_X6_then hX dX6_fewestBumps_240 ?_
                                        refine g_iload_8 hX dX6_fewestBumps_243 ?_
                                        refine g_bipush hX 8 dX6_fewestBumps_245 (by decide) ?_
                                        refine g_iadd hX dX6_fewestBumps_247 ?_
                                        refine g_top (nI ((eI ((h : Int) - 8 + (stp (mv b) l i)) k) + 8).toNat) (by rw [show (8 : Int32) = zI 8 from rfl, zI_add, zI_nat (by omega)]) ?_
                                        refine g_ialdN (k := ((eI ((h : Int) - 8 + (stp (mv b) l i)) k) + 8).toNat) hX (ar_78 Z) (by omega) (by decide) dX6_fewestBumps_248 ?_
                                        refine g_top (nI ((tB (tX (tF (mv b) l i) (stp (mv b) l i) (roN (mv b) l i) (phN (mv b)) h) ((h : Int) - 8 + (stp (mv b) l i)) ((tF (mv b) l i) ((h : Int) - 8)) (phN (mv b)) (min k (((h : Int) - 8 + (stp (mv b) l i)).natAbs + 1))) (eI ((h : Int) - 8 + (stp (mv b) l i)) k))) (by rw [hO3.2.1 _ (by omega), show (((eI ((h : Int) - 8 + (stp (mv b) l i)) k) + 8).toNat : Int) - 8 = (eI ((h : Int) - 8 + (stp (mv b) l i)) k) by omega]) ?_
                                        refine g_icmp_ge hX 272 dX6_fewestBumps_249 (by decide) (fun c249 => ?_) (fun c249 => ?_)
                                        · refine g_iinc_7 hX 1 dX6_fewestBumps_272 (by decide) rfl ?_
                                          refine g_goto hX 125 dX6_fewestBumps_275 (by decide) ?_
                                          exact g_weak (lvw_c (lvw_c (lvw_c (lvw_c (lvw_c (lvw_c (lvw_c (lvw_c (lvw_n (lvw_n (lvw_n lvw_nil))))))))))) (ih125 _ _ ⟨⟨hO3.1, by rw [tB_min, if_neg (bI_z.mp c212), if_pos h2e]; exact Rm_st hO3.2.1 (fun z => c249 (nI_lt z (Nat.lt_of_le_of_lt hTe (by decide)))), fun _ => hsp⟩, by simp only [nI_succ]⟩)
                                        · refine g_aload_0 hX dX6_fewestBumps_252 ?_
                                          refine gt_X6_then hX dX6_fewestBumps_253 ?_
                                          refine g_iload_8 hX dX6_fewestBumps_256 ?_
                                          refine g_bipush hX 8 dX6_fewestBumps_258 (by decide) ?_
                                          refine g_iadd hX dX6_fewestBumps_260 ?_
                                          refine g_top (nI ((eI ((h : Int) - 8 + (stp (mv b) l i)) k) + 8).toNat) (by rw [show (8 : Int32) = zI 8 from rfl, zI_add, zI_nat (by omega)]) ?_
                                          refine g_aload_0 hX dX6_fewestBumps_261 ?_
                                          refine gt_X6_fewest hX dX6_fewestBumps_262 ?_
                                          refine g_iload_5 hX dX6_fewestBumps_265 ?_
                                          refine g_ialdN (k := h) hX (ar_77 Z) (by omega) (by decide) dX6_fewestBumps_267 ?_
                                          refine g_top (nI ((tF (mv b) l i) ((h : Int) - 8))) f77 ?_
                                          refine g_iload_7 hX dX6_fewestBumps_268 ?_
                                          refine g_iadd hX dX6_fewestBumps_270 ?_
                                          refine g_top (nI (((tF (mv b) l i) ((h : Int) - 8)) + k)) (by rw [nI_add]) ?_
                                          refine g_iastN (k := ((eI ((h : Int) - 8 + (stp (mv b) l i)) k) + 8).toNat) hX (ar_78 Z) (by omega) (by decide) dX6_fewestBumps_271 ?_
                                          refine g_iinc_7 hX 1 dX6_fewestBumps_272 (by decide) rfl ?_
                                          refine g_goto hX 125 dX6_fewestBumps_275 (by decide) ?_
                                          exact g_weak (lvw_c (lvw_c (lvw_c (lvw_c (lvw_c (lvw_c (lvw_c (lvw_c (lvw_n (lvw_n (lvw_n lvw_nil))))))))))) (ih125 _ _ ⟨⟨fun j hj => by rw [u2c _ _ hj]; exact hO3.1 j hj, by rw [tB_min, if_neg (bI_z.mp c212), if_pos h2e]; exact Rm_up hO3.2.1 he3 ((nI_ltI (by omega) (Nat.lt_of_le_of_lt hTe (by decide))).mp c249), fun _ => hsp⟩, by simp only [nI_succ]⟩)
                                · refine g_iconst hX 1 dX6_fewestBumps_175 (by decide) ?_
                                  refine g_goto hX 193 dX6_fewestBumps_176 (by decide) ?_
                                  refine g_top (bI (((h : Int) - 8 + (stp (mv b) l i)).natAbs < k)) (by first | (rw [bI_t (by have := hpos.mp c167; have h9 : (eI ((h : Int) - 8 + (stp (mv b) l i)) k) < 0 := (zI_lt (b := 0) (by omega) (by omega)).mp c172; unfold eI at h9; rw [if_pos this] at h9; omega)]; done) | (rw [bI_f (by have := hpos.mp c167; have h9 : ¬ (eI ((h : Int) - 8 + (stp (mv b) l i)) k) < 0 := fun z => c172 ((zI_lt (b := 0) (by omega) (by omega)).mpr z); unfold eI at h9; rw [if_pos this] at h9; omega)]; done) | (rw [bI_t (by have : ¬ 0 < ((h : Int) - 8 + (stp (mv b) l i)) := fun z => c167 (hpos.mpr z); have h9 : 0 < (eI ((h : Int) - 8 + (stp (mv b) l i)) k) := (zI_lt (a := 0) (by omega) (by omega)).mp c185; unfold eI at h9; rw [if_neg this] at h9; omega)]; done) | (rw [bI_f (by have : ¬ 0 < ((h : Int) - 8 + (stp (mv b) l i)) := fun z => c167 (hpos.mpr z); have h9 : ¬ 0 < (eI ((h : Int) - 8 + (stp (mv b) l i)) k) := fun z => c185 ((zI_lt (a := 0) (by omega) (by omega)).mpr z); unfold eI at h9; rw [if_neg this] at h9; omega)]; done)) ?_
                                  refine g_istore_9 hX dX6_fewestBumps_193 rfl ?_
                                  refine g_iload_8 hX dX6_fewestBumps_195 ?_
                                  refine g_if_ge hX 206 dX6_fewestBumps_197 (by decide) (fun c197 => ?_) (fun c197 => ?_)
                                  · refine g_iload_8 hX dX6_fewestBumps_206 ?_
                                    refine g_top (nI (eI ((h : Int) - 8 + (stp (mv b) l i)) k).natAbs) (by first | exact (absN hei).1 c197 | exact (absN hei).2 c197) ?_
                                    refine g_istore_10 hX dX6_fewestBumps_208 rfl ?_
                                    refine g_iload_9 hX dX6_fewestBumps_210 ?_
                                    refine g_if_ne hX 272 dX6_fewestBumps_212 (by decide) (fun c212 => ?_) (fun c212 => ?_)
                                    · refine g_iinc_7 hX 1 dX6_fewestBumps_272 (by decide) rfl ?_
                                      refine g_goto hX 125 dX6_fewestBumps_275 (by decide) ?_
                                      exact g_weak (lvw_c (lvw_c (lvw_c (lvw_c (lvw_c (lvw_c (lvw_c (lvw_c (lvw_n (lvw_n (lvw_n lvw_nil))))))))))) (ih125 _ _ ⟨⟨hO3.1, by rw [tB_min, if_pos (bI_nz.mp c212)]; exact hO3.2.1, fun _ => hsp⟩, by simp only [nI_succ]⟩)
                                    · refine g_iconst hX 2 dX6_fewestBumps_215 (by decide) ?_
                                      refine g_iload_10 hX dX6_fewestBumps_216 ?_
                                      refine g_imul hX dX6_fewestBumps_218 ?_
                                      refine g_top (nI (2 * (eI ((h : Int) - 8 + (stp (mv b) l i)) k).natAbs)) (pk_mul 2 _) ?_
                                      refine g_aload_0 hX dX6_fewestBumps_219 ?_
                                      refine gt_X6_now hX dX6_fewestBumps_220 ?_
                                      refine g_bipush hX 7 dX6_fewestBumps_223 (by decide) ?_
                                      refine g_ialdN (k := 7) hX (ar_71 Z) (by decide) (by decide) dX6_fewestBumps_225 ?_
                                      refine g_top (nI (phN (mv b))) f71 ?_
                                      refine g_icmp_gt hX 272 dX6_fewestBumps_226 (by decide) (fun c226 => ?_) (fun c226 => ?_)
                                      · refine g_iinc_7 hX 1 dX6_fewestBumps_272 (by decide) rfl ?_
                                        refine g_goto hX 125 dX6_fewestBumps_275 (by decide) ?_
                                        exact g_weak (lvw_c (lvw_c (lvw_c (lvw_c (lvw_c (lvw_c (lvw_c (lvw_c (lvw_n (lvw_n (lvw_n lvw_nil))))))))))) (ih125 _ _ ⟨⟨hO3.1, by rw [tB_min, if_neg (bI_z.mp c212), if_neg (fun z => nI_nlt z (by omega) c226)]; exact hO3.2.1, fun _ => hsp⟩, by simp only [nI_succ]⟩)
                                      · have h2e : 2 * (eI ((h : Int) - 8 + (stp (mv b) l i)) k).natAbs ≤ phN (mv b) := by
                                          rcases Nat.lt_or_ge (phN (mv b)) (2 * (eI ((h : Int) - 8 + (stp (mv b) l i)) k).natAbs) with q | q
                                          · exact absurd (nI_lt q (by omega)) c226
                                          · exact q
                                        have he3 : (eI ((h : Int) - 8 + (stp (mv b) l i)) k).natAbs ≤ 3 := by omega
                                        refine g_aload_0 hX dX6_fewestBumps_229 ?_
                                        refine gt_X6_fewest hX dX6_fewestBumps_230 ?_
                                        refine g_iload_5 hX dX6_fewestBumps_233 ?_
                                        refine g_ialdN (k := h) hX (ar_77 Z) (by omega) (by decide) dX6_fewestBumps_235 ?_
                                        refine g_top (nI ((tF (mv b) l i) ((h : Int) - 8))) f77 ?_
                                        refine g_iload_7 hX dX6_fewestBumps_236 ?_
                                        refine g_iadd hX dX6_fewestBumps_238 ?_
                                        refine g_top (nI (((tF (mv b) l i) ((h : Int) - 8)) + k)) (by rw [nI_add]) ?_
                                        refine g_aload_0 hX dX6_fewestBumps_239 ?_
                                        refine gt_X6_then hX dX6_fewestBumps_240 ?_
                                        refine g_iload_8 hX dX6_fewestBumps_243 ?_
                                        refine g_bipush hX 8 dX6_fewestBumps_245 (by decide) ?_
                                        refine g_iadd hX dX6_fewestBumps_247 ?_
                                        refine g_top (nI ((eI ((h : Int) - 8 + (stp (mv b) l i)) k) + 8).toNat) (by rw [show (8 : Int32) = zI 8 from rfl, zI_add, zI_nat (by omega)]) ?_
                                        refine g_ialdN (k := ((eI ((h : Int) - 8 + (stp (mv b) l i)) k) + 8).toNat) hX (ar_78 Z) (by omega) (by decide) dX6_fewestBumps_248 ?_
                                        refine g_top (nI ((tB (tX (tF (mv b) l i) (stp (mv b) l i) (roN (mv b) l i) (phN (mv b)) h) ((h : Int) - 8 + (stp (mv b) l i)) ((tF (mv b) l i) ((h : Int) - 8)) (phN (mv b)) (min k (((h : Int) - 8 + (stp (mv b) l i)).natAbs + 1))) (eI ((h : Int) - 8 + (stp (mv b) l i)) k))) (by rw [hO3.2.1 _ (by omega), show (((eI ((h : Int) - 8 + (stp (mv b) l i)) k) + 8).toNat : Int) - 8 = (eI ((h : Int) - 8 + (stp (mv b) l i)) k) by omega]) ?_
                                        refine g_icmp_ge hX 272 dX6_fewestBumps_249 (by decide) (fun c249 => ?_) (fun c249 => ?_)
                                        · refine g_iinc_7 hX 1 dX6_fewestBumps_272 (by decide) rfl ?_
                                          refine g_goto hX 125 dX6_fewestBumps_275 (by decide) ?_
                                          exact g_weak (lvw_c (lvw_c (lvw_c (lvw_c (lvw_c (lvw_c (lvw_c (lvw_c (lvw_n (lvw_n (lvw_n lvw_nil))))))))))) (ih125 _ _ ⟨⟨hO3.1, by rw [tB_min, if_neg (bI_z.mp c212), if_pos h2e]; exact Rm_st hO3.2.1 (fun z => c249 (nI_lt z (Nat.lt_of_le_of_lt hTe (by decide)))), fun _ => hsp⟩, by simp only [nI_succ]⟩)
                                        · refine g_aload_0 hX dX6_fewestBumps_252 ?_
                                          refine gt_X6_then hX dX6_fewestBumps_253 ?_
                                          refine g_iload_8 hX dX6_fewestBumps_256 ?_
                                          refine g_bipush hX 8 dX6_fewestBumps_258 (by decide) ?_
                                          refine g_iadd hX dX6_fewestBumps_260 ?_
                                          refine g_top (nI ((eI ((h : Int) - 8 + (stp (mv b) l i)) k) + 8).toNat) (by rw [show (8 : Int32) = zI 8 from rfl, zI_add, zI_nat (by omega)]) ?_
                                          refine g_aload_0 hX dX6_fewestBumps_261 ?_
                                          refine gt_X6_fewest hX dX6_fewestBumps_262 ?_
                                          refine g_iload_5 hX dX6_fewestBumps_265 ?_
                                          refine g_ialdN (k := h) hX (ar_77 Z) (by omega) (by decide) dX6_fewestBumps_267 ?_
                                          refine g_top (nI ((tF (mv b) l i) ((h : Int) - 8))) f77 ?_
                                          refine g_iload_7 hX dX6_fewestBumps_268 ?_
                                          refine g_iadd hX dX6_fewestBumps_270 ?_
                                          refine g_top (nI (((tF (mv b) l i) ((h : Int) - 8)) + k)) (by rw [nI_add]) ?_
                                          refine g_iastN (k := ((eI ((h : Int) - 8 + (stp (mv b) l i)) k) + 8).toNat) hX (ar_78 Z) (by omega) (by decide) dX6_fewestBumps_271 ?_
                                          refine g_iinc_7 hX 1 dX6_fewestBumps_272 (by decide) rfl ?_
                                          refine g_goto hX 125 dX6_fewestBumps_275 (by decide) ?_
                                          exact g_weak (lvw_c (lvw_c (lvw_c (lvw_c (lvw_c (lvw_c (lvw_c (lvw_c (lvw_n (lvw_n (lvw_n lvw_nil))))))))))) (ih125 _ _ ⟨⟨fun j hj => by rw [u2c _ _ hj]; exact hO3.1 j hj, by rw [tB_min, if_neg (bI_z.mp c212), if_pos h2e]; exact Rm_up hO3.2.1 he3 ((nI_ltI (by omega) (Nat.lt_of_le_of_lt hTe (by decide))).mp c249), fun _ => hsp⟩, by simp only [nI_succ]⟩)
                                  · refine g_iload_8 hX dX6_fewestBumps_200 ?_
                                    refine g_ineg hX dX6_fewestBumps_202 ?_
                                    refine g_goto hX 208 dX6_fewestBumps_203 (by decide) ?_
                                    refine g_top (nI (eI ((h : Int) - 8 + (stp (mv b) l i)) k).natAbs) (by first | exact (absN hei).1 c197 | exact (absN hei).2 c197) ?_
                                    refine g_istore_10 hX dX6_fewestBumps_208 rfl ?_
                                    refine g_iload_9 hX dX6_fewestBumps_210 ?_
                                    refine g_if_ne hX 272 dX6_fewestBumps_212 (by decide) (fun c212 => ?_) (fun c212 => ?_)
                                    · refine g_iinc_7 hX 1 dX6_fewestBumps_272 (by decide) rfl ?_
                                      refine g_goto hX 125 dX6_fewestBumps_275 (by decide) ?_
                                      exact g_weak (lvw_c (lvw_c (lvw_c (lvw_c (lvw_c (lvw_c (lvw_c (lvw_c (lvw_n (lvw_n (lvw_n lvw_nil))))))))))) (ih125 _ _ ⟨⟨hO3.1, by rw [tB_min, if_pos (bI_nz.mp c212)]; exact hO3.2.1, fun _ => hsp⟩, by simp only [nI_succ]⟩)
                                    · refine g_iconst hX 2 dX6_fewestBumps_215 (by decide) ?_
                                      refine g_iload_10 hX dX6_fewestBumps_216 ?_
                                      refine g_imul hX dX6_fewestBumps_218 ?_
                                      refine g_top (nI (2 * (eI ((h : Int) - 8 + (stp (mv b) l i)) k).natAbs)) (pk_mul 2 _) ?_
                                      refine g_aload_0 hX dX6_fewestBumps_219 ?_
                                      refine gt_X6_now hX dX6_fewestBumps_220 ?_
                                      refine g_bipush hX 7 dX6_fewestBumps_223 (by decide) ?_
                                      refine g_ialdN (k := 7) hX (ar_71 Z) (by decide) (by decide) dX6_fewestBumps_225 ?_
                                      refine g_top (nI (phN (mv b))) f71 ?_
                                      refine g_icmp_gt hX 272 dX6_fewestBumps_226 (by decide) (fun c226 => ?_) (fun c226 => ?_)
                                      · refine g_iinc_7 hX 1 dX6_fewestBumps_272 (by decide) rfl ?_
                                        refine g_goto hX 125 dX6_fewestBumps_275 (by decide) ?_
                                        exact g_weak (lvw_c (lvw_c (lvw_c (lvw_c (lvw_c (lvw_c (lvw_c (lvw_c (lvw_n (lvw_n (lvw_n lvw_nil))))))))))) (ih125 _ _ ⟨⟨hO3.1, by rw [tB_min, if_neg (bI_z.mp c212), if_neg (fun z => nI_nlt z (by omega) c226)]; exact hO3.2.1, fun _ => hsp⟩, by simp only [nI_succ]⟩)
                                      · have h2e : 2 * (eI ((h : Int) - 8 + (stp (mv b) l i)) k).natAbs ≤ phN (mv b) := by
                                          rcases Nat.lt_or_ge (phN (mv b)) (2 * (eI ((h : Int) - 8 + (stp (mv b) l i)) k).natAbs) with q | q
                                          · exact absurd (nI_lt q (by omega)) c226
                                          · exact q
                                        have he3 : (eI ((h : Int) - 8 + (stp (mv b) l i)) k).natAbs ≤ 3 := by omega
                                        refine g_aload_0 hX dX6_fewestBumps_229 ?_
                                        refine gt_X6_fewest hX dX6_fewestBumps_230 ?_
                                        refine g_iload_5 hX dX6_fewestBumps_233 ?_
                                        refine g_ialdN (k := h) hX (ar_77 Z) (by omega) (by decide) dX6_fewestBumps_235 ?_
                                        refine g_top (nI ((tF (mv b) l i) ((h : Int) - 8))) f77 ?_
                                        refine g_iload_7 hX dX6_fewestBumps_236 ?_
                                        refine g_iadd hX dX6_fewestBumps_238 ?_
                                        refine g_top (nI (((tF (mv b) l i) ((h : Int) - 8)) + k)) (by rw [nI_add]) ?_
                                        refine g_aload_0 hX dX6_fewestBumps_239 ?_
                                        refine gt_X6_then hX dX6_fewestBumps_240 ?_
                                        refine g_iload_8 hX dX6_fewestBumps_243 ?_
                                        refine g_bipush hX 8 dX6_fewestBumps_245 (by decide) ?_
                                        refine g_iadd hX dX6_fewestBumps_247 ?_
                                        refine g_top (nI ((eI ((h : Int) - 8 + (stp (mv b) l i)) k) + 8).toNat) (by rw [show (8 : Int32) = zI 8 from rfl, zI_add, zI_nat (by omega)]) ?_
                                        refine g_ialdN (k := ((eI ((h : Int) - 8 + (stp (mv b) l i)) k) + 8).toNat) hX (ar_78 Z) (by omega) (by decide) dX6_fewestBumps_248 ?_
                                        refine g_top (nI ((tB (tX (tF (mv b) l i) (stp (mv b) l i) (roN (mv b) l i) (phN (mv b)) h) ((h : Int) - 8 + (stp (mv b) l i)) ((tF (mv b) l i) ((h : Int) - 8)) (phN (mv b)) (min k (((h : Int) - 8 + (stp (mv b) l i)).natAbs + 1))) (eI ((h : Int) - 8 + (stp (mv b) l i)) k))) (by rw [hO3.2.1 _ (by omega), show (((eI ((h : Int) - 8 + (stp (mv b) l i)) k) + 8).toNat : Int) - 8 = (eI ((h : Int) - 8 + (stp (mv b) l i)) k) by omega]) ?_
                                        refine g_icmp_ge hX 272 dX6_fewestBumps_249 (by decide) (fun c249 => ?_) (fun c249 => ?_)
                                        · refine g_iinc_7 hX 1 dX6_fewestBumps_272 (by decide) rfl ?_
                                          refine g_goto hX 125 dX6_fewestBumps_275 (by decide) ?_
                                          exact g_weak (lvw_c (lvw_c (lvw_c (lvw_c (lvw_c (lvw_c (lvw_c (lvw_c (lvw_n (lvw_n (lvw_n lvw_nil))))))))))) (ih125 _ _ ⟨⟨hO3.1, by rw [tB_min, if_neg (bI_z.mp c212), if_pos h2e]; exact Rm_st hO3.2.1 (fun z => c249 (nI_lt z (Nat.lt_of_le_of_lt hTe (by decide)))), fun _ => hsp⟩, by simp only [nI_succ]⟩)
                                        · refine g_aload_0 hX dX6_fewestBumps_252 ?_
                                          refine gt_X6_then hX dX6_fewestBumps_253 ?_
                                          refine g_iload_8 hX dX6_fewestBumps_256 ?_
                                          refine g_bipush hX 8 dX6_fewestBumps_258 (by decide) ?_
                                          refine g_iadd hX dX6_fewestBumps_260 ?_
                                          refine g_top (nI ((eI ((h : Int) - 8 + (stp (mv b) l i)) k) + 8).toNat) (by rw [show (8 : Int32) = zI 8 from rfl, zI_add, zI_nat (by omega)]) ?_
                                          refine g_aload_0 hX dX6_fewestBumps_261 ?_
                                          refine gt_X6_fewest hX dX6_fewestBumps_262 ?_
                                          refine g_iload_5 hX dX6_fewestBumps_265 ?_
                                          refine g_ialdN (k := h) hX (ar_77 Z) (by omega) (by decide) dX6_fewestBumps_267 ?_
                                          refine g_top (nI ((tF (mv b) l i) ((h : Int) - 8))) f77 ?_
                                          refine g_iload_7 hX dX6_fewestBumps_268 ?_
                                          refine g_iadd hX dX6_fewestBumps_270 ?_
                                          refine g_top (nI (((tF (mv b) l i) ((h : Int) - 8)) + k)) (by rw [nI_add]) ?_
                                          refine g_iastN (k := ((eI ((h : Int) - 8 + (stp (mv b) l i)) k) + 8).toNat) hX (ar_78 Z) (by omega) (by decide) dX6_fewestBumps_271 ?_
                                          refine g_iinc_7 hX 1 dX6_fewestBumps_272 (by decide) rfl ?_
                                          refine g_goto hX 125 dX6_fewestBumps_275 (by decide) ?_
                                          exact g_weak (lvw_c (lvw_c (lvw_c (lvw_c (lvw_c (lvw_c (lvw_c (lvw_c (lvw_n (lvw_n (lvw_n lvw_nil))))))))))) (ih125 _ _ ⟨⟨fun j hj => by rw [u2c _ _ hj]; exact hO3.1 j hj, by rw [tB_min, if_neg (bI_z.mp c212), if_pos h2e]; exact Rm_up hO3.2.1 he3 ((nI_ltI (by omega) (Nat.lt_of_le_of_lt hTe (by decide))).mp c249), fun _ => hsp⟩, by simp only [nI_succ]⟩)
                      · rintro m3 _ ⟨hO3, rfl⟩
                        refine g_iload_7 hX dX6_fewestBumps_125 ?_
                        refine g_iload_4 hX dX6_fewestBumps_127 ?_
                        refine g_icmp_gt hX 278 dX6_fewestBumps_129 (by decide) (fun c129 => ?_) (fun c129 => ?_)
                        · refine g_iinc_5 hX 1 dX6_fewestBumps_278 (by decide) rfl ?_
                          refine g_goto hX 106 dX6_fewestBumps_281 (by decide) ?_
                          exact g_weak (lvw_c (lvw_c (lvw_c (lvw_c (lvw_c (lvw_c (lvw_n (lvw_n (lvw_n (lvw_n (lvw_n lvw_nil))))))))))) (ih106 _ _ ⟨⟨fun j hj => by rw [hO3.1 j hj]; exact hO2.1 j hj, by rw [tX_do hk106 hFk (hO3.2.2 (by omega))]; exact hO3.2.1⟩, by simp only [nI_succ]⟩)
                        · exact absurd c129 (not_not_intro (nI_lt (by omega) (by omega)))
                  · rintro m2 _ ⟨hO2, rfl⟩
                    refine g_iload_5 hX dX6_fewestBumps_106 ?_
                    refine g_bipush hX 17 dX6_fewestBumps_108 (by decide) ?_
                    refine g_icmp_ge hX 284 dX6_fewestBumps_110 (by decide) (fun c110 => ?_) (fun c110 => ?_)
                    · refine g_iconst hX 0 dX6_fewestBumps_284 (by decide) ?_
                      refine g_istore_5 hX dX6_fewestBumps_285 rfl ?_
                      refine g_loop (17) (fun k => up1 m2 77 (cpF (m2 78) (m2 77) 0 k)) (fun k => [some (.ref (zad Z 69)), some (.int (nI l)), some (.int (nI i)), some (.int (zI (stp (mv b) l i))), some (.int (nI (roN (mv b) l i))), some (.int (nI k)), none, none, none, none, none]) (cpF_0 m2 77 _ _) rfl (fun k hk287 ih287 => ?_) ?_
                      · show G Z X (up1 m2 77 (cpF (m2 78) (m2 77) 0 k)) 287 ([some (.ref (zad Z 69)), some (.int (nI l)), some (.int (nI i)), some (.int (zI (stp (mv b) l i))), some (.int (nI (roN (mv b) l i))), some (.int (nI k)), none, none, none, none, none]) _
                        refine g_iload_5 hX dX6_fewestBumps_287 ?_
                        refine g_bipush hX 17 dX6_fewestBumps_289 (by decide) ?_
                        refine g_icmp_ge hX 314 dX6_fewestBumps_291 (by decide) (fun c291 => ?_) (fun c291 => ?_)
                        · exact absurd c291 (not_not_intro (nI_lt (b := 17) hk287 (by decide)))
                        · refine g_aload_0 hX dX6_fewestBumps_294 ?_
                          refine gt_X6_fewest hX dX6_fewestBumps_295 ?_
                          refine g_iload_5 hX dX6_fewestBumps_298 ?_
                          refine g_aload_0 hX dX6_fewestBumps_300 ?_
                          refine gt_X6_then hX dX6_fewestBumps_301 ?_
                          refine g_iload_5 hX dX6_fewestBumps_304 ?_
                          refine g_ialdN (k := k) hX (ar_78 Z) (by omega) (by decide) dX6_fewestBumps_306 ?_
                          refine g_iastN (k := k) hX (ar_77 Z) (by omega) (by decide) dX6_fewestBumps_307 ?_
                          refine g_iinc_5 hX 1 dX6_fewestBumps_308 (by decide) rfl ?_
                          refine g_goto hX 287 dX6_fewestBumps_311 (by decide) ?_
                          exact g_cast ih287 (by rw [u1c _ _ (show (78 : Nat) ≠ 77 by decide)]; have := cpF_s m2 77 (m2 78) (m2 77) 0 k; rw [Nat.zero_add] at this; exact this) (by simp only [nI_succ]) rfl
                      · show G Z X (up1 m2 77 (cpF (m2 78) (m2 77) 0 (17))) 287 ([some (.ref (zad Z 69)), some (.int (nI l)), some (.int (nI i)), some (.int (zI (stp (mv b) l i))), some (.int (nI (roN (mv b) l i))), some (.int (nI (17))), none, none, none, none, none]) _
                        refine g_iload_5 hX dX6_fewestBumps_287 ?_
                        refine g_bipush hX 17 dX6_fewestBumps_289 (by decide) ?_
                        refine g_icmp_ge hX 314 dX6_fewestBumps_291 (by decide) (fun c291 => ?_) (fun c291 => ?_)
                        · refine g_iinc_2 hX 1 dX6_fewestBumps_314 (by decide) rfl ?_
                          refine g_goto hX 35 dX6_fewestBumps_317 (by decide) ?_
                          exact g_weak (lvw_c (lvw_c (lvw_c (lvw_n (lvw_n (lvw_n (lvw_n (lvw_n (lvw_n (lvw_n (lvw_n lvw_nil))))))))))) (ih35 _ _ ⟨⟨fun j h1 h2 => by rw [u1c _ _ h1, hO2.1 j h2, u1c _ _ h2, hI.1 j h1 h2], fun a ha => by
  rw [u1s]
  have := cpF_in (f := m2 78) (g := m2 77) (o := 0) ha
  rw [Nat.zero_add] at this
  rw [this]
  exact hO2.2 a ha⟩, by simp only [nI_succ]⟩)
                        · exact absurd c291 (Int32.lt_irrefl)
                    · exact absurd c110 (Int32.lt_irrefl)
                · exact absurd c84 (Int32.lt_irrefl)
          · refine g_iconst hX 0 dX6_fewestBumps_48 (by decide) ?_
            refine g_goto hX 67 dX6_fewestBumps_49 (by decide) ?_
            refine g_top (zI (stp (mv b) l i)) (by first | (rw [stp, if_pos ((nI0 (by omega)).mp c45)]; rfl) | (rw [stp, if_neg (fun z => c45 ((nI0 (by omega)).mpr z)), if_pos (show mv b 2 l i = 1 by rw [← em]; exact c59)]; rfl) | (rw [stp, if_neg (fun z => c45 ((nI0 (by omega)).mpr z)), if_neg (show ¬ mv b 2 l i = 1 by rw [← em]; exact c59)]; rfl)) ?_
            refine g_istore_3 hX dX6_fewestBumps_67 rfl ?_
            refine g_aload_0 hX dX6_fewestBumps_68 ?_
            refine g_iload_1 hX dX6_fewestBumps_69 ?_
            refine g_iload_2 hX dX6_fewestBumps_70 ?_
            refine g_iconst hX 2 dX6_fewestBumps_71 (by decide) ?_
            refine g_cV3r hX mkX6_toldRun ml_X6_151 (c_X6_toldRun (b := m) (by rw [em]; exact hV) hl6 (by omega)) (ob_69 Z _) dX6_fewestBumps_72 rfl (by decide) (Nat.le_of_ble_eq_true rfl) ?_
            refine g_top (nI (roN (mv b) l i)) (by rw [em]; exact hro) ?_
            refine g_istore_4 hX dX6_fewestBumps_75 rfl ?_
            refine g_iconst hX 0 dX6_fewestBumps_77 (by decide) ?_
            refine g_istore_5 hX dX6_fewestBumps_78 rfl ?_
            refine g_loop (17) (fun k => up1 m 78 (cpF (fun _ => 1000) (m 78) 0 k)) (fun k => [some (.ref (zad Z 69)), some (.int (nI l)), some (.int (nI i)), some (.int (zI (stp (mv b) l i))), some (.int (nI (roN (mv b) l i))), some (.int (nI k)), none, none, none, none, none]) (cpF_0 m 78 _ _) rfl (fun k hk80 ih80 => ?_) ?_
            · show G Z X (up1 m 78 (cpF (fun _ => 1000) (m 78) 0 k)) 80 ([some (.ref (zad Z 69)), some (.int (nI l)), some (.int (nI i)), some (.int (zI (stp (mv b) l i))), some (.int (nI (roN (mv b) l i))), some (.int (nI k)), none, none, none, none, none]) _
              refine g_iload_5 hX dX6_fewestBumps_80 ?_
              refine g_bipush hX 17 dX6_fewestBumps_82 (by decide) ?_
              refine g_icmp_ge hX 103 dX6_fewestBumps_84 (by decide) (fun c84 => ?_) (fun c84 => ?_)
              · exact absurd c84 (not_not_intro (nI_lt (b := 17) hk80 (by decide)))
              · refine g_aload_0 hX dX6_fewestBumps_87 ?_
                refine gt_X6_then hX dX6_fewestBumps_88 ?_
                refine g_iload_5 hX dX6_fewestBumps_91 ?_
                refine g_sipush hX 1000 dX6_fewestBumps_93 (by decide) ?_
                refine g_iastN (k := k) hX (ar_78 Z) (by omega) (by decide) dX6_fewestBumps_96 ?_
                refine g_iinc_5 hX 1 dX6_fewestBumps_97 (by decide) rfl ?_
                refine g_goto hX 80 dX6_fewestBumps_100 (by decide) ?_
                exact g_cast ih80 (by have := cpF_s m 78 (fun _ => 1000) (m 78) 0 k; rw [Nat.zero_add] at this; exact this) (by simp only [nI_succ]) rfl
            · show G Z X (up1 m 78 (cpF (fun _ => 1000) (m 78) 0 (17))) 80 ([some (.ref (zad Z 69)), some (.int (nI l)), some (.int (nI i)), some (.int (zI (stp (mv b) l i))), some (.int (nI (roN (mv b) l i))), some (.int (nI (17))), none, none, none, none, none]) _
              refine g_iload_5 hX dX6_fewestBumps_80 ?_
              refine g_bipush hX 17 dX6_fewestBumps_82 (by decide) ?_
              refine g_icmp_ge hX 103 dX6_fewestBumps_84 (by decide) (fun c84 => ?_) (fun c84 => ?_)
              · refine g_iconst hX 0 dX6_fewestBumps_103 (by decide) ?_
                refine g_istore_5 hX dX6_fewestBumps_104 rfl ?_
                refine g_weak (lvw_c (lvw_c (lvw_c (lvw_c (lvw_c (lvw_c (lvw_n (lvw_n (lvw_n (lvw_n (lvw_n lvw_nil))))))))))) (g_loopI (17) (fun h m2 LL => ((∀ j, j ≠ 78 → m2 j = up1 m 78 (cpF (fun _ => 1000) (m 78) 0 17) j) ∧ Rm m2 78 (tX (tF (mv b) l i) (stp (mv b) l i) (roN (mv b) l i) (phN (mv b)) h)) ∧ LL = [some (.ref (zad Z 69)), some (.int (nI l)), some (.int (nI i)), some (.int (zI (stp (mv b) l i))), some (.int (nI (roN (mv b) l i))), some (.int (nI h)), none, none, none, none, none]) ⟨⟨fun _ _ => rfl, fun a ha => by
  rw [u1s]
  have := cpF_in (f := fun _ => (1000 : Int32)) (g := m 78) (o := 0) ha
  rw [Nat.zero_add] at this
  rw [this]; rfl⟩, rfl⟩ ?_ ?_)
                · rintro h m2 _ hk106 ⟨hO2, rfl⟩ ih106
                  have e77 : m2 77 = m 77 := by rw [hO2.1 77 (by decide), u1c _ _ (by decide)]
                  have e71 : m2 71 = b 71 := by rw [hO2.1 71 (by decide), u1c _ _ (by decide), hI.1 71 (by decide) (by decide)]
                  have hF8 := hFk ((h : Int) - 8)
                  refine g_iload_5 hX dX6_fewestBumps_106 ?_
                  refine g_bipush hX 17 dX6_fewestBumps_108 (by decide) ?_
                  refine g_icmp_ge hX 284 dX6_fewestBumps_110 (by decide) (fun c110 => ?_) (fun c110 => ?_)
                  · exact absurd c110 (not_not_intro (nI_lt (b := 17) hk106 (by decide)))
                  · refine g_iload_5 hX dX6_fewestBumps_113 ?_
                    refine g_bipush hX 8 dX6_fewestBumps_115 (by decide) ?_
                    refine g_isub hX dX6_fewestBumps_117 ?_
                    refine g_iload_3 hX dX6_fewestBumps_118 ?_
                    refine g_iadd hX dX6_fewestBumps_119 ?_
                    refine g_top (zI ((h : Int) - 8 + (stp (mv b) l i))) (by rw [nI_z, show (8 : Int32) = zI 8 from rfl, zI_sub, zI_add]) ?_
                    refine g_istore_6 hX dX6_fewestBumps_120 rfl ?_
                    refine g_iconst hX 0 dX6_fewestBumps_122 (by decide) ?_
                    refine g_istore_7 hX dX6_fewestBumps_123 rfl ?_
                    refine g_weak (lvw_c (lvw_c (lvw_c (lvw_c (lvw_c (lvw_c (lvw_c (lvw_c (lvw_n (lvw_n (lvw_n lvw_nil))))))))))) (g_loopI ((roN (mv b) l i) + 1) (fun k m3 LL => ((∀ j, j ≠ 78 → m3 j = m2 j) ∧ Rm m3 78 (tB (tX (tF (mv b) l i) (stp (mv b) l i) (roN (mv b) l i) (phN (mv b)) h) ((h : Int) - 8 + (stp (mv b) l i)) ((tF (mv b) l i) ((h : Int) - 8)) (phN (mv b)) (min k (((h : Int) - 8 + (stp (mv b) l i)).natAbs + 1))) ∧ (0 < k → ((tF (mv b) l i) ((h : Int) - 8)) < 1000)) ∧ LL = [some (.ref (zad Z 69)), some (.int (nI l)), some (.int (nI i)), some (.int (zI (stp (mv b) l i))), some (.int (nI (roN (mv b) l i))), some (.int (nI h)), some (.int (zI ((h : Int) - 8 + (stp (mv b) l i)))), some (.int (nI k)), none, none, none]) ⟨⟨fun _ _ => rfl, by rw [Nat.zero_min]; exact hO2.2, fun z => by omega⟩, rfl⟩ ?_ ?_)
                    · rintro k m3 _ hk125 ⟨hO3, rfl⟩ ih125
                      have f77 : m3 77 h = nI ((tF (mv b) l i) ((h : Int) - 8)) := by rw [hO3.1 77 (by decide), e77]; exact hI.2 h hk106
                      have f71 : m3 71 7 = nI (phN (mv b)) := by rw [hO3.1 71 (by decide), e71]; exact hph
                      have hpos : 0 < zI ((h : Int) - 8 + (stp (mv b) l i)) ↔ 0 < ((h : Int) - 8 + (stp (mv b) l i)) := by rw [← zI_0]; exact zI_lt (by omega) (by omega)
                      have hei : -1000 ≤ (eI ((h : Int) - 8 + (stp (mv b) l i)) k) ∧ (eI ((h : Int) - 8 + (stp (mv b) l i)) k) ≤ 1000 := by unfold eI; split <;> omega
                      have hTe : (tB (tX (tF (mv b) l i) (stp (mv b) l i) (roN (mv b) l i) (phN (mv b)) h) ((h : Int) - 8 + (stp (mv b) l i)) ((tF (mv b) l i) ((h : Int) - 8)) (phN (mv b)) (min k (((h : Int) - 8 + (stp (mv b) l i)).natAbs + 1))) (eI ((h : Int) - 8 + (stp (mv b) l i)) k) ≤ 1000 := (tB_k (tP_k hph6 _) hph6 _ _).1
                      refine g_iload_7 hX dX6_fewestBumps_125 ?_
                      refine g_iload_4 hX dX6_fewestBumps_127 ?_
                      refine g_icmp_gt hX 278 dX6_fewestBumps_129 (by decide) (fun c129 => ?_) (fun c129 => ?_)
                      · exact absurd c129 (nI_nlt (by omega) (by omega))
                      · refine g_aload_0 hX dX6_fewestBumps_132 ?_
                        refine gt_X6_fewest hX dX6_fewestBumps_133 ?_
                        refine g_iload_5 hX dX6_fewestBumps_136 ?_
                        refine g_ialdN (k := h) hX (ar_77 Z) (by omega) (by decide) dX6_fewestBumps_138 ?_
                        refine g_top (nI ((tF (mv b) l i) ((h : Int) - 8))) f77 ?_
                        refine g_sipush hX 1000 dX6_fewestBumps_139 (by decide) ?_
                        refine g_icmp_ge hX 278 dX6_fewestBumps_142 (by decide) (fun c142 => ?_) (fun c142 => ?_)
                        · refine g_iinc_5 hX 1 dX6_fewestBumps_278 (by decide) rfl ?_
                          refine g_goto hX 106 dX6_fewestBumps_281 (by decide) ?_
                          exact g_weak (lvw_c (lvw_c (lvw_c (lvw_c (lvw_c (lvw_c (lvw_n (lvw_n (lvw_n (lvw_n (lvw_n lvw_nil))))))))))) (ih106 _ _ ⟨⟨fun j hj => by rw [hO3.1 j hj]; exact hO2.1 j hj, tX_b0 hk106 hFk hO3.2.1 hO3.2.2 (fun z => c142 (nI_lt z (by decide)))⟩, by simp only [nI_succ]⟩)
                        · have hsp : ((tF (mv b) l i) ((h : Int) - 8)) < 1000 := (nI_ltI (b := 1000) (by omega) (by decide)).mp c142
                          refine g_iload_6 hX dX6_fewestBumps_145 ?_
                          refine g_if_le hX 158 dX6_fewestBumps_147 (by decide) (fun c147 => ?_) (fun c147 => ?_)
                          · refine g_iload_6 hX dX6_fewestBumps_158 ?_
                            refine g_iload_7 hX dX6_fewestBumps_160 ?_
                            refine g_iadd hX dX6_fewestBumps_162 ?_
                            refine g_top (zI (eI ((h : Int) - 8 + (stp (mv b) l i)) k)) (by first | (rw [eI, if_pos (hpos.mp c147), nI_z, zI_sub]; done) | (rw [eI, if_neg (fun q => c147 (hpos.mpr q)), nI_z, zI_add]; done)) ?_
                            refine g_istore_8 hX dX6_fewestBumps_163 rfl ?_
                            refine g_iload_6 hX dX6_fewestBumps_165 ?_
                            refine g_if_le hX 183 dX6_fewestBumps_167 (by decide) (fun c167 => ?_) (fun c167 => ?_)
                            · refine g_iload_8 hX dX6_fewestBumps_183 ?_
                              refine g_if_le hX 192 dX6_fewestBumps_185 (by decide) (fun c185 => ?_) (fun c185 => ?_)
                              · refine g_iconst hX 0 dX6_fewestBumps_192 (by decide) ?_
                                refine g_top (bI (((h : Int) - 8 + (stp (mv b) l i)).natAbs < k)) (by first | (rw [bI_t (by have := hpos.mp c167; have h9 : (eI ((h : Int) - 8 + (stp (mv b) l i)) k) < 0 := (zI_lt (b := 0) (by omega) (by omega)).mp c172; unfold eI at h9; rw [if_pos this] at h9; omega)]; done) | (rw [bI_f (by have := hpos.mp c167; have h9 : ¬ (eI ((h : Int) - 8 + (stp (mv b) l i)) k) < 0 := fun z => c172 ((zI_lt (b := 0) (by omega) (by omega)).mpr z); unfold eI at h9; rw [if_pos this] at h9; omega)]; done) | (rw [bI_t (by have : ¬ 0 < ((h : Int) - 8 + (stp (mv b) l i)) := fun z => c167 (hpos.mpr z); have h9 : 0 < (eI ((h : Int) - 8 + (stp (mv b) l i)) k) := (zI_lt (a := 0) (by omega) (by omega)).mp c185; unfold eI at h9; rw [if_neg this] at h9; omega)]; done) | (rw [bI_f (by have : ¬ 0 < ((h : Int) - 8 + (stp (mv b) l i)) := fun z => c167 (hpos.mpr z); have h9 : ¬ 0 < (eI ((h : Int) - 8 + (stp (mv b) l i)) k) := fun z => c185 ((zI_lt (a := 0) (by omega) (by omega)).mpr z); unfold eI at h9; rw [if_neg this] at h9; omega)]; done)) ?_
                                refine g_istore_9 hX dX6_fewestBumps_193 rfl ?_
                                refine g_iload_8 hX dX6_fewestBumps_195 ?_
                                refine g_if_ge hX 206 dX6_fewestBumps_197 (by decide) (fun c197 => ?_) (fun c197 => ?_)
                                · refine g_iload_8 hX dX6_fewestBumps_206 ?_
                                  refine g_top (nI (eI ((h : Int) - 8 + (stp (mv b) l i)) k).natAbs) (by first | exact (absN hei).1 c197 | exact (absN hei).2 c197) ?_
                                  refine g_istore_10 hX dX6_fewestBumps_208 rfl ?_
                                  refine g_iload_9 hX dX6_fewestBumps_210 ?_
                                  refine g_if_ne hX 272 dX6_fewestBumps_212 (by decide) (fun c212 => ?_) (fun c212 => ?_)
                                  · refine g_iinc_7 hX 1 dX6_fewestBumps_272 (by decide) rfl ?_
                                    refine g_goto hX 125 dX6_fewestBumps_275 (by decide) ?_
                                    exact g_weak (lvw_c (lvw_c (lvw_c (lvw_c (lvw_c (lvw_c (lvw_c (lvw_c (lvw_n (lvw_n (lvw_n lvw_nil))))))))))) (ih125 _ _ ⟨⟨hO3.1, by rw [tB_min, if_pos (bI_nz.mp c212)]; exact hO3.2.1, fun _ => hsp⟩, by simp only [nI_succ]⟩)
                                  · refine g_iconst hX 2 dX6_fewestBumps_215 (by decide) ?_
                                    refine g_iload_10 hX dX6_fewestBumps_216 ?_
                                    refine g_imul hX dX6_fewestBumps_218 ?_
                                    refine g_top (nI (2 * (eI ((h : Int) - 8 + (stp (mv b) l i)) k).natAbs)) (pk_mul 2 _) ?_
                                    refine g_aload_0 hX dX6_fewestBumps_219 ?_
                                    refine gt_X6_now hX dX6_fewestBumps_220 ?_
                                    refine g_bipush hX 7 dX6_fewestBumps_223 (by decide) ?_
                                    refine g_ialdN (k := 7) hX (ar_71 Z) (by decide) (by decide) dX6_fewestBumps_225 ?_
                                    refine g_top (nI (phN (mv b))) f71 ?_
                                    refine g_icmp_gt hX 272 dX6_fewestBumps_226 (by decide) (fun c226 => ?_) (fun c226 => ?_)
                                    · refine g_iinc_7 hX 1 dX6_fewestBumps_272 (by decide) rfl ?_
                                      refine g_goto hX 125 dX6_fewestBumps_275 (by decide) ?_
                                      exact g_weak (lvw_c (lvw_c (lvw_c (lvw_c (lvw_c (lvw_c (lvw_c (lvw_c (lvw_n (lvw_n (lvw_n lvw_nil))))))))))) (ih125 _ _ ⟨⟨hO3.1, by rw [tB_min, if_neg (bI_z.mp c212), if_neg (fun z => nI_nlt z (by omega) c226)]; exact hO3.2.1, fun _ => hsp⟩, by simp only [nI_succ]⟩)
                                    · have h2e : 2 * (eI ((h : Int) - 8 + (stp (mv b) l i)) k).natAbs ≤ phN (mv b) := by
                                        rcases Nat.lt_or_ge (phN (mv b)) (2 * (eI ((h : Int) - 8 + (stp (mv b) l i)) k).natAbs) with q | q
                                        · exact absurd (nI_lt q (by omega)) c226
                                        · exact q
                                      have he3 : (eI ((h : Int) - 8 + (stp (mv b) l i)) k).natAbs ≤ 3 := by omega
                                      refine g_aload_0 hX dX6_fewestBumps_229 ?_
                                      refine gt_X6_fewest hX dX6_fewestBumps_230 ?_
                                      refine g_iload_5 hX dX6_fewestBumps_233 ?_
                                      refine g_ialdN (k := h) hX (ar_77 Z) (by omega) (by decide) dX6_fewestBumps_235 ?_
                                      refine g_top (nI ((tF (mv b) l i) ((h : Int) - 8))) f77 ?_
                                      refine g_iload_7 hX dX6_fewestBumps_236 ?_
                                      refine g_iadd hX dX6_fewestBumps_238 ?_
                                      refine g_top (nI (((tF (mv b) l i) ((h : Int) - 8)) + k)) (by rw [nI_add]) ?_
                                      refine g_aload_0 hX dX6_fewestBumps_239 ?_
                                      refine gt_X6_then hX dX6_fewestBumps_240 ?_
                                      refine g_iload_8 hX dX6_fewestBumps_243 ?_
                                      refine g_bipush hX 8 dX6_fewestBumps_245 (by decide) ?_
                                      refine g_iadd hX dX6_fewestBumps_247 ?_
                                      refine g_top (nI ((eI ((h : Int) - 8 + (stp (mv b) l i)) k) + 8).toNat) (by rw [show (8 : Int32) = zI 8 from rfl, zI_add, zI_nat (by omega)]) ?_
                                      refine g_ialdN (k := ((eI ((h : Int) - 8 + (stp (mv b) l i)) k) + 8).toNat) hX (ar_78 Z) (by omega) (by decide) dX6_fewestBumps_248 ?_
                                      refine g_top (nI ((tB (tX (tF (mv b) l i) (stp (mv b) l i) (roN (mv b) l i) (phN (mv b)) h) ((h : Int) - 8 + (stp (mv b) l i)) ((tF (mv b) l i) ((h : Int) - 8)) (phN (mv b)) (min k (((h : Int) - 8 + (stp (mv b) l i)).natAbs + 1))) (eI ((h : Int) - 8 + (stp (mv b) l i)) k))) (by rw [hO3.2.1 _ (by omega), show (((eI ((h : Int) - 8 + (stp (mv b) l i)) k) + 8).toNat : Int) - 8 = (eI ((h : Int) - 8 + (stp (mv b) l i)) k) by omega]) ?_
                                      refine g_icmp_ge hX 272 dX6_fewestBumps_249 (by decide) (fun c249 => ?_) (fun c249 => ?_)
                                      · refine g_iinc_7 hX 1 dX6_fewestBumps_272 (by decide) rfl ?_
                                        refine g_goto hX 125 dX6_fewestBumps_275 (by decide) ?_
                                        exact g_weak (lvw_c (lvw_c (lvw_c (lvw_c (lvw_c (lvw_c (lvw_c (lvw_c (lvw_n (lvw_n (lvw_n lvw_nil))))))))))) (ih125 _ _ ⟨⟨hO3.1, by rw [tB_min, if_neg (bI_z.mp c212), if_pos h2e]; exact Rm_st hO3.2.1 (fun z => c249 (nI_lt z (Nat.lt_of_le_of_lt hTe (by decide)))), fun _ => hsp⟩, by simp only [nI_succ]⟩)
                                      · refine g_aload_0 hX dX6_fewestBumps_252 ?_
                                        refine gt_X6_then hX dX6_fewestBumps_253 ?_
                                        refine g_iload_8 hX dX6_fewestBumps_256 ?_
                                        refine g_bipush hX 8 dX6_fewestBumps_258 (by decide) ?_
                                        refine g_iadd hX dX6_fewestBumps_260 ?_
                                        refine g_top (nI ((eI ((h : Int) - 8 + (stp (mv b) l i)) k) + 8).toNat) (by rw [show (8 : Int32) = zI 8 from rfl, zI_add, zI_nat (by omega)]) ?_
                                        refine g_aload_0 hX dX6_fewestBumps_261 ?_
                                        refine gt_X6_fewest hX dX6_fewestBumps_262 ?_
                                        refine g_iload_5 hX dX6_fewestBumps_265 ?_
                                        refine g_ialdN (k := h) hX (ar_77 Z) (by omega) (by decide) dX6_fewestBumps_267 ?_
                                        refine g_top (nI ((tF (mv b) l i) ((h : Int) - 8))) f77 ?_
                                        refine g_iload_7 hX dX6_fewestBumps_268 ?_
                                        refine g_iadd hX dX6_fewestBumps_270 ?_
                                        refine g_top (nI (((tF (mv b) l i) ((h : Int) - 8)) + k)) (by rw [nI_add]) ?_
                                        refine g_iastN (k := ((eI ((h : Int) - 8 + (stp (mv b) l i)) k) + 8).toNat) hX (ar_78 Z) (by omega) (by decide) dX6_fewestBumps_271 ?_
                                        refine g_iinc_7 hX 1 dX6_fewestBumps_272 (by decide) rfl ?_
                                        refine g_goto hX 125 dX6_fewestBumps_275 (by decide) ?_
                                        exact g_weak (lvw_c (lvw_c (lvw_c (lvw_c (lvw_c (lvw_c (lvw_c (lvw_c (lvw_n (lvw_n (lvw_n lvw_nil))))))))))) (ih125 _ _ ⟨⟨fun j hj => by rw [u2c _ _ hj]; exact hO3.1 j hj, by rw [tB_min, if_neg (bI_z.mp c212), if_pos h2e]; exact Rm_up hO3.2.1 he3 ((nI_ltI (by omega) (Nat.lt_of_le_of_lt hTe (by decide))).mp c249), fun _ => hsp⟩, by simp only [nI_succ]⟩)
                                · refine g_iload_8 hX dX6_fewestBumps_200 ?_
                                  refine g_ineg hX dX6_fewestBumps_202 ?_
                                  refine g_goto hX 208 dX6_fewestBumps_203 (by decide) ?_
                                  refine g_top (nI (eI ((h : Int) - 8 + (stp (mv b) l i)) k).natAbs) (by first | exact (absN hei).1 c197 | exact (absN hei).2 c197) ?_
                                  refine g_istore_10 hX dX6_fewestBumps_208 rfl ?_
                                  refine g_iload_9 hX dX6_fewestBumps_210 ?_
                                  refine g_if_ne hX 272 dX6_fewestBumps_212 (by decide) (fun c212 => ?_) (fun c212 => ?_)
                                  · refine g_iinc_7 hX 1 dX6_fewestBumps_272 (by decide) rfl ?_
                                    refine g_goto hX 125 dX6_fewestBumps_275 (by decide) ?_
                                    exact g_weak (lvw_c (lvw_c (lvw_c (lvw_c (lvw_c (lvw_c (lvw_c (lvw_c (lvw_n (lvw_n (lvw_n lvw_nil))))))))))) (ih125 _ _ ⟨⟨hO3.1, by rw [tB_min, if_pos (bI_nz.mp c212)]; exact hO3.2.1, fun _ => hsp⟩, by simp only [nI_succ]⟩)
                                  · refine g_iconst hX 2 dX6_fewestBumps_215 (by decide) ?_
                                    refine g_iload_10 hX dX6_fewestBumps_216 ?_
                                    refine g_imul hX dX6_fewestBumps_218 ?_
                                    refine g_top (nI (2 * (eI ((h : Int) - 8 + (stp (mv b) l i)) k).natAbs)) (pk_mul 2 _) ?_
                                    refine g_aload_0 hX dX6_fewestBumps_219 ?_
                                    refine gt_X6_now hX dX6_fewestBumps_220 ?_
                                    refine g_bipush hX 7 dX6_fewestBumps_223 (by decide) ?_
                                    refine g_ialdN (k := 7) hX (ar_71 Z) (by decide) (by decide) dX6_fewestBumps_225 ?_
                                    refine g_top (nI (phN (mv b))) f71 ?_
                                    refine g_icmp_gt hX 272 dX6_fewestBumps_226 (by decide) (fun c226 => ?_) (fun c226 => ?_)
                                    · refine g_iinc_7 hX 1 dX6_fewestBumps_272 (by decide) rfl ?_
                                      refine g_goto hX 125 dX6_fewestBumps_275 (by decide) ?_
                                      exact g_weak (lvw_c (lvw_c (lvw_c (lvw_c (lvw_c (lvw_c (lvw_c (lvw_c (lvw_n (lvw_n (lvw_n lvw_nil))))))))))) (ih125 _ _ ⟨⟨hO3.1, by rw [tB_min, if_neg (bI_z.mp c212), if_neg (fun z => nI_nlt z (by omega) c226)]; exact hO3.2.1, fun _ => hsp⟩, by simp only [nI_succ]⟩)
                                    · have h2e : 2 * (eI ((h : Int) - 8 + (stp (mv b) l i)) k).natAbs ≤ phN (mv b) := by
                                        rcases Nat.lt_or_ge (phN (mv b)) (2 * (eI ((h : Int) - 8 + (stp (mv b) l i)) k).natAbs) with q | q
                                        · exact absurd (nI_lt q (by omega)) c226
                                        · exact q
                                      have he3 : (eI ((h : Int) - 8 + (stp (mv b) l i)) k).natAbs ≤ 3 := by omega
                                      refine g_aload_0 hX dX6_fewestBumps_229 ?_
                                      refine gt_X6_fewest hX dX6_fewestBumps_230 ?_
                                      refine g_iload_5 hX dX6_fewestBumps_233 ?_
                                      refine g_ialdN (k := h) hX (ar_77 Z) (by omega) (by decide) dX6_fewestBumps_235 ?_
                                      refine g_top (nI ((tF (mv b) l i) ((h : Int) - 8))) f77 ?_
                                      refine g_iload_7 hX dX6_fewestBumps_236 ?_
                                      refine g_iadd hX dX6_fewestBumps_238 ?_
                                      refine g_top (nI (((tF (mv b) l i) ((h : Int) - 8)) + k)) (by rw [nI_add]) ?_
                                      refine g_aload_0 hX dX6_fewestBumps_239 ?_
                                      refine gt_X6_then hX dX6_fewestBumps_240 ?_
                                      refine g_iload_8 hX dX6_fewestBumps_243 ?_
                                      refine g_bipush hX 8 dX6_fewestBumps_245 (by decide) ?_
                                      refine g_iadd hX dX6_fewestBumps_247 ?_
                                      refine g_top (nI ((eI ((h : Int) - 8 + (stp (mv b) l i)) k) + 8).toNat) (by rw [show (8 : Int32) = zI 8 from rfl, zI_add, zI_nat (by omega)]) ?_
                                      refine g_ialdN (k := ((eI ((h : Int) - 8 + (stp (mv b) l i)) k) + 8).toNat) hX (ar_78 Z) (by omega) (by decide) dX6_fewestBumps_248 ?_
                                      refine g_top (nI ((tB (tX (tF (mv b) l i) (stp (mv b) l i) (roN (mv b) l i) (phN (mv b)) h) ((h : Int) - 8 + (stp (mv b) l i)) ((tF (mv b) l i) ((h : Int) - 8)) (phN (mv b)) (min k (((h : Int) - 8 + (stp (mv b) l i)).natAbs + 1))) (eI ((h : Int) - 8 + (stp (mv b) l i)) k))) (by rw [hO3.2.1 _ (by omega), show (((eI ((h : Int) - 8 + (stp (mv b) l i)) k) + 8).toNat : Int) - 8 = (eI ((h : Int) - 8 + (stp (mv b) l i)) k) by omega]) ?_
                                      refine g_icmp_ge hX 272 dX6_fewestBumps_249 (by decide) (fun c249 => ?_) (fun c249 => ?_)
                                      · refine g_iinc_7 hX 1 dX6_fewestBumps_272 (by decide) rfl ?_
                                        refine g_goto hX 125 dX6_fewestBumps_275 (by decide) ?_
                                        exact g_weak (lvw_c (lvw_c (lvw_c (lvw_c (lvw_c (lvw_c (lvw_c (lvw_c (lvw_n (lvw_n (lvw_n lvw_nil))))))))))) (ih125 _ _ ⟨⟨hO3.1, by rw [tB_min, if_neg (bI_z.mp c212), if_pos h2e]; exact Rm_st hO3.2.1 (fun z => c249 (nI_lt z (Nat.lt_of_le_of_lt hTe (by decide)))), fun _ => hsp⟩, by simp only [nI_succ]⟩)
                                      · refine g_aload_0 hX dX6_fewestBumps_252 ?_
                                        refine gt_X6_then hX dX6_fewestBumps_253 ?_
                                        refine g_iload_8 hX dX6_fewestBumps_256 ?_
                                        refine g_bipush hX 8 dX6_fewestBumps_258 (by decide) ?_
                                        refine g_iadd hX dX6_fewestBumps_260 ?_
                                        refine g_top (nI ((eI ((h : Int) - 8 + (stp (mv b) l i)) k) + 8).toNat) (by rw [show (8 : Int32) = zI 8 from rfl, zI_add, zI_nat (by omega)]) ?_
                                        refine g_aload_0 hX dX6_fewestBumps_261 ?_
                                        refine gt_X6_fewest hX dX6_fewestBumps_262 ?_
                                        refine g_iload_5 hX dX6_fewestBumps_265 ?_
                                        refine g_ialdN (k := h) hX (ar_77 Z) (by omega) (by decide) dX6_fewestBumps_267 ?_
                                        refine g_top (nI ((tF (mv b) l i) ((h : Int) - 8))) f77 ?_
                                        refine g_iload_7 hX dX6_fewestBumps_268 ?_
                                        refine g_iadd hX dX6_fewestBumps_270 ?_
                                        refine g_top (nI (((tF (mv b) l i) ((h : Int) - 8)) + k)) (by rw [nI_add]) ?_
                                        refine g_iastN (k := ((eI ((h : Int) - 8 + (stp (mv b) l i)) k) + 8).toNat) hX (ar_78 Z) (by omega) (by decide) dX6_fewestBumps_271 ?_
                                        refine g_iinc_7 hX 1 dX6_fewestBumps_272 (by decide) rfl ?_
                                        refine g_goto hX 125 dX6_fewestBumps_275 (by decide) ?_
                                        exact g_weak (lvw_c (lvw_c (lvw_c (lvw_c (lvw_c (lvw_c (lvw_c (lvw_c (lvw_n (lvw_n (lvw_n lvw_nil))))))))))) (ih125 _ _ ⟨⟨fun j hj => by rw [u2c _ _ hj]; exact hO3.1 j hj, by rw [tB_min, if_neg (bI_z.mp c212), if_pos h2e]; exact Rm_up hO3.2.1 he3 ((nI_ltI (by omega) (Nat.lt_of_le_of_lt hTe (by decide))).mp c249), fun _ => hsp⟩, by simp only [nI_succ]⟩)
                              · refine g_iconst hX 1 dX6_fewestBumps_188 (by decide) ?_
                                refine g_goto hX 193 dX6_fewestBumps_189 (by decide) ?_
                                refine g_top (bI (((h : Int) - 8 + (stp (mv b) l i)).natAbs < k)) (by first | (rw [bI_t (by have := hpos.mp c167; have h9 : (eI ((h : Int) - 8 + (stp (mv b) l i)) k) < 0 := (zI_lt (b := 0) (by omega) (by omega)).mp c172; unfold eI at h9; rw [if_pos this] at h9; omega)]; done) | (rw [bI_f (by have := hpos.mp c167; have h9 : ¬ (eI ((h : Int) - 8 + (stp (mv b) l i)) k) < 0 := fun z => c172 ((zI_lt (b := 0) (by omega) (by omega)).mpr z); unfold eI at h9; rw [if_pos this] at h9; omega)]; done) | (rw [bI_t (by have : ¬ 0 < ((h : Int) - 8 + (stp (mv b) l i)) := fun z => c167 (hpos.mpr z); have h9 : 0 < (eI ((h : Int) - 8 + (stp (mv b) l i)) k) := (zI_lt (a := 0) (by omega) (by omega)).mp c185; unfold eI at h9; rw [if_neg this] at h9; omega)]; done) | (rw [bI_f (by have : ¬ 0 < ((h : Int) - 8 + (stp (mv b) l i)) := fun z => c167 (hpos.mpr z); have h9 : ¬ 0 < (eI ((h : Int) - 8 + (stp (mv b) l i)) k) := fun z => c185 ((zI_lt (a := 0) (by omega) (by omega)).mpr z); unfold eI at h9; rw [if_neg this] at h9; omega)]; done)) ?_
                                refine g_istore_9 hX dX6_fewestBumps_193 rfl ?_
                                refine g_iload_8 hX dX6_fewestBumps_195 ?_
                                refine g_if_ge hX 206 dX6_fewestBumps_197 (by decide) (fun c197 => ?_) (fun c197 => ?_)
                                · refine g_iload_8 hX dX6_fewestBumps_206 ?_
                                  refine g_top (nI (eI ((h : Int) - 8 + (stp (mv b) l i)) k).natAbs) (by first | exact (absN hei).1 c197 | exact (absN hei).2 c197) ?_
                                  refine g_istore_10 hX dX6_fewestBumps_208 rfl ?_
                                  refine g_iload_9 hX dX6_fewestBumps_210 ?_
                                  refine g_if_ne hX 272 dX6_fewestBumps_212 (by decide) (fun c212 => ?_) (fun c212 => ?_)
                                  · refine g_iinc_7 hX 1 dX6_fewestBumps_272 (by decide) rfl ?_
                                    refine g_goto hX 125 dX6_fewestBumps_275 (by decide) ?_
                                    exact g_weak (lvw_c (lvw_c (lvw_c (lvw_c (lvw_c (lvw_c (lvw_c (lvw_c (lvw_n (lvw_n (lvw_n lvw_nil))))))))))) (ih125 _ _ ⟨⟨hO3.1, by rw [tB_min, if_pos (bI_nz.mp c212)]; exact hO3.2.1, fun _ => hsp⟩, by simp only [nI_succ]⟩)
                                  · refine g_iconst hX 2 dX6_fewestBumps_215 (by decide) ?_
                                    refine g_iload_10 hX dX6_fewestBumps_216 ?_
                                    refine g_imul hX dX6_fewestBumps_218 ?_
                                    refine g_top (nI (2 * (eI ((h : Int) - 8 + (stp (mv b) l i)) k).natAbs)) (pk_mul 2 _) ?_
                                    refine g_aload_0 hX dX6_fewestBumps_219 ?_
                                    refine gt_X6_now hX dX6_fewestBumps_220 ?_
                                    refine g_bipush hX 7 dX6_fewestBumps_223 (by decide) ?_
                                    refine g_ialdN (k := 7) hX (ar_71 Z) (by decide) (by decide) dX6_fewestBumps_225 ?_
                                    refine g_top (nI (phN (mv b))) f71 ?_
                                    refine g_icmp_gt hX 272 dX6_fewestBumps_226 (by decide) (fun c226 => ?_) (fun c226 => ?_)
                                    · refine g_iinc_7 hX 1 dX6_fewestBumps_272 (by decide) rfl ?_
                                      refine g_goto hX 125 dX6_fewestBumps_275 (by decide) ?_
                                      exact g_weak (lvw_c (lvw_c (lvw_c (lvw_c (lvw_c (lvw_c (lvw_c (lvw_c (lvw_n (lvw_n (lvw_n lvw_nil))))))))))) (ih125 _ _ ⟨⟨hO3.1, by rw [tB_min, if_neg (bI_z.mp c212), if_neg (fun z => nI_nlt z (by omega) c226)]; exact hO3.2.1, fun _ => hsp⟩, by simp only [nI_succ]⟩)
                                    · have h2e : 2 * (eI ((h : Int) - 8 + (stp (mv b) l i)) k).natAbs ≤ phN (mv b) := by
                                        rcases Nat.lt_or_ge (phN (mv b)) (2 * (eI ((h : Int) - 8 + (stp (mv b) l i)) k).natAbs) with q | q
                                        · exact absurd (nI_lt q (by omega)) c226
                                        · exact q
                                      have he3 : (eI ((h : Int) - 8 + (stp (mv b) l i)) k).natAbs ≤ 3 := by omega
                                      refine g_aload_0 hX dX6_fewestBumps_229 ?_
                                      refine gt_X6_fewest hX dX6_fewestBumps_230 ?_
                                      refine g_iload_5 hX dX6_fewestBumps_233 ?_
                                      refine g_ialdN (k := h) hX (ar_77 Z) (by omega) (by decide) dX6_fewestBumps_235 ?_
                                      refine g_top (nI ((tF (mv b) l i) ((h : Int) - 8))) f77 ?_
                                      refine g_iload_7 hX dX6_fewestBumps_236 ?_
                                      refine g_iadd hX dX6_fewestBumps_238 ?_
                                      refine g_top (nI (((tF (mv b) l i) ((h : Int) - 8)) + k)) (by rw [nI_add]) ?_
                                      refine g_aload_0 hX dX6_fewestBumps_239 ?_
                                      refine gt_X6_then hX dX6_fewestBumps_240 ?_
                                      refine g_iload_8 hX dX6_fewestBumps_243 ?_
                                      refine g_bipush hX 8 dX6_fewestBumps_245 (by decide) ?_
                                      refine g_iadd hX dX6_fewestBumps_247 ?_
                                      refine g_top (nI ((eI ((h : Int) - 8 + (stp (mv b) l i)) k) + 8).toNat) (by rw [show (8 : Int32) = zI 8 from rfl, zI_add, zI_nat (by omega)]) ?_
                                      refine g_ialdN (k := ((eI ((h : Int) - 8 + (stp (mv b) l i)) k) + 8).toNat) hX (ar_78 Z) (by omega) (by decide) dX6_fewestBumps_248 ?_
                                      refine g_top (nI ((tB (tX (tF (mv b) l i) (stp (mv b) l i) (roN (mv b) l i) (phN (mv b)) h) ((h : Int) - 8 + (stp (mv b) l i)) ((tF (mv b) l i) ((h : Int) - 8)) (phN (mv b)) (min k (((h : Int) - 8 + (stp (mv b) l i)).natAbs + 1))) (eI ((h : Int) - 8 + (stp (mv b) l i)) k))) (by rw [hO3.2.1 _ (by omega), show (((eI ((h : Int) - 8 + (stp (mv b) l i)) k) + 8).toNat : Int) - 8 = (eI ((h : Int) - 8 + (stp (mv b) l i)) k) by omega]) ?_
                                      refine g_icmp_ge hX 272 dX6_fewestBumps_249 (by decide) (fun c249 => ?_) (fun c249 => ?_)
                                      · refine g_iinc_7 hX 1 dX6_fewestBumps_272 (by decide) rfl ?_
                                        refine g_goto hX 125 dX6_fewestBumps_275 (by decide) ?_
                                        exact g_weak (lvw_c (lvw_c (lvw_c (lvw_c (lvw_c (lvw_c (lvw_c (lvw_c (lvw_n (lvw_n (lvw_n lvw_nil))))))))))) (ih125 _ _ ⟨⟨hO3.1, by rw [tB_min, if_neg (bI_z.mp c212), if_pos h2e]; exact Rm_st hO3.2.1 (fun z => c249 (nI_lt z (Nat.lt_of_le_of_lt hTe (by decide)))), fun _ => hsp⟩, by simp only [nI_succ]⟩)
                                      · refine g_aload_0 hX dX6_fewestBumps_252 ?_
                                        refine gt_X6_then hX dX6_fewestBumps_253 ?_
                                        refine g_iload_8 hX dX6_fewestBumps_256 ?_
                                        refine g_bipush hX 8 dX6_fewestBumps_258 (by decide) ?_
                                        refine g_iadd hX dX6_fewestBumps_260 ?_
                                        refine g_top (nI ((eI ((h : Int) - 8 + (stp (mv b) l i)) k) + 8).toNat) (by rw [show (8 : Int32) = zI 8 from rfl, zI_add, zI_nat (by omega)]) ?_
                                        refine g_aload_0 hX dX6_fewestBumps_261 ?_
                                        refine gt_X6_fewest hX dX6_fewestBumps_262 ?_
                                        refine g_iload_5 hX dX6_fewestBumps_265 ?_
                                        refine g_ialdN (k := h) hX (ar_77 Z) (by omega) (by decide) dX6_fewestBumps_267 ?_
                                        refine g_top (nI ((tF (mv b) l i) ((h : Int) - 8))) f77 ?_
                                        refine g_iload_7 hX dX6_fewestBumps_268 ?_
                                        refine g_iadd hX dX6_fewestBumps_270 ?_
                                        refine g_top (nI (((tF (mv b) l i) ((h : Int) - 8)) + k)) (by rw [nI_add]) ?_
                                        refine g_iastN (k := ((eI ((h : Int) - 8 + (stp (mv b) l i)) k) + 8).toNat) hX (ar_78 Z) (by omega) (by decide) dX6_fewestBumps_271 ?_
                                        refine g_iinc_7 hX 1 dX6_fewestBumps_272 (by decide) rfl ?_
                                        refine g_goto hX 125 dX6_fewestBumps_275 (by decide) ?_
                                        exact g_weak (lvw_c (lvw_c (lvw_c (lvw_c (lvw_c (lvw_c (lvw_c (lvw_c (lvw_n (lvw_n (lvw_n lvw_nil))))))))))) (ih125 _ _ ⟨⟨fun j hj => by rw [u2c _ _ hj]; exact hO3.1 j hj, by rw [tB_min, if_neg (bI_z.mp c212), if_pos h2e]; exact Rm_up hO3.2.1 he3 ((nI_ltI (by omega) (Nat.lt_of_le_of_lt hTe (by decide))).mp c249), fun _ => hsp⟩, by simp only [nI_succ]⟩)
                                · refine g_iload_8 hX dX6_fewestBumps_200 ?_
                                  refine g_ineg hX dX6_fewestBumps_202 ?_
                                  refine g_goto hX 208 dX6_fewestBumps_203 (by decide) ?_
                                  refine g_top (nI (eI ((h : Int) - 8 + (stp (mv b) l i)) k).natAbs) (by first | exact (absN hei).1 c197 | exact (absN hei).2 c197) ?_
                                  refine g_istore_10 hX dX6_fewestBumps_208 rfl ?_
                                  refine g_iload_9 hX dX6_fewestBumps_210 ?_
                                  refine g_if_ne hX 272 dX6_fewestBumps_212 (by decide) (fun c212 => ?_) (fun c212 => ?_)
                                  · refine g_iinc_7 hX 1 dX6_fewestBumps_272 (by decide) rfl ?_
                                    refine g_goto hX 125 dX6_fewestBumps_275 (by decide) ?_
                                    exact g_weak (lvw_c (lvw_c (lvw_c (lvw_c (lvw_c (lvw_c (lvw_c (lvw_c (lvw_n (lvw_n (lvw_n lvw_nil))))))))))) (ih125 _ _ ⟨⟨hO3.1, by rw [tB_min, if_pos (bI_nz.mp c212)]; exact hO3.2.1, fun _ => hsp⟩, by simp only [nI_succ]⟩)
                                  · refine g_iconst hX 2 dX6_fewestBumps_215 (by decide) ?_
                                    refine g_iload_10 hX dX6_fewestBumps_216 ?_
                                    refine g_imul hX dX6_fewestBumps_218 ?_
                                    refine g_top (nI (2 * (eI ((h : Int) - 8 + (stp (mv b) l i)) k).natAbs)) (pk_mul 2 _) ?_
                                    refine g_aload_0 hX dX6_fewestBumps_219 ?_
                                    refine gt_X6_now hX dX6_fewestBumps_220 ?_
                                    refine g_bipush hX 7 dX6_fewestBumps_223 (by decide) ?_
                                    refine g_ialdN (k := 7) hX (ar_71 Z) (by decide) (by decide) dX6_fewestBumps_225 ?_
                                    refine g_top (nI (phN (mv b))) f71 ?_
                                    refine g_icmp_gt hX 272 dX6_fewestBumps_226 (by decide) (fun c226 => ?_) (fun c226 => ?_)
                                    · refine g_iinc_7 hX 1 dX6_fewestBumps_272 (by decide) rfl ?_
                                      refine g_goto hX 125 dX6_fewestBumps_275 (by decide) ?_
                                      exact g_weak (lvw_c (lvw_c (lvw_c (lvw_c (lvw_c (lvw_c (lvw_c (lvw_c (lvw_n (lvw_n (lvw_n lvw_nil))))))))))) (ih125 _ _ ⟨⟨hO3.1, by rw [tB_min, if_neg (bI_z.mp c212), if_neg (fun z => nI_nlt z (by omega) c226)]; exact hO3.2.1, fun _ => hsp⟩, by simp only [nI_succ]⟩)
                                    · have h2e : 2 * (eI ((h : Int) - 8 + (stp (mv b) l i)) k).natAbs ≤ phN (mv b) := by
                                        rcases Nat.lt_or_ge (phN (mv b)) (2 * (eI ((h : Int) - 8 + (stp (mv b) l i)) k).natAbs) with q | q
                                        · exact absurd (nI_lt q (by omega)) c226
                                        · exact q
                                      have he3 : (eI ((h : Int) - 8 + (stp (mv b) l i)) k).natAbs ≤ 3 := by omega
                                      refine g_aload_0 hX dX6_fewestBumps_229 ?_
                                      refine gt_X6_fewest hX dX6_fewestBumps_230 ?_
                                      refine g_iload_5 hX dX6_fewestBumps_233 ?_
                                      refine g_ialdN (k := h) hX (ar_77 Z) (by omega) (by decide) dX6_fewestBumps_235 ?_
                                      refine g_top (nI ((tF (mv b) l i) ((h : Int) - 8))) f77 ?_
                                      refine g_iload_7 hX dX6_fewestBumps_236 ?_
                                      refine g_iadd hX dX6_fewestBumps_238 ?_
                                      refine g_top (nI (((tF (mv b) l i) ((h : Int) - 8)) + k)) (by rw [nI_add]) ?_
                                      refine g_aload_0 hX dX6_fewestBumps_239 ?_
                                      refine gt_X6_then hX dX6_fewestBumps_240 ?_
                                      refine g_iload_8 hX dX6_fewestBumps_243 ?_
                                      refine g_bipush hX 8 dX6_fewestBumps_245 (by decide) ?_
                                      refine g_iadd hX dX6_fewestBumps_247 ?_
                                      refine g_top (nI ((eI ((h : Int) - 8 + (stp (mv b) l i)) k) + 8).toNat) (by rw [show (8 : Int32) = zI 8 from rfl, zI_add, zI_nat (by omega)]) ?_
                                      refine g_ialdN (k := ((eI ((h : Int) - 8 + (stp (mv b) l i)) k) + 8).toNat) hX (ar_78 Z) (by omega) (by decide) dX6_fewestBumps_248 ?_
                                      refine g_top (nI ((tB (tX (tF (mv b) l i) (stp (mv b) l i) (roN (mv b) l i) (phN (mv b)) h) ((h : Int) - 8 + (stp (mv b) l i)) ((tF (mv b) l i) ((h : Int) - 8)) (phN (mv b)) (min k (((h : Int) - 8 + (stp (mv b) l i)).natAbs + 1))) (eI ((h : Int) - 8 + (stp (mv b) l i)) k))) (by rw [hO3.2.1 _ (by omega), show (((eI ((h : Int) - 8 + (stp (mv b) l i)) k) + 8).toNat : Int) - 8 = (eI ((h : Int) - 8 + (stp (mv b) l i)) k) by omega]) ?_
                                      refine g_icmp_ge hX 272 dX6_fewestBumps_249 (by decide) (fun c249 => ?_) (fun c249 => ?_)
                                      · refine g_iinc_7 hX 1 dX6_fewestBumps_272 (by decide) rfl ?_
                                        refine g_goto hX 125 dX6_fewestBumps_275 (by decide) ?_
                                        exact g_weak (lvw_c (lvw_c (lvw_c (lvw_c (lvw_c (lvw_c (lvw_c (lvw_c (lvw_n (lvw_n (lvw_n lvw_nil))))))))))) (ih125 _ _ ⟨⟨hO3.1, by rw [tB_min, if_neg (bI_z.mp c212), if_pos h2e]; exact Rm_st hO3.2.1 (fun z => c249 (nI_lt z (Nat.lt_of_le_of_lt hTe (by decide)))), fun _ => hsp⟩, by simp only [nI_succ]⟩)
                                      · refine g_aload_0 hX dX6_fewestBumps_252 ?_
                                        refine gt_X6_then hX dX6_fewestBumps_253 ?_
                                        refine g_iload_8 hX dX6_fewestBumps_256 ?_
                                        refine g_bipush hX 8 dX6_fewestBumps_258 (by decide) ?_
                                        refine g_iadd hX dX6_fewestBumps_260 ?_
                                        refine g_top (nI ((eI ((h : Int) - 8 + (stp (mv b) l i)) k) + 8).toNat) (by rw [show (8 : Int32) = zI 8 from rfl, zI_add, zI_nat (by omega)]) ?_
                                        refine g_aload_0 hX dX6_fewestBumps_261 ?_
                                        refine gt_X6_fewest hX dX6_fewestBumps_262 ?_
                                        refine g_iload_5 hX dX6_fewestBumps_265 ?_
                                        refine g_ialdN (k := h) hX (ar_77 Z) (by omega) (by decide) dX6_fewestBumps_267 ?_
                                        refine g_top (nI ((tF (mv b) l i) ((h : Int) - 8))) f77 ?_
                                        refine g_iload_7 hX dX6_fewestBumps_268 ?_
                                        refine g_iadd hX dX6_fewestBumps_270 ?_
                                        refine g_top (nI (((tF (mv b) l i) ((h : Int) - 8)) + k)) (by rw [nI_add]) ?_
                                        refine g_iastN (k := ((eI ((h : Int) - 8 + (stp (mv b) l i)) k) + 8).toNat) hX (ar_78 Z) (by omega) (by decide) dX6_fewestBumps_271 ?_
                                        refine g_iinc_7 hX 1 dX6_fewestBumps_272 (by decide) rfl ?_
                                        refine g_goto hX 125 dX6_fewestBumps_275 (by decide) ?_
                                        exact g_weak (lvw_c (lvw_c (lvw_c (lvw_c (lvw_c (lvw_c (lvw_c (lvw_c (lvw_n (lvw_n (lvw_n lvw_nil))))))))))) (ih125 _ _ ⟨⟨fun j hj => by rw [u2c _ _ hj]; exact hO3.1 j hj, by rw [tB_min, if_neg (bI_z.mp c212), if_pos h2e]; exact Rm_up hO3.2.1 he3 ((nI_ltI (by omega) (Nat.lt_of_le_of_lt hTe (by decide))).mp c249), fun _ => hsp⟩, by simp only [nI_succ]⟩)
                            · refine g_iload_8 hX dX6_fewestBumps_170 ?_
                              refine g_if_ge hX 179 dX6_fewestBumps_172 (by decide) (fun c172 => ?_) (fun c172 => ?_)
                              · refine g_iconst hX 0 dX6_fewestBumps_179 (by decide) ?_
                                refine g_goto hX 193 dX6_fewestBumps_180 (by decide) ?_
                                refine g_top (bI (((h : Int) - 8 + (stp (mv b) l i)).natAbs < k)) (by first | (rw [bI_t (by have := hpos.mp c167; have h9 : (eI ((h : Int) - 8 + (stp (mv b) l i)) k) < 0 := (zI_lt (b := 0) (by omega) (by omega)).mp c172; unfold eI at h9; rw [if_pos this] at h9; omega)]; done) | (rw [bI_f (by have := hpos.mp c167; have h9 : ¬ (eI ((h : Int) - 8 + (stp (mv b) l i)) k) < 0 := fun z => c172 ((zI_lt (b := 0) (by omega) (by omega)).mpr z); unfold eI at h9; rw [if_pos this] at h9; omega)]; done) | (rw [bI_t (by have : ¬ 0 < ((h : Int) - 8 + (stp (mv b) l i)) := fun z => c167 (hpos.mpr z); have h9 : 0 < (eI ((h : Int) - 8 + (stp (mv b) l i)) k) := (zI_lt (a := 0) (by omega) (by omega)).mp c185; unfold eI at h9; rw [if_neg this] at h9; omega)]; done) | (rw [bI_f (by have : ¬ 0 < ((h : Int) - 8 + (stp (mv b) l i)) := fun z => c167 (hpos.mpr z); have h9 : ¬ 0 < (eI ((h : Int) - 8 + (stp (mv b) l i)) k) := fun z => c185 ((zI_lt (a := 0) (by omega) (by omega)).mpr z); unfold eI at h9; rw [if_neg this] at h9; omega)]; done)) ?_
                                refine g_istore_9 hX dX6_fewestBumps_193 rfl ?_
                                refine g_iload_8 hX dX6_fewestBumps_195 ?_
                                refine g_if_ge hX 206 dX6_fewestBumps_197 (by decide) (fun c197 => ?_) (fun c197 => ?_)
                                · refine g_iload_8 hX dX6_fewestBumps_206 ?_
                                  refine g_top (nI (eI ((h : Int) - 8 + (stp (mv b) l i)) k).natAbs) (by first | exact (absN hei).1 c197 | exact (absN hei).2 c197) ?_
                                  refine g_istore_10 hX dX6_fewestBumps_208 rfl ?_
                                  refine g_iload_9 hX dX6_fewestBumps_210 ?_
                                  refine g_if_ne hX 272 dX6_fewestBumps_212 (by decide) (fun c212 => ?_) (fun c212 => ?_)
                                  · refine g_iinc_7 hX 1 dX6_fewestBumps_272 (by decide) rfl ?_
                                    refine g_goto hX 125 dX6_fewestBumps_275 (by decide) ?_
                                    exact g_weak (lvw_c (lvw_c (lvw_c (lvw_c (lvw_c (lvw_c (lvw_c (lvw_c (lvw_n (lvw_n (lvw_n lvw_nil))))))))))) (ih125 _ _ ⟨⟨hO3.1, by rw [tB_min, if_pos (bI_nz.mp c212)]; exact hO3.2.1, fun _ => hsp⟩, by simp only [nI_succ]⟩)
                                  · refine g_iconst hX 2 dX6_fewestBumps_215 (by decide) ?_
                                    refine g_iload_10 hX dX6_fewestBumps_216 ?_
                                    refine g_imul hX dX6_fewestBumps_218 ?_
                                    refine g_top (nI (2 * (eI ((h : Int) - 8 + (stp (mv b) l i)) k).natAbs)) (pk_mul 2 _) ?_
                                    refine g_aload_0 hX dX6_fewestBumps_219 ?_
                                    refine gt_X6_now hX dX6_fewestBumps_220 ?_
                                    refine g_bipush hX 7 dX6_fewestBumps_223 (by decide) ?_
                                    refine g_ialdN (k := 7) hX (ar_71 Z) (by decide) (by decide) dX6_fewestBumps_225 ?_
                                    refine g_top (nI (phN (mv b))) f71 ?_
                                    refine g_icmp_gt hX 272 dX6_fewestBumps_226 (by decide) (fun c226 => ?_) (fun c226 => ?_)
                                    · refine g_iinc_7 hX 1 dX6_fewestBumps_272 (by decide) rfl ?_
                                      refine g_goto hX 125 dX6_fewestBumps_275 (by decide) ?_
                                      exact g_weak (lvw_c (lvw_c (lvw_c (lvw_c (lvw_c (lvw_c (lvw_c (lvw_c (lvw_n (lvw_n (lvw_n lvw_nil))))))))))) (ih125 _ _ ⟨⟨hO3.1, by rw [tB_min, if_neg (bI_z.mp c212), if_neg (fun z => nI_nlt z (by omega) c226)]; exact hO3.2.1, fun _ => hsp⟩, by simp only [nI_succ]⟩)
                                    · have h2e : 2 * (eI ((h : Int) - 8 + (stp (mv b) l i)) k).natAbs ≤ phN (mv b) := by
                                        rcases Nat.lt_or_ge (phN (mv b)) (2 * (eI ((h : Int) - 8 + (stp (mv b) l i)) k).natAbs) with q | q
                                        · exact absurd (nI_lt q (by omega)) c226
                                        · exact q
                                      have he3 : (eI ((h : Int) - 8 + (stp (mv b) l i)) k).natAbs ≤ 3 := by omega
                                      refine g_aload_0 hX dX6_fewestBumps_229 ?_
                                      refine gt_X6_fewest hX dX6_fewestBumps_230 ?_
                                      refine g_iload_5 hX dX6_fewestBumps_233 ?_
                                      refine g_ialdN (k := h) hX (ar_77 Z) (by omega) (by decide) dX6_fewestBumps_235 ?_
                                      refine g_top (nI ((tF (mv b) l i) ((h : Int) - 8))) f77 ?_
                                      refine g_iload_7 hX dX6_fewestBumps_236 ?_
                                      refine g_iadd hX dX6_fewestBumps_238 ?_
                                      refine g_top (nI (((tF (mv b) l i) ((h : Int) - 8)) + k)) (by rw [nI_add]) ?_
                                      refine g_aload_0 hX dX6_fewestBumps_239 ?_
                                      refine gt_X6_then hX dX6_fewestBumps_240 ?_
                                      refine g_iload_8 hX dX6_fewestBumps_243 ?_
                                      refine g_bipush hX 8 dX6_fewestBumps_245 (by decide) ?_
                                      refine g_iadd hX dX6_fewestBumps_247 ?_
                                      refine g_top (nI ((eI ((h : Int) - 8 + (stp (mv b) l i)) k) + 8).toNat) (by rw [show (8 : Int32) = zI 8 from rfl, zI_add, zI_nat (by omega)]) ?_
                                      refine g_ialdN (k := ((eI ((h : Int) - 8 + (stp (mv b) l i)) k) + 8).toNat) hX (ar_78 Z) (by omega) (by decide) dX6_fewestBumps_248 ?_
                                      refine g_top (nI ((tB (tX (tF (mv b) l i) (stp (mv b) l i) (roN (mv b) l i) (phN (mv b)) h) ((h : Int) - 8 + (stp (mv b) l i)) ((tF (mv b) l i) ((h : Int) - 8)) (phN (mv b)) (min k (((h : Int) - 8 + (stp (mv b) l i)).natAbs + 1))) (eI ((h : Int) - 8 + (stp (mv b) l i)) k))) (by rw [hO3.2.1 _ (by omega), show (((eI ((h : Int) - 8 + (stp (mv b) l i)) k) + 8).toNat : Int) - 8 = (eI ((h : Int) - 8 + (stp (mv b) l i)) k) by omega]) ?_
                                      refine g_icmp_ge hX 272 dX6_fewestBumps_249 (by decide) (fun c249 => ?_) (fun c249 => ?_)
                                      · refine g_iinc_7 hX 1 dX6_fewestBumps_272 (by decide) rfl ?_
                                        refine g_goto hX 125 dX6_fewestBumps_275 (by decide) ?_
                                        exact g_weak (lvw_c (lvw_c (lvw_c (lvw_c (lvw_c (lvw_c (lvw_c (lvw_c (lvw_n (lvw_n (lvw_n lvw_nil))))))))))) (ih125 _ _ ⟨⟨hO3.1, by rw [tB_min, if_neg (bI_z.mp c212), if_pos h2e]; exact Rm_st hO3.2.1 (fun z => c249 (nI_lt z (Nat.lt_of_le_of_lt hTe (by decide)))), fun _ => hsp⟩, by simp only [nI_succ]⟩)
                                      · refine g_aload_0 hX dX6_fewestBumps_252 ?_
                                        refine gt_X6_then hX dX6_fewestBumps_253 ?_
                                        refine g_iload_8 hX dX6_fewestBumps_256 ?_
                                        refine g_bipush hX 8 dX6_fewestBumps_258 (by decide) ?_
                                        refine g_iadd hX dX6_fewestBumps_260 ?_
                                        refine g_top (nI ((eI ((h : Int) - 8 + (stp (mv b) l i)) k) + 8).toNat) (by rw [show (8 : Int32) = zI 8 from rfl, zI_add, zI_nat (by omega)]) ?_
                                        refine g_aload_0 hX dX6_fewestBumps_261 ?_
                                        refine gt_X6_fewest hX dX6_fewestBumps_262 ?_
                                        refine g_iload_5 hX dX6_fewestBumps_265 ?_
                                        refine g_ialdN (k := h) hX (ar_77 Z) (by omega) (by decide) dX6_fewestBumps_267 ?_
                                        refine g_top (nI ((tF (mv b) l i) ((h : Int) - 8))) f77 ?_
                                        refine g_iload_7 hX dX6_fewestBumps_268 ?_
                                        refine g_iadd hX dX6_fewestBumps_270 ?_
                                        refine g_top (nI (((tF (mv b) l i) ((h : Int) - 8)) + k)) (by rw [nI_add]) ?_
                                        refine g_iastN (k := ((eI ((h : Int) - 8 + (stp (mv b) l i)) k) + 8).toNat) hX (ar_78 Z) (by omega) (by decide) dX6_fewestBumps_271 ?_
                                        refine g_iinc_7 hX 1 dX6_fewestBumps_272 (by decide) rfl ?_
                                        refine g_goto hX 125 dX6_fewestBumps_275 (by decide) ?_
                                        exact g_weak (lvw_c (lvw_c (lvw_c (lvw_c (lvw_c (lvw_c (lvw_c (lvw_c (lvw_n (lvw_n (lvw_n lvw_nil))))))))))) (ih125 _ _ ⟨⟨fun j hj => by rw [u2c _ _ hj]; exact hO3.1 j hj, by rw [tB_min, if_neg (bI_z.mp c212), if_pos h2e]; exact Rm_up hO3.2.1 he3 ((nI_ltI (by omega) (Nat.lt_of_le_of_lt hTe (by decide))).mp c249), fun _ => hsp⟩, by simp only [nI_succ]⟩)
                                · refine g_iload_8 hX dX6_fewestBumps_200 ?_
                                  refine g_ineg hX dX6_fewestBumps_202 ?_
                                  refine g_goto hX 208 dX6_fewestBumps_203 (by decide) ?_
                                  refine g_top (nI (eI ((h : Int) - 8 + (stp (mv b) l i)) k).natAbs) (by first | exact (absN hei).1 c197 | exact (absN hei).2 c197) ?_
                                  refine g_istore_10 hX dX6_fewestBumps_208 rfl ?_
                                  refine g_iload_9 hX dX6_fewestBumps_210 ?_
                                  refine g_if_ne hX 272 dX6_fewestBumps_212 (by decide) (fun c212 => ?_) (fun c212 => ?_)
                                  · refine g_iinc_7 hX 1 dX6_fewestBumps_272 (by decide) rfl ?_
                                    refine g_goto hX 125 dX6_fewestBumps_275 (by decide) ?_
                                    exact g_weak (lvw_c (lvw_c (lvw_c (lvw_c (lvw_c (lvw_c (lvw_c (lvw_c (lvw_n (lvw_n (lvw_n lvw_nil))))))))))) (ih125 _ _ ⟨⟨hO3.1, by rw [tB_min, if_pos (bI_nz.mp c212)]; exact hO3.2.1, fun _ => hsp⟩, by simp only [nI_succ]⟩)
                                  · refine g_iconst hX 2 dX6_fewestBumps_215 (by decide) ?_
                                    refine g_iload_10 hX dX6_fewestBumps_216 ?_
                                    refine g_imul hX dX6_fewestBumps_218 ?_
                                    refine g_top (nI (2 * (eI ((h : Int) - 8 + (stp (mv b) l i)) k).natAbs)) (pk_mul 2 _) ?_
                                    refine g_aload_0 hX dX6_fewestBumps_219 ?_
                                    refine gt_X6_now hX dX6_fewestBumps_220 ?_
                                    refine g_bipush hX 7 dX6_fewestBumps_223 (by decide) ?_
                                    refine g_ialdN (k := 7) hX (ar_71 Z) (by decide) (by decide) dX6_fewestBumps_225 ?_
                                    refine g_top (nI (phN (mv b))) f71 ?_
                                    refine g_icmp_gt hX 272 dX6_fewestBumps_226 (by decide) (fun c226 => ?_) (fun c226 => ?_)
                                    · refine g_iinc_7 hX 1 dX6_fewestBumps_272 (by decide) rfl ?_
                                      refine g_goto hX 125 dX6_fewestBumps_275 (by decide) ?_
                                      exact g_weak (lvw_c (lvw_c (lvw_c (lvw_c (lvw_c (lvw_c (lvw_c (lvw_c (lvw_n (lvw_n (lvw_n lvw_nil))))))))))) (ih125 _ _ ⟨⟨hO3.1, by rw [tB_min, if_neg (bI_z.mp c212), if_neg (fun z => nI_nlt z (by omega) c226)]; exact hO3.2.1, fun _ => hsp⟩, by simp only [nI_succ]⟩)
                                    · have h2e : 2 * (eI ((h : Int) - 8 + (stp (mv b) l i)) k).natAbs ≤ phN (mv b) := by
                                        rcases Nat.lt_or_ge (phN (mv b)) (2 * (eI ((h : Int) - 8 + (stp (mv b) l i)) k).natAbs) with q | q
                                        · exact absurd (nI_lt q (by omega)) c226
                                        · exact q
                                      have he3 : (eI ((h : Int) - 8 + (stp (mv b) l i)) k).natAbs ≤ 3 := by omega
                                      refine g_aload_0 hX dX6_fewestBumps_229 ?_
                                      refine gt_X6_fewest hX dX6_fewestBumps_230 ?_
                                      refine g_iload_5 hX dX6_fewestBumps_233 ?_
                                      refine g_ialdN (k := h) hX (ar_77 Z) (by omega) (by decide) dX6_fewestBumps_235 ?_
                                      refine g_top (nI ((tF (mv b) l i) ((h : Int) - 8))) f77 ?_
                                      refine g_iload_7 hX dX6_fewestBumps_236 ?_
                                      refine g_iadd hX dX6_fewestBumps_238 ?_
                                      refine g_top (nI (((tF (mv b) l i) ((h : Int) - 8)) + k)) (by rw [nI_add]) ?_
                                      refine g_aload_0 hX dX6_fewestBumps_239 ?_
                                      refine gt_X6_then hX dX6_fewestBumps_240 ?_
                                      refine g_iload_8 hX dX6_fewestBumps_243 ?_
                                      refine g_bipush hX 8 dX6_fewestBumps_245 (by decide) ?_
                                      refine g_iadd hX dX6_fewestBumps_247 ?_
                                      refine g_top (nI ((eI ((h : Int) - 8 + (stp (mv b) l i)) k) + 8).toNat) (by rw [show (8 : Int32) = zI 8 from rfl, zI_add, zI_nat (by omega)]) ?_
                                      refine g_ialdN (k := ((eI ((h : Int) - 8 + (stp (mv b) l i)) k) + 8).toNat) hX (ar_78 Z) (by omega) (by decide) dX6_fewestBumps_248 ?_
                                      refine g_top (nI ((tB (tX (tF (mv b) l i) (stp (mv b) l i) (roN (mv b) l i) (phN (mv b)) h) ((h : Int) - 8 + (stp (mv b) l i)) ((tF (mv b) l i) ((h : Int) - 8)) (phN (mv b)) (min k (((h : Int) - 8 + (stp (mv b) l i)).natAbs + 1))) (eI ((h : Int) - 8 + (stp (mv b) l i)) k))) (by rw [hO3.2.1 _ (by omega), show (((eI ((h : Int) - 8 + (stp (mv b) l i)) k) + 8).toNat : Int) - 8 = (eI ((h : Int) - 8 + (stp (mv b) l i)) k) by omega]) ?_
                                      refine g_icmp_ge hX 272 dX6_fewestBumps_249 (by decide) (fun c249 => ?_) (fun c249 => ?_)
                                      · refine g_iinc_7 hX 1 dX6_fewestBumps_272 (by decide) rfl ?_
                                        refine g_goto hX 125 dX6_fewestBumps_275 (by decide) ?_
                                        exact g_weak (lvw_c (lvw_c (lvw_c (lvw_c (lvw_c (lvw_c (lvw_c (lvw_c (lvw_n (lvw_n (lvw_n lvw_nil))))))))))) (ih125 _ _ ⟨⟨hO3.1, by rw [tB_min, if_neg (bI_z.mp c212), if_pos h2e]; exact Rm_st hO3.2.1 (fun z => c249 (nI_lt z (Nat.lt_of_le_of_lt hTe (by decide)))), fun _ => hsp⟩, by simp only [nI_succ]⟩)
                                      · refine g_aload_0 hX dX6_fewestBumps_252 ?_
                                        refine gt_X6_then hX dX6_fewestBumps_253 ?_
                                        refine g_iload_8 hX dX6_fewestBumps_256 ?_
                                        refine g_bipush hX 8 dX6_fewestBumps_258 (by decide) ?_
                                        refine g_iadd hX dX6_fewestBumps_260 ?_
                                        refine g_top (nI ((eI ((h : Int) - 8 + (stp (mv b) l i)) k) + 8).toNat) (by rw [show (8 : Int32) = zI 8 from rfl, zI_add, zI_nat (by omega)]) ?_
                                        refine g_aload_0 hX dX6_fewestBumps_261 ?_
                                        refine gt_X6_fewest hX dX6_fewestBumps_262 ?_
                                        refine g_iload_5 hX dX6_fewestBumps_265 ?_
                                        refine g_ialdN (k := h) hX (ar_77 Z) (by omega) (by decide) dX6_fewestBumps_267 ?_
                                        refine g_top (nI ((tF (mv b) l i) ((h : Int) - 8))) f77 ?_
                                        refine g_iload_7 hX dX6_fewestBumps_268 ?_
                                        refine g_iadd hX dX6_fewestBumps_270 ?_
                                        refine g_top (nI (((tF (mv b) l i) ((h : Int) - 8)) + k)) (by rw [nI_add]) ?_
                                        refine g_iastN (k := ((eI ((h : Int) - 8 + (stp (mv b) l i)) k) + 8).toNat) hX (ar_78 Z) (by omega) (by decide) dX6_fewestBumps_271 ?_
                                        refine g_iinc_7 hX 1 dX6_fewestBumps_272 (by decide) rfl ?_
                                        refine g_goto hX 125 dX6_fewestBumps_275 (by decide) ?_
                                        exact g_weak (lvw_c (lvw_c (lvw_c (lvw_c (lvw_c (lvw_c (lvw_c (lvw_c (lvw_n (lvw_n (lvw_n lvw_nil))))))))))) (ih125 _ _ ⟨⟨fun j hj => by rw [u2c _ _ hj]; exact hO3.1 j hj, by rw [tB_min, if_neg (bI_z.mp c212), if_pos h2e]; exact Rm_up hO3.2.1 he3 ((nI_ltI (by omega) (Nat.lt_of_le_of_lt hTe (by decide))).mp c249), fun _ => hsp⟩, by simp only [nI_succ]⟩)
                              · refine g_iconst hX 1 dX6_fewestBumps_175 (by decide) ?_
                                refine g_goto hX 193 dX6_fewestBumps_176 (by decide) ?_
                                refine g_top (bI (((h : Int) - 8 + (stp (mv b) l i)).natAbs < k)) (by first | (rw [bI_t (by have := hpos.mp c167; have h9 : (eI ((h : Int) - 8 + (stp (mv b) l i)) k) < 0 := (zI_lt (b := 0) (by omega) (by omega)).mp c172; unfold eI at h9; rw [if_pos this] at h9; omega)]; done) | (rw [bI_f (by have := hpos.mp c167; have h9 : ¬ (eI ((h : Int) - 8 + (stp (mv b) l i)) k) < 0 := fun z => c172 ((zI_lt (b := 0) (by omega) (by omega)).mpr z); unfold eI at h9; rw [if_pos this] at h9; omega)]; done) | (rw [bI_t (by have : ¬ 0 < ((h : Int) - 8 + (stp (mv b) l i)) := fun z => c167 (hpos.mpr z); have h9 : 0 < (eI ((h : Int) - 8 + (stp (mv b) l i)) k) := (zI_lt (a := 0) (by omega) (by omega)).mp c185; unfold eI at h9; rw [if_neg this] at h9; omega)]; done) | (rw [bI_f (by have : ¬ 0 < ((h : Int) - 8 + (stp (mv b) l i)) := fun z => c167 (hpos.mpr z); have h9 : ¬ 0 < (eI ((h : Int) - 8 + (stp (mv b) l i)) k) := fun z => c185 ((zI_lt (a := 0) (by omega) (by omega)).mpr z); unfold eI at h9; rw [if_neg this] at h9; omega)]; done)) ?_
                                refine g_istore_9 hX dX6_fewestBumps_193 rfl ?_
                                refine g_iload_8 hX dX6_fewestBumps_195 ?_
                                refine g_if_ge hX 206 dX6_fewestBumps_197 (by decide) (fun c197 => ?_) (fun c197 => ?_)
                                · refine g_iload_8 hX dX6_fewestBumps_206 ?_
                                  refine g_top (nI (eI ((h : Int) - 8 + (stp (mv b) l i)) k).natAbs) (by first | exact (absN hei).1 c197 | exact (absN hei).2 c197) ?_
                                  refine g_istore_10 hX dX6_fewestBumps_208 rfl ?_
                                  refine g_iload_9 hX dX6_fewestBumps_210 ?_
                                  refine g_if_ne hX 272 dX6_fewestBumps_212 (by decide) (fun c212 => ?_) (fun c212 => ?_)
                                  · refine g_iinc_7 hX 1 dX6_fewestBumps_272 (by decide) rfl ?_
                                    refine g_goto hX 125 dX6_fewestBumps_275 (by decide) ?_
                                    exact g_weak (lvw_c (lvw_c (lvw_c (lvw_c (lvw_c (lvw_c (lvw_c (lvw_c (lvw_n (lvw_n (lvw_n lvw_nil))))))))))) (ih125 _ _ ⟨⟨hO3.1, by rw [tB_min, if_pos (bI_nz.mp c212)]; exact hO3.2.1, fun _ => hsp⟩, by simp only [nI_succ]⟩)
                                  · refine g_iconst hX 2 dX6_fewestBumps_215 (by decide) ?_
                                    refine g_iload_10 hX dX6_fewestBumps_216 ?_
                                    refine g_imul hX dX6_fewestBumps_218 ?_
                                    refine g_top (nI (2 * (eI ((h : Int) - 8 + (stp (mv b) l i)) k).natAbs)) (pk_mul 2 _) ?_
                                    refine g_aload_0 hX dX6_fewestBumps_219 ?_
                                    refine gt_X6_now hX dX6_fewestBumps_220 ?_
                                    refine g_bipush hX 7 dX6_fewestBumps_223 (by decide) ?_
                                    refine g_ialdN (k := 7) hX (ar_71 Z) (by decide) (by decide) dX6_fewestBumps_225 ?_
                                    refine g_top (nI (phN (mv b))) f71 ?_
                                    refine g_icmp_gt hX 272 dX6_fewestBumps_226 (by decide) (fun c226 => ?_) (fun c226 => ?_)
                                    · refine g_iinc_7 hX 1 dX6_fewestBumps_272 (by decide) rfl ?_
                                      refine g_goto hX 125 dX6_fewestBumps_275 (by decide) ?_
                                      exact g_weak (lvw_c (lvw_c (lvw_c (lvw_c (lvw_c (lvw_c (lvw_c (lvw_c (lvw_n (lvw_n (lvw_n lvw_nil))))))))))) (ih125 _ _ ⟨⟨hO3.1, by rw [tB_min, if_neg (bI_z.mp c212), if_neg (fun z => nI_nlt z (by omega) c226)]; exact hO3.2.1, fun _ => hsp⟩, by simp only [nI_succ]⟩)
                                    · have h2e : 2 * (eI ((h : Int) - 8 + (stp (mv b) l i)) k).natAbs ≤ phN (mv b) := by
                                        rcases Nat.lt_or_ge (phN (mv b)) (2 * (eI ((h : Int) - 8 + (stp (mv b) l i)) k).natAbs) with q | q
                                        · exact absurd (nI_lt q (by omega)) c226
                                        · exact q
                                      have he3 : (eI ((h : Int) - 8 + (stp (mv b) l i)) k).natAbs ≤ 3 := by omega
                                      refine g_aload_0 hX dX6_fewestBumps_229 ?_
                                      refine gt_X6_fewest hX dX6_fewestBumps_230 ?_
                                      refine g_iload_5 hX dX6_fewestBumps_233 ?_
                                      refine g_ialdN (k := h) hX (ar_77 Z) (by omega) (by decide) dX6_fewestBumps_235 ?_
                                      refine g_top (nI ((tF (mv b) l i) ((h : Int) - 8))) f77 ?_
                                      refine g_iload_7 hX dX6_fewestBumps_236 ?_
                                      refine g_iadd hX dX6_fewestBumps_238 ?_
                                      refine g_top (nI (((tF (mv b) l i) ((h : Int) - 8)) + k)) (by rw [nI_add]) ?_
                                      refine g_aload_0 hX dX6_fewestBumps_239 ?_
                                      refine gt_X6_then hX dX6_fewestBumps_240 ?_
                                      refine g_iload_8 hX dX6_fewestBumps_243 ?_
                                      refine g_bipush hX 8 dX6_fewestBumps_245 (by decide) ?_
                                      refine g_iadd hX dX6_fewestBumps_247 ?_
                                      refine g_top (nI ((eI ((h : Int) - 8 + (stp (mv b) l i)) k) + 8).toNat) (by rw [show (8 : Int32) = zI 8 from rfl, zI_add, zI_nat (by omega)]) ?_
                                      refine g_ialdN (k := ((eI ((h : Int) - 8 + (stp (mv b) l i)) k) + 8).toNat) hX (ar_78 Z) (by omega) (by decide) dX6_fewestBumps_248 ?_
                                      refine g_top (nI ((tB (tX (tF (mv b) l i) (stp (mv b) l i) (roN (mv b) l i) (phN (mv b)) h) ((h : Int) - 8 + (stp (mv b) l i)) ((tF (mv b) l i) ((h : Int) - 8)) (phN (mv b)) (min k (((h : Int) - 8 + (stp (mv b) l i)).natAbs + 1))) (eI ((h : Int) - 8 + (stp (mv b) l i)) k))) (by rw [hO3.2.1 _ (by omega), show (((eI ((h : Int) - 8 + (stp (mv b) l i)) k) + 8).toNat : Int) - 8 = (eI ((h : Int) - 8 + (stp (mv b) l i)) k) by omega]) ?_
                                      refine g_icmp_ge hX 272 dX6_fewestBumps_249 (by decide) (fun c249 => ?_) (fun c249 => ?_)
                                      · refine g_iinc_7 hX 1 dX6_fewestBumps_272 (by decide) rfl ?_
                                        refine g_goto hX 125 dX6_fewestBumps_275 (by decide) ?_
                                        exact g_weak (lvw_c (lvw_c (lvw_c (lvw_c (lvw_c (lvw_c (lvw_c (lvw_c (lvw_n (lvw_n (lvw_n lvw_nil))))))))))) (ih125 _ _ ⟨⟨hO3.1, by rw [tB_min, if_neg (bI_z.mp c212), if_pos h2e]; exact Rm_st hO3.2.1 (fun z => c249 (nI_lt z (Nat.lt_of_le_of_lt hTe (by decide)))), fun _ => hsp⟩, by simp only [nI_succ]⟩)
                                      · refine g_aload_0 hX dX6_fewestBumps_252 ?_
                                        refine gt_X6_then hX dX6_fewestBumps_253 ?_
                                        refine g_iload_8 hX dX6_fewestBumps_256 ?_
                                        refine g_bipush hX 8 dX6_fewestBumps_258 (by decide) ?_
                                        refine g_iadd hX dX6_fewestBumps_260 ?_
                                        refine g_top (nI ((eI ((h : Int) - 8 + (stp (mv b) l i)) k) + 8).toNat) (by rw [show (8 : Int32) = zI 8 from rfl, zI_add, zI_nat (by omega)]) ?_
                                        refine g_aload_0 hX dX6_fewestBumps_261 ?_
                                        refine gt_X6_fewest hX dX6_fewestBumps_262 ?_
                                        refine g_iload_5 hX dX6_fewestBumps_265 ?_
                                        refine g_ialdN (k := h) hX (ar_77 Z) (by omega) (by decide) dX6_fewestBumps_267 ?_
                                        refine g_top (nI ((tF (mv b) l i) ((h : Int) - 8))) f77 ?_
                                        refine g_iload_7 hX dX6_fewestBumps_268 ?_
                                        refine g_iadd hX dX6_fewestBumps_270 ?_
                                        refine g_top (nI (((tF (mv b) l i) ((h : Int) - 8)) + k)) (by rw [nI_add]) ?_
                                        refine g_iastN (k := ((eI ((h : Int) - 8 + (stp (mv b) l i)) k) + 8).toNat) hX (ar_78 Z) (by omega) (by decide) dX6_fewestBumps_271 ?_
                                        refine g_iinc_7 hX 1 dX6_fewestBumps_272 (by decide) rfl ?_
                                        refine g_goto hX 125 dX6_fewestBumps_275 (by decide) ?_
                                        exact g_weak (lvw_c (lvw_c (lvw_c (lvw_c (lvw_c (lvw_c (lvw_c (lvw_c (lvw_n (lvw_n (lvw_n lvw_nil))))))))))) (ih125 _ _ ⟨⟨fun j hj => by rw [u2c _ _ hj]; exact hO3.1 j hj, by rw [tB_min, if_neg (bI_z.mp c212), if_pos h2e]; exact Rm_up hO3.2.1 he3 ((nI_ltI (by omega) (Nat.lt_of_le_of_lt hTe (by decide))).mp c249), fun _ => hsp⟩, by simp only [nI_succ]⟩)
                                · refine g_iload_8 hX dX6_fewestBumps_200 ?_
                                  refine g_ineg hX dX6_fewestBumps_202 ?_
                                  refine g_goto hX 208 dX6_fewestBumps_203 (by decide) ?_
                                  refine g_top (nI (eI ((h : Int) - 8 + (stp (mv b) l i)) k).natAbs) (by first | exact (absN hei).1 c197 | exact (absN hei).2 c197) ?_
                                  refine g_istore_10 hX dX6_fewestBumps_208 rfl ?_
                                  refine g_iload_9 hX dX6_fewestBumps_210 ?_
                                  refine g_if_ne hX 272 dX6_fewestBumps_212 (by decide) (fun c212 => ?_) (fun c212 => ?_)
                                  · refine g_iinc_7 hX 1 dX6_fewestBumps_272 (by decide) rfl ?_
                                    refine g_goto hX 125 dX6_fewestBumps_275 (by decide) ?_
                                    exact g_weak (lvw_c (lvw_c (lvw_c (lvw_c (lvw_c (lvw_c (lvw_c (lvw_c (lvw_n (lvw_n (lvw_n lvw_nil))))))))))) (ih125 _ _ ⟨⟨hO3.1, by rw [tB_min, if_pos (bI_nz.mp c212)]; exact hO3.2.1, fun _ => hsp⟩, by simp only [nI_succ]⟩)
                                  · refine g_iconst hX 2 dX6_fewestBumps_215 (by decide) ?_
                                    refine g_iload_10 hX dX6_fewestBumps_216 ?_
                                    refine g_imul hX dX6_fewestBumps_218 ?_
                                    refine g_top (nI (2 * (eI ((h : Int) - 8 + (stp (mv b) l i)) k).natAbs)) (pk_mul 2 _) ?_
                                    refine g_aload_0 hX dX6_fewestBumps_219 ?_
                                    refine gt_X6_now hX dX6_fewestBumps_220 ?_
                                    refine g_bipush hX 7 dX6_fewestBumps_223 (by decide) ?_
                                    refine g_ialdN (k := 7) hX (ar_71 Z) (by decide) (by decide) dX6_fewestBumps_225 ?_
                                    refine g_top (nI (phN (mv b))) f71 ?_
                                    refine g_icmp_gt hX 272 dX6_fewestBumps_226 (by decide) (fun c226 => ?_) (fun c226 => ?_)
                                    · refine g_iinc_7 hX 1 dX6_fewestBumps_272 (by decide) rfl ?_
                                      refine g_goto hX 125 dX6_fewestBumps_275 (by decide) ?_
                                      exact g_weak (lvw_c (lvw_c (lvw_c (lvw_c (lvw_c (lvw_c (lvw_c (lvw_c (lvw_n (lvw_n (lvw_n lvw_nil))))))))))) (ih125 _ _ ⟨⟨hO3.1, by rw [tB_min, if_neg (bI_z.mp c212), if_neg (fun z => nI_nlt z (by omega) c226)]; exact hO3.2.1, fun _ => hsp⟩, by simp only [nI_succ]⟩)
                                    · have h2e : 2 * (eI ((h : Int) - 8 + (stp (mv b) l i)) k).natAbs ≤ phN (mv b) := by
                                        rcases Nat.lt_or_ge (phN (mv b)) (2 * (eI ((h : Int) - 8 + (stp (mv b) l i)) k).natAbs) with q | q
                                        · exact absurd (nI_lt q (by omega)) c226
                                        · exact q
                                      have he3 : (eI ((h : Int) - 8 + (stp (mv b) l i)) k).natAbs ≤ 3 := by omega
                                      refine g_aload_0 hX dX6_fewestBumps_229 ?_
                                      refine gt_X6_fewest hX dX6_fewestBumps_230 ?_
                                      refine g_iload_5 hX dX6_fewestBumps_233 ?_
                                      refine g_ialdN (k := h) hX (ar_77 Z) (by omega) (by decide) dX6_fewestBumps_235 ?_
                                      refine g_top (nI ((tF (mv b) l i) ((h : Int) - 8))) f77 ?_
                                      refine g_iload_7 hX dX6_fewestBumps_236 ?_
                                      refine g_iadd hX dX6_fewestBumps_238 ?_
                                      refine g_top (nI (((tF (mv b) l i) ((h : Int) - 8)) + k)) (by rw [nI_add]) ?_
                                      refine g_aload_0 hX dX6_fewestBumps_239 ?_
                                      refine gt_X6_then hX dX6_fewestBumps_240 ?_
                                      refine g_iload_8 hX dX6_fewestBumps_243 ?_
                                      refine g_bipush hX 8 dX6_fewestBumps_245 (by decide) ?_
                                      refine g_iadd hX dX6_fewestBumps_247 ?_
                                      refine g_top (nI ((eI ((h : Int) - 8 + (stp (mv b) l i)) k) + 8).toNat) (by rw [show (8 : Int32) = zI 8 from rfl, zI_add, zI_nat (by omega)]) ?_
                                      refine g_ialdN (k := ((eI ((h : Int) - 8 + (stp (mv b) l i)) k) + 8).toNat) hX (ar_78 Z) (by omega) (by decide) dX6_fewestBumps_248 ?_
                                      refine g_top (nI ((tB (tX (tF (mv b) l i) (stp (mv b) l i) (roN (mv b) l i) (phN (mv b)) h) ((h : Int) - 8 + (stp (mv b) l i)) ((tF (mv b) l i) ((h : Int) - 8)) (phN (mv b)) (min k (((h : Int) - 8 + (stp (mv b) l i)).natAbs + 1))) (eI ((h : Int) - 8 + (stp (mv b) l i)) k))) (by rw [hO3.2.1 _ (by omega), show (((eI ((h : Int) - 8 + (stp (mv b) l i)) k) + 8).toNat : Int) - 8 = (eI ((h : Int) - 8 + (stp (mv b) l i)) k) by omega]) ?_
                                      refine g_icmp_ge hX 272 dX6_fewestBumps_249 (by decide) (fun c249 => ?_) (fun c249 => ?_)
                                      · refine g_iinc_7 hX 1 dX6_fewestBumps_272 (by decide) rfl ?_
                                        refine g_goto hX 125 dX6_fewestBumps_275 (by decide) ?_
                                        exact g_weak (lvw_c (lvw_c (lvw_c (lvw_c (lvw_c (lvw_c (lvw_c (lvw_c (lvw_n (lvw_n (lvw_n lvw_nil))))))))))) (ih125 _ _ ⟨⟨hO3.1, by rw [tB_min, if_neg (bI_z.mp c212), if_pos h2e]; exact Rm_st hO3.2.1 (fun z => c249 (nI_lt z (Nat.lt_of_le_of_lt hTe (by decide)))), fun _ => hsp⟩, by simp only [nI_succ]⟩)
                                      · refine g_aload_0 hX dX6_fewestBumps_252 ?_
                                        refine gt_X6_then hX dX6_fewestBumps_253 ?_
                                        refine g_iload_8 hX dX6_fewestBumps_256 ?_
                                        refine g_bipush hX 8 dX6_fewestBumps_258 (by decide) ?_
                                        refine g_iadd hX dX6_fewestBumps_260 ?_
                                        refine g_top (nI ((eI ((h : Int) - 8 + (stp (mv b) l i)) k) + 8).toNat) (by rw [show (8 : Int32) = zI 8 from rfl, zI_add, zI_nat (by omega)]) ?_
                                        refine g_aload_0 hX dX6_fewestBumps_261 ?_
                                        refine gt_X6_fewest hX dX6_fewestBumps_262 ?_
                                        refine g_iload_5 hX dX6_fewestBumps_265 ?_
                                        refine g_ialdN (k := h) hX (ar_77 Z) (by omega) (by decide) dX6_fewestBumps_267 ?_
                                        refine g_top (nI ((tF (mv b) l i) ((h : Int) - 8))) f77 ?_
                                        refine g_iload_7 hX dX6_fewestBumps_268 ?_
                                        refine g_iadd hX dX6_fewestBumps_270 ?_
                                        refine g_top (nI (((tF (mv b) l i) ((h : Int) - 8)) + k)) (by rw [nI_add]) ?_
                                        refine g_iastN (k := ((eI ((h : Int) - 8 + (stp (mv b) l i)) k) + 8).toNat) hX (ar_78 Z) (by omega) (by decide) dX6_fewestBumps_271 ?_
                                        refine g_iinc_7 hX 1 dX6_fewestBumps_272 (by decide) rfl ?_
                                        refine g_goto hX 125 dX6_fewestBumps_275 (by decide) ?_
                                        exact g_weak (lvw_c (lvw_c (lvw_c (lvw_c (lvw_c (lvw_c (lvw_c (lvw_c (lvw_n (lvw_n (lvw_n lvw_nil))))))))))) (ih125 _ _ ⟨⟨fun j hj => by rw [u2c _ _ hj]; exact hO3.1 j hj, by rw [tB_min, if_neg (bI_z.mp c212), if_pos h2e]; exact Rm_up hO3.2.1 he3 ((nI_ltI (by omega) (Nat.lt_of_le_of_lt hTe (by decide))).mp c249), fun _ => hsp⟩, by simp only [nI_succ]⟩)
                          · refine g_iload_6 hX dX6_fewestBumps_150 ?_
                            refine g_iload_7 hX dX6_fewestBumps_152 ?_
                            refine g_isub hX dX6_fewestBumps_154 ?_
                            refine g_goto hX 163 dX6_fewestBumps_155 (by decide) ?_
                            refine g_top (zI (eI ((h : Int) - 8 + (stp (mv b) l i)) k)) (by first | (rw [eI, if_pos (hpos.mp c147), nI_z, zI_sub]; done) | (rw [eI, if_neg (fun q => c147 (hpos.mpr q)), nI_z, zI_add]; done)) ?_
                            refine g_istore_8 hX dX6_fewestBumps_163 rfl ?_
                            refine g_iload_6 hX dX6_fewestBumps_165 ?_
                            refine g_if_le hX 183 dX6_fewestBumps_167 (by decide) (fun c167 => ?_) (fun c167 => ?_)
                            · refine g_iload_8 hX dX6_fewestBumps_183 ?_
                              refine g_if_le hX 192 dX6_fewestBumps_185 (by decide) (fun c185 => ?_) (fun c185 => ?_)
                              · refine g_iconst hX 0 dX6_fewestBumps_192 (by decide) ?_
                                refine g_top (bI (((h : Int) - 8 + (stp (mv b) l i)).natAbs < k)) (by first | (rw [bI_t (by have := hpos.mp c167; have h9 : (eI ((h : Int) - 8 + (stp (mv b) l i)) k) < 0 := (zI_lt (b := 0) (by omega) (by omega)).mp c172; unfold eI at h9; rw [if_pos this] at h9; omega)]; done) | (rw [bI_f (by have := hpos.mp c167; have h9 : ¬ (eI ((h : Int) - 8 + (stp (mv b) l i)) k) < 0 := fun z => c172 ((zI_lt (b := 0) (by omega) (by omega)).mpr z); unfold eI at h9; rw [if_pos this] at h9; omega)]; done) | (rw [bI_t (by have : ¬ 0 < ((h : Int) - 8 + (stp (mv b) l i)) := fun z => c167 (hpos.mpr z); have h9 : 0 < (eI ((h : Int) - 8 + (stp (mv b) l i)) k) := (zI_lt (a := 0) (by omega) (by omega)).mp c185; unfold eI at h9; rw [if_neg this] at h9; omega)]; done) | (rw [bI_f (by have : ¬ 0 < ((h : Int) - 8 + (stp (mv b) l i)) := fun z => c167 (hpos.mpr z); have h9 : ¬ 0 < (eI ((h : Int) - 8 + (stp (mv b) l i)) k) := fun z => c185 ((zI_lt (a := 0) (by omega) (by omega)).mpr z); unfold eI at h9; rw [if_neg this] at h9; omega)]; done)) ?_
                                refine g_istore_9 hX dX6_fewestBumps_193 rfl ?_
                                refine g_iload_8 hX dX6_fewestBumps_195 ?_
                                refine g_if_ge hX 206 dX6_fewestBumps_197 (by decide) (fun c197 => ?_) (fun c197 => ?_)
                                · refine g_iload_8 hX dX6_fewestBumps_206 ?_
                                  refine g_top (nI (eI ((h : Int) - 8 + (stp (mv b) l i)) k).natAbs) (by first | exact (absN hei).1 c197 | exact (absN hei).2 c197) ?_
                                  refine g_istore_10 hX dX6_fewestBumps_208 rfl ?_
                                  refine g_iload_9 hX dX6_fewestBumps_210 ?_
                                  refine g_if_ne hX 272 dX6_fewestBumps_212 (by decide) (fun c212 => ?_) (fun c212 => ?_)
                                  · refine g_iinc_7 hX 1 dX6_fewestBumps_272 (by decide) rfl ?_
                                    refine g_goto hX 125 dX6_fewestBumps_275 (by decide) ?_
                                    exact g_weak (lvw_c (lvw_c (lvw_c (lvw_c (lvw_c (lvw_c (lvw_c (lvw_c (lvw_n (lvw_n (lvw_n lvw_nil))))))))))) (ih125 _ _ ⟨⟨hO3.1, by rw [tB_min, if_pos (bI_nz.mp c212)]; exact hO3.2.1, fun _ => hsp⟩, by simp only [nI_succ]⟩)
                                  · refine g_iconst hX 2 dX6_fewestBumps_215 (by decide) ?_
                                    refine g_iload_10 hX dX6_fewestBumps_216 ?_
                                    refine g_imul hX dX6_fewestBumps_218 ?_
                                    refine g_top (nI (2 * (eI ((h : Int) - 8 + (stp (mv b) l i)) k).natAbs)) (pk_mul 2 _) ?_
                                    refine g_aload_0 hX dX6_fewestBumps_219 ?_
                                    refine gt_X6_now hX dX6_fewestBumps_220 ?_
                                    refine g_bipush hX 7 dX6_fewestBumps_223 (by decide) ?_
                                    refine g_ialdN (k := 7) hX (ar_71 Z) (by decide) (by decide) dX6_fewestBumps_225 ?_
                                    refine g_top (nI (phN (mv b))) f71 ?_
                                    refine g_icmp_gt hX 272 dX6_fewestBumps_226 (by decide) (fun c226 => ?_) (fun c226 => ?_)
                                    · refine g_iinc_7 hX 1 dX6_fewestBumps_272 (by decide) rfl ?_
                                      refine g_goto hX 125 dX6_fewestBumps_275 (by decide) ?_
                                      exact g_weak (lvw_c (lvw_c (lvw_c (lvw_c (lvw_c (lvw_c (lvw_c (lvw_c (lvw_n (lvw_n (lvw_n lvw_nil))))))))))) (ih125 _ _ ⟨⟨hO3.1, by rw [tB_min, if_neg (bI_z.mp c212), if_neg (fun z => nI_nlt z (by omega) c226)]; exact hO3.2.1, fun _ => hsp⟩, by simp only [nI_succ]⟩)
                                    · have h2e : 2 * (eI ((h : Int) - 8 + (stp (mv b) l i)) k).natAbs ≤ phN (mv b) := by
                                        rcases Nat.lt_or_ge (phN (mv b)) (2 * (eI ((h : Int) - 8 + (stp (mv b) l i)) k).natAbs) with q | q
                                        · exact absurd (nI_lt q (by omega)) c226
                                        · exact q
                                      have he3 : (eI ((h : Int) - 8 + (stp (mv b) l i)) k).natAbs ≤ 3 := by omega
                                      refine g_aload_0 hX dX6_fewestBumps_229 ?_
                                      refine gt_X6_fewest hX dX6_fewestBumps_230 ?_
                                      refine g_iload_5 hX dX6_fewestBumps_233 ?_
                                      refine g_ialdN (k := h) hX (ar_77 Z) (by omega) (by decide) dX6_fewestBumps_235 ?_
                                      refine g_top (nI ((tF (mv b) l i) ((h : Int) - 8))) f77 ?_
                                      refine g_iload_7 hX dX6_fewestBumps_236 ?_
                                      refine g_iadd hX dX6_fewestBumps_238 ?_
                                      refine g_top (nI (((tF (mv b) l i) ((h : Int) - 8)) + k)) (by rw [nI_add]) ?_
                                      refine g_aload_0 hX dX6_fewestBumps_239 ?_
                                      refine gt_X6_then hX dX6_fewestBumps_240 ?_
                                      refine g_iload_8 hX dX6_fewestBumps_243 ?_
                                      refine g_bipush hX 8 dX6_fewestBumps_245 (by decide) ?_
                                      refine g_iadd hX dX6_fewestBumps_247 ?_
                                      refine g_top (nI ((eI ((h : Int) - 8 + (stp (mv b) l i)) k) + 8).toNat) (by rw [show (8 : Int32) = zI 8 from rfl, zI_add, zI_nat (by omega)]) ?_
                                      refine g_ialdN (k := ((eI ((h : Int) - 8 + (stp (mv b) l i)) k) + 8).toNat) hX (ar_78 Z) (by omega) (by decide) dX6_fewestBumps_248 ?_
                                      refine g_top (nI ((tB (tX (tF (mv b) l i) (stp (mv b) l i) (roN (mv b) l i) (phN (mv b)) h) ((h : Int) - 8 + (stp (mv b) l i)) ((tF (mv b) l i) ((h : Int) - 8)) (phN (mv b)) (min k (((h : Int) - 8 + (stp (mv b) l i)).natAbs + 1))) (eI ((h : Int) - 8 + (stp (mv b) l i)) k))) (by rw [hO3.2.1 _ (by omega), show (((eI ((h : Int) - 8 + (stp (mv b) l i)) k) + 8).toNat : Int) - 8 = (eI ((h : Int) - 8 + (stp (mv b) l i)) k) by omega]) ?_
                                      refine g_icmp_ge hX 272 dX6_fewestBumps_249 (by decide) (fun c249 => ?_) (fun c249 => ?_)
                                      · refine g_iinc_7 hX 1 dX6_fewestBumps_272 (by decide) rfl ?_
                                        refine g_goto hX 125 dX6_fewestBumps_275 (by decide) ?_
                                        exact g_weak (lvw_c (lvw_c (lvw_c (lvw_c (lvw_c (lvw_c (lvw_c (lvw_c (lvw_n (lvw_n (lvw_n lvw_nil))))))))))) (ih125 _ _ ⟨⟨hO3.1, by rw [tB_min, if_neg (bI_z.mp c212), if_pos h2e]; exact Rm_st hO3.2.1 (fun z => c249 (nI_lt z (Nat.lt_of_le_of_lt hTe (by decide)))), fun _ => hsp⟩, by simp only [nI_succ]⟩)
                                      · refine g_aload_0 hX dX6_fewestBumps_252 ?_
                                        refine gt_X6_then hX dX6_fewestBumps_253 ?_
                                        refine g_iload_8 hX dX6_fewestBumps_256 ?_
                                        refine g_bipush hX 8 dX6_fewestBumps_258 (by decide) ?_
                                        refine g_iadd hX dX6_fewestBumps_260 ?_
                                        refine g_top (nI ((eI ((h : Int) - 8 + (stp (mv b) l i)) k) + 8).toNat) (by rw [show (8 : Int32) = zI 8 from rfl, zI_add, zI_nat (by omega)]) ?_
                                        refine g_aload_0 hX dX6_fewestBumps_261 ?_
                                        refine gt_X6_fewest hX dX6_fewestBumps_262 ?_
                                        refine g_iload_5 hX dX6_fewestBumps_265 ?_
                                        refine g_ialdN (k := h) hX (ar_77 Z) (by omega) (by decide) dX6_fewestBumps_267 ?_
                                        refine g_top (nI ((tF (mv b) l i) ((h : Int) - 8))) f77 ?_
                                        refine g_iload_7 hX dX6_fewestBumps_268 ?_
                                        refine g_iadd hX dX6_fewestBumps_270 ?_
                                        refine g_top (nI (((tF (mv b) l i) ((h : Int) - 8)) + k)) (by rw [nI_add]) ?_
                                        refine g_iastN (k := ((eI ((h : Int) - 8 + (stp (mv b) l i)) k) + 8).toNat) hX (ar_78 Z) (by omega) (by decide) dX6_fewestBumps_271 ?_
                                        refine g_iinc_7 hX 1 dX6_fewestBumps_272 (by decide) rfl ?_
                                        refine g_goto hX 125 dX6_fewestBumps_275 (by decide) ?_
                                        exact g_weak (lvw_c (lvw_c (lvw_c (lvw_c (lvw_c (lvw_c (lvw_c (lvw_c (lvw_n (lvw_n (lvw_n lvw_nil))))))))))) (ih125 _ _ ⟨⟨fun j hj => by rw [u2c _ _ hj]; exact hO3.1 j hj, by rw [tB_min, if_neg (bI_z.mp c212), if_pos h2e]; exact Rm_up hO3.2.1 he3 ((nI_ltI (by omega) (Nat.lt_of_le_of_lt hTe (by decide))).mp c249), fun _ => hsp⟩, by simp only [nI_succ]⟩)
                                · refine g_iload_8 hX dX6_fewestBumps_200 ?_
                                  refine g_ineg hX dX6_fewestBumps_202 ?_
                                  refine g_goto hX 208 dX6_fewestBumps_203 (by decide) ?_
                                  refine g_top (nI (eI ((h : Int) - 8 + (stp (mv b) l i)) k).natAbs) (by first | exact (absN hei).1 c197 | exact (absN hei).2 c197) ?_
                                  refine g_istore_10 hX dX6_fewestBumps_208 rfl ?_
                                  refine g_iload_9 hX dX6_fewestBumps_210 ?_
                                  refine g_if_ne hX 272 dX6_fewestBumps_212 (by decide) (fun c212 => ?_) (fun c212 => ?_)
                                  · refine g_iinc_7 hX 1 dX6_fewestBumps_272 (by decide) rfl ?_
                                    refine g_goto hX 125 dX6_fewestBumps_275 (by decide) ?_
                                    exact g_weak (lvw_c (lvw_c (lvw_c (lvw_c (lvw_c (lvw_c (lvw_c (lvw_c (lvw_n (lvw_n (lvw_n lvw_nil))))))))))) (ih125 _ _ ⟨⟨hO3.1, by rw [tB_min, if_pos (bI_nz.mp c212)]; exact hO3.2.1, fun _ => hsp⟩, by simp only [nI_succ]⟩)
                                  · refine g_iconst hX 2 dX6_fewestBumps_215 (by decide) ?_
                                    refine g_iload_10 hX dX6_fewestBumps_216 ?_
                                    refine g_imul hX dX6_fewestBumps_218 ?_
                                    refine g_top (nI (2 * (eI ((h : Int) - 8 + (stp (mv b) l i)) k).natAbs)) (pk_mul 2 _) ?_
                                    refine g_aload_0 hX dX6_fewestBumps_219 ?_
                                    refine gt_X6_now hX dX6_fewestBumps_220 ?_
                                    refine g_bipush hX 7 dX6_fewestBumps_223 (by decide) ?_
                                    refine g_ialdN (k := 7) hX (ar_71 Z) (by decide) (by decide) dX6_fewestBumps_225 ?_
                                    refine g_top (nI (phN (mv b))) f71 ?_
                                    refine g_icmp_gt hX 272 dX6_fewestBumps_226 (by decide) (fun c226 => ?_) (fun c226 => ?_)
                                    · refine g_iinc_7 hX 1 dX6_fewestBumps_272 (by decide) rfl ?_
                                      refine g_goto hX 125 dX6_fewestBumps_275 (by decide) ?_
                                      exact g_weak (lvw_c (lvw_c (lvw_c (lvw_c (lvw_c (lvw_c (lvw_c (lvw_c (lvw_n (lvw_n (lvw_n lvw_nil))))))))))) (ih125 _ _ ⟨⟨hO3.1, by rw [tB_min, if_neg (bI_z.mp c212), if_neg (fun z => nI_nlt z (by omega) c226)]; exact hO3.2.1, fun _ => hsp⟩, by simp only [nI_succ]⟩)
                                    · have h2e : 2 * (eI ((h : Int) - 8 + (stp (mv b) l i)) k).natAbs ≤ phN (mv b) := by
                                        rcases Nat.lt_or_ge (phN (mv b)) (2 * (eI ((h : Int) - 8 + (stp (mv b) l i)) k).natAbs) with q | q
                                        · exact absurd (nI_lt q (by omega)) c226
                                        · exact q
                                      have he3 : (eI ((h : Int) - 8 + (stp (mv b) l i)) k).natAbs ≤ 3 := by omega
                                      refine g_aload_0 hX dX6_fewestBumps_229 ?_
                                      refine gt_X6_fewest hX dX6_fewestBumps_230 ?_
                                      refine g_iload_5 hX dX6_fewestBumps_233 ?_
                                      refine g_ialdN (k := h) hX (ar_77 Z) (by omega) (by decide) dX6_fewestBumps_235 ?_
                                      refine g_top (nI ((tF (mv b) l i) ((h : Int) - 8))) f77 ?_
                                      refine g_iload_7 hX dX6_fewestBumps_236 ?_
                                      refine g_iadd hX dX6_fewestBumps_238 ?_
                                      refine g_top (nI (((tF (mv b) l i) ((h : Int) - 8)) + k)) (by rw [nI_add]) ?_
                                      refine g_aload_0 hX dX6_fewestBumps_239 ?_
                                      refine gt_X6_then hX dX6_fewestBumps_240 ?_
                                      refine g_iload_8 hX dX6_fewestBumps_243 ?_
                                      refine g_bipush hX 8 dX6_fewestBumps_245 (by decide) ?_
                                      refine g_iadd hX dX6_fewestBumps_247 ?_
                                      refine g_top (nI ((eI ((h : Int) - 8 + (stp (mv b) l i)) k) + 8).toNat) (by rw [show (8 : Int32) = zI 8 from rfl, zI_add, zI_nat (by omega)]) ?_
                                      refine g_ialdN (k := ((eI ((h : Int) - 8 + (stp (mv b) l i)) k) + 8).toNat) hX (ar_78 Z) (by omega) (by decide) dX6_fewestBumps_248 ?_
                                      refine g_top (nI ((tB (tX (tF (mv b) l i) (stp (mv b) l i) (roN (mv b) l i) (phN (mv b)) h) ((h : Int) - 8 + (stp (mv b) l i)) ((tF (mv b) l i) ((h : Int) - 8)) (phN (mv b)) (min k (((h : Int) - 8 + (stp (mv b) l i)).natAbs + 1))) (eI ((h : Int) - 8 + (stp (mv b) l i)) k))) (by rw [hO3.2.1 _ (by omega), show (((eI ((h : Int) - 8 + (stp (mv b) l i)) k) + 8).toNat : Int) - 8 = (eI ((h : Int) - 8 + (stp (mv b) l i)) k) by omega]) ?_
                                      refine g_icmp_ge hX 272 dX6_fewestBumps_249 (by decide) (fun c249 => ?_) (fun c249 => ?_)
                                      · refine g_iinc_7 hX 1 dX6_fewestBumps_272 (by decide) rfl ?_
                                        refine g_goto hX 125 dX6_fewestBumps_275 (by decide) ?_
                                        exact g_weak (lvw_c (lvw_c (lvw_c (lvw_c (lvw_c (lvw_c (lvw_c (lvw_c (lvw_n (lvw_n (lvw_n lvw_nil))))))))))) (ih125 _ _ ⟨⟨hO3.1, by rw [tB_min, if_neg (bI_z.mp c212), if_pos h2e]; exact Rm_st hO3.2.1 (fun z => c249 (nI_lt z (Nat.lt_of_le_of_lt hTe (by decide)))), fun _ => hsp⟩, by simp only [nI_succ]⟩)
                                      · refine g_aload_0 hX dX6_fewestBumps_252 ?_
                                        refine gt_X6_then hX dX6_fewestBumps_253 ?_
                                        refine g_iload_8 hX dX6_fewestBumps_256 ?_
                                        refine g_bipush hX 8 dX6_fewestBumps_258 (by decide) ?_
                                        refine g_iadd hX dX6_fewestBumps_260 ?_
                                        refine g_top (nI ((eI ((h : Int) - 8 + (stp (mv b) l i)) k) + 8).toNat) (by rw [show (8 : Int32) = zI 8 from rfl, zI_add, zI_nat (by omega)]) ?_
                                        refine g_aload_0 hX dX6_fewestBumps_261 ?_
                                        refine gt_X6_fewest hX dX6_fewestBumps_262 ?_
                                        refine g_iload_5 hX dX6_fewestBumps_265 ?_
                                        refine g_ialdN (k := h) hX (ar_77 Z) (by omega) (by decide) dX6_fewestBumps_267 ?_
                                        refine g_top (nI ((tF (mv b) l i) ((h : Int) - 8))) f77 ?_
                                        refine g_iload_7 hX dX6_fewestBumps_268 ?_
                                        refine g_iadd hX dX6_fewestBumps_270 ?_
                                        refine g_top (nI (((tF (mv b) l i) ((h : Int) - 8)) + k)) (by rw [nI_add]) ?_
                                        refine g_iastN (k := ((eI ((h : Int) - 8 + (stp (mv b) l i)) k) + 8).toNat) hX (ar_78 Z) (by omega) (by decide) dX6_fewestBumps_271 ?_
                                        refine g_iinc_7 hX 1 dX6_fewestBumps_272 (by decide) rfl ?_
                                        refine g_goto hX 125 dX6_fewestBumps_275 (by decide) ?_
                                        exact g_weak (lvw_c (lvw_c (lvw_c (lvw_c (lvw_c (lvw_c (lvw_c (lvw_c (lvw_n (lvw_n (lvw_n lvw_nil))))))))))) (ih125 _ _ ⟨⟨fun j hj => by rw [u2c _ _ hj]; exact hO3.1 j hj, by rw [tB_min, if_neg (bI_z.mp c212), if_pos h2e]; exact Rm_up hO3.2.1 he3 ((nI_ltI (by omega) (Nat.lt_of_le_of_lt hTe (by decide))).mp c249), fun _ => hsp⟩, by simp only [nI_succ]⟩)
                              · refine g_iconst hX 1 dX6_fewestBumps_188 (by decide) ?_
                                refine g_goto hX 193 dX6_fewestBumps_189 (by decide) ?_
                                refine g_top (bI (((h : Int) - 8 + (stp (mv b) l i)).natAbs < k)) (by first | (rw [bI_t (by have := hpos.mp c167; have h9 : (eI ((h : Int) - 8 + (stp (mv b) l i)) k) < 0 := (zI_lt (b := 0) (by omega) (by omega)).mp c172; unfold eI at h9; rw [if_pos this] at h9; omega)]; done) | (rw [bI_f (by have := hpos.mp c167; have h9 : ¬ (eI ((h : Int) - 8 + (stp (mv b) l i)) k) < 0 := fun z => c172 ((zI_lt (b := 0) (by omega) (by omega)).mpr z); unfold eI at h9; rw [if_pos this] at h9; omega)]; done) | (rw [bI_t (by have : ¬ 0 < ((h : Int) - 8 + (stp (mv b) l i)) := fun z => c167 (hpos.mpr z); have h9 : 0 < (eI ((h : Int) - 8 + (stp (mv b) l i)) k) := (zI_lt (a := 0) (by omega) (by omega)).mp c185; unfold eI at h9; rw [if_neg this] at h9; omega)]; done) | (rw [bI_f (by have : ¬ 0 < ((h : Int) - 8 + (stp (mv b) l i)) := fun z => c167 (hpos.mpr z); have h9 : ¬ 0 < (eI ((h : Int) - 8 + (stp (mv b) l i)) k) := fun z => c185 ((zI_lt (a := 0) (by omega) (by omega)).mpr z); unfold eI at h9; rw [if_neg this] at h9; omega)]; done)) ?_
                                refine g_istore_9 hX dX6_fewestBumps_193 rfl ?_
                                refine g_iload_8 hX dX6_fewestBumps_195 ?_
                                refine g_if_ge hX 206 dX6_fewestBumps_197 (by decide) (fun c197 => ?_) (fun c197 => ?_)
                                · refine g_iload_8 hX dX6_fewestBumps_206 ?_
                                  refine g_top (nI (eI ((h : Int) - 8 + (stp (mv b) l i)) k).natAbs) (by first | exact (absN hei).1 c197 | exact (absN hei).2 c197) ?_
                                  refine g_istore_10 hX dX6_fewestBumps_208 rfl ?_
                                  refine g_iload_9 hX dX6_fewestBumps_210 ?_
                                  refine g_if_ne hX 272 dX6_fewestBumps_212 (by decide) (fun c212 => ?_) (fun c212 => ?_)
                                  · refine g_iinc_7 hX 1 dX6_fewestBumps_272 (by decide) rfl ?_
                                    refine g_goto hX 125 dX6_fewestBumps_275 (by decide) ?_
                                    exact g_weak (lvw_c (lvw_c (lvw_c (lvw_c (lvw_c (lvw_c (lvw_c (lvw_c (lvw_n (lvw_n (lvw_n lvw_nil))))))))))) (ih125 _ _ ⟨⟨hO3.1, by rw [tB_min, if_pos (bI_nz.mp c212)]; exact hO3.2.1, fun _ => hsp⟩, by simp only [nI_succ]⟩)
                                  · refine g_iconst hX 2 dX6_fewestBumps_215 (by decide) ?_
                                    refine g_iload_10 hX dX6_fewestBumps_216 ?_
                                    refine g_imul hX dX6_fewestBumps_218 ?_
                                    refine g_top (nI (2 * (eI ((h : Int) - 8 + (stp (mv b) l i)) k).natAbs)) (pk_mul 2 _) ?_
                                    refine g_aload_0 hX dX6_fewestBumps_219 ?_
                                    refine gt_X6_now hX dX6_fewestBumps_220 ?_
                                    refine g_bipush hX 7 dX6_fewestBumps_223 (by decide) ?_
                                    refine g_ialdN (k := 7) hX (ar_71 Z) (by decide) (by decide) dX6_fewestBumps_225 ?_
                                    refine g_top (nI (phN (mv b))) f71 ?_
                                    refine g_icmp_gt hX 272 dX6_fewestBumps_226 (by decide) (fun c226 => ?_) (fun c226 => ?_)
                                    · refine g_iinc_7 hX 1 dX6_fewestBumps_272 (by decide) rfl ?_
                                      refine g_goto hX 125 dX6_fewestBumps_275 (by decide) ?_
                                      exact g_weak (lvw_c (lvw_c (lvw_c (lvw_c (lvw_c (lvw_c (lvw_c (lvw_c (lvw_n (lvw_n (lvw_n lvw_nil))))))))))) (ih125 _ _ ⟨⟨hO3.1, by rw [tB_min, if_neg (bI_z.mp c212), if_neg (fun z => nI_nlt z (by omega) c226)]; exact hO3.2.1, fun _ => hsp⟩, by simp only [nI_succ]⟩)
                                    · have h2e : 2 * (eI ((h : Int) - 8 + (stp (mv b) l i)) k).natAbs ≤ phN (mv b) := by
                                        rcases Nat.lt_or_ge (phN (mv b)) (2 * (eI ((h : Int) - 8 + (stp (mv b) l i)) k).natAbs) with q | q
                                        · exact absurd (nI_lt q (by omega)) c226
                                        · exact q
                                      have he3 : (eI ((h : Int) - 8 + (stp (mv b) l i)) k).natAbs ≤ 3 := by omega
                                      refine g_aload_0 hX dX6_fewestBumps_229 ?_
                                      refine gt_X6_fewest hX dX6_fewestBumps_230 ?_
                                      refine g_iload_5 hX dX6_fewestBumps_233 ?_
                                      refine g_ialdN (k := h) hX (ar_77 Z) (by omega) (by decide) dX6_fewestBumps_235 ?_
                                      refine g_top (nI ((tF (mv b) l i) ((h : Int) - 8))) f77 ?_
                                      refine g_iload_7 hX dX6_fewestBumps_236 ?_
                                      refine g_iadd hX dX6_fewestBumps_238 ?_
                                      refine g_top (nI (((tF (mv b) l i) ((h : Int) - 8)) + k)) (by rw [nI_add]) ?_
                                      refine g_aload_0 hX dX6_fewestBumps_239 ?_
                                      refine gt_X6_then hX dX6_fewestBumps_240 ?_
                                      refine g_iload_8 hX dX6_fewestBumps_243 ?_
                                      refine g_bipush hX 8 dX6_fewestBumps_245 (by decide) ?_
                                      refine g_iadd hX dX6_fewestBumps_247 ?_
                                      refine g_top (nI ((eI ((h : Int) - 8 + (stp (mv b) l i)) k) + 8).toNat) (by rw [show (8 : Int32) = zI 8 from rfl, zI_add, zI_nat (by omega)]) ?_
                                      refine g_ialdN (k := ((eI ((h : Int) - 8 + (stp (mv b) l i)) k) + 8).toNat) hX (ar_78 Z) (by omega) (by decide) dX6_fewestBumps_248 ?_
                                      refine g_top (nI ((tB (tX (tF (mv b) l i) (stp (mv b) l i) (roN (mv b) l i) (phN (mv b)) h) ((h : Int) - 8 + (stp (mv b) l i)) ((tF (mv b) l i) ((h : Int) - 8)) (phN (mv b)) (min k (((h : Int) - 8 + (stp (mv b) l i)).natAbs + 1))) (eI ((h : Int) - 8 + (stp (mv b) l i)) k))) (by rw [hO3.2.1 _ (by omega), show (((eI ((h : Int) - 8 + (stp (mv b) l i)) k) + 8).toNat : Int) - 8 = (eI ((h : Int) - 8 + (stp (mv b) l i)) k) by omega]) ?_
                                      refine g_icmp_ge hX 272 dX6_fewestBumps_249 (by decide) (fun c249 => ?_) (fun c249 => ?_)
                                      · refine g_iinc_7 hX 1 dX6_fewestBumps_272 (by decide) rfl ?_
                                        refine g_goto hX 125 dX6_fewestBumps_275 (by decide) ?_
                                        exact g_weak (lvw_c (lvw_c (lvw_c (lvw_c (lvw_c (lvw_c (lvw_c (lvw_c (lvw_n (lvw_n (lvw_n lvw_nil))))))))))) (ih125 _ _ ⟨⟨hO3.1, by rw [tB_min, if_neg (bI_z.mp c212), if_pos h2e]; exact Rm_st hO3.2.1 (fun z => c249 (nI_lt z (Nat.lt_of_le_of_lt hTe (by decide)))), fun _ => hsp⟩, by simp only [nI_succ]⟩)
                                      · refine g_aload_0 hX dX6_fewestBumps_252 ?_
                                        refine gt_X6_then hX dX6_fewestBumps_253 ?_
                                        refine g_iload_8 hX dX6_fewestBumps_256 ?_
                                        refine g_bipush hX 8 dX6_fewestBumps_258 (by decide) ?_
                                        refine g_iadd hX dX6_fewestBumps_260 ?_
                                        refine g_top (nI ((eI ((h : Int) - 8 + (stp (mv b) l i)) k) + 8).toNat) (by rw [show (8 : Int32) = zI 8 from rfl, zI_add, zI_nat (by omega)]) ?_
                                        refine g_aload_0 hX dX6_fewestBumps_261 ?_
                                        refine gt_X6_fewest hX dX6_fewestBumps_262 ?_
                                        refine g_iload_5 hX dX6_fewestBumps_265 ?_
                                        refine g_ialdN (k := h) hX (ar_77 Z) (by omega) (by decide) dX6_fewestBumps_267 ?_
                                        refine g_top (nI ((tF (mv b) l i) ((h : Int) - 8))) f77 ?_
                                        refine g_iload_7 hX dX6_fewestBumps_268 ?_
                                        refine g_iadd hX dX6_fewestBumps_270 ?_
                                        refine g_top (nI (((tF (mv b) l i) ((h : Int) - 8)) + k)) (by rw [nI_add]) ?_
                                        refine g_iastN (k := ((eI ((h : Int) - 8 + (stp (mv b) l i)) k) + 8).toNat) hX (ar_78 Z) (by omega) (by decide) dX6_fewestBumps_271 ?_
                                        refine g_iinc_7 hX 1 dX6_fewestBumps_272 (by decide) rfl ?_
                                        refine g_goto hX 125 dX6_fewestBumps_275 (by decide) ?_
                                        exact g_weak (lvw_c (lvw_c (lvw_c (lvw_c (lvw_c (lvw_c (lvw_c (lvw_c (lvw_n (lvw_n (lvw_n lvw_nil))))))))))) (ih125 _ _ ⟨⟨fun j hj => by rw [u2c _ _ hj]; exact hO3.1 j hj, by rw [tB_min, if_neg (bI_z.mp c212), if_pos h2e]; exact Rm_up hO3.2.1 he3 ((nI_ltI (by omega) (Nat.lt_of_le_of_lt hTe (by decide))).mp c249), fun _ => hsp⟩, by simp only [nI_succ]⟩)
                                · refine g_iload_8 hX dX6_fewestBumps_200 ?_
                                  refine g_ineg hX dX6_fewestBumps_202 ?_
                                  refine g_goto hX 208 dX6_fewestBumps_203 (by decide) ?_
                                  refine g_top (nI (eI ((h : Int) - 8 + (stp (mv b) l i)) k).natAbs) (by first | exact (absN hei).1 c197 | exact (absN hei).2 c197) ?_
                                  refine g_istore_10 hX dX6_fewestBumps_208 rfl ?_
                                  refine g_iload_9 hX dX6_fewestBumps_210 ?_
                                  refine g_if_ne hX 272 dX6_fewestBumps_212 (by decide) (fun c212 => ?_) (fun c212 => ?_)
                                  · refine g_iinc_7 hX 1 dX6_fewestBumps_272 (by decide) rfl ?_
                                    refine g_goto hX 125 dX6_fewestBumps_275 (by decide) ?_
                                    exact g_weak (lvw_c (lvw_c (lvw_c (lvw_c (lvw_c (lvw_c (lvw_c (lvw_c (lvw_n (lvw_n (lvw_n lvw_nil))))))))))) (ih125 _ _ ⟨⟨hO3.1, by rw [tB_min, if_pos (bI_nz.mp c212)]; exact hO3.2.1, fun _ => hsp⟩, by simp only [nI_succ]⟩)
                                  · refine g_iconst hX 2 dX6_fewestBumps_215 (by decide) ?_
                                    refine g_iload_10 hX dX6_fewestBumps_216 ?_
                                    refine g_imul hX dX6_fewestBumps_218 ?_
                                    refine g_top (nI (2 * (eI ((h : Int) - 8 + (stp (mv b) l i)) k).natAbs)) (pk_mul 2 _) ?_
                                    refine g_aload_0 hX dX6_fewestBumps_219 ?_
                                    refine gt_X6_now hX dX6_fewestBumps_220 ?_
                                    refine g_bipush hX 7 dX6_fewestBumps_223 (by decide) ?_
                                    refine g_ialdN (k := 7) hX (ar_71 Z) (by decide) (by decide) dX6_fewestBumps_225 ?_
                                    refine g_top (nI (phN (mv b))) f71 ?_
                                    refine g_icmp_gt hX 272 dX6_fewestBumps_226 (by decide) (fun c226 => ?_) (fun c226 => ?_)
                                    · refine g_iinc_7 hX 1 dX6_fewestBumps_272 (by decide) rfl ?_
                                      refine g_goto hX 125 dX6_fewestBumps_275 (by decide) ?_
                                      exact g_weak (lvw_c (lvw_c (lvw_c (lvw_c (lvw_c (lvw_c (lvw_c (lvw_c (lvw_n (lvw_n (lvw_n lvw_nil))))))))))) (ih125 _ _ ⟨⟨hO3.1, by rw [tB_min, if_neg (bI_z.mp c212), if_neg (fun z => nI_nlt z (by omega) c226)]; exact hO3.2.1, fun _ => hsp⟩, by simp only [nI_succ]⟩)
                                    · have h2e : 2 * (eI ((h : Int) - 8 + (stp (mv b) l i)) k).natAbs ≤ phN (mv b) := by
                                        rcases Nat.lt_or_ge (phN (mv b)) (2 * (eI ((h : Int) - 8 + (stp (mv b) l i)) k).natAbs) with q | q
                                        · exact absurd (nI_lt q (by omega)) c226
                                        · exact q
                                      have he3 : (eI ((h : Int) - 8 + (stp (mv b) l i)) k).natAbs ≤ 3 := by omega
                                      refine g_aload_0 hX dX6_fewestBumps_229 ?_
                                      refine gt_X6_fewest hX dX6_fewestBumps_230 ?_
                                      refine g_iload_5 hX dX6_fewestBumps_233 ?_
                                      refine g_ialdN (k := h) hX (ar_77 Z) (by omega) (by decide) dX6_fewestBumps_235 ?_
                                      refine g_top (nI ((tF (mv b) l i) ((h : Int) - 8))) f77 ?_
                                      refine g_iload_7 hX dX6_fewestBumps_236 ?_
                                      refine g_iadd hX dX6_fewestBumps_238 ?_
                                      refine g_top (nI (((tF (mv b) l i) ((h : Int) - 8)) + k)) (by rw [nI_add]) ?_
                                      refine g_aload_0 hX dX6_fewestBumps_239 ?_
                                      refine gt_X6_then hX dX6_fewestBumps_240 ?_
                                      refine g_iload_8 hX dX6_fewestBumps_243 ?_
                                      refine g_bipush hX 8 dX6_fewestBumps_245 (by decide) ?_
                                      refine g_iadd hX dX6_fewestBumps_247 ?_
                                      refine g_top (nI ((eI ((h : Int) - 8 + (stp (mv b) l i)) k) + 8).toNat) (by rw [show (8 : Int32) = zI 8 from rfl, zI_add, zI_nat (by omega)]) ?_
                                      refine g_ialdN (k := ((eI ((h : Int) - 8 + (stp (mv b) l i)) k) + 8).toNat) hX (ar_78 Z) (by omega) (by decide) dX6_fewestBumps_248 ?_
                                      refine g_top (nI ((tB (tX (tF (mv b) l i) (stp (mv b) l i) (roN (mv b) l i) (phN (mv b)) h) ((h : Int) - 8 + (stp (mv b) l i)) ((tF (mv b) l i) ((h : Int) - 8)) (phN (mv b)) (min k (((h : Int) - 8 + (stp (mv b) l i)).natAbs + 1))) (eI ((h : Int) - 8 + (stp (mv b) l i)) k))) (by rw [hO3.2.1 _ (by omega), show (((eI ((h : Int) - 8 + (stp (mv b) l i)) k) + 8).toNat : Int) - 8 = (eI ((h : Int) - 8 + (stp (mv b) l i)) k) by omega]) ?_
                                      refine g_icmp_ge hX 272 dX6_fewestBumps_249 (by decide) (fun c249 => ?_) (fun c249 => ?_)
                                      · refine g_iinc_7 hX 1 dX6_fewestBumps_272 (by decide) rfl ?_
                                        refine g_goto hX 125 dX6_fewestBumps_275 (by decide) ?_
                                        exact g_weak (lvw_c (lvw_c (lvw_c (lvw_c (lvw_c (lvw_c (lvw_c (lvw_c (lvw_n (lvw_n (lvw_n lvw_nil))))))))))) (ih125 _ _ ⟨⟨hO3.1, by rw [tB_min, if_neg (bI_z.mp c212), if_pos h2e]; exact Rm_st hO3.2.1 (fun z => c249 (nI_lt z (Nat.lt_of_le_of_lt hTe (by decide)))), fun _ => hsp⟩, by simp only [nI_succ]⟩)
                                      · refine g_aload_0 hX dX6_fewestBumps_252 ?_
                                        refine gt_X6_then hX dX6_fewestBumps_253 ?_
                                        refine g_iload_8 hX dX6_fewestBumps_256 ?_
                                        refine g_bipush hX 8 dX6_fewestBumps_258 (by decide) ?_
                                        refine g_iadd hX dX6_fewestBumps_260 ?_
                                        refine g_top (nI ((eI ((h : Int) - 8 + (stp (mv b) l i)) k) + 8).toNat) (by rw [show (8 : Int32) = zI 8 from rfl, zI_add, zI_nat (by omega)]) ?_
                                        refine g_aload_0 hX dX6_fewestBumps_261 ?_
                                        refine gt_X6_fewest hX dX6_fewestBumps_262 ?_
                                        refine g_iload_5 hX dX6_fewestBumps_265 ?_
                                        refine g_ialdN (k := h) hX (ar_77 Z) (by omega) (by decide) dX6_fewestBumps_267 ?_
                                        refine g_top (nI ((tF (mv b) l i) ((h : Int) - 8))) f77 ?_
                                        refine g_iload_7 hX dX6_fewestBumps_268 ?_
                                        refine g_iadd hX dX6_fewestBumps_270 ?_
                                        refine g_top (nI (((tF (mv b) l i) ((h : Int) - 8)) + k)) (by rw [nI_add]) ?_
                                        refine g_iastN (k := ((eI ((h : Int) - 8 + (stp (mv b) l i)) k) + 8).toNat) hX (ar_78 Z) (by omega) (by decide) dX6_fewestBumps_271 ?_
                                        refine g_iinc_7 hX 1 dX6_fewestBumps_272 (by decide) rfl ?_
                                        refine g_goto hX 125 dX6_fewestBumps_275 (by decide) ?_
                                        exact g_weak (lvw_c (lvw_c (lvw_c (lvw_c (lvw_c (lvw_c (lvw_c (lvw_c (lvw_n (lvw_n (lvw_n lvw_nil))))))))))) (ih125 _ _ ⟨⟨fun j hj => by rw [u2c _ _ hj]; exact hO3.1 j hj, by rw [tB_min, if_neg (bI_z.mp c212), if_pos h2e]; exact Rm_up hO3.2.1 he3 ((nI_ltI (by omega) (Nat.lt_of_le_of_lt hTe (by decide))).mp c249), fun _ => hsp⟩, by simp only [nI_succ]⟩)
                            · refine g_iload_8 hX dX6_fewestBumps_170 ?_
                              refine g_if_ge hX 179 dX6_fewestBumps_172 (by decide) (fun c172 => ?_) (fun c172 => ?_)
                              · refine g_iconst hX 0 dX6_fewestBumps_179 (by decide) ?_
                                refine g_goto hX 193 dX6_fewestBumps_180 (by decide) ?_
                                refine g_top (bI (((h : Int) - 8 + (stp (mv b) l i)).natAbs < k)) (by first | (rw [bI_t (by have := hpos.mp c167; have h9 : (eI ((h : Int) - 8 + (stp (mv b) l i)) k) < 0 := (zI_lt (b := 0) (by omega) (by omega)).mp c172; unfold eI at h9; rw [if_pos this] at h9; omega)]; done) | (rw [bI_f (by have := hpos.mp c167; have h9 : ¬ (eI ((h : Int) - 8 + (stp (mv b) l i)) k) < 0 := fun z => c172 ((zI_lt (b := 0) (by omega) (by omega)).mpr z); unfold eI at h9; rw [if_pos this] at h9; omega)]; done) | (rw [bI_t (by have : ¬ 0 < ((h : Int) - 8 + (stp (mv b) l i)) := fun z => c167 (hpos.mpr z); have h9 : 0 < (eI ((h : Int) - 8 + (stp (mv b) l i)) k) := (zI_lt (a := 0) (by omega) (by omega)).mp c185; unfold eI at h9; rw [if_neg this] at h9; omega)]; done) | (rw [bI_f (by have : ¬ 0 < ((h : Int) - 8 + (stp (mv b) l i)) := fun z => c167 (hpos.mpr z); have h9 : ¬ 0 < (eI ((h : Int) - 8 + (stp (mv b) l i)) k) := fun z => c185 ((zI_lt (a := 0) (by omega) (by omega)).mpr z); unfold eI at h9; rw [if_neg this] at h9; omega)]; done)) ?_
                                refine g_istore_9 hX dX6_fewestBumps_193 rfl ?_
                                refine g_iload_8 hX dX6_fewestBumps_195 ?_
                                refine g_if_ge hX 206 dX6_fewestBumps_197 (by decide) (fun c197 => ?_) (fun c197 => ?_)
                                · refine g_iload_8 hX dX6_fewestBumps_206 ?_
                                  refine g_top (nI (eI ((h : Int) - 8 + (stp (mv b) l i)) k).natAbs) (by first | exact (absN hei).1 c197 | exact (absN hei).2 c197) ?_
                                  refine g_istore_10 hX dX6_fewestBumps_208 rfl ?_
                                  refine g_iload_9 hX dX6_fewestBumps_210 ?_
                                  refine g_if_ne hX 272 dX6_fewestBumps_212 (by decide) (fun c212 => ?_) (fun c212 => ?_)
                                  · refine g_iinc_7 hX 1 dX6_fewestBumps_272 (by decide) rfl ?_
                                    refine g_goto hX 125 dX6_fewestBumps_275 (by decide) ?_
                                    exact g_weak (lvw_c (lvw_c (lvw_c (lvw_c (lvw_c (lvw_c (lvw_c (lvw_c (lvw_n (lvw_n (lvw_n lvw_nil))))))))))) (ih125 _ _ ⟨⟨hO3.1, by rw [tB_min, if_pos (bI_nz.mp c212)]; exact hO3.2.1, fun _ => hsp⟩, by simp only [nI_succ]⟩)
                                  · refine g_iconst hX 2 dX6_fewestBumps_215 (by decide) ?_
                                    refine g_iload_10 hX dX6_fewestBumps_216 ?_
                                    refine g_imul hX dX6_fewestBumps_218 ?_
                                    refine g_top (nI (2 * (eI ((h : Int) - 8 + (stp (mv b) l i)) k).natAbs)) (pk_mul 2 _) ?_
                                    refine g_aload_0 hX dX6_fewestBumps_219 ?_
                                    refine gt_X6_now hX dX6_fewestBumps_220 ?_
                                    refine g_bipush hX 7 dX6_fewestBumps_223 (by decide) ?_
                                    refine g_ialdN (k := 7) hX (ar_71 Z) (by decide) (by decide) dX6_fewestBumps_225 ?_
                                    refine g_top (nI (phN (mv b))) f71 ?_
                                    refine g_icmp_gt hX 272 dX6_fewestBumps_226 (by decide) (fun c226 => ?_) (fun c226 => ?_)
                                    · refine g_iinc_7 hX 1 dX6_fewestBumps_272 (by decide) rfl ?_
                                      refine g_goto hX 125 dX6_fewestBumps_275 (by decide) ?_
                                      exact g_weak (lvw_c (lvw_c (lvw_c (lvw_c (lvw_c (lvw_c (lvw_c (lvw_c (lvw_n (lvw_n (lvw_n lvw_nil))))))))))) (ih125 _ _ ⟨⟨hO3.1, by rw [tB_min, if_neg (bI_z.mp c212), if_neg (fun z => nI_nlt z (by omega) c226)]; exact hO3.2.1, fun _ => hsp⟩, by simp only [nI_succ]⟩)
                                    · have h2e : 2 * (eI ((h : Int) - 8 + (stp (mv b) l i)) k).natAbs ≤ phN (mv b) := by
                                        rcases Nat.lt_or_ge (phN (mv b)) (2 * (eI ((h : Int) - 8 + (stp (mv b) l i)) k).natAbs) with q | q
                                        · exact absurd (nI_lt q (by omega)) c226
                                        · exact q
                                      have he3 : (eI ((h : Int) - 8 + (stp (mv b) l i)) k).natAbs ≤ 3 := by omega
                                      refine g_aload_0 hX dX6_fewestBumps_229 ?_
                                      refine gt_X6_fewest hX dX6_fewestBumps_230 ?_
                                      refine g_iload_5 hX dX6_fewestBumps_233 ?_
                                      refine g_ialdN (k := h) hX (ar_77 Z) (by omega) (by decide) dX6_fewestBumps_235 ?_
                                      refine g_top (nI ((tF (mv b) l i) ((h : Int) - 8))) f77 ?_
                                      refine g_iload_7 hX dX6_fewestBumps_236 ?_
                                      refine g_iadd hX dX6_fewestBumps_238 ?_
                                      refine g_top (nI (((tF (mv b) l i) ((h : Int) - 8)) + k)) (by rw [nI_add]) ?_
                                      refine g_aload_0 hX dX6_fewestBumps_239 ?_
                                      refine gt_X6_then hX dX6_fewestBumps_240 ?_
                                      refine g_iload_8 hX dX6_fewestBumps_243 ?_
                                      refine g_bipush hX 8 dX6_fewestBumps_245 (by decide) ?_
                                      refine g_iadd hX dX6_fewestBumps_247 ?_
                                      refine g_top (nI ((eI ((h : Int) - 8 + (stp (mv b) l i)) k) + 8).toNat) (by rw [show (8 : Int32) = zI 8 from rfl, zI_add, zI_nat (by omega)]) ?_
                                      refine g_ialdN (k := ((eI ((h : Int) - 8 + (stp (mv b) l i)) k) + 8).toNat) hX (ar_78 Z) (by omega) (by decide) dX6_fewestBumps_248 ?_
                                      refine g_top (nI ((tB (tX (tF (mv b) l i) (stp (mv b) l i) (roN (mv b) l i) (phN (mv b)) h) ((h : Int) - 8 + (stp (mv b) l i)) ((tF (mv b) l i) ((h : Int) - 8)) (phN (mv b)) (min k (((h : Int) - 8 + (stp (mv b) l i)).natAbs + 1))) (eI ((h : Int) - 8 + (stp (mv b) l i)) k))) (by rw [hO3.2.1 _ (by omega), show (((eI ((h : Int) - 8 + (stp (mv b) l i)) k) + 8).toNat : Int) - 8 = (eI ((h : Int) - 8 + (stp (mv b) l i)) k) by omega]) ?_
                                      refine g_icmp_ge hX 272 dX6_fewestBumps_249 (by decide) (fun c249 => ?_) (fun c249 => ?_)
                                      · refine g_iinc_7 hX 1 dX6_fewestBumps_272 (by decide) rfl ?_
                                        refine g_goto hX 125 dX6_fewestBumps_275 (by decide) ?_
                                        exact g_weak (lvw_c (lvw_c (lvw_c (lvw_c (lvw_c (lvw_c (lvw_c (lvw_c (lvw_n (lvw_n (lvw_n lvw_nil))))))))))) (ih125 _ _ ⟨⟨hO3.1, by rw [tB_min, if_neg (bI_z.mp c212), if_pos h2e]; exact Rm_st hO3.2.1 (fun z => c249 (nI_lt z (Nat.lt_of_le_of_lt hTe (by decide)))), fun _ => hsp⟩, by simp only [nI_succ]⟩)
                                      · refine g_aload_0 hX dX6_fewestBumps_252 ?_
                                        refine gt_X6_then hX dX6_fewestBumps_253 ?_
                                        refine g_iload_8 hX dX6_fewestBumps_256 ?_
                                        refine g_bipush hX 8 dX6_fewestBumps_258 (by decide) ?_
                                        refine g_iadd hX dX6_fewestBumps_260 ?_
                                        refine g_top (nI ((eI ((h : Int) - 8 + (stp (mv b) l i)) k) + 8).toNat) (by rw [show (8 : Int32) = zI 8 from rfl, zI_add, zI_nat (by omega)]) ?_
                                        refine g_aload_0 hX dX6_fewestBumps_261 ?_
                                        refine gt_X6_fewest hX dX6_fewestBumps_262 ?_
                                        refine g_iload_5 hX dX6_fewestBumps_265 ?_
                                        refine g_ialdN (k := h) hX (ar_77 Z) (by omega) (by decide) dX6_fewestBumps_267 ?_
                                        refine g_top (nI ((tF (mv b) l i) ((h : Int) - 8))) f77 ?_
                                        refine g_iload_7 hX dX6_fewestBumps_268 ?_
                                        refine g_iadd hX dX6_fewestBumps_270 ?_
                                        refine g_top (nI (((tF (mv b) l i) ((h : Int) - 8)) + k)) (by rw [nI_add]) ?_
                                        refine g_iastN (k := ((eI ((h : Int) - 8 + (stp (mv b) l i)) k) + 8).toNat) hX (ar_78 Z) (by omega) (by decide) dX6_fewestBumps_271 ?_
                                        refine g_iinc_7 hX 1 dX6_fewestBumps_272 (by decide) rfl ?_
                                        refine g_goto hX 125 dX6_fewestBumps_275 (by decide) ?_
                                        exact g_weak (lvw_c (lvw_c (lvw_c (lvw_c (lvw_c (lvw_c (lvw_c (lvw_c (lvw_n (lvw_n (lvw_n lvw_nil))))))))))) (ih125 _ _ ⟨⟨fun j hj => by rw [u2c _ _ hj]; exact hO3.1 j hj, by rw [tB_min, if_neg (bI_z.mp c212), if_pos h2e]; exact Rm_up hO3.2.1 he3 ((nI_ltI (by omega) (Nat.lt_of_le_of_lt hTe (by decide))).mp c249), fun _ => hsp⟩, by simp only [nI_succ]⟩)
                                · refine g_iload_8 hX dX6_fewestBumps_200 ?_
                                  refine g_ineg hX dX6_fewestBumps_202 ?_
                                  refine g_goto hX 208 dX6_fewestBumps_203 (by decide) ?_
                                  refine g_top (nI (eI ((h : Int) - 8 + (stp (mv b) l i)) k).natAbs) (by first | exact (absN hei).1 c197 | exact (absN hei).2 c197) ?_
                                  refine g_istore_10 hX dX6_fewestBumps_208 rfl ?_
                                  refine g_iload_9 hX dX6_fewestBumps_210 ?_
                                  refine g_if_ne hX 272 dX6_fewestBumps_212 (by decide) (fun c212 => ?_) (fun c212 => ?_)
                                  · refine g_iinc_7 hX 1 dX6_fewestBumps_272 (by decide) rfl ?_
                                    refine g_goto hX 125 dX6_fewestBumps_275 (by decide) ?_
                                    exact g_weak (lvw_c (lvw_c (lvw_c (lvw_c (lvw_c (lvw_c (lvw_c (lvw_c (lvw_n (lvw_n (lvw_n lvw_nil))))))))))) (ih125 _ _ ⟨⟨hO3.1, by rw [tB_min, if_pos (bI_nz.mp c212)]; exact hO3.2.1, fun _ => hsp⟩, by simp only [nI_succ]⟩)
                                  · refine g_iconst hX 2 dX6_fewestBumps_215 (by decide) ?_
                                    refine g_iload_10 hX dX6_fewestBumps_216 ?_
                                    refine g_imul hX dX6_fewestBumps_218 ?_
                                    refine g_top (nI (2 * (eI ((h : Int) - 8 + (stp (mv b) l i)) k).natAbs)) (pk_mul 2 _) ?_
                                    refine g_aload_0 hX dX6_fewestBumps_219 ?_
                                    refine gt_X6_now hX dX6_fewestBumps_220 ?_
                                    refine g_bipush hX 7 dX6_fewestBumps_223 (by decide) ?_
                                    refine g_ialdN (k := 7) hX (ar_71 Z) (by decide) (by decide) dX6_fewestBumps_225 ?_
                                    refine g_top (nI (phN (mv b))) f71 ?_
                                    refine g_icmp_gt hX 272 dX6_fewestBumps_226 (by decide) (fun c226 => ?_) (fun c226 => ?_)
                                    · refine g_iinc_7 hX 1 dX6_fewestBumps_272 (by decide) rfl ?_
                                      refine g_goto hX 125 dX6_fewestBumps_275 (by decide) ?_
                                      exact g_weak (lvw_c (lvw_c (lvw_c (lvw_c (lvw_c (lvw_c (lvw_c (lvw_c (lvw_n (lvw_n (lvw_n lvw_nil))))))))))) (ih125 _ _ ⟨⟨hO3.1, by rw [tB_min, if_neg (bI_z.mp c212), if_neg (fun z => nI_nlt z (by omega) c226)]; exact hO3.2.1, fun _ => hsp⟩, by simp only [nI_succ]⟩)
                                    · have h2e : 2 * (eI ((h : Int) - 8 + (stp (mv b) l i)) k).natAbs ≤ phN (mv b) := by
                                        rcases Nat.lt_or_ge (phN (mv b)) (2 * (eI ((h : Int) - 8 + (stp (mv b) l i)) k).natAbs) with q | q
                                        · exact absurd (nI_lt q (by omega)) c226
                                        · exact q
                                      have he3 : (eI ((h : Int) - 8 + (stp (mv b) l i)) k).natAbs ≤ 3 := by omega
                                      refine g_aload_0 hX dX6_fewestBumps_229 ?_
                                      refine gt_X6_fewest hX dX6_fewestBumps_230 ?_
                                      refine g_iload_5 hX dX6_fewestBumps_233 ?_
                                      refine g_ialdN (k := h) hX (ar_77 Z) (by omega) (by decide) dX6_fewestBumps_235 ?_
                                      refine g_top (nI ((tF (mv b) l i) ((h : Int) - 8))) f77 ?_
                                      refine g_iload_7 hX dX6_fewestBumps_236 ?_
                                      refine g_iadd hX dX6_fewestBumps_238 ?_
                                      refine g_top (nI (((tF (mv b) l i) ((h : Int) - 8)) + k)) (by rw [nI_add]) ?_
                                      refine g_aload_0 hX dX6_fewestBumps_239 ?_
                                      refine gt_X6_then hX dX6_fewestBumps_240 ?_
                                      refine g_iload_8 hX dX6_fewestBumps_243 ?_
                                      refine g_bipush hX 8 dX6_fewestBumps_245 (by decide) ?_
                                      refine g_iadd hX dX6_fewestBumps_247 ?_
                                      refine g_top (nI ((eI ((h : Int) - 8 + (stp (mv b) l i)) k) + 8).toNat) (by rw [show (8 : Int32) = zI 8 from rfl, zI_add, zI_nat (by omega)]) ?_
                                      refine g_ialdN (k := ((eI ((h : Int) - 8 + (stp (mv b) l i)) k) + 8).toNat) hX (ar_78 Z) (by omega) (by decide) dX6_fewestBumps_248 ?_
                                      refine g_top (nI ((tB (tX (tF (mv b) l i) (stp (mv b) l i) (roN (mv b) l i) (phN (mv b)) h) ((h : Int) - 8 + (stp (mv b) l i)) ((tF (mv b) l i) ((h : Int) - 8)) (phN (mv b)) (min k (((h : Int) - 8 + (stp (mv b) l i)).natAbs + 1))) (eI ((h : Int) - 8 + (stp (mv b) l i)) k))) (by rw [hO3.2.1 _ (by omega), show (((eI ((h : Int) - 8 + (stp (mv b) l i)) k) + 8).toNat : Int) - 8 = (eI ((h : Int) - 8 + (stp (mv b) l i)) k) by omega]) ?_
                                      refine g_icmp_ge hX 272 dX6_fewestBumps_249 (by decide) (fun c249 => ?_) (fun c249 => ?_)
                                      · refine g_iinc_7 hX 1 dX6_fewestBumps_272 (by decide) rfl ?_
                                        refine g_goto hX 125 dX6_fewestBumps_275 (by decide) ?_
                                        exact g_weak (lvw_c (lvw_c (lvw_c (lvw_c (lvw_c (lvw_c (lvw_c (lvw_c (lvw_n (lvw_n (lvw_n lvw_nil))))))))))) (ih125 _ _ ⟨⟨hO3.1, by rw [tB_min, if_neg (bI_z.mp c212), if_pos h2e]; exact Rm_st hO3.2.1 (fun z => c249 (nI_lt z (Nat.lt_of_le_of_lt hTe (by decide)))), fun _ => hsp⟩, by simp only [nI_succ]⟩)
                                      · refine g_aload_0 hX dX6_fewestBumps_252 ?_
                                        refine gt_X6_then hX dX6_fewestBumps_253 ?_
                                        refine g_iload_8 hX dX6_fewestBumps_256 ?_
                                        refine g_bipush hX 8 dX6_fewestBumps_258 (by decide) ?_
                                        refine g_iadd hX dX6_fewestBumps_260 ?_
                                        refine g_top (nI ((eI ((h : Int) - 8 + (stp (mv b) l i)) k) + 8).toNat) (by rw [show (8 : Int32) = zI 8 from rfl, zI_add, zI_nat (by omega)]) ?_
                                        refine g_aload_0 hX dX6_fewestBumps_261 ?_
                                        refine gt_X6_fewest hX dX6_fewestBumps_262 ?_
                                        refine g_iload_5 hX dX6_fewestBumps_265 ?_
                                        refine g_ialdN (k := h) hX (ar_77 Z) (by omega) (by decide) dX6_fewestBumps_267 ?_
                                        refine g_top (nI ((tF (mv b) l i) ((h : Int) - 8))) f77 ?_
                                        refine g_iload_7 hX dX6_fewestBumps_268 ?_
                                        refine g_iadd hX dX6_fewestBumps_270 ?_
                                        refine g_top (nI (((tF (mv b) l i) ((h : Int) - 8)) + k)) (by rw [nI_add]) ?_
                                        refine g_iastN (k := ((eI ((h : Int) - 8 + (stp (mv b) l i)) k) + 8).toNat) hX (ar_78 Z) (by omega) (by decide) dX6_fewestBumps_271 ?_
                                        refine g_iinc_7 hX 1 dX6_fewestBumps_272 (by decide) rfl ?_
                                        refine g_goto hX 125 dX6_fewestBumps_275 (by decide) ?_
                                        exact g_weak (lvw_c (lvw_c (lvw_c (lvw_c (lvw_c (lvw_c (lvw_c (lvw_c (lvw_n (lvw_n (lvw_n lvw_nil))))))))))) (ih125 _ _ ⟨⟨fun j hj => by rw [u2c _ _ hj]; exact hO3.1 j hj, by rw [tB_min, if_neg (bI_z.mp c212), if_pos h2e]; exact Rm_up hO3.2.1 he3 ((nI_ltI (by omega) (Nat.lt_of_le_of_lt hTe (by decide))).mp c249), fun _ => hsp⟩, by simp only [nI_succ]⟩)
                              · refine g_iconst hX 1 dX6_fewestBumps_175 (by decide) ?_
                                refine g_goto hX 193 dX6_fewestBumps_176 (by decide) ?_
                                refine g_top (bI (((h : Int) - 8 + (stp (mv b) l i)).natAbs < k)) (by first | (rw [bI_t (by have := hpos.mp c167; have h9 : (eI ((h : Int) - 8 + (stp (mv b) l i)) k) < 0 := (zI_lt (b := 0) (by omega) (by omega)).mp c172; unfold eI at h9; rw [if_pos this] at h9; omega)]; done) | (rw [bI_f (by have := hpos.mp c167; have h9 : ¬ (eI ((h : Int) - 8 + (stp (mv b) l i)) k) < 0 := fun z => c172 ((zI_lt (b := 0) (by omega) (by omega)).mpr z); unfold eI at h9; rw [if_pos this] at h9; omega)]; done) | (rw [bI_t (by have : ¬ 0 < ((h : Int) - 8 + (stp (mv b) l i)) := fun z => c167 (hpos.mpr z); have h9 : 0 < (eI ((h : Int) - 8 + (stp (mv b) l i)) k) := (zI_lt (a := 0) (by omega) (by omega)).mp c185; unfold eI at h9; rw [if_neg this] at h9; omega)]; done) | (rw [bI_f (by have : ¬ 0 < ((h : Int) - 8 + (stp (mv b) l i)) := fun z => c167 (hpos.mpr z); have h9 : ¬ 0 < (eI ((h : Int) - 8 + (stp (mv b) l i)) k) := fun z => c185 ((zI_lt (a := 0) (by omega) (by omega)).mpr z); unfold eI at h9; rw [if_neg this] at h9; omega)]; done)) ?_
                                refine g_istore_9 hX dX6_fewestBumps_193 rfl ?_
                                refine g_iload_8 hX dX6_fewestBumps_195 ?_
                                refine g_if_ge hX 206 dX6_fewestBumps_197 (by decide) (fun c197 => ?_) (fun c197 => ?_)
                                · refine g_iload_8 hX dX6_fewestBumps_206 ?_
                                  refine g_top (nI (eI ((h : Int) - 8 + (stp (mv b) l i)) k).natAbs) (by first | exact (absN hei).1 c197 | exact (absN hei).2 c197) ?_
                                  refine g_istore_10 hX dX6_fewestBumps_208 rfl ?_
                                  refine g_iload_9 hX dX6_fewestBumps_210 ?_
                                  refine g_if_ne hX 272 dX6_fewestBumps_212 (by decide) (fun c212 => ?_) (fun c212 => ?_)
                                  · refine g_iinc_7 hX 1 dX6_fewestBumps_272 (by decide) rfl ?_
                                    refine g_goto hX 125 dX6_fewestBumps_275 (by decide) ?_
                                    exact g_weak (lvw_c (lvw_c (lvw_c (lvw_c (lvw_c (lvw_c (lvw_c (lvw_c (lvw_n (lvw_n (lvw_n lvw_nil))))))))))) (ih125 _ _ ⟨⟨hO3.1, by rw [tB_min, if_pos (bI_nz.mp c212)]; exact hO3.2.1, fun _ => hsp⟩, by simp only [nI_succ]⟩)
                                  · refine g_iconst hX 2 dX6_fewestBumps_215 (by decide) ?_
                                    refine g_iload_10 hX dX6_fewestBumps_216 ?_
                                    refine g_imul hX dX6_fewestBumps_218 ?_
                                    refine g_top (nI (2 * (eI ((h : Int) - 8 + (stp (mv b) l i)) k).natAbs)) (pk_mul 2 _) ?_
                                    refine g_aload_0 hX dX6_fewestBumps_219 ?_
                                    refine gt_X6_now hX dX6_fewestBumps_220 ?_
                                    refine g_bipush hX 7 dX6_fewestBumps_223 (by decide) ?_
                                    refine g_ialdN (k := 7) hX (ar_71 Z) (by decide) (by decide) dX6_fewestBumps_225 ?_
                                    refine g_top (nI (phN (mv b))) f71 ?_
                                    refine g_icmp_gt hX 272 dX6_fewestBumps_226 (by decide) (fun c226 => ?_) (fun c226 => ?_)
                                    · refine g_iinc_7 hX 1 dX6_fewestBumps_272 (by decide) rfl ?_
                                      refine g_goto hX 125 dX6_fewestBumps_275 (by decide) ?_
                                      exact g_weak (lvw_c (lvw_c (lvw_c (lvw_c (lvw_c (lvw_c (lvw_c (lvw_c (lvw_n (lvw_n (lvw_n lvw_nil))))))))))) (ih125 _ _ ⟨⟨hO3.1, by rw [tB_min, if_neg (bI_z.mp c212), if_neg (fun z => nI_nlt z (by omega) c226)]; exact hO3.2.1, fun _ => hsp⟩, by simp only [nI_succ]⟩)
                                    · have h2e : 2 * (eI ((h : Int) - 8 + (stp (mv b) l i)) k).natAbs ≤ phN (mv b) := by
                                        rcases Nat.lt_or_ge (phN (mv b)) (2 * (eI ((h : Int) - 8 + (stp (mv b) l i)) k).natAbs) with q | q
                                        · exact absurd (nI_lt q (by omega)) c226
                                        · exact q
                                      have he3 : (eI ((h : Int) - 8 + (stp (mv b) l i)) k).natAbs ≤ 3 := by omega
                                      refine g_aload_0 hX dX6_fewestBumps_229 ?_
                                      refine gt_X6_fewest hX dX6_fewestBumps_230 ?_
                                      refine g_iload_5 hX dX6_fewestBumps_233 ?_
                                      refine g_ialdN (k := h) hX (ar_77 Z) (by omega) (by decide) dX6_fewestBumps_235 ?_
                                      refine g_top (nI ((tF (mv b) l i) ((h : Int) - 8))) f77 ?_
                                      refine g_iload_7 hX dX6_fewestBumps_236 ?_
                                      refine g_iadd hX dX6_fewestBumps_238 ?_
                                      refine g_top (nI (((tF (mv b) l i) ((h : Int) - 8)) + k)) (by rw [nI_add]) ?_
                                      refine g_aload_0 hX dX6_fewestBumps_239 ?_
                                      refine gt_X6_then hX dX6_fewestBumps_240 ?_
                                      refine g_iload_8 hX dX6_fewestBumps_243 ?_
                                      refine g_bipush hX 8 dX6_fewestBumps_245 (by decide) ?_
                                      refine g_iadd hX dX6_fewestBumps_247 ?_
                                      refine g_top (nI ((eI ((h : Int) - 8 + (stp (mv b) l i)) k) + 8).toNat) (by rw [show (8 : Int32) = zI 8 from rfl, zI_add, zI_nat (by omega)]) ?_
                                      refine g_ialdN (k := ((eI ((h : Int) - 8 + (stp (mv b) l i)) k) + 8).toNat) hX (ar_78 Z) (by omega) (by decide) dX6_fewestBumps_248 ?_
                                      refine g_top (nI ((tB (tX (tF (mv b) l i) (stp (mv b) l i) (roN (mv b) l i) (phN (mv b)) h) ((h : Int) - 8 + (stp (mv b) l i)) ((tF (mv b) l i) ((h : Int) - 8)) (phN (mv b)) (min k (((h : Int) - 8 + (stp (mv b) l i)).natAbs + 1))) (eI ((h : Int) - 8 + (stp (mv b) l i)) k))) (by rw [hO3.2.1 _ (by omega), show (((eI ((h : Int) - 8 + (stp (mv b) l i)) k) + 8).toNat : Int) - 8 = (eI ((h : Int) - 8 + (stp (mv b) l i)) k) by omega]) ?_
                                      refine g_icmp_ge hX 272 dX6_fewestBumps_249 (by decide) (fun c249 => ?_) (fun c249 => ?_)
                                      · refine g_iinc_7 hX 1 dX6_fewestBumps_272 (by decide) rfl ?_
                                        refine g_goto hX 125 dX6_fewestBumps_275 (by decide) ?_
                                        exact g_weak (lvw_c (lvw_c (lvw_c (lvw_c (lvw_c (lvw_c (lvw_c (lvw_c (lvw_n (lvw_n (lvw_n lvw_nil))))))))))) (ih125 _ _ ⟨⟨hO3.1, by rw [tB_min, if_neg (bI_z.mp c212), if_pos h2e]; exact Rm_st hO3.2.1 (fun z => c249 (nI_lt z (Nat.lt_of_le_of_lt hTe (by decide)))), fun _ => hsp⟩, by simp only [nI_succ]⟩)
                                      · refine g_aload_0 hX dX6_fewestBumps_252 ?_
                                        refine gt_X6_then hX dX6_fewestBumps_253 ?_
                                        refine g_iload_8 hX dX6_fewestBumps_256 ?_
                                        refine g_bipush hX 8 dX6_fewestBumps_258 (by decide) ?_
                                        refine g_iadd hX dX6_fewestBumps_260 ?_
                                        refine g_top (nI ((eI ((h : Int) - 8 + (stp (mv b) l i)) k) + 8).toNat) (by rw [show (8 : Int32) = zI 8 from rfl, zI_add, zI_nat (by omega)]) ?_
                                        refine g_aload_0 hX dX6_fewestBumps_261 ?_
                                        refine gt_X6_fewest hX dX6_fewestBumps_262 ?_
                                        refine g_iload_5 hX dX6_fewestBumps_265 ?_
                                        refine g_ialdN (k := h) hX (ar_77 Z) (by omega) (by decide) dX6_fewestBumps_267 ?_
                                        refine g_top (nI ((tF (mv b) l i) ((h : Int) - 8))) f77 ?_
                                        refine g_iload_7 hX dX6_fewestBumps_268 ?_
                                        refine g_iadd hX dX6_fewestBumps_270 ?_
                                        refine g_top (nI (((tF (mv b) l i) ((h : Int) - 8)) + k)) (by rw [nI_add]) ?_
                                        refine g_iastN (k := ((eI ((h : Int) - 8 + (stp (mv b) l i)) k) + 8).toNat) hX (ar_78 Z) (by omega) (by decide) dX6_fewestBumps_271 ?_
                                        refine g_iinc_7 hX 1 dX6_fewestBumps_272 (by decide) rfl ?_
                                        refine g_goto hX 125 dX6_fewestBumps_275 (by decide) ?_
                                        exact g_weak (lvw_c (lvw_c (lvw_c (lvw_c (lvw_c (lvw_c (lvw_c (lvw_c (lvw_n (lvw_n (lvw_n lvw_nil))))))))))) (ih125 _ _ ⟨⟨fun j hj => by rw [u2c _ _ hj]; exact hO3.1 j hj, by rw [tB_min, if_neg (bI_z.mp c212), if_pos h2e]; exact Rm_up hO3.2.1 he3 ((nI_ltI (by omega) (Nat.lt_of_le_of_lt hTe (by decide))).mp c249), fun _ => hsp⟩, by simp only [nI_succ]⟩)
                                · refine g_iload_8 hX dX6_fewestBumps_200 ?_
                                  refine g_ineg hX dX6_fewestBumps_202 ?_
                                  refine g_goto hX 208 dX6_fewestBumps_203 (by decide) ?_
                                  refine g_top (nI (eI ((h : Int) - 8 + (stp (mv b) l i)) k).natAbs) (by first | exact (absN hei).1 c197 | exact (absN hei).2 c197) ?_
                                  refine g_istore_10 hX dX6_fewestBumps_208 rfl ?_
                                  refine g_iload_9 hX dX6_fewestBumps_210 ?_
                                  refine g_if_ne hX 272 dX6_fewestBumps_212 (by decide) (fun c212 => ?_) (fun c212 => ?_)
                                  · refine g_iinc_7 hX 1 dX6_fewestBumps_272 (by decide) rfl ?_
                                    refine g_goto hX 125 dX6_fewestBumps_275 (by decide) ?_
                                    exact g_weak (lvw_c (lvw_c (lvw_c (lvw_c (lvw_c (lvw_c (lvw_c (lvw_c (lvw_n (lvw_n (lvw_n lvw_nil))))))))))) (ih125 _ _ ⟨⟨hO3.1, by rw [tB_min, if_pos (bI_nz.mp c212)]; exact hO3.2.1, fun _ => hsp⟩, by simp only [nI_succ]⟩)
                                  · refine g_iconst hX 2 dX6_fewestBumps_215 (by decide) ?_
                                    refine g_iload_10 hX dX6_fewestBumps_216 ?_
                                    refine g_imul hX dX6_fewestBumps_218 ?_
                                    refine g_top (nI (2 * (eI ((h : Int) - 8 + (stp (mv b) l i)) k).natAbs)) (pk_mul 2 _) ?_
                                    refine g_aload_0 hX dX6_fewestBumps_219 ?_
                                    refine gt_X6_now hX dX6_fewestBumps_220 ?_
                                    refine g_bipush hX 7 dX6_fewestBumps_223 (by decide) ?_
                                    refine g_ialdN (k := 7) hX (ar_71 Z) (by decide) (by decide) dX6_fewestBumps_225 ?_
                                    refine g_top (nI (phN (mv b))) f71 ?_
                                    refine g_icmp_gt hX 272 dX6_fewestBumps_226 (by decide) (fun c226 => ?_) (fun c226 => ?_)
                                    · refine g_iinc_7 hX 1 dX6_fewestBumps_272 (by decide) rfl ?_
                                      refine g_goto hX 125 dX6_fewestBumps_275 (by decide) ?_
                                      exact g_weak (lvw_c (lvw_c (lvw_c (lvw_c (lvw_c (lvw_c (lvw_c (lvw_c (lvw_n (lvw_n (lvw_n lvw_nil))))))))))) (ih125 _ _ ⟨⟨hO3.1, by rw [tB_min, if_neg (bI_z.mp c212), if_neg (fun z => nI_nlt z (by omega) c226)]; exact hO3.2.1, fun _ => hsp⟩, by simp only [nI_succ]⟩)
                                    · have h2e : 2 * (eI ((h : Int) - 8 + (stp (mv b) l i)) k).natAbs ≤ phN (mv b) := by
                                        rcases Nat.lt_or_ge (phN (mv b)) (2 * (eI ((h : Int) - 8 + (stp (mv b) l i)) k).natAbs) with q | q
                                        · exact absurd (nI_lt q (by omega)) c226
                                        · exact q
                                      have he3 : (eI ((h : Int) - 8 + (stp (mv b) l i)) k).natAbs ≤ 3 := by omega
                                      refine g_aload_0 hX dX6_fewestBumps_229 ?_
                                      refine gt_X6_fewest hX dX6_fewestBumps_230 ?_
                                      refine g_iload_5 hX dX6_fewestBumps_233 ?_
                                      refine g_ialdN (k := h) hX (ar_77 Z) (by omega) (by decide) dX6_fewestBumps_235 ?_
                                      refine g_top (nI ((tF (mv b) l i) ((h : Int) - 8))) f77 ?_
                                      refine g_iload_7 hX dX6_fewestBumps_236 ?_
                                      refine g_iadd hX dX6_fewestBumps_238 ?_
                                      refine g_top (nI (((tF (mv b) l i) ((h : Int) - 8)) + k)) (by rw [nI_add]) ?_
                                      refine g_aload_0 hX dX6_fewestBumps_239 ?_
                                      refine gt_X6_then hX dX6_fewestBumps_240 ?_
                                      refine g_iload_8 hX dX6_fewestBumps_243 ?_
                                      refine g_bipush hX 8 dX6_fewestBumps_245 (by decide) ?_
                                      refine g_iadd hX dX6_fewestBumps_247 ?_
                                      refine g_top (nI ((eI ((h : Int) - 8 + (stp (mv b) l i)) k) + 8).toNat) (by rw [show (8 : Int32) = zI 8 from rfl, zI_add, zI_nat (by omega)]) ?_
                                      refine g_ialdN (k := ((eI ((h : Int) - 8 + (stp (mv b) l i)) k) + 8).toNat) hX (ar_78 Z) (by omega) (by decide) dX6_fewestBumps_248 ?_
                                      refine g_top (nI ((tB (tX (tF (mv b) l i) (stp (mv b) l i) (roN (mv b) l i) (phN (mv b)) h) ((h : Int) - 8 + (stp (mv b) l i)) ((tF (mv b) l i) ((h : Int) - 8)) (phN (mv b)) (min k (((h : Int) - 8 + (stp (mv b) l i)).natAbs + 1))) (eI ((h : Int) - 8 + (stp (mv b) l i)) k))) (by rw [hO3.2.1 _ (by omega), show (((eI ((h : Int) - 8 + (stp (mv b) l i)) k) + 8).toNat : Int) - 8 = (eI ((h : Int) - 8 + (stp (mv b) l i)) k) by omega]) ?_
                                      refine g_icmp_ge hX 272 dX6_fewestBumps_249 (by decide) (fun c249 => ?_) (fun c249 => ?_)
                                      · refine g_iinc_7 hX 1 dX6_fewestBumps_272 (by decide) rfl ?_
                                        refine g_goto hX 125 dX6_fewestBumps_275 (by decide) ?_
                                        exact g_weak (lvw_c (lvw_c (lvw_c (lvw_c (lvw_c (lvw_c (lvw_c (lvw_c (lvw_n (lvw_n (lvw_n lvw_nil))))))))))) (ih125 _ _ ⟨⟨hO3.1, by rw [tB_min, if_neg (bI_z.mp c212), if_pos h2e]; exact Rm_st hO3.2.1 (fun z => c249 (nI_lt z (Nat.lt_of_le_of_lt hTe (by decide)))), fun _ => hsp⟩, by simp only [nI_succ]⟩)
                                      · refine g_aload_0 hX dX6_fewestBumps_252 ?_
                                        refine gt_X6_then hX dX6_fewestBumps_253 ?_
                                        refine g_iload_8 hX dX6_fewestBumps_256 ?_
                                        refine g_bipush hX 8 dX6_fewestBumps_258 (by decide) ?_
                                        refine g_iadd hX dX6_fewestBumps_260 ?_
                                        refine g_top (nI ((eI ((h : Int) - 8 + (stp (mv b) l i)) k) + 8).toNat) (by rw [show (8 : Int32) = zI 8 from rfl, zI_add, zI_nat (by omega)]) ?_
                                        refine g_aload_0 hX dX6_fewestBumps_261 ?_
                                        refine gt_X6_fewest hX dX6_fewestBumps_262 ?_
                                        refine g_iload_5 hX dX6_fewestBumps_265 ?_
                                        refine g_ialdN (k := h) hX (ar_77 Z) (by omega) (by decide) dX6_fewestBumps_267 ?_
                                        refine g_top (nI ((tF (mv b) l i) ((h : Int) - 8))) f77 ?_
                                        refine g_iload_7 hX dX6_fewestBumps_268 ?_
                                        refine g_iadd hX dX6_fewestBumps_270 ?_
                                        refine g_top (nI (((tF (mv b) l i) ((h : Int) - 8)) + k)) (by rw [nI_add]) ?_
                                        refine g_iastN (k := ((eI ((h : Int) - 8 + (stp (mv b) l i)) k) + 8).toNat) hX (ar_78 Z) (by omega) (by decide) dX6_fewestBumps_271 ?_
                                        refine g_iinc_7 hX 1 dX6_fewestBumps_272 (by decide) rfl ?_
                                        refine g_goto hX 125 dX6_fewestBumps_275 (by decide) ?_
                                        exact g_weak (lvw_c (lvw_c (lvw_c (lvw_c (lvw_c (lvw_c (lvw_c (lvw_c (lvw_n (lvw_n (lvw_n lvw_nil))))))))))) (ih125 _ _ ⟨⟨fun j hj => by rw [u2c _ _ hj]; exact hO3.1 j hj, by rw [tB_min, if_neg (bI_z.mp c212), if_pos h2e]; exact Rm_up hO3.2.1 he3 ((nI_ltI (by omega) (Nat.lt_of_le_of_lt hTe (by decide))).mp c249), fun _ => hsp⟩, by simp only [nI_succ]⟩)
                    · rintro m3 _ ⟨hO3, rfl⟩
                      refine g_iload_7 hX dX6_fewestBumps_125 ?_
                      refine g_iload_4 hX dX6_fewestBumps_127 ?_
                      refine g_icmp_gt hX 278 dX6_fewestBumps_129 (by decide) (fun c129 => ?_) (fun c129 => ?_)
                      · refine g_iinc_5 hX 1 dX6_fewestBumps_278 (by decide) rfl ?_
                        refine g_goto hX 106 dX6_fewestBumps_281 (by decide) ?_
                        exact g_weak (lvw_c (lvw_c (lvw_c (lvw_c (lvw_c (lvw_c (lvw_n (lvw_n (lvw_n (lvw_n (lvw_n lvw_nil))))))))))) (ih106 _ _ ⟨⟨fun j hj => by rw [hO3.1 j hj]; exact hO2.1 j hj, by rw [tX_do hk106 hFk (hO3.2.2 (by omega))]; exact hO3.2.1⟩, by simp only [nI_succ]⟩)
                      · exact absurd c129 (not_not_intro (nI_lt (by omega) (by omega)))
                · rintro m2 _ ⟨hO2, rfl⟩
                  refine g_iload_5 hX dX6_fewestBumps_106 ?_
                  refine g_bipush hX 17 dX6_fewestBumps_108 (by decide) ?_
                  refine g_icmp_ge hX 284 dX6_fewestBumps_110 (by decide) (fun c110 => ?_) (fun c110 => ?_)
                  · refine g_iconst hX 0 dX6_fewestBumps_284 (by decide) ?_
                    refine g_istore_5 hX dX6_fewestBumps_285 rfl ?_
                    refine g_loop (17) (fun k => up1 m2 77 (cpF (m2 78) (m2 77) 0 k)) (fun k => [some (.ref (zad Z 69)), some (.int (nI l)), some (.int (nI i)), some (.int (zI (stp (mv b) l i))), some (.int (nI (roN (mv b) l i))), some (.int (nI k)), none, none, none, none, none]) (cpF_0 m2 77 _ _) rfl (fun k hk287 ih287 => ?_) ?_
                    · show G Z X (up1 m2 77 (cpF (m2 78) (m2 77) 0 k)) 287 ([some (.ref (zad Z 69)), some (.int (nI l)), some (.int (nI i)), some (.int (zI (stp (mv b) l i))), some (.int (nI (roN (mv b) l i))), some (.int (nI k)), none, none, none, none, none]) _
                      refine g_iload_5 hX dX6_fewestBumps_287 ?_
                      refine g_bipush hX 17 dX6_fewestBumps_289 (by decide) ?_
                      refine g_icmp_ge hX 314 dX6_fewestBumps_291 (by decide) (fun c291 => ?_) (fun c291 => ?_)
                      · exact absurd c291 (not_not_intro (nI_lt (b := 17) hk287 (by decide)))
                      · refine g_aload_0 hX dX6_fewestBumps_294 ?_
                        refine gt_X6_fewest hX dX6_fewestBumps_295 ?_
                        refine g_iload_5 hX dX6_fewestBumps_298 ?_
                        refine g_aload_0 hX dX6_fewestBumps_300 ?_
                        refine gt_X6_then hX dX6_fewestBumps_301 ?_
                        refine g_iload_5 hX dX6_fewestBumps_304 ?_
                        refine g_ialdN (k := k) hX (ar_78 Z) (by omega) (by decide) dX6_fewestBumps_306 ?_
                        refine g_iastN (k := k) hX (ar_77 Z) (by omega) (by decide) dX6_fewestBumps_307 ?_
                        refine g_iinc_5 hX 1 dX6_fewestBumps_308 (by decide) rfl ?_
                        refine g_goto hX 287 dX6_fewestBumps_311 (by decide) ?_
                        exact g_cast ih287 (by rw [u1c _ _ (show (78 : Nat) ≠ 77 by decide)]; have := cpF_s m2 77 (m2 78) (m2 77) 0 k; rw [Nat.zero_add] at this; exact this) (by simp only [nI_succ]) rfl
                    · show G Z X (up1 m2 77 (cpF (m2 78) (m2 77) 0 (17))) 287 ([some (.ref (zad Z 69)), some (.int (nI l)), some (.int (nI i)), some (.int (zI (stp (mv b) l i))), some (.int (nI (roN (mv b) l i))), some (.int (nI (17))), none, none, none, none, none]) _
                      refine g_iload_5 hX dX6_fewestBumps_287 ?_
                      refine g_bipush hX 17 dX6_fewestBumps_289 (by decide) ?_
                      refine g_icmp_ge hX 314 dX6_fewestBumps_291 (by decide) (fun c291 => ?_) (fun c291 => ?_)
                      · refine g_iinc_2 hX 1 dX6_fewestBumps_314 (by decide) rfl ?_
                        refine g_goto hX 35 dX6_fewestBumps_317 (by decide) ?_
                        exact g_weak (lvw_c (lvw_c (lvw_c (lvw_n (lvw_n (lvw_n (lvw_n (lvw_n (lvw_n (lvw_n (lvw_n lvw_nil))))))))))) (ih35 _ _ ⟨⟨fun j h1 h2 => by rw [u1c _ _ h1, hO2.1 j h2, u1c _ _ h2, hI.1 j h1 h2], fun a ha => by
  rw [u1s]
  have := cpF_in (f := m2 78) (g := m2 77) (o := 0) ha
  rw [Nat.zero_add] at this
  rw [this]
  exact hO2.2 a ha⟩, by simp only [nI_succ]⟩)
                      · exact absurd c291 (Int32.lt_irrefl)
                  · exact absurd c110 (Int32.lt_irrefl)
              · exact absurd c84 (Int32.lt_irrefl)
      · rintro m _ ⟨hI, rfl⟩
        refine g_iload_2 hX dX6_fewestBumps_35 ?_
        refine g_aload_0 hX dX6_fewestBumps_36 ?_
        refine g_iload_1 hX dX6_fewestBumps_37 ?_
        refine g_cV1r hX mkX6_runsOf ml_X6_69 (c_X6_runsOf hl6) (ob_69 Z _) dX6_fewestBumps_38 rfl (by decide) (Nat.le_of_ble_eq_true rfl) ?_
        refine g_icmp_ge hX 320 dX6_fewestBumps_41 (by decide) (fun c41 => ?_) (fun c41 => ?_)
        · refine g_aload_0 hX dX6_fewestBumps_320 ?_
          refine gt_X6_fewest hX dX6_fewestBumps_321 ?_
          refine g_bipush hX 8 dX6_fewestBumps_324 (by decide) ?_
          refine g_ialdN (k := 8) hX (ar_77 Z) (by decide) (by decide) dX6_fewestBumps_326 ?_
          refine g_top (nI (tF (mv b) l (rn (mv b) l) 0)) (hI.2 8 (by decide)) ?_
          have hFz := tF_k hV l (rn (mv b) l)
          refine g_sipush hX 1000 dX6_fewestBumps_327 (by decide) ?_
          refine g_icmp_ge hX 343 dX6_fewestBumps_330 (by decide) (fun c330 => ?_) (fun c330 => ?_)
          · refine g_iconst hX (-1) dX6_fewestBumps_343 (by decide) ?_
            exact hq _ _ _ _ dX6_fewestBumps_344 (⟨by first | (rw [bpV, if_pos ((nI_ltI (b := 1000) (by have := (hFz 0).1; omega) (by decide)).mp c330)]) | (rw [bpV, if_neg (fun z => c330 (nI_lt z (by decide)))]), MG.same (fun j hj => hI.1 j (by omega) (by omega))⟩)
          · refine g_aload_0 hX dX6_fewestBumps_333 ?_
            refine gt_X6_fewest hX dX6_fewestBumps_334 ?_
            refine g_bipush hX 8 dX6_fewestBumps_337 (by decide) ?_
            refine g_ialdN (k := 8) hX (ar_77 Z) (by decide) (by decide) dX6_fewestBumps_339 ?_
            refine g_top (nI (tF (mv b) l (rn (mv b) l) 0)) (hI.2 8 (by decide)) ?_
            refine g_goto hX 344 dX6_fewestBumps_340 (by decide) ?_
            exact hq _ _ _ _ dX6_fewestBumps_344 (⟨by first | (rw [bpV, if_pos ((nI_ltI (b := 1000) (by have := (hFz 0).1; omega) (by decide)).mp c330)]) | (rw [bpV, if_neg (fun z => c330 (nI_lt z (by decide)))]), MG.same (fun j hj => hI.1 j (by omega) (by omega))⟩)
        · exact absurd c41 (by rw [hI.1 71 (by decide) (by decide), hr]; exact Int32.lt_irrefl)
    · exact absurd c5 (Int32.lt_irrefl)
set_option maxRecDepth 100000 in
set_option maxHeartbeats 4000000 in
theorem c_X6_bumps {Z : Zt} {b : Mem} {l : Int32} (hV : Val (mv b))  : ConE Z yX6_bumps cX6_bumps 2 (some .int) 3 [.ref (zad Z 69), .int l] b (pI (fun x b' => x = buR (mv b) l ∧ MG b (buC (mv b) l) b')) := by
  have hn : b 71 0 = nI (nl (mv b)) := hV.1.1
  have hn6 := hV.1.2
  refine conE_i (by decide) (Nat.le_of_ble_eq_true rfl) rfl (fun X hX hq => ?_)
  have hX : Ok Z X cX6_bumps 2 RX6 3 := hX
  show G Z X b 0 [some (.ref (zad Z 69)), some (.int l)] []
  refine g_aload_0 hX dX6_bumps_0 ?_
  refine g_iload_1 hX dX6_bumps_1 ?_
  refine g_cV1r hX mkX6_isLine ml_X6_65 (c_X6_isLine hV) (ob_69 Z _) dX6_bumps_2 rfl (by decide) (Nat.le_of_ble_eq_true rfl) ?_
  refine g_if_eq hX 16 dX6_bumps_5 (by decide) (fun c5 => ?_) (fun c5 => ?_)
  · replace c5 := bI_z.mp c5
    refine g_aload_0 hX dX6_bumps_16 ?_
    refine g_cV0r hX mkX6_bad ml_X6_43 (c_X6_bad) (ob_69 Z _) dX6_bumps_17 rfl (by decide) (Nat.le_of_ble_eq_true rfl) ?_
    exact hq _ _ _ _ dX6_bumps_20 (⟨by rw [buR, cl_f (show ¬ okL (mv b) l from c5)], by rw [buC, cl_f (show ¬ okL (mv b) l from c5)]; exact MG.bad b⟩)
  · replace c5 := bI_nz.mp c5
    obtain ⟨j, hj, rfl⟩ := in_of c5.1 (by have := c5.2; rw [hn] at this; exact this) (by omega)
    have hjc : (nI j).toNatClampNeg = j := nI_clamp (by omega)
    refine g_aload_0 hX dX6_bumps_8 ?_
    refine g_iload_1 hX dX6_bumps_9 ?_
    refine g_eV1i hX mkX6_fewestBumps ml_X6_194 (c_X6_fewestBumps hV hj) (ob_69 Z _) dX6_bumps_10 rfl (by decide) (Nat.le_of_ble_eq_true rfl) (fun x10 m10 h10 => ?_)
    refine g_goto hX 20 dX6_bumps_13 (by decide) ?_
    exact hq _ _ _ _ dX6_bumps_20 (⟨by rw [buR, cl_t (show okL (mv b) (nI j) from c5), hjc]; exact h10.1, by rw [buC, cl_t (show okL (mv b) (nI j) from c5)]; exact h10.2⟩)
