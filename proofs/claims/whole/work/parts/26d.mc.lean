/-! the reference: an order -/
theorem Fg_e {b m : Mem} (h : m 79 = b 79) (n p : Nat) : Fg m n p ↔ Fg b n p := by unfold Fg; rw [byT_e h]
theorem vN_e {b m : Mem} (h : m 79 = b 79) (p k : Nat) : vN m p k = vN b p k := by
  induction k with
  | zero => rfl
  | succ k ih => simp only [vN]; rw [ih, h]
def nmP (b0 b : Mem) (n p g w : Nat) (o : Int32) (x : Int32) (b' : Mem) : Prop :=
  (x = -1 ∧ ∃ p', b' = up2 b 69 14 (nI p') ∧ FL b0 n p') ∨
  (¬ x = -1 ∧ ∃ q f', b' = up2 b 69 14 (nI q) ∧ (p < q ∧ q ≤ n) ∧ ¬ byT b0 n q = 32 ∧ GS b0 q o (g + 1) f' w ∧ (f' = 0 ∨ ¬ Fg b0 n q) ∧ x = prM b0 q 55 (w * 3 + g) ∧ prM b0 q 54 = prM b0 p 54 ∧ ∀ i, i ≠ w * 3 + g → prM b0 q 55 i = prM b0 p 55 i)
theorem c_X6_numberE {Z : Zt} {b b0 : Mem} {n p g f w : Nat} {o : Int32} (e79 : b 79 = b0 79) (ht : b 69 11 = nI n) (hn : n ≤ 120) (hl : b 69 14 = nI p) (hT : ∀ k, k < n → b0 53 k = b0 79 k) (h : GS b0 p o g f w) (ho : ¬ o = 0) (hg : g < nOf o) (hp : p ≤ n) (h32 : ¬ byT b0 n p = 32) (hf : f = 0 ∨ ¬ Fg b0 n p) : ConE Z yX6_number cX6_number 3 (some .int) 2 [.ref (zad Z 69)] b (pI (nmP b0 b n p g w o)) := by
  rcases num_ghost hT hn h ho hg hp h32 hf with ⟨a1, a2⟩ | ⟨a1, a2, a3⟩ | ⟨d, q, f', a1, a2, a3, a4, a5, a6, a7, a8, a9, a10, a11, a12⟩
  · refine (c_X6_number_0 ht hn (by omega) hl (by rw [Fg_e e79]; exact a1)).toE ⟨_, rfl, Or.inl ⟨rfl, p, up2_self hl, a2⟩⟩
  · refine (c_X6_number_4 (d := 3) ht hn (by omega) hl (by omega) (fun k hk => (Fg_e e79 _ _).mpr (a1 k hk)) rfl ((Fg_e e79 _ _).mpr a2)).toE ⟨_, rfl, Or.inl ⟨rfl, p + 3, rfl, a3⟩⟩
  · refine (c_X6_number_d (d := d) (q := q) ht hn (by omega) hl a1 (fun k hk => (Fg_e e79 _ _).mpr (a2 k hk)) (by rw [Fg_e e79]; exact a3) a4.1 (by omega) (fun k k1 k2 => by rw [byT_e e79]; exact a5 k k1 k2) (by rw [byT_e e79]; exact a6)).toE ⟨_, rfl, Or.inr ⟨by rw [vN_e e79]; exact a10, q, f', rfl, by omega, a6, a7, a8, by rw [vN_e e79]; exact a9.symm, a11, a12⟩⟩
def OR (m b0 : Mem) (p w : Nat) : Prop := ∀ i, i < w → m 80 (4 * i) = prM b0 p 54 i ∧ ¬ nOf (prM b0 p 54 i) = 0 ∧ ∀ j, j < nOf (prM b0 p 54 i) → m 80 (4 * i + 1 + j) = prM b0 p 55 (i * 3 + j)
def Fr (b b' : Mem) : Prop := (∀ j, j ≠ 69 → j ≠ 80 → b' j = b j) ∧ b' 69 3 = b 69 3 ∧ b' 69 11 = b 69 11
theorem Fr.up {b m : Mem} (h : Fr b m) {i : Nat} {x : Int32} (h3 : i ≠ 3) (h11 : i ≠ 11) : Fr b (up2 m 69 i x) := ⟨fun j h1 h2 => by rw [u2c _ _ h1]; exact h.1 j h1 h2, by rw [u2k _ _ (fun z => h3 z.symm)]; exact h.2.1, by rw [u2k _ _ (fun z => h11 z.symm)]; exact h.2.2⟩
theorem Fr.up80 {b m : Mem} (h : Fr b m) {i : Nat} {x : Int32} : Fr b (up2 m 80 i x) := ⟨fun j h1 h2 => by rw [u2c _ _ h2]; exact h.1 j h1 h2, by rw [u2c _ _ (by decide)]; exact h.2.1, by rw [u2c _ _ (by decide)]; exact h.2.2⟩
theorem Fr.rf (b : Mem) : Fr b b := ⟨fun _ _ _ => rfl, rfl, rfl⟩
theorem Fr.tr {a b c : Mem} (h : Fr a b) (g : Fr b c) : Fr a c := ⟨fun j h1 h2 => by rw [g.1 j h1 h2, h.1 j h1 h2], g.2.1.trans h.2.1, g.2.2.trans h.2.2⟩
theorem GS.w3 {b0 : Mem} {p g f w : Nat} {o : Int32} (h : GS b0 p o g f w) (hTI : TI b0) (hp : p ≤ 120) : 3 * w ≤ p := by
  obtain ⟨w', g', f', e, -, -, -, -, hw, -⟩ := PI_all hTI hp h.2.2 p (Nat.le_refl _)
  rw [h.1.2.2.2] at e
  have := h.2.1.2.2
  rcases Nat.lt_or_ge w' (2 ^ 31) with z | z
  · have := (nI_eq (by omega) z).mp e; omega
  · omega
def rdP (b0 b : Mem) (n p w : Nat) (x : Int32) (b' : Mem) : Prop :=
  (x = 0 ∧ Fr b b' ∧ ∃ p', b' 69 14 = nI p' ∧ (FL b0 n p' ∨ p' = n ∧ p' = p)) ∨
  (x = 1 ∧ Fr b b' ∧ ∃ p' g' f', (p < p' ∧ p' ≤ n) ∧ GS b0 p' 0 g' f' (w + 1) ∧ ¬ byT b0 n p' = 32 ∧ b' 69 14 = nI p' ∧ b' 69 13 = nI (w + 1) ∧ OR b' b0 p' (w + 1))
/-- within an order: k numbers are read -/
def RS (b0 b : Mem) (n p q w : Nat) (c : Int32) (k : Nat) (m : Mem) : Prop := Fr b m ∧ m 69 13 = nI w ∧ ∃ p2 f2, m 69 14 = nI p2 ∧ (q ≤ p2 ∧ p2 ≤ n) ∧ GS b0 p2 c k f2 w ∧ ¬ byT b0 n p2 = 32 ∧ (f2 = 0 ∨ ¬ Fg b0 n p2) ∧ prM b0 p2 54 = prM b0 p 54 ∧ (∀ i, i < w * 3 → prM b0 p2 55 i = prM b0 p 55 i) ∧ m 80 (4 * w) = c ∧ (∀ i, i < 4 * w → m 80 i = b 80 i) ∧ ∀ j, j < k → m 80 (4 * w + 1 + j) = prM b0 p2 55 (w * 3 + j)
theorem RS_next {b0 b m m' : Mem} {n p q w k : Nat} {c x : Int32} (h : RS b0 b n p q w c k m) {p2 : Nat} (hl : m 69 14 = nI p2) (hp2 : p2 ≤ n) (hn : n ≤ 120) (hx : nmP b0 m n p2 k w c x m') (hx1 : ¬ x = -1) : RS b0 b n p q w c (k + 1) (up2 m' 80 (4 * w + 1 + k) x) := by
  obtain ⟨h1, h2, p3, f2, h3, h4, h5, h6, h7, h8, h9, h10, h11, h12⟩ := h
  have e : p3 = p2 := by rw [h3] at hl; exact (nI_eq (by omega) (by omega)).mp hl
  subst e
  rcases hx with ⟨z, _⟩ | ⟨_, q', f', rfl, g1, g2, g3, g4, g5, g6, g7⟩
  · exact absurd z hx1
  · refine ⟨(h1.up (by decide) (by decide)).up80, by rw [u2c _ _ (by decide), u2k _ _ (by decide)]; exact h2, q', f', by rw [u2c _ _ (by decide), u2s], by omega, g3, g2, g4, g6.trans h8, fun i hi => by rw [g7 i (by omega)]; exact h9 i hi, ?_, fun i hi => ?_, fun j hj => ?_⟩
    · rw [u2k _ _ (by omega), u2c _ _ (by decide)]; exact h10
    · rw [u2k _ _ (by omega), u2c _ _ (by decide)]; exact h11 i hi
    · by_cases z : j = k
      · subst z; rw [u2s]; exact g5
      · rw [u2k _ _ (by omega), u2c _ _ (by decide), g7 _ (by omega)]; exact h12 j (by omega)
set_option maxRecDepth 100000 in
set_option maxHeartbeats 4000000 in
theorem c_X6_reads {Z : Zt} {b : Mem} {b0 : Mem} {n p g f w : Nat} (e79 : b 79 = b0 79) (ht : b 69 11 = nI n) (hn : n ≤ 120) (hl : b 69 14 = nI p) (hw : b 69 13 = nI w) (hT : ∀ k, k < n → b0 53 k = b0 79 k) (hTI : TI b0) (h : GS b0 p 0 g f w) (hp : p ≤ n) (h32 : ¬ byT b0 n p = 32) (hor : OR b b0 p w) : ConE Z yX6_reads cX6_reads 5 (some .boolean) 3 [.ref (zad Z 69)] b (pI (rdP b0 b n p w)) := by
  have hw3 := h.w3 hTI (by omega)
  refine conE_z (by decide) (Nat.le_of_ble_eq_true rfl) rfl (fun X hX hq => ?_)
  have hX : Ok Z X cX6_reads 5 RX6 3 := hX
  show G Z X b 0 [some (.ref (zad Z 69)), none, none, none, none] []
  refine g_aload_0 hX dX6_reads_0 ?_
  refine g_aload_0 hX dX6_reads_1 ?_
  refine gt_X6_look hX dX6_reads_2 ?_
  refine g_top _ hl ?_
  refine g_cV1r hX mkX6_byteAt ml_X6_200 (c_X6_byteAt ht hn (by omega)) (ob_69 Z _) dX6_reads_5 rfl (by decide) (Nat.le_of_ble_eq_true rfl) ?_
  refine g_top (byT b0 n p) (byT_e e79 _ _) ?_
  obtain ⟨c, hc⟩ : ∃ c, c = byT b0 n p := ⟨_, rfl⟩
  rw [← hc]
  refine g_istore_1 hX dX6_reads_8 rfl ?_
  refine g_iload_1 hX dX6_reads_9 ?_
  refine g_cS1r hX mkX6_wants ml_X6_212 (c_X6_wants) dX6_reads_10 rfl (by decide) (Nat.le_of_ble_eq_true rfl) ?_
  refine g_istore_2 hX dX6_reads_13 rfl ?_
  refine g_iload_2 hX dX6_reads_14 ?_
  refine g_iconst hX (-1) dX6_reads_15 (by decide) ?_
  refine g_icmp_ne hX 21 dX6_reads_16 (by decide) (fun c16 => ?_) (fun c16 => ?_)
  · have hnc : ¬ nOf c = 0 := fun z => c16 (by rw [wtI, if_pos z])
    have ewt : wtI c = nI (nOf c) := by rw [wtI, if_neg hnc]
    have hno := nOf_le c
    have hc0 : ¬ c = 0 := by rintro rfl; exact hnc rfl
    have hpn : p < n := by
      rcases Nat.lt_or_ge p n with z | z
      · exact z
      · exfalso; unfold byT at hc; rw [if_neg (by omega)] at hc; rw [hc] at hnc; exact hnc rfl
    have hc53 : b0 53 p = c := by rw [hc, byT_53 hT hpn]
    obtain ⟨hg1, hg2⟩ := h.letter (by rw [hc53, hc]; exact h32) (by rw [hc53]; exact hnc)
    rw [hc53] at hg1
    obtain ⟨q, hq1, hq2, hq3, hq4⟩ := blank_ex b0 n (n - (p + 1)) (p + 1) (by omega)
    obtain ⟨hg3, hg4⟩ := GS.blanks hT (q - (p + 1)) (p + 1) 0 hg1 (fun k k1 k2 => hq3 k k1 (by omega))
    rw [show p + 1 + (q - (p + 1)) = q by omega, ite_self] at hg3
    rw [show p + 1 + (q - (p + 1)) = q by omega] at hg4
    rw [ewt]
    refine g_aload_0 hX dX6_reads_21 ?_
    refine g_dup hX dX6_reads_22 rfl ?_
    refine gt_X6_look hX dX6_reads_23 ?_
    refine g_iconst hX 1 dX6_reads_26 (by decide) ?_
    refine g_iadd hX dX6_reads_27 ?_
    refine g_top (nI (p + 1)) (by rw [hl, nI_1]) ?_
    refine pt_X6_look hX dX6_reads_28 ?_
    refine g_aload_0 hX dX6_reads_31 ?_
    refine g_cV0v hX mkX6_blanks ml_X6_209 (c_X6_blanks (b := up2 b 69 14 (nI (p + 1))) (n := n) (p := p + 1) (q := q) (by rw [u2k _ _ (by decide)]; exact ht) hn (u2s _ _ _ _) hq1 (by omega) (fun k h1 h2 => by rw [byT_e (show up2 b 69 14 (nI (p + 1)) 79 = b0 79 by rw [u2c _ _ (by decide)]; exact e79)]; exact hq3 k h1 h2) (by rw [byT_e (show up2 b 69 14 (nI (p + 1)) 79 = b0 79 by rw [u2c _ _ (by decide)]; exact e79)]; exact hq4)) (ob_69 Z _) dX6_reads_32 rfl (by decide) (Nat.le_of_ble_eq_true rfl) ?_
    rw [up2_up2]
    refine g_aload_0 hX dX6_reads_35 ?_
    refine gt_X6_orders hX dX6_reads_36 ?_
    refine g_iconst hX 4 dX6_reads_39 (by decide) ?_
    refine g_aload_0 hX dX6_reads_40 ?_
    refine gt_X6_written hX dX6_reads_41 ?_
    refine g_top (nI w) (by rw [u2k _ _ (by decide)]; exact hw) ?_
    refine g_imul hX dX6_reads_44 ?_
    refine g_top (nI (4 * w)) (pk_mul 4 w) ?_
    refine g_iload_1 hX dX6_reads_45 ?_
    refine g_iastN (k := (4 * w)) hX (ar_80 Z) (by omega) (by decide) dX6_reads_46 ?_
    refine g_iconst hX 0 dX6_reads_47 (by decide) ?_
    refine g_istore_3 hX dX6_reads_48 rfl ?_
    refine g_weak (lvw_c (lvw_c (lvw_c (lvw_c (lvw_n lvw_nil))))) (g_loopI (nOf c) (fun k m LL => (RS b0 b n p q w c k m) ∧ LL = [some (.ref (zad Z 69)), some (.int c), some (.int (nI (nOf c))), some (.int (nI k)), none]) ⟨⟨((Fr.rf b).up (by decide) (by decide)).up80, by rw [u2c _ _ (by decide), u2k _ _ (by decide)]; exact hw, q, 0, by rw [u2c _ _ (by decide), u2s], by omega, hg3, hq4, Or.inl rfl, hg4.1.trans hg2.1, fun i _ => by rw [hg4.2, hg2.2], u2s _ _ _ _, fun i hi => by rw [u2k _ _ (by omega), u2c _ _ (by decide)], fun j hj => by omega⟩, rfl⟩ ?_ ?_)
    · rintro k m _ hk49 ⟨hI, rfl⟩ ih49
      have hR := hI
      obtain ⟨hR1, hR2, p2, f2, hR3, hR4, hR5, hR6, hR7, hR8, hR9, hR10, hR11, hR12⟩ := hI
      have em79 : m 79 = b0 79 := by rw [hR1.1 79 (by decide) (by decide)]; exact e79
      refine g_iload_3 hX dX6_reads_49 ?_
      refine g_iload_2 hX dX6_reads_50 ?_
      refine g_icmp_ge hX 91 dX6_reads_51 (by decide) (fun c51 => ?_) (fun c51 => ?_)
      · exact absurd c51 (not_not_intro (nI_lt hk49 (by omega)))
      · refine g_aload_0 hX dX6_reads_54 ?_
        refine g_eV0i hX mkX6_number ml_X6_218 (c_X6_numberE (b0 := b0) (p := p2) em79 (by rw [hR1.2.2]; exact ht) hn hR3 hT hR5 hc0 hk49 (by omega) hR6 hR7) (ob_69 Z _) dX6_reads_55 rfl (by decide) (Nat.le_of_ble_eq_true rfl) (fun x55 m55 h55 => ?_)
        refine g_istore_4 hX dX6_reads_58 rfl ?_
        refine g_iload_4 hX dX6_reads_60 ?_
        refine g_iconst hX (-1) dX6_reads_62 (by decide) ?_
        refine g_icmp_ne hX 68 dX6_reads_63 (by decide) (fun c63 => ?_) (fun c63 => ?_)
        · have hnx := RS_next hR hR3 (by omega) hn h55 c63
          have hw55 : m55 69 13 = nI w := by
            rcases h55 with ⟨z, _⟩ | ⟨_, q9, f9, z, _⟩
            · exact absurd z c63
            · rw [z, u2k _ _ (by decide)]; exact hR2
          refine g_aload_0 hX dX6_reads_68 ?_
          refine gt_X6_orders hX dX6_reads_69 ?_
          refine g_iconst hX 4 dX6_reads_72 (by decide) ?_
          refine g_aload_0 hX dX6_reads_73 ?_
          refine gt_X6_written hX dX6_reads_74 ?_
          refine g_top (nI w) hw55 ?_
          refine g_imul hX dX6_reads_77 ?_
          refine g_top (nI (4 * w)) (pk_mul 4 w) ?_
          refine g_iconst hX 1 dX6_reads_78 (by decide) ?_
          refine g_iadd hX dX6_reads_79 ?_
          refine g_top (nI (4 * w + 1)) (nI_1 _) ?_
          refine g_iload_3 hX dX6_reads_80 ?_
          refine g_iadd hX dX6_reads_81 ?_
          refine g_top (nI (4 * w + 1 + k)) (by rw [nI_add]) ?_
          refine g_iload_4 hX dX6_reads_82 ?_
          refine g_iastN (k := (4 * w + 1 + k)) hX (ar_80 Z) (by omega) (by decide) dX6_reads_84 ?_
          refine g_iinc_3 hX 1 dX6_reads_85 (by decide) rfl ?_
          refine g_goto hX 49 dX6_reads_88 (by decide) ?_
          exact g_weak (lvw_c (lvw_c (lvw_c (lvw_c (lvw_n lvw_nil))))) (ih49 _ _ ⟨hnx, by simp only [nI_succ]⟩)
        · have hF := h55
          refine g_iconst hX 0 dX6_reads_66 (by decide) ?_
          exact hq _ _ _ _ dX6_reads_67 (by rfl) (by
  rcases h55 with ⟨_, p5, z, z2⟩ | ⟨z, _⟩
  · exact Or.inl ⟨rfl, by rw [z]; exact hR1.up (by decide) (by decide), p5, by rw [z, u2s], Or.inl z2⟩
  · exact absurd c63 z)
    · rintro m _ ⟨hI, rfl⟩
      refine g_iload_3 hX dX6_reads_49 ?_
      refine g_iload_2 hX dX6_reads_50 ?_
      refine g_icmp_ge hX 91 dX6_reads_51 (by decide) (fun c51 => ?_) (fun c51 => ?_)
      · have hR := hI
        obtain ⟨hR1, hR2, p2, f2, hR3, hR4, hR5, hR6, hR7, hR8, hR9, hR10, hR11, hR12⟩ := hI
        have em79 : m 79 = b0 79 := by rw [hR1.1 79 (by decide) (by decide)]; exact e79
        refine g_aload_0 hX dX6_reads_91 ?_
        refine g_aload_0 hX dX6_reads_92 ?_
        refine gt_X6_look hX dX6_reads_93 ?_
        refine g_top _ hR3 ?_
        refine g_cV1r hX mkX6_byteAt ml_X6_200 (c_X6_byteAt (b := m) (n := n) (by rw [hR1.2.2]; exact ht) hn (by omega)) (ob_69 Z _) dX6_reads_96 rfl (by decide) (Nat.le_of_ble_eq_true rfl) ?_
        refine g_top (byT b0 n p2) (byT_e em79 _ _) ?_
        refine g_bipush hX 59 dX6_reads_99 (by decide) ?_
        refine g_icmp_eq hX 106 dX6_reads_101 (by decide) (fun c101 => ?_) (fun c101 => ?_)
        · have hp2n : p2 < n := by
            rcases Nat.lt_or_ge p2 n with z | z
            · exact z
            · exfalso; unfold byT at c101; rw [if_neg (by omega)] at c101; exact absurd c101 (by decide)
          have hw4 := hR5.w3 hTI (by omega)
          have hp53 : b0 53 p2 = 59 := by rw [← byT_53 hT hp2n]; exact c101
          obtain ⟨hs5, hs6, hs7⟩ := hR5.close hc0 hp53 rfl (by omega)
          obtain ⟨q3, hs1, hs2, hs3, hs4⟩ := blank_ex b0 n (n - (p2 + 1)) (p2 + 1) (by omega)
          obtain ⟨hs8, hs9⟩ := GS.blanks hT (q3 - (p2 + 1)) (p2 + 1) f2 hs5 (fun k k1 k2 => hs3 k k1 (by omega))
          rw [show p2 + 1 + (q3 - (p2 + 1)) = q3 by omega] at hs8 hs9
          refine g_aload_0 hX dX6_reads_106 ?_
          refine g_dup hX dX6_reads_107 rfl ?_
          refine gt_X6_look hX dX6_reads_108 ?_
          refine g_iconst hX 1 dX6_reads_111 (by decide) ?_
          refine g_iadd hX dX6_reads_112 ?_
          refine g_top (nI (p2 + 1)) (by rw [hR3, nI_1]) ?_
          refine pt_X6_look hX dX6_reads_113 ?_
          refine g_aload_0 hX dX6_reads_116 ?_
          refine g_cV0v hX mkX6_blanks ml_X6_209 (c_X6_blanks (b := up2 m 69 14 (nI (p2 + 1))) (n := n) (p := p2 + 1) (q := q3) (by rw [u2k _ _ (by decide), hR1.2.2]; exact ht) hn (u2s _ _ _ _) hs1 (by omega) (fun k h1 h2 => by rw [byT_e (show up2 m 69 14 (nI (p2 + 1)) 79 = b0 79 by rw [u2c _ _ (by decide)]; exact em79)]; exact hs3 k h1 h2) (by rw [byT_e (show up2 m 69 14 (nI (p2 + 1)) 79 = b0 79 by rw [u2c _ _ (by decide)]; exact em79)]; exact hs4)) (ob_69 Z _) dX6_reads_117 rfl (by decide) (Nat.le_of_ble_eq_true rfl) ?_
          rw [up2_up2]
          refine g_aload_0 hX dX6_reads_120 ?_
          refine g_dup hX dX6_reads_121 rfl ?_
          refine gt_X6_written hX dX6_reads_122 ?_
          refine g_iconst hX 1 dX6_reads_125 (by decide) ?_
          refine g_iadd hX dX6_reads_126 ?_
          refine g_top (nI (w + 1)) (by rw [u2k _ _ (by decide), hR2, nI_1]) ?_
          refine pt_X6_written hX dX6_reads_127 ?_
          refine g_iconst hX 1 dX6_reads_130 (by decide) ?_
          exact hq _ _ _ _ dX6_reads_131 (by rfl) (Or.inr ⟨rfl, (hR1.up (by decide) (by decide)).up (by decide) (by decide), q3, _, _, by omega, hs8, hs4, by rw [u2k _ _ (by decide), u2s], u2s _ _ _ _, fun i hi => by
  rw [u2c _ _ (by decide), u2c _ _ (by decide), hs9.1, hs9.2, hs6, hs7]
  by_cases c9 : i = w
  · subst c9
    rw [show upd (prM b0 p2 54) i c i = c from if_pos rfl]
    exact ⟨hR10, hnc, fun j hj => hR12 j hj⟩
  · have hi2 : i < w := by omega
    rw [show upd (prM b0 p2 54) w c i = prM b0 p2 54 i from if_neg c9, hR8]
    obtain ⟨k1, k2, k3⟩ := hor i hi2
    refine ⟨by rw [hR11 _ (by omega)]; exact k1, k2, fun j hj => ?_⟩
    have := nOf_le (prM b0 p 54 i)
    rw [hR11 _ (by omega), hR9 _ (by omega)]; exact k3 j hj⟩)
        · refine g_iconst hX 0 dX6_reads_104 (by decide) ?_
          exact hq _ _ _ _ dX6_reads_105 (by rfl) (Or.inl ⟨rfl, hR1, p2, hR3, Or.inl ⟨by omega, hR5.2.2, by
  rcases Nat.lt_or_ge p2 n with z | z
  · refine Or.inl ⟨z, fun y => ?_⟩
    have y2 := hR5.ok.mp y
    rw [byT_53 hT z] at hR6 c101
    rw [if_neg hR6, if_neg hc0, if_neg c101] at y2
    rcases hR7 with q9 | q9
    · rw [if_pos q9] at y2; exact y2.2 rfl
    · exact q9 (by unfold Fg; rw [byT_53 hT z]; exact y2.1)
  · have e9 : p2 = n := by omega
    exact Or.inr ⟨e9, by rw [← e9, hR5.1.1]; exact hc0⟩⟩⟩)
      · exact absurd c51 (Int32.lt_irrefl)
  · refine g_iconst hX 0 dX6_reads_19 (by decide) ?_
    exact hq _ _ _ _ dX6_reads_20 (by rfl) (Or.inl ⟨rfl, Fr.rf b, p, hl, by
  rcases Nat.lt_or_ge p n with z | z
  · refine Or.inl ⟨hp, h.2.2, Or.inl ⟨z, fun y => ?_⟩⟩
    have y2 := h.ok.mp y
    rw [byT_53 hT z] at h32 hc
    rw [if_neg h32, if_pos rfl, ← hc] at y2
    rw [wtI, if_neg y2] at c16
    exact absurd c16 (nI_nm1 (by have := nOf_le c; omega))
  · exact Or.inr ⟨by omega, rfl⟩⟩)
