/-! the reference: does -/
def FLx (b : Mem) (n p : Nat) : Prop := FL b n p ∨ (p = n ∧ (∀ k, k < n → okT b k) ∧ prM b n 52 4 = 0)
def DG (b0 b : Mem) (n k : Nat) (m : Mem) : Prop := Fr b m ∧ ∃ p g f, m 69 14 = nI p ∧ m 69 13 = nI k ∧ (k ≤ p ∧ p ≤ n) ∧ GS b0 p 0 g f k ∧ ¬ byT b0 n p = 32 ∧ OR m b0 p k
def DB (b0 b : Mem) (n : Nat) (m : Mem) : Prop := Fr b m ∧ ∃ p, m 69 14 = nI p ∧ FLx b0 n p
theorem DG_step {b0 b m m' : Mem} {n p g f k : Nat} {x : Int32} (hF : Fr b m) (hp : k ≤ p ∧ p ≤ n) (hG : GS b0 p 0 g f k) (hk : p = n → k = 0) (h : rdP b0 m n p k x m') : (DG b0 b n (k + 1) m' ∧ x = 1) ∨ (DB b0 b n m' ∧ x = 0) := by
  rcases h with ⟨h1, h2, p', h3, h4⟩ | ⟨h1, h2, p', g', f', h3, h4, h5, h6, h7, h8⟩
  · refine Or.inr ⟨⟨hF.tr h2, p', h3, ?_⟩, h1⟩
    rcases h4 with h4 | ⟨h4, h5⟩
    · exact Or.inl h4
    · have e : p = n := by omega
      have hk0 := hk e
      subst e
      refine Or.inr ⟨h4, hG.2.2, ?_⟩
      rw [hG.1.2.2.2, hk0, nI_0]
  · exact Or.inl ⟨⟨hF.tr h2, p', g', f', h6, h7, by omega, h4, h5, h8⟩, h1⟩
def tkM (m : Mem) : Mem := up1 m 71 (cpF (fun i => m 72 (123 * 5 + i)) (m 71) 0 123)
def dsQ (b0 b : Mem) (n st : Nat) (x : Int32) (b' : Mem) : Prop :=
  (∃ p, FLx b0 n p ∧ x = -10 - nI p ∧ Fr b b') ∨
  (∃ m W, Fr b m ∧ OR m b0 n W ∧ (0 < W ∧ W ≤ 40) ∧ (∀ k, k < n → okT b0 k) ∧ prM b0 n 52 5 = 0 ∧ prM b0 n 52 4 = nI W ∧
    ((∃ i, i < W ∧ (∀ k, k < i → ¬ mkR (mpM (ptM m) k) k < 0) ∧ mkR (mpM (ptM m) i) i < 0 ∧ x = -1000 - nI i ∧ b' = tkM (mpM (ptM m) (i + 1))) ∨
     ((∀ k, k < W → ¬ mkR (mpM (ptM m) k) k < 0) ∧ x = nI W ∧ b' = lvM (mpM (ptM m) W) st)))
theorem lvM_13 (b : Mem) (n : Nat) : lvM b n 69 13 = b 69 13 := by
  unfold lvM
  split
  · rw [u2k _ _ (by decide), u1c _ _ (by decide), u2k _ _ (by decide), u1c _ _ (by decide)]
  · rw [u2k _ _ (by decide), u1c _ _ (by decide)]
theorem GS_0 {b : Mem} (h : TI b) : ∃ g f, GS b 0 0 g f 0 := by
  obtain ⟨g, f, h1, h2, h3, h4⟩ := h
  refine ⟨g, f, ⟨?_, ?_, ?_, ?_⟩, ⟨by omega, by omega, by omega⟩, fun k hk => by omega⟩
  · show up2 (up2 b 52 4 0) 52 5 0 52 5 = 0
    rw [u2s]
  · show up2 (up2 b 52 4 0) 52 5 0 52 6 = _
    rw [u2k _ _ (by decide), u2k _ _ (by decide)]; exact h1
  · show up2 (up2 b 52 4 0) 52 5 0 52 7 = _
    rw [u2k _ _ (by decide), u2k _ _ (by decide)]; exact h2
  · show up2 (up2 b 52 4 0) 52 5 0 52 4 = _
    rw [u2k _ _ (by decide), u2s, nI_0]
set_option maxRecDepth 100000 in
set_option maxHeartbeats 4000000 in
theorem c_X6_does {Z : Zt} {b : Mem} {b0 : Mem} {n st : Nat} (e79 : b 79 = b0 79) (ht : b 69 11 = nI n) (hn : n ≤ 120) (hs : b 69 3 = nI st) (h5 : st ≤ 5) (hT : ∀ k, k < n → b0 53 k = b0 79 k) (hTI : TI b0) (hVV : ∀ m W, Fr b m → OR m b0 n W → ∀ k, k ≤ W → Val (mv (mpM (ptM m) k))) : ConE Z yX6_does cX6_does 4 (some .int) 4 [.ref (zad Z 69)] b (pI (dsQ b0 b n st)) := by
  obtain ⟨q0, hq1, hq2, hq3, hq4⟩ := blank_ex b0 n n 0 (by omega)
  obtain ⟨g0, f0, hg0⟩ := GS_0 hTI
  obtain ⟨hg1, hg2⟩ := GS.blanks hT q0 0 f0 hg0 (fun k k1 k2 => hq3 k k1 (by omega))
  rw [Nat.zero_add] at hg1
  refine conE_i (by decide) (Nat.le_of_ble_eq_true rfl) rfl (fun X hX hq => ?_)
  have hX : Ok Z X cX6_does 4 RX6 4 := hX
  show G Z X b 0 [some (.ref (zad Z 69)), none, none, none] []
  refine g_aload_0 hX dX6_does_0 ?_
  refine g_iconst hX 0 dX6_does_1 (by decide) ?_
  refine pt_X6_look hX dX6_does_2 ?_
  refine g_aload_0 hX dX6_does_5 ?_
  refine g_iconst hX 0 dX6_does_6 (by decide) ?_
  refine pt_X6_written hX dX6_does_7 ?_
  refine g_aload_0 hX dX6_does_10 ?_
  refine g_cV0v hX mkX6_blanks ml_X6_209 (c_X6_blanks (b := up2 (up2 b 69 14 0) 69 13 0) (n := n) (p := 0) (q := q0) (by rw [u2k _ _ (by decide), u2k _ _ (by decide)]; exact ht) hn (by rw [u2k _ _ (by decide), u2s, nI_0]) (by omega) (by omega) (fun k h1 h2 => by rw [byT_e (show (up2 (up2 b 69 14 0) 69 13 0) 79 = b0 79 by rw [u2c _ _ (by decide), u2c _ _ (by decide)]; exact e79)]; exact hq3 k h1 h2) (by rw [byT_e (show (up2 (up2 b 69 14 0) 69 13 0) 79 = b0 79 by rw [u2c _ _ (by decide), u2c _ _ (by decide)]; exact e79)]; exact hq4)) (ob_69 Z _) dX6_does_11 rfl (by decide) (Nat.le_of_ble_eq_true rfl) ?_
  refine g_iconst hX 1 dX6_does_14 (by decide) ?_
  refine g_istore_1 hX dX6_does_15 rfl ?_
  refine g_iconst hX 0 dX6_does_16 (by decide) ?_
  refine g_istore_2 hX dX6_does_17 rfl ?_
  refine g_loopI (n + 1) (fun k m LL => (DG b0 b n k m ∧ LL = [some (.ref (zad Z 69)), some (.int 1), some (.int (bI (0 < k))), none]) ∨ (DB b0 b n m ∧ LL = [some (.ref (zad Z 69)), some (.int 0), some (.int 1), none])) (Or.inl ⟨⟨(((Fr.rf b).up (by decide) (by decide)).up (by decide) (by decide)).up (by decide) (by decide), q0, _, _, u2s _ _ _ _, by rw [u2k _ _ (by decide), u2s, nI_0], by omega, hg1, hq4, fun i hi => by omega⟩, rfl⟩) ?_ ?_
  · intro k m LL hk18 hinv18 ih18
    rcases hinv18 with ⟨hG, rfl⟩ | ⟨hB, rfl⟩
    · obtain ⟨hF, p, g, f, hG1, hG2, hG3, hG4, hG5, hG6⟩ := hG
      have em79 : m 79 = b0 79 := (hF.1 79 (by decide) (by decide)).trans e79
      have hw3 := hG4.w3 hTI (by omega)
      refine g_iload_1 hX dX6_does_18 ?_
      refine g_if_eq hX 47 dX6_does_19 (by decide) (fun c19 => ?_) (fun c19 => ?_)
      · exact absurd c19 (by decide)
      · refine g_iload_2 hX dX6_does_22 ?_
        refine g_if_eq hX 37 dX6_does_23 (by decide) (fun c23 => ?_) (fun c23 => ?_)
        · refine g_iconst hX 1 dX6_does_37 (by decide) ?_
          refine g_istore_2 hX dX6_does_38 rfl ?_
          refine g_aload_0 hX dX6_does_39 ?_
          refine g_eV0i hX mkX6_reads ml_X6_221 (c_X6_reads (b0 := b0) em79 (by rw [hF.2.2]; exact ht) hn hG1 hG2 hT hTI hG4 (by omega) hG5 hG6) (ob_69 Z _) dX6_does_40 rfl (by decide) (Nat.le_of_ble_eq_true rfl) (fun x40 m40 h40 => ?_)
          refine g_istore_1 hX dX6_does_43 rfl ?_
          refine g_goto hX 18 dX6_does_44 (by decide) ?_
          exact (ih18 _ _ (by
                                                            rcases DG_step hF hG3 hG4 (fun z => by have := bI_z.mp c23; omega) h40 with ⟨h9, rfl⟩ | ⟨h9, rfl⟩
                                                            · exact Or.inl ⟨h9, by rw [bI_t (by omega)]⟩
                                                            · exact Or.inr ⟨h9, rfl⟩))
        · refine g_aload_0 hX dX6_does_26 ?_
          refine gt_X6_look hX dX6_does_27 ?_
          refine g_top _ hG1 ?_
          refine g_aload_0 hX dX6_does_30 ?_
          refine gt_X6_typed hX dX6_does_31 ?_
          refine g_top (nI n) (by rw [hF.2.2]; exact ht) ?_
          refine g_icmp_ge hX 47 dX6_does_34 (by decide) (fun c34 => ?_) (fun c34 => ?_)
          · refine g_iload_1 hX dX6_does_47 ?_
            refine g_if_ne hX 59 dX6_does_48 (by decide) (fun c48 => ?_) (fun c48 => ?_)
            · have hpn : p = n := by
                rcases Nat.lt_or_ge p n with z | z
                · exact absurd (nI_lt z (by omega)) c34
                · omega
              subst hpn
              have hk0 : 0 < k := bI_nz.mp c23
              have hGn := hG6
              refine g_aload_0 hX dX6_does_59 ?_
              refine g_iconst hX 5 dX6_does_60 (by decide) ?_
              refine g_cV1v hX mkX6_puts ml_X6_92 (c_X6_puts (s := 5) (by decide)) (ob_69 Z _) dX6_does_61 rfl (by decide) (Nat.le_of_ble_eq_true rfl) ?_
              refine g_iconst hX 0 dX6_does_64 (by decide) ?_
              refine g_istore_3 hX dX6_does_65 rfl ?_
              refine g_loopI (k) (fun j m2 LL => (m2 = mpM (ptM m) j ∧ ∀ i, i < j → ¬ mkR (mpM (ptM m) i) i < 0) ∧ LL = [some (.ref (zad Z 69)), some (.int 1), some (.int (bI (0 < k))), some (.int (nI j))]) ⟨⟨rfl, fun i hi => by omega⟩, rfl⟩ ?_ ?_
              · rintro j m2 _ hk66 ⟨hO, rfl⟩ ih66
                obtain ⟨rfl, hO2⟩ := hO
                refine g_iload_3 hX dX6_does_66 ?_
                refine g_aload_0 hX dX6_does_67 ?_
                refine gt_X6_written hX dX6_does_68 ?_
                refine g_top (nI k) (by rw [mpM_c _ _ (by decide), ptM_c _ (by decide)]; exact hG2) ?_
                refine g_icmp_ge hX 99 dX6_does_71 (by decide) (fun c71 => ?_) (fun c71 => ?_)
                · exact absurd c71 (not_not_intro (nI_lt hk66 (by omega)))
                · refine g_aload_0 hX dX6_does_74 ?_
                  refine g_iload_3 hX dX6_does_75 ?_
                  refine g_cV1r hX mkX6_acted ml_X6_224 (c_X6_acted (b := mpM (ptM m) j) (by omega) (hVV m k hF hGn j (by omega))) (ob_69 Z _) dX6_does_76 rfl (by decide) (Nat.le_of_ble_eq_true rfl) ?_
                  refine g_if_ge hX 93 dX6_does_79 (by decide) (fun c79 => ?_) (fun c79 => ?_)
                  · refine g_iinc_3 hX 1 dX6_does_93 (by decide) rfl ?_
                    refine g_goto hX 66 dX6_does_96 (by decide) ?_
                    exact (ih66 _ _ ⟨⟨rfl, fun i hi => by
                                                            rcases Nat.lt_or_ge i j with z | z
                                                            · exact hO2 i z
                                                            · have e9 : i = j := by omega
                                                              rw [e9]; exact c79⟩, by simp only [nI_succ]⟩)
                  · refine g_aload_0 hX dX6_does_82 ?_
                    refine g_iconst hX 5 dX6_does_83 (by decide) ?_
                    refine g_cV1v hX mkX6_takes ml_X6_57 (c_X6_takes (s := 5) (by decide)) (ob_69 Z _) dX6_does_84 rfl (by decide) (Nat.le_of_ble_eq_true rfl) ?_
                    refine g_sipush hX (-1000) dX6_does_87 (by decide) ?_
                    refine g_iload_3 hX dX6_does_90 ?_
                    refine g_isub hX dX6_does_91 ?_
                    exact hq _ _ _ _ dX6_does_92 (Or.inr ⟨m, k, hF, hGn, by omega, hG4.2.2, hG4.1.1, hG4.1.2.2.2, Or.inl ⟨j, hk66, hO2, c79, rfl, rfl⟩⟩)
              · rintro m2 _ ⟨hO, rfl⟩
                obtain ⟨rfl, hO2⟩ := hO
                refine g_iload_3 hX dX6_does_66 ?_
                refine g_aload_0 hX dX6_does_67 ?_
                refine gt_X6_written hX dX6_does_68 ?_
                refine g_top (nI k) (by rw [mpM_c _ _ (by decide), ptM_c _ (by decide)]; exact hG2) ?_
                refine g_icmp_ge hX 99 dX6_does_71 (by decide) (fun c71 => ?_) (fun c71 => ?_)
                · refine g_aload_0 hX dX6_does_99 ?_
                  refine g_cV0v hX mkX6_leavesState ml_X6_89 (c_X6_leavesState (n := st) (by rw [mpM_c _ _ (by decide), ptM_c _ (by decide), hF.2.1]; exact hs) h5) (ob_69 Z _) dX6_does_100 rfl (by decide) (Nat.le_of_ble_eq_true rfl) ?_
                  refine g_aload_0 hX dX6_does_103 ?_
                  refine gt_X6_written hX dX6_does_104 ?_
                  refine g_top (nI k) (by rw [lvM_13, mpM_c _ _ (by decide), ptM_c _ (by decide)]; exact hG2) ?_
                  exact hq _ _ _ _ dX6_does_107 (Or.inr ⟨m, k, hF, hGn, by omega, hG4.2.2, hG4.1.1, hG4.1.2.2.2, Or.inr ⟨hO2, rfl, rfl⟩⟩)
                · exact absurd c71 (Int32.lt_irrefl)
            · exact absurd c48 (by decide)
          · refine g_iconst hX 1 dX6_does_37 (by decide) ?_
            refine g_istore_2 hX dX6_does_38 rfl ?_
            refine g_aload_0 hX dX6_does_39 ?_
            refine g_eV0i hX mkX6_reads ml_X6_221 (c_X6_reads (b0 := b0) em79 (by rw [hF.2.2]; exact ht) hn hG1 hG2 hT hTI hG4 (by omega) hG5 hG6) (ob_69 Z _) dX6_does_40 rfl (by decide) (Nat.le_of_ble_eq_true rfl) (fun x40 m40 h40 => ?_)
            refine g_istore_1 hX dX6_does_43 rfl ?_
            refine g_goto hX 18 dX6_does_44 (by decide) ?_
            exact (ih18 _ _ (by
                                                            rcases DG_step hF hG3 hG4 (fun z => by have h9 := (nI_ltI (by omega) (by omega)).mp c34; omega) h40 with ⟨h9, rfl⟩ | ⟨h9, rfl⟩
                                                            · exact Or.inl ⟨h9, by rw [bI_t (by omega)]⟩
                                                            · exact Or.inr ⟨h9, rfl⟩))
    · obtain ⟨hF, p, hB1, hB2⟩ := hB
      refine g_iload_1 hX dX6_does_18 ?_
      refine g_if_eq hX 47 dX6_does_19 (by decide) (fun c19 => ?_) (fun c19 => ?_)
      · refine g_iload_1 hX dX6_does_47 ?_
        refine g_if_ne hX 59 dX6_does_48 (by decide) (fun c48 => ?_) (fun c48 => ?_)
        · exact absurd c48 (not_not_intro rfl)
        · refine g_bipush hX (-10) dX6_does_51 (by decide) ?_
          refine g_aload_0 hX dX6_does_53 ?_
          refine gt_X6_look hX dX6_does_54 ?_
          refine g_top _ hB1 ?_
          refine g_isub hX dX6_does_57 ?_
          exact hq _ _ _ _ dX6_does_58 (Or.inl ⟨p, hB2, rfl, hF⟩)
      · exact absurd c19 (not_not_intro rfl)
  · intro m LL hinv18
    rcases hinv18 with ⟨hG, rfl⟩ | ⟨hB, rfl⟩
    · exfalso
      obtain ⟨_, p, g, f, _, _, hG3, _⟩ := hG
      omega
    · obtain ⟨hF, p, hB1, hB2⟩ := hB
      refine g_iload_1 hX dX6_does_18 ?_
      refine g_if_eq hX 47 dX6_does_19 (by decide) (fun c19 => ?_) (fun c19 => ?_)
      · refine g_iload_1 hX dX6_does_47 ?_
        refine g_if_ne hX 59 dX6_does_48 (by decide) (fun c48 => ?_) (fun c48 => ?_)
        · exact absurd c48 (not_not_intro rfl)
        · refine g_bipush hX (-10) dX6_does_51 (by decide) ?_
          refine g_aload_0 hX dX6_does_53 ?_
          refine gt_X6_look hX dX6_does_54 ?_
          refine g_top _ hB1 ?_
          refine g_isub hX dX6_does_57 ?_
          exact hq _ _ _ _ dX6_does_58 (Or.inl ⟨p, hB2, rfl, hF⟩)
      · exact absurd c19 (not_not_intro rfl)
