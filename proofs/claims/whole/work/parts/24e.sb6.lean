/-! SnakedBus: the digest -/
def mix (h : Int64) (v : Int32) : Int64 := 31 * h + v.toInt64
def it (g : Nat → Int64 → Int64) : Nat → Int64 → Int64
  | 0, h => h
  | n + 1, h => g n (it g n h)
theorem it_congr {g g' : Nat → Int64 → Int64} {n : Nat} (h : ∀ k, k < n → ∀ x, g k x = g' k x) (x : Int64) : it g n x = it g' n x := by
  induction n with
  | zero => rfl
  | succ n ih => simp only [it]; rw [ih (fun k hk => h k (by omega)), h n (by omega)]
def mlS (v : View) (l : Nat) (h : Int64) : Int64 := mix (it (fun i h => it (fun w h => mix h (runV v l i (nI w))) 3 h) (rn v l) (it (fun w h => mix h (ofV v l (nI w))) 7 h)) (bpV v l)
def mhS (v : View) (h : Int64) : Int64 := it (fun l h => it (fun p h => mix h (drV v l p)) (np v) h) (nl v) h
def d5S (v : View) (to : Nat → Int32) : Int64 := it (fun p h => it (fun w h => mix h (abV v p (nI w))) 4 h) (np v) (it (mlS v) (nl v) (it (fun k h => mix h (v 5 k 0)) 7 (it (fun w h => mix h (coV v (nI w))) 7 (it (fun w h => mix h (to w)) 5 2053))))
def d6S (v : View) (to : Nat → Int32) : Int64 := mix (mix (mix (d5S v to) (nI (blN v (v 5 4 0)))) (lsR v)) (grR v)
def dgS (v : View) (to : Nat → Int32) : Int64 := if blN v (v 5 4 0) = 0 then mhS v (d6S v to) else d6S v to
theorem okL_in {v : View} (hV : Val v) {l : Nat} (hl : l < nl v) : okL v (nI l) := by
  have := hV.1.2
  exact ⟨nI_pos (by omega), by rw [hV.1.1]; exact nI_lt hl (by omega)⟩
theorem okP_in {v : View} (hV : Val v) {l : Nat} (hl : l < np v) : okP v (nI l) := by
  have := hV.2.1.2
  exact ⟨nI_pos (by omega), by rw [hV.2.1.1]; exact nI_lt hl (by omega)⟩
theorem lit_in {w n : Nat} (h : w ≤ n) (hn : n < 1000) : ¬ nI w < 0 ∧ ¬ nI n < nI w := ⟨nI_pos (by omega), nI_nlt (by omega) (by omega)⟩
theorem of_in {v : View} (hV : Val v) {l w : Nat} (hl : l < nl v) (hw : w ≤ 6) : ofR v (nI l) (nI w) = ofV v l (nI w) ∧ ofC v (nI l) (nI w) = 0 := by
  have := hV.l6 hl
  have ok : okL v (nI l) ∧ ¬ nI w < 0 ∧ ¬ 6 < nI w := ⟨okL_in hV hl, lit_in (n := 6) hw (by decide)⟩
  unfold ofR ofC
  rw [cl_t ok, cl_t ok, nI_clamp (by omega)]
  exact ⟨rfl, rfl⟩
theorem okR_in {v : View} (hV : Val v) {l i : Nat} (hl : l < nl v) (hi : i < rn v l) : okR v (nI l) (nI i) := by
  have := hV.l6 hl
  have := hV.r8 hl
  refine ⟨okL_in hV hl, nI_pos (by omega), ?_⟩
  rw [nI_clamp (by omega), hV.runs hl]
  exact nI_lt hi (by omega)
theorem run_in {v : View} (hV : Val v) {l i w : Nat} (hl : l < nl v) (hi : i < rn v l) (hw : w ≤ 2) : runR v (nI l) (nI i) (nI w) = runV v l i (nI w) ∧ runC v (nI l) (nI i) (nI w) = 0 := by
  have := hV.l6 hl
  have := hV.r8 hl
  have ok : okR v (nI l) (nI i) ∧ ¬ nI w < 0 ∧ ¬ 2 < nI w := ⟨okR_in hV hl hi, lit_in (n := 2) hw (by decide)⟩
  unfold runR runC
  rw [cl_t ok, cl_t ok, nI_clamp (by omega), nI_clamp (by omega)]
  exact ⟨rfl, rfl⟩
theorem bu_in {v : View} (hV : Val v) {l : Nat} (hl : l < nl v) : buR v (nI l) = bpV v l ∧ buC v (nI l) = 0 := by
  have := hV.l6 hl
  unfold buR buC
  rw [cl_t (okL_in hV hl), cl_t (okL_in hV hl), nI_clamp (by omega)]
  exact ⟨rfl, rfl⟩
theorem ab_in {v : View} (hV : Val v) {p w : Nat} (hp : p < np v) (hw : w ≤ 3) : abR v (nI p) (nI w) = abV v p (nI w) ∧ abC v (nI p) (nI w) = 0 := by
  have := hV.p6 hp
  have ok : okP v (nI p) ∧ ¬ nI w < 0 ∧ ¬ 3 < nI w := ⟨okP_in hV hp, lit_in (n := 3) hw (by decide)⟩
  unfold abR abC
  rw [cl_t ok, cl_t ok, nI_clamp (by omega)]
  exact ⟨rfl, rfl⟩
theorem co_in (v : View) {w : Nat} (hw : w ≤ 6) : coR v (nI w) = coV v (nI w) ∧ coC (nI w) = 0 := by
  have ok : ¬ nI w < 0 ∧ ¬ 6 < nI w := lit_in (n := 6) hw (by decide)
  unfold coR coC
  rw [cl_t ok, cl_t ok]
  exact ⟨rfl, rfl⟩
theorem to_in (b : Mem) {w : Nat} (hw : w ≤ 4) : toR b (nI w) = toV b (nI w) ∧ toC (nI w) = 0 := by
  have ok : ¬ nI w < 0 ∧ ¬ 4 < nI w := lit_in (n := 4) hw (by decide)
  unfold toR toC
  rw [cl_t ok, cl_t ok]
  exact ⟨rfl, rfl⟩
theorem GP.to {b m : Mem} (h : GP b 0 m) (w : Int32) : toV m w = toV b w := by
  obtain ⟨-, h2, h3, h4, h5⟩ := h
  rw [bI0 (by decide)] at h3 h4 h5
  unfold toV
  rw [h3, h4, h5, h2 52 (by omega), h2 50 (by omega)]
set_option maxRecDepth 100000 in
set_option maxHeartbeats 4000000 in
theorem c_X5_mixed {Z : Zt} {b : Mem} {h : Int64} {x : Int32} : Con Z yX5_mixed cX5_mixed 3 (some .long) 0 [.long h, .int x] b (some (.long (mix h x))) (b) := by
  refine con_l (by decide) (Nat.le_of_ble_eq_true rfl) rfl (fun X hX hq => ?_)
  have hX : Ok Z X cX5_mixed 3 RX5 0 := hX
  show G Z X b 0 [some (.long h), none, some (.int x)] []
  refine g_ldc2 hX 31 co_X5_263 dX5_mixed_0 ?_
  refine g_lload_0 hX dX5_mixed_3 ?_
  refine g_lmul hX dX5_mixed_4 ?_
  refine g_iload_2 hX dX5_mixed_5 ?_
  refine g_i2l hX dX5_mixed_6 ?_
  refine g_ladd hX dX5_mixed_7 ?_
  exact hq _ _ _ _ dX5_mixed_8 (by rfl) (by rfl)
set_option maxRecDepth 100000 in
set_option maxHeartbeats 4000000 in
theorem c_X5_mixedLine {Z : Zt} {b : Mem} {h0 : Int64} {l : Nat} (hC : CI b) (hl : l < nl (cv b 1)) : ConE Z yX5_mixedLine cX5_mixedLine 8 (some .long) 5 [.ref (zad Z 0), .long h0, .int (nI l)] b (pL (fun x b' => x = mlS (cv b 1) l h0 ∧ GP b 0 b')) := by
  have hV := hC.1.1
  have hl6 := hV.l6 hl
  have hr : b (1 + 1) l = nI (rn (cv b 1) l) := hV.runs hl
  have hr8 := hV.r8 hl
  refine conE_l (by decide) (Nat.le_of_ble_eq_true rfl) rfl (fun X hX hq => ?_)
  have hX : Ok Z X cX5_mixedLine 8 RX5 5 := hX
  show G Z X b 0 [some (.ref (zad Z 0)), some (.long h0), none, some (.int (nI l)), none, none, none, none] []
  refine g_lload_1 hX dX5_mixedLine_0 ?_
  refine g_lstore_4 hX dX5_mixedLine_1 rfl ?_
  refine g_iconst hX 0 dX5_mixedLine_3 (by decide) ?_
  refine g_istore_6 hX dX5_mixedLine_4 rfl ?_
  refine g_loopI (7) (fun k m LL => (GP b 0 m) ∧ LL = [some (.ref (zad Z 0)), some (.long h0), none, some (.int (nI l)), some (.long (it (fun w h => mix h (ofV (cv b 1) l (nI w))) k h0)), none, some (.int (nI k)), none]) ⟨GP.rf hC, rfl⟩ ?_ ?_
  · rintro k m _ hk6 ⟨hm, rfl⟩ ih6
    refine g_iload_6 hX dX5_mixedLine_6 ?_
    refine g_bipush hX 7 dX5_mixedLine_8 (by decide) ?_
    refine g_icmp_ge hX 33 dX5_mixedLine_10 (by decide) (fun c10 => ?_) (fun c10 => ?_)
    · exact absurd c10 (not_not_intro (nI_lt (b := 7) hk6 (by decide)))
    · refine g_lload_4 hX dX5_mixedLine_13 ?_
      refine g_aload_0 hX dX5_mixedLine_15 ?_
      refine g_iload_3 hX dX5_mixedLine_16 ?_
      refine g_iload_6 hX dX5_mixedLine_17 ?_
      refine g_eV2i hX mkX5_of ml_X5_265 (c_X5_of hm.1) (ob_0 Z _) dX5_mixedLine_19 rfl (by decide) (Nat.le_of_ble_eq_true rfl) (fun x19 m19 h19 => ?_)
      obtain ⟨rfl, h19⟩ := h19
      rw [hm.2.1.cv1] at h19 ⊢
      rw [(of_in hV hl (by omega)).2] at h19
      refine g_top _ (of_in hV hl (by omega)).1 ?_
      refine g_cS2r hX mkX5_mixed ml_X5_237 (c_X5_mixed) dX5_mixedLine_22 rfl (by decide) (Nat.le_of_ble_eq_true rfl) ?_
      refine g_lstore_4 hX dX5_mixedLine_25 rfl ?_
      refine g_iinc_6 hX 1 dX5_mixedLine_27 (by decide) rfl ?_
      refine g_goto hX 6 dX5_mixedLine_30 (by decide) ?_
      exact (ih6 _ _ ⟨hm.tr h19, by simp only [it, nI_succ]⟩)
  · rintro m _ ⟨hm, rfl⟩
    refine g_iload_6 hX dX5_mixedLine_6 ?_
    refine g_bipush hX 7 dX5_mixedLine_8 (by decide) ?_
    refine g_icmp_ge hX 33 dX5_mixedLine_10 (by decide) (fun c10 => ?_) (fun c10 => ?_)
    · obtain ⟨HA, eA⟩ : ∃ H, H = it (fun w h => mix h (ofV (cv b 1) l (nI w))) 7 h0 := ⟨_, rfl⟩
      rw [← eA]
      refine g_iconst hX 0 dX5_mixedLine_33 (by decide) ?_
      refine g_istore_6 hX dX5_mixedLine_34 rfl ?_
      refine g_weak (lvw_c (lvw_c (lvw_c (lvw_c (lvw_c (lvw_c (lvw_c (lvw_n lvw_nil)))))))) (g_loopI (rn (cv b 1) l) (fun k m2 LL => (GP b 0 m2) ∧ LL = [some (.ref (zad Z 0)), some (.long h0), none, some (.int (nI l)), some (.long (it (fun i h => it (fun w h => mix h (runV (cv b 1) l i (nI w))) 3 h) k (HA))), none, some (.int (nI k)), none]) ⟨hm, rfl⟩ ?_ ?_)
      · rintro k m2 _ hk36 ⟨hm2, rfl⟩ ih36
        refine g_iload_6 hX dX5_mixedLine_36 ?_
        refine g_aload_0 hX dX5_mixedLine_38 ?_
        refine gt_X5_bus hX dX5_mixedLine_39 ?_
        refine g_iload_3 hX dX5_mixedLine_42 ?_
        refine g_cV1r hX mkX0_runsOf ml_X5_102 (c_X0_runsOf (bus_1 Z) hl6) ((bus_1 Z).obj _) dX5_mixedLine_43 rfl (by decide) (Nat.le_of_ble_eq_true rfl) ?_
        refine g_icmp_ge hX 86 dX5_mixedLine_46 (by decide) (fun c46 => ?_) (fun c46 => ?_)
        · exact absurd c46 (not_not_intro (by rw [hm2.2.1 2 (by omega), hr]; exact nI_lt hk36 (by omega)))
        · refine g_iconst hX 0 dX5_mixedLine_49 (by decide) ?_
          refine g_istore_7 hX dX5_mixedLine_50 rfl ?_
          refine g_loopI (3) (fun w m3 LL => (GP b 0 m3) ∧ LL = [some (.ref (zad Z 0)), some (.long h0), none, some (.int (nI l)), some (.long (it (fun w h => mix h (runV (cv b 1) l k (nI w))) w (it (fun i h => it (fun w h => mix h (runV (cv b 1) l i (nI w))) 3 h) k (HA)))), none, some (.int (nI k)), some (.int (nI w))]) ⟨hm2, rfl⟩ ?_ ?_
          · rintro w m3 _ hk52 ⟨hm3, rfl⟩ ih52
            refine g_iload_7 hX dX5_mixedLine_52 ?_
            refine g_iconst hX 3 dX5_mixedLine_54 (by decide) ?_
            refine g_icmp_ge hX 80 dX5_mixedLine_55 (by decide) (fun c55 => ?_) (fun c55 => ?_)
            · exact absurd c55 (not_not_intro (nI_lt (b := 3) hk52 (by decide)))
            · refine g_lload_4 hX dX5_mixedLine_58 ?_
              refine g_aload_0 hX dX5_mixedLine_60 ?_
              refine g_iload_3 hX dX5_mixedLine_61 ?_
              refine g_iload_6 hX dX5_mixedLine_62 ?_
              refine g_iload_7 hX dX5_mixedLine_64 ?_
              refine g_eV3i hX mkX5_run ml_X5_268 (c_X5_run hm3.1) (ob_0 Z _) dX5_mixedLine_66 rfl (by decide) (Nat.le_of_ble_eq_true rfl) (fun x66 m66 h66 => ?_)
              obtain ⟨rfl, h66⟩ := h66
              rw [hm3.2.1.cv1] at h66 ⊢
              rw [(run_in hV hl hk36 (by omega)).2] at h66
              refine g_top _ (run_in hV hl hk36 (by omega)).1 ?_
              refine g_cS2r hX mkX5_mixed ml_X5_237 (c_X5_mixed) dX5_mixedLine_69 rfl (by decide) (Nat.le_of_ble_eq_true rfl) ?_
              refine g_lstore_4 hX dX5_mixedLine_72 rfl ?_
              refine g_iinc_7 hX 1 dX5_mixedLine_74 (by decide) rfl ?_
              refine g_goto hX 52 dX5_mixedLine_77 (by decide) ?_
              exact (ih52 _ _ ⟨hm3.tr h66, by simp only [it, nI_succ]⟩)
          · rintro m3 _ ⟨hm3, rfl⟩
            refine g_iload_7 hX dX5_mixedLine_52 ?_
            refine g_iconst hX 3 dX5_mixedLine_54 (by decide) ?_
            refine g_icmp_ge hX 80 dX5_mixedLine_55 (by decide) (fun c55 => ?_) (fun c55 => ?_)
            · refine g_iinc_6 hX 1 dX5_mixedLine_80 (by decide) rfl ?_
              refine g_goto hX 36 dX5_mixedLine_83 (by decide) ?_
              exact g_weak (lvw_c (lvw_c (lvw_c (lvw_c (lvw_c (lvw_c (lvw_c (lvw_n lvw_nil)))))))) (ih36 _ _ ⟨hm3, by simp only [it, nI_succ]⟩)
            · exact absurd c55 (Int32.lt_irrefl)
      · rintro m2 _ ⟨hm2, rfl⟩
        refine g_iload_6 hX dX5_mixedLine_36 ?_
        refine g_aload_0 hX dX5_mixedLine_38 ?_
        refine gt_X5_bus hX dX5_mixedLine_39 ?_
        refine g_iload_3 hX dX5_mixedLine_42 ?_
        refine g_cV1r hX mkX0_runsOf ml_X5_102 (c_X0_runsOf (bus_1 Z) hl6) ((bus_1 Z).obj _) dX5_mixedLine_43 rfl (by decide) (Nat.le_of_ble_eq_true rfl) ?_
        refine g_icmp_ge hX 86 dX5_mixedLine_46 (by decide) (fun c46 => ?_) (fun c46 => ?_)
        · refine g_lload_4 hX dX5_mixedLine_86 ?_
          refine g_aload_0 hX dX5_mixedLine_88 ?_
          refine g_iload_3 hX dX5_mixedLine_89 ?_
          refine g_eV1i hX mkX5_bumps ml_X5_271 (c_X5_bumps hm2.1) (ob_0 Z _) dX5_mixedLine_90 rfl (by decide) (Nat.le_of_ble_eq_true rfl) (fun x90 m90 h90 => ?_)
          obtain ⟨rfl, h90⟩ := h90
          rw [hm2.2.1.cv1] at h90 ⊢
          rw [(bu_in hV hl).2] at h90
          refine g_top _ (bu_in hV hl).1 ?_
          refine g_cS2r hX mkX5_mixed ml_X5_237 (c_X5_mixed) dX5_mixedLine_93 rfl (by decide) (Nat.le_of_ble_eq_true rfl) ?_
          exact hq _ _ _ _ dX5_mixedLine_96 (⟨by rw [mlS, ← eA], hm2.tr h90⟩)
        · exact absurd c46 (by rw [hm2.2.1 2 (by omega), hr]; exact Int32.lt_irrefl)
    · exact absurd c10 (Int32.lt_irrefl)
set_option maxRecDepth 100000 in
set_option maxHeartbeats 4000000 in
theorem c_X5_mixedHumps {Z : Zt} {b : Mem} {h0 : Int64} (hC : CI b) (hfit : blN (cv b 1) (cv b 1 5 4 0) = 0) : ConE Z yX5_mixedHumps cX5_mixedHumps 7 (some .long) 5 [.ref (zad Z 0), .long h0] b (pL (fun x b' => x = mhS (cv b 1) h0 ∧ GP b 0 b')) := by
  have hV := hC.1.1
  have hn : b 1 6 = nI (nl (cv b 1)) := hV.1.1
  have hn6 := hV.1.2
  have hp : b 1 7 = nI (np (cv b 1)) := hV.2.1.1
  have hp6 := hV.2.1.2
  refine conE_l (by decide) (Nat.le_of_ble_eq_true rfl) rfl (fun X hX hq => ?_)
  have hX : Ok Z X cX5_mixedHumps 7 RX5 5 := hX
  show G Z X b 0 [some (.ref (zad Z 0)), some (.long h0), none, none, none, none, none] []
  refine g_lload_1 hX dX5_mixedHumps_0 ?_
  refine g_lstore_3 hX dX5_mixedHumps_1 rfl ?_
  refine g_iconst hX 0 dX5_mixedHumps_2 (by decide) ?_
  refine g_istore_5 hX dX5_mixedHumps_3 rfl ?_
  refine g_weak (lvw_c (lvw_c (lvw_c (lvw_c (lvw_c (lvw_c (lvw_n lvw_nil))))))) (g_loopI (nl (cv b 1)) (fun k m LL => (GP b 0 m) ∧ LL = [some (.ref (zad Z 0)), some (.long h0), none, some (.long (it (fun l h => it (fun p h => mix h (drV (cv b 1) l p)) (np (cv b 1)) h) k h0)), none, some (.int (nI k)), none]) ⟨GP.rf hC, rfl⟩ ?_ ?_)
  · rintro k m _ hk5 ⟨hm, rfl⟩ ih5
    refine g_iload_5 hX dX5_mixedHumps_5 ?_
    refine g_aload_0 hX dX5_mixedHumps_7 ?_
    refine gt_X5_bus hX dX5_mixedHumps_8 ?_
    refine g_cV0r hX mkX0_lineCount ml_X5_163 (c_X0_lineCount (bus_1 Z)) ((bus_1 Z).obj _) dX5_mixedHumps_11 rfl (by decide) (Nat.le_of_ble_eq_true rfl) ?_
    refine g_icmp_ge hX 60 dX5_mixedHumps_14 (by decide) (fun c14 => ?_) (fun c14 => ?_)
    · exact absurd c14 (not_not_intro (by rw [hm.2.1 1 (by omega), hn]; exact nI_lt hk5 (by omega)))
    · refine g_iconst hX 0 dX5_mixedHumps_17 (by decide) ?_
      refine g_istore_6 hX dX5_mixedHumps_18 rfl ?_
      refine g_loopI (np (cv b 1)) (fun p m2 LL => (GP b 0 m2) ∧ LL = [some (.ref (zad Z 0)), some (.long h0), none, some (.long (it (fun p h => mix h (drV (cv b 1) k p)) p (it (fun l h => it (fun p h => mix h (drV (cv b 1) l p)) (np (cv b 1)) h) k h0))), none, some (.int (nI k)), some (.int (nI p))]) ⟨hm, rfl⟩ ?_ ?_
      · rintro p m2 _ hk20 ⟨hm2, rfl⟩ ih20
        refine g_iload_6 hX dX5_mixedHumps_20 ?_
        refine g_aload_0 hX dX5_mixedHumps_22 ?_
        refine gt_X5_bus hX dX5_mixedHumps_23 ?_
        refine g_cV0r hX mkX0_pocketCount ml_X5_167 (c_X0_pocketCount (bus_1 Z)) ((bus_1 Z).obj _) dX5_mixedHumps_26 rfl (by decide) (Nat.le_of_ble_eq_true rfl) ?_
        refine g_icmp_ge hX 54 dX5_mixedHumps_29 (by decide) (fun c29 => ?_) (fun c29 => ?_)
        · exact absurd c29 (not_not_intro (by rw [hm2.2.1 1 (by omega), hp]; exact nI_lt hk20 (by omega)))
        · refine g_lload_3 hX dX5_mixedHumps_32 ?_
          refine g_aload_0 hX dX5_mixedHumps_33 ?_
          refine g_eV0r hX mkX5_plan ml_X5_148 (c_X5_plan hm2.1) (ob_0 Z _) dX5_mixedHumps_34 rfl (by decide) (Nat.le_of_ble_eq_true rfl) (fun m34 h34 => ?_)
          refine g_iload_5 hX dX5_mixedHumps_37 ?_
          refine g_iload_6 hX dX5_mixedHumps_39 ?_
          refine g_cV2r hX mkX3_drawnBy ml_X5_182 (c_X3_drawnBy (shr_56 Z) (by omega) (by omega)) ((shr_56 Z).obj _) dX5_mixedHumps_41 rfl (by decide) (Nat.le_of_ble_eq_true rfl) ?_
          refine g_top (drV (cv b 1) k p) (by
            have hp2 := (GP.pl h34).1
            rw [hm2.2.1.cv1] at hp2
            exact (hp2.2 hfit).1 k p hk5 hk20) ?_
          refine g_cS2r hX mkX5_mixed ml_X5_237 (c_X5_mixed) dX5_mixedHumps_44 rfl (by decide) (Nat.le_of_ble_eq_true rfl) ?_
          refine g_lstore_3 hX dX5_mixedHumps_47 rfl ?_
          refine g_iinc_6 hX 1 dX5_mixedHumps_48 (by decide) rfl ?_
          refine g_goto hX 20 dX5_mixedHumps_51 (by decide) ?_
          exact (ih20 _ _ ⟨hm2.tr h34.1, by simp only [it, nI_succ]⟩)
      · rintro m2 _ ⟨hm2, rfl⟩
        refine g_iload_6 hX dX5_mixedHumps_20 ?_
        refine g_aload_0 hX dX5_mixedHumps_22 ?_
        refine gt_X5_bus hX dX5_mixedHumps_23 ?_
        refine g_cV0r hX mkX0_pocketCount ml_X5_167 (c_X0_pocketCount (bus_1 Z)) ((bus_1 Z).obj _) dX5_mixedHumps_26 rfl (by decide) (Nat.le_of_ble_eq_true rfl) ?_
        refine g_icmp_ge hX 54 dX5_mixedHumps_29 (by decide) (fun c29 => ?_) (fun c29 => ?_)
        · refine g_iinc_5 hX 1 dX5_mixedHumps_54 (by decide) rfl ?_
          refine g_goto hX 5 dX5_mixedHumps_57 (by decide) ?_
          exact g_weak (lvw_c (lvw_c (lvw_c (lvw_c (lvw_c (lvw_c (lvw_n lvw_nil))))))) (ih5 _ _ ⟨hm2, by simp only [it, nI_succ]⟩)
        · exact absurd c29 (by rw [hm2.2.1 1 (by omega), hp]; exact Int32.lt_irrefl)
  · rintro m _ ⟨hm, rfl⟩
    refine g_iload_5 hX dX5_mixedHumps_5 ?_
    refine g_aload_0 hX dX5_mixedHumps_7 ?_
    refine gt_X5_bus hX dX5_mixedHumps_8 ?_
    refine g_cV0r hX mkX0_lineCount ml_X5_163 (c_X0_lineCount (bus_1 Z)) ((bus_1 Z).obj _) dX5_mixedHumps_11 rfl (by decide) (Nat.le_of_ble_eq_true rfl) ?_
    refine g_icmp_ge hX 60 dX5_mixedHumps_14 (by decide) (fun c14 => ?_) (fun c14 => ?_)
    · refine g_lload_3 hX dX5_mixedHumps_60 ?_
      exact hq _ _ _ _ dX5_mixedHumps_61 (⟨rfl, hm⟩)
    · exact absurd c14 (by rw [hm.2.1 1 (by omega), hn]; exact Int32.lt_irrefl)
set_option maxRecDepth 100000 in
set_option maxHeartbeats 4000000 in
theorem c_X5_digest {Z : Zt} {b : Mem} (hC : CI b) : ConE Z yX5_digest cX5_digest 5 (some .long) 6 [.ref (zad Z 0)] b (pL (fun x b' => x = dgS (cv b 1) (fun w => toV b (nI w)) ∧ GP b 0 b')) := by
  have hV := hC.1.1
  have hn : b 1 6 = nI (nl (cv b 1)) := hV.1.1
  have hn6 := hV.1.2
  have hp : b 1 7 = nI (np (cv b 1)) := hV.2.1.1
  have hp6 := hV.2.1.2
  refine conE_l (by decide) (Nat.le_of_ble_eq_true rfl) rfl (fun X hX hq => ?_)
  have hX : Ok Z X cX5_digest 5 RX5 6 := hX
  show G Z X b 0 [some (.ref (zad Z 0)), none, none, none, none] []
  refine g_ldc2 hX 2053 co_X5_232 dX5_digest_0 ?_
  refine g_lstore_1 hX dX5_digest_3 rfl ?_
  refine g_iconst hX 0 dX5_digest_4 (by decide) ?_
  refine g_istore_3 hX dX5_digest_5 rfl ?_
  refine g_loopI (5) (fun k m LL => (GP b 0 m) ∧ LL = [some (.ref (zad Z 0)), some (.long (it (fun w h => mix h (toV b (nI w))) k 2053)), none, some (.int (nI k)), none]) ⟨GP.rf hC, rfl⟩ ?_ ?_
  · rintro k m _ hk6 ⟨hm, rfl⟩ ih6
    refine g_iload_3 hX dX5_digest_6 ?_
    refine g_iconst hX 5 dX5_digest_7 (by decide) ?_
    refine g_icmp_ge hX 27 dX5_digest_8 (by decide) (fun c8 => ?_) (fun c8 => ?_)
    · exact absurd c8 (not_not_intro (nI_lt (b := 5) hk6 (by decide)))
    · refine g_lload_1 hX dX5_digest_11 ?_
      refine g_aload_0 hX dX5_digest_12 ?_
      refine g_iload_3 hX dX5_digest_13 ?_
      refine g_eV1i hX mkX5_told ml_X5_234 (c_X5_told hm.1) (ob_0 Z _) dX5_digest_14 rfl (by decide) (Nat.le_of_ble_eq_true rfl) (fun x14 m14 h14 => ?_)
      obtain ⟨rfl, h14⟩ := h14
      rw [(to_in m (show k ≤ 4 by omega)).2] at h14
      refine g_top (toV b (nI k)) (by rw [(to_in m (show k ≤ 4 by omega)).1, hm.to]) ?_
      refine g_cS2r hX mkX5_mixed ml_X5_237 (c_X5_mixed) dX5_digest_17 rfl (by decide) (Nat.le_of_ble_eq_true rfl) ?_
      refine g_lstore_1 hX dX5_digest_20 rfl ?_
      refine g_iinc_3 hX 1 dX5_digest_21 (by decide) rfl ?_
      refine g_goto hX 6 dX5_digest_24 (by decide) ?_
      exact (ih6 _ _ ⟨hm.tr h14, by simp only [it, nI_succ]⟩)
  · rintro m _ ⟨hm, rfl⟩
    refine g_iload_3 hX dX5_digest_6 ?_
    refine g_iconst hX 5 dX5_digest_7 (by decide) ?_
    refine g_icmp_ge hX 27 dX5_digest_8 (by decide) (fun c8 => ?_) (fun c8 => ?_)
    · obtain ⟨HA, eA⟩ : ∃ H, H = it (fun w h => mix h (toV b (nI w))) 5 2053 := ⟨_, rfl⟩
      rw [← eA]
      refine g_iconst hX 0 dX5_digest_27 (by decide) ?_
      refine g_istore_3 hX dX5_digest_28 rfl ?_
      refine g_loopI (7) (fun k m LL => (GP b 0 m) ∧ LL = [some (.ref (zad Z 0)), some (.long (it (fun w h => mix h (coV (cv b 1) (nI w))) k HA)), none, some (.int (nI k)), none]) ⟨hm, rfl⟩ ?_ ?_
      · rintro k m _ hk29 ⟨hm, rfl⟩ ih29
        refine g_iload_3 hX dX5_digest_29 ?_
        refine g_bipush hX 7 dX5_digest_30 (by decide) ?_
        refine g_icmp_ge hX 51 dX5_digest_32 (by decide) (fun c32 => ?_) (fun c32 => ?_)
        · exact absurd c32 (not_not_intro (nI_lt (b := 7) hk29 (by decide)))
        · refine g_lload_1 hX dX5_digest_35 ?_
          refine g_aload_0 hX dX5_digest_36 ?_
          refine g_iload_3 hX dX5_digest_37 ?_
          refine g_eV1i hX mkX5_count ml_X5_241 (c_X5_count hm.1) (ob_0 Z _) dX5_digest_38 rfl (by decide) (Nat.le_of_ble_eq_true rfl) (fun x38 m38 h38 => ?_)
          obtain ⟨rfl, h38⟩ := h38
          rw [(co_in (cv m 1) (show k ≤ 6 by omega)).2.symm.symm] at h38
          refine g_top (coV (cv b 1) (nI k)) (by rw [(co_in (cv m 1) (show k ≤ 6 by omega)).1, hm.2.1.cv1]) ?_
          refine g_cS2r hX mkX5_mixed ml_X5_237 (c_X5_mixed) dX5_digest_41 rfl (by decide) (Nat.le_of_ble_eq_true rfl) ?_
          refine g_lstore_1 hX dX5_digest_44 rfl ?_
          refine g_iinc_3 hX 1 dX5_digest_45 (by decide) rfl ?_
          refine g_goto hX 29 dX5_digest_48 (by decide) ?_
          exact (ih29 _ _ ⟨hm.tr h38, by simp only [it, nI_succ]⟩)
      · rintro m _ ⟨hm, rfl⟩
        refine g_iload_3 hX dX5_digest_29 ?_
        refine g_bipush hX 7 dX5_digest_30 (by decide) ?_
        refine g_icmp_ge hX 51 dX5_digest_32 (by decide) (fun c32 => ?_) (fun c32 => ?_)
        · obtain ⟨HB, eB⟩ : ∃ H, H = it (fun w h => mix h (coV (cv b 1) (nI w))) 7 HA := ⟨_, rfl⟩
          rw [← eB]
          refine g_iconst hX 0 dX5_digest_51 (by decide) ?_
          refine g_istore_3 hX dX5_digest_52 rfl ?_
          refine g_loopI (7) (fun k m LL => (GP b 0 m) ∧ LL = [some (.ref (zad Z 0)), some (.long (it (fun k h => mix h (cv b 1 5 k 0)) k HB)), none, some (.int (nI k)), none]) ⟨hm, rfl⟩ ?_ ?_
          · rintro k m _ hk53 ⟨hm, rfl⟩ ih53
            refine g_iload_3 hX dX5_digest_53 ?_
            refine g_bipush hX 7 dX5_digest_54 (by decide) ?_
            refine g_icmp_ge hX 78 dX5_digest_56 (by decide) (fun c56 => ?_) (fun c56 => ?_)
            · exact absurd c56 (not_not_intro (nI_lt (b := 7) hk53 (by decide)))
            · refine g_lload_1 hX dX5_digest_59 ?_
              refine g_aload_0 hX dX5_digest_60 ?_
              refine gt_X5_bus hX dX5_digest_61 ?_
              refine g_iload_3 hX dX5_digest_64 ?_
              refine g_cV1r hX mkX0_settingAt ml_X5_108 (c_X0_settingAt (bus_1 Z) hk53) ((bus_1 Z).obj _) dX5_digest_65 rfl (by decide) (Nat.le_of_ble_eq_true rfl) ?_
              refine g_top (cv b 1 5 k 0) (by rw [hm.2.1 7 (by omega)]; rfl) ?_
              refine g_cS2r hX mkX5_mixed ml_X5_237 (c_X5_mixed) dX5_digest_68 rfl (by decide) (Nat.le_of_ble_eq_true rfl) ?_
              refine g_lstore_1 hX dX5_digest_71 rfl ?_
              refine g_iinc_3 hX 1 dX5_digest_72 (by decide) rfl ?_
              refine g_goto hX 53 dX5_digest_75 (by decide) ?_
              exact (ih53 _ _ ⟨hm, by simp only [it, nI_succ]⟩)
          · rintro m _ ⟨hm, rfl⟩
            refine g_iload_3 hX dX5_digest_53 ?_
            refine g_bipush hX 7 dX5_digest_54 (by decide) ?_
            refine g_icmp_ge hX 78 dX5_digest_56 (by decide) (fun c56 => ?_) (fun c56 => ?_)
            · obtain ⟨HC, eC⟩ : ∃ H, H = it (fun k h => mix h (cv b 1 5 k 0)) 7 HB := ⟨_, rfl⟩
              rw [← eC]
              refine g_iconst hX 0 dX5_digest_78 (by decide) ?_
              refine g_istore_3 hX dX5_digest_79 rfl ?_
              refine g_loopI (nl (cv b 1)) (fun k m LL => (GP b 0 m) ∧ LL = [some (.ref (zad Z 0)), some (.long (it (mlS (cv b 1)) k HC)), none, some (.int (nI k)), none]) ⟨hm, rfl⟩ ?_ ?_
              · rintro k m _ hk80 ⟨hm, rfl⟩ ih80
                refine g_iload_3 hX dX5_digest_80 ?_
                refine g_aload_0 hX dX5_digest_81 ?_
                refine gt_X5_bus hX dX5_digest_82 ?_
                refine g_cV0r hX mkX0_lineCount ml_X5_163 (c_X0_lineCount (bus_1 Z)) ((bus_1 Z).obj _) dX5_digest_85 rfl (by decide) (Nat.le_of_ble_eq_true rfl) ?_
                refine g_icmp_ge hX 104 dX5_digest_88 (by decide) (fun c88 => ?_) (fun c88 => ?_)
                · exact absurd c88 (not_not_intro (by rw [hm.2.1 1 (by omega), hn]; exact nI_lt hk80 (by omega)))
                · refine g_aload_0 hX dX5_digest_91 ?_
                  refine g_lload_1 hX dX5_digest_92 ?_
                  refine g_iload_3 hX dX5_digest_93 ?_
                  refine g_eV2l hX mkX5_mixedLine ml_X5_244 (c_X5_mixedLine hm.1 (by rw [hm.2.1.cv1]; exact hk80)) (ob_0 Z _) dX5_digest_94 rfl (by decide) (Nat.le_of_ble_eq_true rfl) (fun x94 m94 h94 => ?_)
                  obtain ⟨rfl, h94⟩ := h94
                  rw [hm.2.1.cv1]
                  refine g_lstore_1 hX dX5_digest_97 rfl ?_
                  refine g_iinc_3 hX 1 dX5_digest_98 (by decide) rfl ?_
                  refine g_goto hX 80 dX5_digest_101 (by decide) ?_
                  exact (ih80 _ _ ⟨hm.tr h94, by simp only [it, nI_succ]⟩)
              · rintro m _ ⟨hm, rfl⟩
                refine g_iload_3 hX dX5_digest_80 ?_
                refine g_aload_0 hX dX5_digest_81 ?_
                refine gt_X5_bus hX dX5_digest_82 ?_
                refine g_cV0r hX mkX0_lineCount ml_X5_163 (c_X0_lineCount (bus_1 Z)) ((bus_1 Z).obj _) dX5_digest_85 rfl (by decide) (Nat.le_of_ble_eq_true rfl) ?_
                refine g_icmp_ge hX 104 dX5_digest_88 (by decide) (fun c88 => ?_) (fun c88 => ?_)
                · obtain ⟨HD, eD⟩ : ∃ H, H = it (mlS (cv b 1)) (nl (cv b 1)) HC := ⟨_, rfl⟩
                  rw [← eD]
                  refine g_iconst hX 0 dX5_digest_104 (by decide) ?_
                  refine g_istore_3 hX dX5_digest_105 rfl ?_
                  refine g_weak (lvw_c (lvw_c (lvw_c (lvw_c (lvw_n lvw_nil))))) (g_loopI (np (cv b 1)) (fun k m LL => (GP b 0 m) ∧ LL = [some (.ref (zad Z 0)), some (.long (it (fun p h => it (fun w h => mix h (abV (cv b 1) p (nI w))) 4 h) k HD)), none, some (.int (nI k)), none]) ⟨hm, rfl⟩ ?_ ?_)
                  · rintro k m _ hk106 ⟨hm, rfl⟩ ih106
                    refine g_iload_3 hX dX5_digest_106 ?_
                    refine g_aload_0 hX dX5_digest_107 ?_
                    refine gt_X5_bus hX dX5_digest_108 ?_
                    refine g_cV0r hX mkX0_pocketCount ml_X5_167 (c_X0_pocketCount (bus_1 Z)) ((bus_1 Z).obj _) dX5_digest_111 rfl (by decide) (Nat.le_of_ble_eq_true rfl) ?_
                    refine g_icmp_ge hX 150 dX5_digest_114 (by decide) (fun c114 => ?_) (fun c114 => ?_)
                    · exact absurd c114 (not_not_intro (by rw [hm.2.1 1 (by omega), hp]; exact nI_lt hk106 (by omega)))
                    · refine g_iconst hX 0 dX5_digest_117 (by decide) ?_
                      refine g_istore_4 hX dX5_digest_118 rfl ?_
                      refine g_loopI (4) (fun w m2 LL => (GP b 0 m2) ∧ LL = [some (.ref (zad Z 0)), some (.long (it (fun w h => mix h (abV (cv b 1) k (nI w))) w (it (fun p h => it (fun w h => mix h (abV (cv b 1) p (nI w))) 4 h) k HD))), none, some (.int (nI k)), some (.int (nI w))]) ⟨hm, rfl⟩ ?_ ?_
                      · rintro w m2 _ hk120 ⟨hm2, rfl⟩ ih120
                        refine g_iload_4 hX dX5_digest_120 ?_
                        refine g_iconst hX 4 dX5_digest_122 (by decide) ?_
                        refine g_icmp_ge hX 144 dX5_digest_123 (by decide) (fun c123 => ?_) (fun c123 => ?_)
                        · exact absurd c123 (not_not_intro (nI_lt (b := 4) hk120 (by decide)))
                        · refine g_lload_1 hX dX5_digest_126 ?_
                          refine g_aload_0 hX dX5_digest_127 ?_
                          refine g_iload_3 hX dX5_digest_128 ?_
                          refine g_iload_4 hX dX5_digest_129 ?_
                          refine g_eV2i hX mkX5_about ml_X5_247 (c_X5_about hm2.1) (ob_0 Z _) dX5_digest_131 rfl (by decide) (Nat.le_of_ble_eq_true rfl) (fun x131 m131 h131 => ?_)
                          obtain ⟨rfl, h131⟩ := h131
                          rw [hm2.2.1.cv1] at h131 ⊢
                          rw [(ab_in hV hk106 (by omega)).2] at h131
                          refine g_top _ (ab_in hV hk106 (by omega)).1 ?_
                          refine g_cS2r hX mkX5_mixed ml_X5_237 (c_X5_mixed) dX5_digest_134 rfl (by decide) (Nat.le_of_ble_eq_true rfl) ?_
                          refine g_lstore_1 hX dX5_digest_137 rfl ?_
                          refine g_iinc_4 hX 1 dX5_digest_138 (by decide) rfl ?_
                          refine g_goto hX 120 dX5_digest_141 (by decide) ?_
                          exact (ih120 _ _ ⟨hm2.tr h131, by simp only [it, nI_succ]⟩)
                      · rintro m2 _ ⟨hm2, rfl⟩
                        refine g_iload_4 hX dX5_digest_120 ?_
                        refine g_iconst hX 4 dX5_digest_122 (by decide) ?_
                        refine g_icmp_ge hX 144 dX5_digest_123 (by decide) (fun c123 => ?_) (fun c123 => ?_)
                        · refine g_iinc_3 hX 1 dX5_digest_144 (by decide) rfl ?_
                          refine g_goto hX 106 dX5_digest_147 (by decide) ?_
                          exact g_weak (lvw_c (lvw_c (lvw_c (lvw_c (lvw_n lvw_nil))))) (ih106 _ _ ⟨hm2, by simp only [it, nI_succ]⟩)
                        · exact absurd c123 (Int32.lt_irrefl)
                  · rintro m _ ⟨hm, rfl⟩
                    refine g_iload_3 hX dX5_digest_106 ?_
                    refine g_aload_0 hX dX5_digest_107 ?_
                    refine gt_X5_bus hX dX5_digest_108 ?_
                    refine g_cV0r hX mkX0_pocketCount ml_X5_167 (c_X0_pocketCount (bus_1 Z)) ((bus_1 Z).obj _) dX5_digest_111 rfl (by decide) (Nat.le_of_ble_eq_true rfl) ?_
                    refine g_icmp_ge hX 150 dX5_digest_114 (by decide) (fun c114 => ?_) (fun c114 => ?_)
                    · obtain ⟨HE, eE⟩ : ∃ H, H = it (fun p h => it (fun w h => mix h (abV (cv b 1) p (nI w))) 4 h) (np (cv b 1)) HD := ⟨_, rfl⟩
                      rw [← eE]
                      have e5 : HE = d5S (cv b 1) (fun w => toV b (nI w)) := by unfold d5S; rw [eE, eD, eC, eB, eA]
                      refine g_lload_1 hX dX5_digest_150 ?_
                      refine g_aload_0 hX dX5_digest_151 ?_
                      refine g_eV0i hX mkX5_blocked ml_X5_250 (c_X5_blocked hm.1) (ob_0 Z _) dX5_digest_152 rfl (by decide) (Nat.le_of_ble_eq_true rfl) (fun x152 m152 h152 => ?_)
                      obtain ⟨rfl, h152⟩ := h152
                      rw [hm.2.1.cv1]
                      have hm52 := hm.tr h152
                      refine g_cS2r hX mkX5_mixed ml_X5_237 (c_X5_mixed) dX5_digest_155 rfl (by decide) (Nat.le_of_ble_eq_true rfl) ?_
                      refine g_aload_0 hX dX5_digest_158 ?_
                      refine g_eV0i hX mkX5_least ml_X5_253 (c_X5_least hm52.1) (ob_0 Z _) dX5_digest_159 rfl (by decide) (Nat.le_of_ble_eq_true rfl) (fun x159 m159 h159 => ?_)
                      obtain ⟨rfl, h159⟩ := h159
                      rw [hm52.2.1.cv1]
                      have hm59 := hm52.tr h159
                      refine g_cS2r hX mkX5_mixed ml_X5_237 (c_X5_mixed) dX5_digest_162 rfl (by decide) (Nat.le_of_ble_eq_true rfl) ?_
                      refine g_aload_0 hX dX5_digest_165 ?_
                      refine g_eV0i hX mkX5_greatest ml_X5_256 (c_X5_greatest hm59.1) (ob_0 Z _) dX5_digest_166 rfl (by decide) (Nat.le_of_ble_eq_true rfl) (fun x166 m166 h166 => ?_)
                      obtain ⟨rfl, h166⟩ := h166
                      rw [hm59.2.1.cv1]
                      have hm66 := hm59.tr h166
                      refine g_cS2r hX mkX5_mixed ml_X5_237 (c_X5_mixed) dX5_digest_169 rfl (by decide) (Nat.le_of_ble_eq_true rfl) ?_
                      refine g_lstore_1 hX dX5_digest_172 rfl ?_
                      refine g_aload_0 hX dX5_digest_173 ?_
                      refine g_eV0r hX mkX5_plan ml_X5_148 (c_X5_plan hm66.1) (ob_0 Z _) dX5_digest_174 rfl (by decide) (Nat.le_of_ble_eq_true rfl) (fun m174 h174 => ?_)
                      have hbl := (GP.pl h174).2.2
                      rw [hm66.2.1.cv1] at hbl
                      have hm74 := hm66.tr h174.1
                      refine g_cV0r hX mkX3_allFit ml_X5_152 (c_X3_allFit (shr_56 Z)) ((shr_56 Z).obj _) dX5_digest_177 rfl (by decide) (Nat.le_of_ble_eq_true rfl) ?_
                      refine g_if_eq hX 191 dX5_digest_180 (by decide) (fun c180 => ?_) (fun c180 => ?_)
                      · replace c180 := bI_z.mp c180
                        refine g_lload_1 hX dX5_digest_191 ?_
                        exact hq _ _ _ _ dX5_digest_192 (⟨by rw [dgS, if_neg (fun z => c180 (hbl.mpr z)), d6S, ← e5], hm74⟩)
                      · replace c180 := bI_nz.mp c180
                        have hfit := hbl.mp c180
                        refine g_aload_0 hX dX5_digest_183 ?_
                        refine g_lload_1 hX dX5_digest_184 ?_
                        refine g_eV1l hX mkX5_mixedHumps ml_X5_259 (c_X5_mixedHumps hm74.1 (by rw [hm74.2.1.cv1]; exact hfit)) (ob_0 Z _) dX5_digest_185 rfl (by decide) (Nat.le_of_ble_eq_true rfl) (fun x185 m185 h185 => ?_)
                        obtain ⟨rfl, h185⟩ := h185
                        rw [hm74.2.1.cv1]
                        refine g_goto hX 192 dX5_digest_188 (by decide) ?_
                        exact hq _ _ _ _ dX5_digest_192 (⟨by rw [dgS, if_pos hfit, d6S, ← e5], hm74.tr h185⟩)
                    · exact absurd c114 (by rw [hm.2.1 1 (by omega), hp]; exact Int32.lt_irrefl)
                · exact absurd c88 (by rw [hm.2.1 1 (by omega), hn]; exact Int32.lt_irrefl)
            · exact absurd c56 (Int32.lt_irrefl)
        · exact absurd c32 (Int32.lt_irrefl)
    · exact absurd c8 (Int32.lt_irrefl)
