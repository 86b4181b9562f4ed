/-! SnakedBus: type, clear, back, does -/
theorem nI_nm1 {n : Nat} (h : n < 2 ^ 31) : ¬ nI n = -1 := fun z => nI_pos h (by rw [z]; decide)
def tn (b : Mem) : Nat := (b 52 3).toNatClampNeg
theorem TX.n {b : Mem} (h : TX b) : b 52 3 = nI (tn b) ∧ tn b ≤ 120 := by
  obtain ⟨⟨n, h1, h2⟩, -⟩ := h
  unfold tn
  rw [h1, nI_clamp (by omega)]
  exact ⟨rfl, h2⟩
/-- a change of the text's cells alone -/
theorem CI.text {b b' : Mem} (h : CI b) (hk : ∀ j, (j < 52 ∨ 55 < j) → b' j = b j) (hT : TX b') : CI b' := by
  have e : cv b' 1 = cv b 1 := cv_same (fun j h1 h2 => hk j (by omega))
  obtain ⟨q1, q2, q3, q4, q5⟩ := h.2.2.2.2.st
  have ek : pk b' = pk b := by unfold pk; rw [hk 50 (by omega)]
  refine ⟨by rw [e]; exact h.1, ?_, ?_, hT, PS_mk (by rw [hk 50 (by omega)]; exact q1) q2 (by rw [hk 50 (by omega)]; exact q3) q4 (fun j hj => ?_)⟩
  · unfold Zs
    rw [hk _ (by omega), hk _ (by omega), hk _ (by omega), hk _ (by omega)]; exact h.2.1
  · rw [e, hk 0 (by omega)]
    rcases h.2.2.1 with q | ⟨q1, q2⟩
    · exact Or.inl q
    · exact Or.inr ⟨q1, q2.same (by rw [hk 56 (by omega)]) (hk 59 (by omega)) (hk 60 (by omega))⟩
  · have : pv b' j = pv b j := by
      unfold pv; rw [ek]; exact cv_same (fun i h1 h2 => hk i (by omega))
    rw [this]; exact q5 j hj
def tyM (b : Mem) (c : Int32) : Mem := up2 (up2 b 53 (tn b) c) 52 3 (nI (tn b) + 1)
def tyR (b : Mem) (c : Int32) : Int32 := if ¬ c < 0 ∧ ¬ 127 < c then (if b 52 3 < 120 then b 52 3 + 1 else -4) else -2
def tyP (b : Mem) (c : Int32) (b' : Mem) : Prop := CI b' ∧ (∀ j, (1 ≤ j ∧ j < 52 ∨ 69 ≤ j) → b' j = b j) ∧ (if ¬ c < 0 ∧ ¬ 127 < c then (if b 52 3 < 120 then b' 53 = upd (b 53) (tn b) c ∧ b' 52 3 = b 52 3 + 1 ∧ Ct b b' 0 else b' 53 = b 53 ∧ b' 52 3 = b 52 3 ∧ Ct b b' (-4)) else b' 53 = b 53 ∧ b' 52 3 = b 52 3 ∧ Ct b b' (-2))
theorem GP.tx {b b' : Mem} {c : Int32} (h : GP b c b') : b' 53 = b 53 ∧ b' 52 3 = b 52 3 ∧ Ct b b' c := ⟨h.2.1 53 (by omega), by rw [h.2.1 52 (by omega)], h.2.2⟩
theorem tyM_ci {b : Mem} (h : CI b) (c : Int32) (hb : b 52 3 < 120) : CI (tyM b c) := by
  obtain ⟨h1, h2⟩ := h.2.2.2.1.n
  have hlt : tn b < 120 := (nI_ltI (b := 120) (by omega) (by decide)).mp (by rw [← h1]; exact hb)
  obtain ⟨g, f, t1, t2, t3, t4⟩ := h.2.2.2.1.2
  refine h.text (fun j hj => by unfold tyM; rw [u2c _ _ (by omega), u2c _ _ (by omega)]) ⟨⟨tn b + 1, by unfold tyM; rw [u2s, nI_1], by omega⟩, g, f, ?_, ?_, t3, t4⟩
  · unfold tyM; rw [u2k _ _ (by decide), u2c _ _ (by decide)]; exact t1
  · unfold tyM; rw [u2k _ _ (by decide), u2c _ _ (by decide)]; exact t2
set_option maxRecDepth 100000 in
set_option maxHeartbeats 4000000 in
theorem c_X5_type {Z : Zt} {b : Mem} {c : Int32} (hC : CI b) : ConE Z yX5_type cX5_type 2 (some .int) 2 [.ref (zad Z 0), .int c] b (pI (fun x b' => x = tyR b c ∧ tyP b c b')) := by
  obtain ⟨t1, t2⟩ := hC.2.2.2.1.n
  refine conE_i (by decide) (Nat.le_of_ble_eq_true rfl) rfl (fun X hX hq => ?_)
  have hX : Ok Z X cX5_type 2 RX5 2 := hX
  show G Z X b 0 [some (.ref (zad Z 0)), some (.int c)] []
  refine g_iload_1 hX dX5_type_0 ?_
  refine g_iconst hX 0 dX5_type_1 (by decide) ?_
  refine g_bipush hX 127 dX5_type_2 (by decide) ?_
  refine g_cS3r hX mkX5_within ml_X5_159 (c_X5_within) dX5_type_4 rfl (by decide) (Nat.le_of_ble_eq_true rfl) ?_
  refine g_if_ne hX 17 dX5_type_7 (by decide) (fun c7 => ?_) (fun c7 => ?_)
  · replace c7 := bI_nz.mp c7
    refine g_aload_0 hX dX5_type_17 ?_
    refine gt_X5_text hX dX5_type_18 ?_
    refine g_iload_1 hX dX5_type_21 ?_
    refine g_cV1r hX mkX4_append ml_X5_205 (c_X4_append t1 t2) (ob_52 Z _) dX5_type_22 rfl (by decide) (Nat.le_of_ble_eq_true rfl) ?_
    refine g_if_eq hX 38 dX5_type_25 (by decide) (fun c25 => ?_) (fun c25 => ?_)
    · replace c25 := bI_z.mp c25
      rw [if_neg c25]
      refine g_aload_0 hX dX5_type_38 ?_
      refine g_bipush hX (-4) dX5_type_39 (by decide) ?_
      refine g_cV1r hX mkX5_refused ml_X5_99 (c_X5_refused) (ob_0 Z _) dX5_type_41 rfl (by decide) (Nat.le_of_ble_eq_true rfl) ?_
      exact hq _ _ _ _ dX5_type_44 (⟨by rw [tyR, if_pos c7, if_neg c25], (GP.ref hC (-4)).1, fun j hj => refM_c _ _ (by omega), by rw [if_pos c7, if_neg c25]; exact (GP.ref hC (-4)).tx⟩)
    · replace c25 := bI_nz.mp c25
      rw [if_pos c25]
      refine g_aload_0 hX dX5_type_28 ?_
      refine gt_X5_text hX dX5_type_29 ?_
      refine g_cV0r hX mkX4_size ml_X5_208 (c_X4_size) (ob_52 Z _) dX5_type_32 rfl (by decide) (Nat.le_of_ble_eq_true rfl) ?_
      refine g_goto hX 44 dX5_type_35 (by decide) ?_
      exact hq _ _ _ _ dX5_type_44 (⟨by rw [tyR, if_pos c7, if_pos c25, u2s, t1], tyM_ci hC c c25, fun j hj => by rw [u2c _ _ (by omega), u2c _ _ (by omega)], by rw [if_pos c7, if_pos c25]; exact ⟨by rw [u2c _ _ (by decide)]; exact u1s _ _ _, by rw [u2s, t1], Ct.same ⟨by rw [u2c _ _ (by decide), u2c _ _ (by decide)], by rw [u2c _ _ (by decide), u2c _ _ (by decide)], by rw [u2c _ _ (by decide), u2c _ _ (by decide)]⟩⟩⟩)
  · replace c7 := bI_z.mp c7
    refine g_aload_0 hX dX5_type_10 ?_
    refine g_bipush hX (-2) dX5_type_11 (by decide) ?_
    refine g_cV1r hX mkX5_refused ml_X5_99 (c_X5_refused) (ob_0 Z _) dX5_type_13 rfl (by decide) (Nat.le_of_ble_eq_true rfl) ?_
    exact hq _ _ _ _ dX5_type_16 (⟨by rw [tyR, if_neg c7], (GP.ref hC (-2)).1, fun j hj => refM_c _ _ (by omega), by rw [if_neg c7]; exact (GP.ref hC (-2)).tx⟩)
set_option maxRecDepth 100000 in
set_option maxHeartbeats 4000000 in
theorem c_X5_clear {Z : Zt} {b : Mem} (hC : CI b) : ConE Z yX5_clear cX5_clear 2 (some .int) 1 [.ref (zad Z 0)] b (pI (fun x b' => x = b 52 3 ∧ CI b' ∧ (∀ j, (1 ≤ j ∧ j < 52 ∨ j = 53 ∨ 69 ≤ j) → b' j = b j) ∧ b' 52 3 = 0 ∧ Ct b b' 0)) := by
  obtain ⟨g, f, t1, t2, t3, t4⟩ := hC.2.2.2.1.2
  refine conE_i (by decide) (Nat.le_of_ble_eq_true rfl) rfl (fun X hX hq => ?_)
  have hX : Ok Z X cX5_clear 2 RX5 1 := hX
  show G Z X b 0 [some (.ref (zad Z 0)), none] []
  refine g_aload_0 hX dX5_clear_0 ?_
  refine gt_X5_text hX dX5_clear_1 ?_
  refine g_cV0r hX mkX4_size ml_X5_208 (c_X4_size) (ob_52 Z _) dX5_clear_4 rfl (by decide) (Nat.le_of_ble_eq_true rfl) ?_
  refine g_istore_1 hX dX5_clear_7 rfl ?_
  refine g_aload_0 hX dX5_clear_8 ?_
  refine gt_X5_text hX dX5_clear_9 ?_
  refine g_cV0v hX mkX4_empty ml_X5_211 (c_X4_empty) (ob_52 Z _) dX5_clear_12 rfl (by decide) (Nat.le_of_ble_eq_true rfl) ?_
  refine g_iload_1 hX dX5_clear_15 ?_
  exact hq _ _ _ _ dX5_clear_16 (⟨rfl, hC.text (fun j hj => u2c _ _ (by omega)) ⟨⟨0, u2s _ _ _ _, by omega⟩, g, f, by rw [u2k _ _ (by decide)]; exact t1, by rw [u2k _ _ (by decide)]; exact t2, t3, t4⟩, fun j hj => u2c _ _ (by omega), u2s _ _ _ _, Ct.same ⟨by rw [u2c _ _ (by decide)], by rw [u2c _ _ (by decide)], by rw [u2c _ _ (by decide)]⟩⟩)
/-- a state back -/
def BK (b b' : Mem) : Prop := CI b' ∧ ((∀ j, (j = 53 ∨ 69 ≤ j) → b' j = b j) ∧ b' 52 3 = b 52 3) ∧ Ct b b' 0 ∧ hd b' = hd b - 1 ∧ Rg (cv b' 1) (pv b 0) ∧ ∀ j, j < hd b' → pv b' j = pv b (j + 1)
theorem BK_mk {b : Mem} (hC : CI b) (h0 : ¬ hd b = 0) : BK b (up2 (giveM b (pk b) (hd b) 1) 0 7 0) := by
  obtain ⟨q1, q2, q3, q4, q5⟩ := hC.2.2.2.2.st
  have hk2 : (pk b + 4) % 5 < 5 := Nat.mod_lt _ (by decide)
  unfold giveM
  rw [if_neg h0]
  generalize hb' : up2 (up2 (up2 (tk b 1 (15 + 7 * ((pk b + 4) % 5))) 50 1 (nI ((pk b + 4) % 5))) 50 2 (nI (hd b) - 1)) 0 7 0 = b'
  have c1 : ∀ j, 8 ≤ j → j ≠ 50 → b' j = b j := fun j hj h => by rw [← hb', u2c _ _ (by omega), u2c _ _ h, u2c _ _ h, tk_c _ (by omega)]
  have c0 : ∀ i, i ≠ 7 → b' 0 i = b 0 i := fun i hi => by rw [← hb', u2k _ _ hi, u2c _ _ (by omega), u2c _ _ (by omega), tk_c _ (by omega)]
  have a1 : b' 50 1 = nI ((pk b + 4) % 5) := by rw [← hb', u2c _ _ (by decide), u2k _ _ (by decide), u2s]
  have a2 : b' 50 2 = nI (hd b - 1) := by rw [← hb', u2c _ _ (by decide), u2s, nI_sub1 (by omega)]
  have ek : pk b' = (pk b + 4) % 5 := by show (b' 50 1).toNatClampNeg = _; rw [a1, nI_clamp (by omega)]
  have eh : hd b' = hd b - 1 := by show (b' 50 2).toNatClampNeg = _; rw [a2, nI_clamp (by omega)]
  have hrg : Rg (cv b' 1) (pv b 0) := by
    have e1 : cv b' 1 = cv (tk b 1 (15 + 7 * ((pk b + 4) % 5))) 1 := cv_same (fun j h1 h2 => by rw [← hb', u2c _ _ (by omega), u2c _ _ (by omega), u2c _ _ (by omega)])
    rw [e1]
    exact tk_rg _ (by omega)
  have pj : ∀ j, j < hd b - 1 → pv b' j = pv b (j + 1) := fun j hj => by
    unfold pv
    rw [ek]
    have es : ((pk b + 4) % 5 + 4 - j) % 5 = (pk b + 4 - (j + 1)) % 5 := by omega
    rw [es]
    exact cv_same (fun i h1 h2 => c1 i (by omega) (by omega))
  refine ⟨⟨hrg.sy.vc (q5 0 (by omega)), ?_, Or.inl (by rw [← hb', u2s]), ?_, PS_mk a1 hk2 a2 (by omega) (fun j hj => ?_)⟩, ⟨fun j hj => c1 j (by omega) (by omega), by rw [c1 52 (by omega) (by omega)]⟩, Ct.same ⟨c0 8 (by decide), c0 9 (by decide), c0 10 (by decide)⟩, eh, hrg, fun j hj => pj j (by rw [eh] at hj; exact hj)⟩
  · unfold Zs
    rw [c1 _ (by omega) (by omega), c1 _ (by omega) (by omega), c1 _ (by omega) (by omega), c1 _ (by omega) (by omega)]; exact hC.2.1
  · have := hC.2.2.2.1
    unfold TX TI at *
    rw [c1 52 (by omega) (by omega)]; exact this
  · rw [pj j hj]; exact q5 (j + 1) (by omega)
set_option maxRecDepth 100000 in
set_option maxHeartbeats 4000000 in
theorem c_X5_back {Z : Zt} {b : Mem} (hC : CI b) : ConE Z yX5_back cX5_back 1 (some .int) 4 [.ref (zad Z 0)] b (pI (fun x b' => (hd b = 0 ∧ x = -3 ∧ GP b (-3) b') ∨ (¬ hd b = 0 ∧ x = nI (hd b - 1) ∧ BK b b'))) := by
  obtain ⟨q1, q2, q3, q4, q5⟩ := hC.2.2.2.2.st
  refine conE_i (by decide) (Nat.le_of_ble_eq_true rfl) rfl (fun X hX hq => ?_)
  have hX : Ok Z X cX5_back 1 RX5 4 := hX
  show G Z X b 0 [some (.ref (zad Z 0))] []
  refine g_aload_0 hX dX5_back_0 ?_
  refine gt_X5_past hX dX5_back_1 ?_
  refine g_aload_0 hX dX5_back_4 ?_
  refine gt_X5_bus hX dX5_back_5 ?_
  refine g_cV1r hX mkX1_giveBack ml_X5_227 (c_X1_giveBack (bus_1 Z) q1 q2 q3 q4 (by decide)) (ob_50 Z _) dX5_back_8 rfl (by decide) (Nat.le_of_ble_eq_true rfl) ?_
  refine g_if_ne hX 21 dX5_back_11 (by decide) (fun c11 => ?_) (fun c11 => ?_)
  · replace c11 := bI_nz.mp c11
    refine g_aload_0 hX dX5_back_21 ?_
    refine g_iconst hX 0 dX5_back_22 (by decide) ?_
    refine pt_X5_planned hX (by rfl) (by rfl) dX5_back_23 ?_
    refine g_aload_0 hX dX5_back_26 ?_
    refine gt_X5_past hX dX5_back_27 ?_
    refine g_cV0r hX mkX1_size ml_X5_231 (c_X1_size) (ob_50 Z _) dX5_back_30 rfl (by decide) (Nat.le_of_ble_eq_true rfl) ?_
    exact hq _ _ _ _ dX5_back_33 (Or.inr ⟨c11, by rw [u2c _ _ (by decide), giveM, if_neg c11, u2s, nI_sub1 (by omega)], BK_mk hC c11⟩)
  · replace c11 := bI_z.mp c11
    refine g_aload_0 hX dX5_back_14 ?_
    refine g_bipush hX (-3) dX5_back_15 (by decide) ?_
    refine g_cV1r hX mkX5_refused ml_X5_99 (c_X5_refused) (ob_0 Z _) dX5_back_17 rfl (by decide) (Nat.le_of_ble_eq_true rfl) ?_
    exact hq _ _ _ _ dX5_back_20 (Or.inl ⟨Classical.not_not.mp c11, rfl, by rw [giveM, if_pos (Classical.not_not.mp c11)]; exact GP.ref hC (-3)⟩)
/-- nothing is done: the text's own rows and trial alone have changed -/
def DF (b b' : Mem) : Prop := RF b 0 b'
def okT (b : Mem) (k : Nat) : Prop := tcB (prM b k) (b 53 k) = true
theorem TI_of {b : Mem} {i : Nat} (h : PI b i) : TI b := by
  obtain ⟨w, g, f, hw, hg, hf, f3, g3', -⟩ := h
  exact ⟨g, f, hg, hf, f3, g3'⟩
theorem prM_ci {b : Mem} (hC : CI b) {n : Nat} (hn : n ≤ tn b) (hok : ∀ k, k < n → okT b k) : CI (prM b n) ∧ PI (prM b n) n := by
  obtain ⟨t1, t2⟩ := hC.2.2.2.1.n
  have hp := PI_all hC.2.2.2.1.2 (show n ≤ 120 by omega) hok n (Nat.le_refl _)
  exact ⟨hC.text (fun j hj => prM_c b n (by omega) (by omega) (by omega)) ⟨⟨tn b, by rw [prM_3]; exact t1, t2⟩, TI_of hp⟩, hp⟩
theorem DF_parse {b : Mem} (hC : CI b) {n : Nat} (hn : n ≤ tn b) (hok : ∀ k, k < n → okT b k) : DF b (prM b n) := by
  refine ⟨(prM_ci hC hn hok).1, ⟨fun j hj => prM_c b n (by omega) (by omega) (by omega), prM_3 b n⟩, Ct.same ?_⟩
  rw [prM_c b n (by omega) (by omega) (by omega)]; exact ⟨rfl, rfl, rfl⟩
theorem DF_trial {b m m2 : Mem} (h : DF b m) (hm : ∀ j, (j < 8 ∨ 14 < j) → m2 j = m j) : DF b m2 := by
  have e := RF_mk h.1 hm 0
  have r0 : refM m2 0 = m2 := by unfold refM; rw [if_neg (by decide), if_neg (by decide), if_neg (by decide)]
  rw [r0] at e
  exact ⟨e.1, ⟨fun j hj => by rw [e.2.1.1 j hj, h.2.1.1 j hj], by rw [e.2.1.2, h.2.1.2]⟩, h.2.2.tr e.2.2⟩
theorem AC_text {b m b' : Mem} (h : DF b m) (hA : AC m b') (e51 : ∀ j, (15 ≤ j ∧ j ≤ 51) → m j = b j) : AC b b' := by
  obtain ⟨a1, a2, a3, a4, a5, a6⟩ := hA
  have e1 : cv m 1 = cv b 1 := cv_same (fun j h1 h2 => h.2.1.1 j (by omega))
  have ek : pk m = pk b := by unfold pk; rw [e51 50 (by omega)]
  have eh : hd m = hd b := by unfold hd; rw [e51 50 (by omega)]
  refine ⟨a1, ⟨fun j hj => by rw [a2.1 j hj, h.2.1.1 j (by omega)], by rw [a2.2, h.2.1.2]⟩, h.2.2.tr a3, by rw [a4, eh], by rw [← e1]; exact a5, fun j hj => ?_⟩
  rw [a6 j hj]
  unfold pv
  rw [ek]
  exact cv_same (fun i h1 h2 => e51 i (by omega))
def dsP (b : Mem) (x : Int32) (b' : Mem) : Prop :=
  (∃ n, n < tn b ∧ (∀ k, k < n → okT b k) ∧ ¬ okT b n ∧ x = -10 - nI n ∧ DF b b') ∨
  ((∀ k, k < tn b → okT b k) ∧ ¬ (prM b (tn b) 52 5 = 0 ∧ 0 < prM b (tn b) 52 4) ∧ x = -10 - nI (tn b) ∧ DF b b') ∨
  ((∀ k, k < tn b → okT b k) ∧ (prM b (tn b) 52 5 = 0 ∧ 0 < prM b (tn b) 52 4) ∧ ∃ m W, (m = tk (prM b (tn b)) 8 1 ∧ prM b (tn b) 52 4 = nI W ∧ W ≤ 40) ∧
    ((∃ i, i < W ∧ (∀ k, k < i → ¬ apR (apM m 8 k) 8 k < 0) ∧ apR (apM m 8 i) 8 i < 0 ∧ x = -1000 - nI i ∧ DF b b') ∨
     ((∀ k, k < W → ¬ apR (apM m 8 k) 8 k < 0) ∧ x = nI W ∧ Rg (cv b' 1) (cv (apM m 8 W) 8) ∧ AC b b')))
set_option maxRecDepth 100000 in
set_option maxHeartbeats 4000000 in
theorem c_X5_does_fail {Z : Zt} {b : Mem} {n : Nat} (hC : CI b) (hn : n < tn b) (hok : ∀ k, k < n → okT b k) (hbad : ¬ okT b n) : ConE Z yX5_does cX5_does 3 (some .int) 6 [.ref (zad Z 0)] b (pI (dsP b)) := by
  obtain ⟨t1, t2⟩ := hC.2.2.2.1.n
  refine conE_i (by decide) (Nat.le_of_ble_eq_true rfl) rfl (fun X hX hq => ?_)
  have hX : Ok Z X cX5_does 3 RX5 6 := hX
  show G Z X b 0 [some (.ref (zad Z 0)), none, none] []
  refine g_aload_0 hX dX5_does_0 ?_
  refine gt_X5_text hX dX5_does_1 ?_
  refine g_cV0r hX mkX4_parse ml_X5_214 (c_X4_parse_fail t1 t2 hn hC.2.2.2.1.2 hok hbad) (ob_52 Z _) dX5_does_4 rfl (by decide) (Nat.le_of_ble_eq_true rfl) ?_
  refine g_istore_1 hX dX5_does_7 rfl ?_
  refine g_iload_1 hX dX5_does_8 ?_
  refine g_iconst hX (-1) dX5_does_9 (by decide) ?_
  refine g_icmp_eq hX 18 dX5_does_10 (by decide) (fun c10 => ?_) (fun c10 => ?_)
  · exact absurd c10 (nI_nm1 (by omega))
  · refine g_bipush hX (-10) dX5_does_13 (by decide) ?_
    refine g_iload_1 hX dX5_does_15 ?_
    refine g_isub hX dX5_does_16 ?_
    exact hq _ _ _ _ dX5_does_17 (Or.inl ⟨n, hn, hok, hbad, rfl, DF_parse hC (by omega) hok⟩)
set_option maxRecDepth 100000 in
set_option maxHeartbeats 4000000 in
theorem c_X5_does_end {Z : Zt} {b : Mem} (hC : CI b) (hok : ∀ k, k < tn b → okT b k) (hbad : ¬ (prM b (tn b) 52 5 = 0 ∧ 0 < prM b (tn b) 52 4)) : ConE Z yX5_does cX5_does 3 (some .int) 6 [.ref (zad Z 0)] b (pI (dsP b)) := by
  obtain ⟨t1, t2⟩ := hC.2.2.2.1.n
  refine conE_i (by decide) (Nat.le_of_ble_eq_true rfl) rfl (fun X hX hq => ?_)
  have hX : Ok Z X cX5_does 3 RX5 6 := hX
  show G Z X b 0 [some (.ref (zad Z 0)), none, none] []
  refine g_aload_0 hX dX5_does_0 ?_
  refine gt_X5_text hX dX5_does_1 ?_
  refine g_cV0r hX mkX4_parse ml_X5_214 (c_X4_parse_full t1 t2 hC.2.2.2.1.2 hok) (ob_52 Z _) dX5_does_4 rfl (by decide) (Nat.le_of_ble_eq_true rfl) ?_
  refine g_top (nI (tn b)) (by rw [if_neg hbad]) ?_
  refine g_istore_1 hX dX5_does_7 rfl ?_
  refine g_iload_1 hX dX5_does_8 ?_
  refine g_iconst hX (-1) dX5_does_9 (by decide) ?_
  refine g_icmp_eq hX 18 dX5_does_10 (by decide) (fun c10 => ?_) (fun c10 => ?_)
  · exact absurd c10 (nI_nm1 (by omega))
  · refine g_bipush hX (-10) dX5_does_13 (by decide) ?_
    refine g_iload_1 hX dX5_does_15 ?_
    refine g_isub hX dX5_does_16 ?_
    exact hq _ _ _ _ dX5_does_17 (Or.inr (Or.inl ⟨hok, hbad, rfl, DF_parse hC (Nat.le_refl _) hok⟩))
set_option maxRecDepth 100000 in
set_option maxHeartbeats 4000000 in
theorem c_X5_does_ord {Z : Zt} {b : Mem} {i : Nat} (hC : CI b) (hok : ∀ k, k < tn b → okT b k) (hgood : prM b (tn b) 52 5 = 0 ∧ 0 < prM b (tn b) 52 4) (hi : nI i < prM b (tn b) 52 4) (hi40 : i < 41) (hoki : ∀ k, k < i → ¬ apR (apM (tk (prM b (tn b)) 8 1) 8 k) 8 k < 0) (hbad : apR (apM (tk (prM b (tn b)) 8 1) 8 i) 8 i < 0) : ConE Z yX5_does cX5_does 3 (some .int) 6 [.ref (zad Z 0)] b (pI (dsP b)) := by
  obtain ⟨t1, t2⟩ := hC.2.2.2.1.n
  obtain ⟨hC2, hP2⟩ := prM_ci hC (Nat.le_refl _) hok
  obtain ⟨W, hW, h40⟩ : ∃ W, prM b (tn b) 52 4 = nI W ∧ W ≤ 40 := by
    obtain ⟨w, g, f, hw, -, -, -, -, hwi, -⟩ := hP2
    exact ⟨w, hw, by omega⟩
  have hr := tk_rg (prM b (tn b)) (o := 8) (p := 1) (by omega)
  have hmt : ∀ j, (j < 8 ∨ 14 < j) → tk (prM b (tn b)) 8 1 j = prM b (tn b) j := fun j hj => tk_c _ (by omega)
  have hma : ∀ k j, (j < 8 ∨ 14 < j) → apM (tk (prM b (tn b)) 8 1) 8 k j = prM b (tn b) j := fun k j hj => by rw [apM_c _ _ _ (by omega), hmt j hj]
  have hVa := vc_ap (hr.sy.vc hC2.1)
  have hDF := DF_parse hC (Nat.le_refl _) hok
  refine conE_i (by decide) (Nat.le_of_ble_eq_true rfl) rfl (fun X hX hq => ?_)
  have hX : Ok Z X cX5_does 3 RX5 6 := hX
  show G Z X b 0 [some (.ref (zad Z 0)), none, none] []
  refine g_aload_0 hX dX5_does_0 ?_
  refine gt_X5_text hX dX5_does_1 ?_
  refine g_cV0r hX mkX4_parse ml_X5_214 (c_X4_parse_full t1 t2 hC.2.2.2.1.2 hok) (ob_52 Z _) dX5_does_4 rfl (by decide) (Nat.le_of_ble_eq_true rfl) ?_
  refine g_top (-1) (by rw [if_pos hgood]) ?_
  refine g_istore_1 hX dX5_does_7 rfl ?_
  refine g_iload_1 hX dX5_does_8 ?_
  refine g_iconst hX (-1) dX5_does_9 (by decide) ?_
  refine g_icmp_eq hX 18 dX5_does_10 (by decide) (fun c10 => ?_) (fun c10 => ?_)
  · refine g_aload_0 hX dX5_does_18 ?_
    refine gt_X5_text hX dX5_does_19 ?_
    refine g_aload_0 hX dX5_does_22 ?_
    refine g_cV0r hX mkX5_draft ml_X5_64 (c_X5_draft) (ob_0 Z _) dX5_does_23 rfl (by decide) (Nat.le_of_ble_eq_true rfl) ?_
    refine g_cV1r hX mkX4_apply ml_X5_217 (c_X4_apply_fail (bus_8 Z) (by decide) (n := i) (m := W) (by rw [hmt _ (by omega)]; exact hW) h40 (fun k _ => (hVa k).1) hoki ((nI_ltI (by omega) (by omega)).mp (by rw [← hW]; exact hi)) hbad) (ob_52 Z _) dX5_does_26 rfl (by decide) (Nat.le_of_ble_eq_true rfl) ?_
    refine g_istore_2 hX dX5_does_29 rfl ?_
    refine g_iload_2 hX dX5_does_30 ?_
    refine g_iconst hX (-1) dX5_does_31 (by decide) ?_
    refine g_icmp_eq hX 41 dX5_does_32 (by decide) (fun c32 => ?_) (fun c32 => ?_)
    · exact absurd c32 (nI_nm1 (by omega))
    · refine g_sipush hX (-1000) dX5_does_35 (by decide) ?_
      refine g_iload_2 hX dX5_does_38 ?_
      refine g_isub hX dX5_does_39 ?_
      exact hq _ _ _ _ dX5_does_40 (Or.inr (Or.inr ⟨hok, hgood, _, W, ⟨rfl, hW, h40⟩, Or.inl ⟨i, (nI_ltI (by omega) (by omega)).mp (by rw [← hW]; exact hi), hoki, hbad, rfl, DF_trial hDF (fun j hj => by rw [aoM_c _ _ _ _ _ _ (by omega), hma _ _ hj])⟩⟩))
  · exact absurd c10 (not_not_intro rfl)
set_option maxRecDepth 100000 in
set_option maxHeartbeats 4000000 in
theorem c_X5_does_all {Z : Zt} {b : Mem} {W : Nat} (hC : CI b) (hok : ∀ k, k < tn b → okT b k) (hgood : prM b (tn b) 52 5 = 0 ∧ 0 < prM b (tn b) 52 4) (hW : prM b (tn b) 52 4 = nI W) (h40 : W ≤ 40) (hoki : ∀ k, k < W → ¬ apR (apM (tk (prM b (tn b)) 8 1) 8 k) 8 k < 0) : ConE Z yX5_does cX5_does 3 (some .int) 6 [.ref (zad Z 0)] b (pI (dsP b)) := by
  obtain ⟨t1, t2⟩ := hC.2.2.2.1.n
  obtain ⟨hC2, hP2⟩ := prM_ci hC (Nat.le_refl _) hok
  have hr := tk_rg (prM b (tn b)) (o := 8) (p := 1) (by omega)
  have hmt : ∀ j, (j < 8 ∨ 14 < j) → tk (prM b (tn b)) 8 1 j = prM b (tn b) j := fun j hj => tk_c _ (by omega)
  have hma : ∀ k j, (j < 8 ∨ 14 < j) → apM (tk (prM b (tn b)) 8 1) 8 k j = prM b (tn b) j := fun k j hj => by rw [apM_c _ _ _ (by omega), hmt j hj]
  have hVa := vc_ap (hr.sy.vc hC2.1)
  have hDF := DF_parse hC (Nat.le_refl _) hok
  obtain ⟨q1, q2, q3, q4, -⟩ := hC2.2.2.2.2.st
  have hA := AC_mk hC2 (hma W) (hVa W)
  refine conE_i (by decide) (Nat.le_of_ble_eq_true rfl) rfl (fun X hX hq => ?_)
  have hX : Ok Z X cX5_does 3 RX5 6 := hX
  show G Z X b 0 [some (.ref (zad Z 0)), none, none] []
  refine g_aload_0 hX dX5_does_0 ?_
  refine gt_X5_text hX dX5_does_1 ?_
  refine g_cV0r hX mkX4_parse ml_X5_214 (c_X4_parse_full t1 t2 hC.2.2.2.1.2 hok) (ob_52 Z _) dX5_does_4 rfl (by decide) (Nat.le_of_ble_eq_true rfl) ?_
  refine g_top (-1) (by rw [if_pos hgood]) ?_
  refine g_istore_1 hX dX5_does_7 rfl ?_
  refine g_iload_1 hX dX5_does_8 ?_
  refine g_iconst hX (-1) dX5_does_9 (by decide) ?_
  refine g_icmp_eq hX 18 dX5_does_10 (by decide) (fun c10 => ?_) (fun c10 => ?_)
  · refine g_aload_0 hX dX5_does_18 ?_
    refine gt_X5_text hX dX5_does_19 ?_
    refine g_aload_0 hX dX5_does_22 ?_
    refine g_cV0r hX mkX5_draft ml_X5_64 (c_X5_draft) (ob_0 Z _) dX5_does_23 rfl (by decide) (Nat.le_of_ble_eq_true rfl) ?_
    refine g_cV1r hX mkX4_apply ml_X5_217 (c_X4_apply_full (bus_8 Z) (by decide) (n := W) (m := W) (by rw [hmt _ (by omega)]; exact hW) h40 (fun k _ => (hVa k).1) hoki rfl) (ob_52 Z _) dX5_does_26 rfl (by decide) (Nat.le_of_ble_eq_true rfl) ?_
    refine g_istore_2 hX dX5_does_29 rfl ?_
    refine g_iload_2 hX dX5_does_30 ?_
    refine g_iconst hX (-1) dX5_does_31 (by decide) ?_
    refine g_icmp_eq hX 41 dX5_does_32 (by decide) (fun c32 => ?_) (fun c32 => ?_)
    · refine g_aload_0 hX dX5_does_41 ?_
      refine g_cV0v hX mkX5_accept ml_X5_221 (c_X5_accept (k := pk (prM b (tn b))) (h := hd (prM b (tn b))) (by rw [hma _ _ (by omega)]; exact q1) q2 (by rw [hma _ _ (by omega)]; exact q3) q4) (ob_0 Z _) dX5_does_42 rfl (by decide) (Nat.le_of_ble_eq_true rfl) ?_
      refine g_aload_0 hX dX5_does_45 ?_
      refine gt_X5_text hX dX5_does_46 ?_
      refine g_cV0r hX mkX4_orderCount ml_X5_224 (c_X4_orderCount) (ob_52 Z _) dX5_does_49 rfl (by decide) (Nat.le_of_ble_eq_true rfl) ?_
      exact hq _ _ _ _ dX5_does_52 (Or.inr (Or.inr ⟨hok, hgood, _, W, ⟨rfl, hW, h40⟩, Or.inr ⟨hoki, by unfold acM; rw [u2c _ _ (by decide), tk_c _ (by omega), keepM_c _ (by omega) (by omega), hma _ _ (by omega), hW], hA.2, AC_text hDF hA.1 (fun j hj => prM_c b _ (by omega) (by omega) (by omega))⟩⟩))
    · exact absurd c32 (not_not_intro rfl)
  · exact absurd c10 (not_not_intro rfl)
theorem c_X5_does {Z : Zt} {b : Mem} (hC : CI b) : ConE Z yX5_does cX5_does 3 (some .int) 6 [.ref (zad Z 0)] b (pI (dsP b)) := by
  rcases fst_or (f := fun k => ¬ okT b k) (tn b) with ⟨n, h1, h2, h3⟩ | h
  · exact c_X5_does_fail hC h1 (fun k hk => Classical.not_not.mp (h3 k hk)) h2
  · have hok : ∀ k, k < tn b → okT b k := fun k hk => Classical.not_not.mp (h k hk)
    by_cases hg : prM b (tn b) 52 5 = 0 ∧ 0 < prM b (tn b) 52 4
    · obtain ⟨t1, t2⟩ := hC.2.2.2.1.n
      obtain ⟨hC2, w, g, f, hw, -, -, -, -, hwi, -⟩ := prM_ci hC (Nat.le_refl _) hok
      rcases fst_or (f := fun k => apR (apM (tk (prM b (tn b)) 8 1) 8 k) 8 k < 0) w with ⟨i, h1, h2, h3⟩ | h
      · exact c_X5_does_ord hC hok hg (by rw [hw]; exact nI_lt h1 (by omega)) (by omega) h3 h2
      · exact c_X5_does_all hC hok hg hw (by omega) h
    · exact c_X5_does_end hC hok hg
