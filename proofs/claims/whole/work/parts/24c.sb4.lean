/-! SnakedBus: the changes, the text, back and does -/
def acM (b : Mem) (k h : Nat) : Mem := up2 (tk (keepM b k h 1) 1 8) 0 7 0
def pk (b : Mem) : Nat := (b 50 1).toNatClampNeg
def hd (b : Mem) : Nat := (b 50 2).toNatClampNeg
/-- the j-th last state -/
def pv (b : Mem) (j : Nat) : View := cv b (15 + 7 * ((pk b + 4 - j) % 5))
/-- refused behind draft(): only trial has changed, and how often -/
def RF (b : Mem) (c : Int32) (b' : Mem) : Prop := CI b' ∧ ((∀ j, ((1 ≤ j ∧ j ≤ 7) ∨ (15 ≤ j ∧ j ≤ 51) ∨ j = 53 ∨ 69 ≤ j) → b' j = b j) ∧ b' 52 3 = b 52 3) ∧ Ct b b' c
/-- one more state -/
def AC (b b' : Mem) : Prop := CI b' ∧ ((∀ j, (j = 53 ∨ 69 ≤ j) → b' j = b j) ∧ b' 52 3 = b 52 3) ∧ Ct b b' 0 ∧ hd b' = min 5 (hd b + 1) ∧ Rg (pv b' 0) (cv b 1) ∧ ∀ j, j + 1 < hd b' → pv b' (j + 1) = pv b j
theorem PS.st {b : Mem} (h : PS b) : b 50 1 = nI (pk b) ∧ pk b < 5 ∧ b 50 2 = nI (hd b) ∧ hd b ≤ 5 ∧ ∀ j, j < hd b → VC (pv b j) := by
  obtain ⟨k, hh, q1, q2, q3, q4, q5⟩ := h
  have e1 : pk b = k := by unfold pk; rw [q1, nI_clamp (by omega)]
  have e2 : hd b = hh := by unfold hd; rw [q3, nI_clamp (by omega)]
  unfold pv
  rw [e1, e2]
  exact ⟨q1, q2, q3, q4, q5⟩
theorem PS_mk {b : Mem} {k h : Nat} (q1 : b 50 1 = nI k) (q2 : k < 5) (q3 : b 50 2 = nI h) (q4 : h ≤ 5) (q5 : ∀ j, j < h → VC (pv b j)) : PS b := by
  have e1 : pk b = k := by unfold pk; rw [q1, nI_clamp (by omega)]
  refine ⟨k, h, q1, q2, q3, q4, fun j hj => ?_⟩
  have := q5 j hj
  unfold pv at this
  rw [e1] at this
  exact this
theorem keepM_c (b : Mem) {k h o j : Nat} (hj : j < 15 + 7 * k ∨ 15 + 7 * k + 6 < j) (h50 : j ≠ 50) : keepM b k h o j = b j := by
  unfold keepM
  rw [u2c _ _ h50, u2c _ _ h50, tk_c _ hj]
theorem RF_mk {b m : Mem} (hC : CI b) (hm : ∀ j, (j < 8 ∨ 14 < j) → m j = b j) (c : Int32) : RF b c (refM m c) := by
  have e : ∀ j, ((1 ≤ j ∧ j ≤ 7) ∨ (15 ≤ j ∧ j ≤ 55) ∨ 69 ≤ j) → refM m c j = b j := fun j hj => by rw [refM_c _ _ (by omega), hm j (by omega)]
  have e1 : cv (refM m c) 1 = cv b 1 := cv_same (fun j h1 h2 => e j (by omega))
  have h0 : m 0 = b 0 := hm 0 (by omega)
  refine ⟨⟨by rw [e1]; exact hC.1, ?_, ?_, ?_, ?_⟩, ⟨fun j hj => e j (by omega), by rw [e 52 (by omega)]⟩, ?_⟩
  · unfold Zs
    rw [refM_c _ _ (by decide), refM_c _ _ (by decide), refM_c _ _ (by decide), refM_c _ _ (by decide), hm _ (by omega), hm _ (by omega), hm _ (by omega), hm _ (by omega)]
    exact hC.2.1
  · rw [e1, refM_7 _ _ (by decide), h0]
    rcases hC.2.2.1 with q | ⟨q1, q2⟩
    · exact Or.inl q
    · exact Or.inr ⟨q1, q2.same (by rw [refM_c _ _ (by decide), hm _ (by omega)]) (by rw [refM_c _ _ (by decide), hm _ (by omega)]) (by rw [refM_c _ _ (by decide), hm _ (by omega)])⟩
  · have := hC.2.2.2.1
    unfold TX TI at *
    rw [e 52 (by omega)]; exact this
  · obtain ⟨q1, q2, q3, q4, q5⟩ := hC.2.2.2.2.st
    have ek : pk (refM m c) = pk b := by unfold pk; rw [e 50 (by omega)]
    refine PS_mk (k := pk b) (h := hd b) (by rw [e 50 (by omega)]; exact q1) q2 (by rw [e 50 (by omega)]; exact q3) q4 (fun j hj => ?_)
    have : pv (refM m c) j = pv b j := by
      unfold pv; rw [ek]
      exact cv_same (fun i h1 h2 => e i (by omega))
    rw [this]; exact q5 j hj
  · have := refM_ct m c
    unfold Ct at *
    rw [h0] at this; exact this
theorem AC_mk {b m : Mem} (hC : CI b) (hm : ∀ j, (j < 8 ∨ 14 < j) → m j = b j) (hV : VC (cv m 8)) : AC b (acM m (pk b) (hd b)) ∧ Rg (cv (acM m (pk b) (hd b)) 1) (cv m 8) := by
  obtain ⟨q1, q2, q3, q4, q5⟩ := hC.2.2.2.2.st
  have c1 : ∀ j, 15 ≤ j → acM m (pk b) (hd b) j = keepM m (pk b) (hd b) 1 j := fun j hj => by unfold acM; rw [u2c _ _ (by omega), tk_c _ (by omega)]
  have c0 : ∀ i, i ≠ 7 → acM m (pk b) (hd b) 0 i = b 0 i := fun i hi => by unfold acM; rw [u2k _ _ hi, tk_c _ (by omega), keepM_c _ (by omega) (by omega), hm 0 (by omega)]
  have hrg : Rg (cv (acM m (pk b) (hd b)) 1) (cv m 8) := by
    have e1 : cv (acM m (pk b) (hd b)) 1 = cv (tk (keepM m (pk b) (hd b) 1) 1 8) 1 := cv_same (fun j h1 h2 => by unfold acM; rw [u2c _ _ (by omega)])
    have e2 : cv (keepM m (pk b) (hd b) 1) 8 = cv m 8 := cv_same (fun j h1 h2 => keepM_c _ (by omega) (by omega))
    rw [e1, ← e2]
    exact tk_rg _ (by omega)
  have a50 : acM m (pk b) (hd b) 50 1 = nI ((pk b + 1) % 5) ∧ acM m (pk b) (hd b) 50 2 = nI (min 5 (hd b + 1)) := by
    rw [c1 50 (by omega)]
    unfold keepM
    exact ⟨by rw [u2k _ _ (by decide), u2s], u2s _ _ _ _⟩
  have hk5 : (pk b + 1) % 5 < 5 := Nat.mod_lt _ (by decide)
  have ek : pk (acM m (pk b) (hd b)) = (pk b + 1) % 5 := by
    show (acM m (pk b) (hd b) 50 1).toNatClampNeg = _
    rw [a50.1, nI_clamp (by omega)]
  have eh : hd (acM m (pk b) (hd b)) = min 5 (hd b + 1) := by
    show (acM m (pk b) (hd b) 50 2).toNatClampNeg = _
    rw [a50.2, nI_clamp (by omega)]
  have far : ∀ j, ((52 ≤ j ∧ j ≤ 55) ∨ 56 ≤ j) → acM m (pk b) (hd b) j = b j := fun j hj => by rw [c1 j (by omega), keepM_c _ (by omega) (by omega), hm j (by omega)]
  have p0 : Rg (pv (acM m (pk b) (hd b)) 0) (cv b 1) := by
    unfold pv
    rw [ek]
    have es : ((pk b + 1) % 5 + 4 - 0) % 5 = pk b := by omega
    rw [es]
    have e1 : cv (acM m (pk b) (hd b)) (15 + 7 * pk b) = cv (tk m (15 + 7 * pk b) 1) (15 + 7 * pk b) := cv_same (fun j h1 h2 => by
      rw [c1 j (by omega)]; unfold keepM; rw [u2c _ _ (by omega), u2c _ _ (by omega)])
    have e2 : cv m 1 = cv b 1 := cv_same (fun j h1 h2 => hm j (by omega))
    rw [e1, ← e2]
    exact tk_rg _ (by omega)
  have pj : ∀ j, j + 1 < min 5 (hd b + 1) → pv (acM m (pk b) (hd b)) (j + 1) = pv b j := fun j hj => by
    unfold pv
    rw [ek]
    have es : ((pk b + 1) % 5 + 4 - (j + 1)) % 5 = (pk b + 4 - j) % 5 := by omega
    have en : (pk b + 4 - j) % 5 ≠ pk b := by omega
    rw [es]
    exact cv_same (fun i h1 h2 => by rw [c1 i (by omega), keepM_c _ (by omega) (by omega), hm i (by omega)])
  refine ⟨⟨⟨hrg.sy.vc hV, ?_, Or.inl (by unfold acM; rw [u2s]), ?_, ?_⟩, ⟨fun j hj => far j (by omega), by rw [far 52 (by omega)]⟩, Ct.same ⟨c0 8 (by decide), c0 9 (by decide), c0 10 (by decide)⟩, eh, p0, fun j hj => pj j (by rw [eh] at hj; exact hj)⟩, hrg⟩
  · unfold Zs
    rw [far _ (by omega), far _ (by omega), far _ (by omega), far _ (by omega)]; exact hC.2.1
  · have := hC.2.2.2.1
    unfold TX TI at *
    rw [far 52 (by omega)]; exact this
  · refine PS_mk a50.1 hk5 a50.2 (by omega) (fun j hj => ?_)
    cases j with
    | zero => exact p0.sy.vc hC.1
    | succ j => rw [pj j hj]; exact q5 j (by omega)
set_option maxRecDepth 100000 in
set_option maxHeartbeats 4000000 in
theorem c_X5_accept {Z : Zt} {b : Mem} {k h : Nat} (hp : b 50 1 = nI k) (hk : k < 5) (hh : b 50 2 = nI h) (h5 : h ≤ 5) : Con Z yX5_accept cX5_accept 1 none 4 [.ref (zad Z 0)] b none (acM b k h) := by
  refine con_v (by decide) (Nat.le_of_ble_eq_true rfl) rfl (fun X hX hq => ?_)
  have hX : Ok Z X cX5_accept 1 RX5 4 := hX
  show G Z X b 0 [some (.ref (zad Z 0))] []
  refine g_aload_0 hX dX5_accept_0 ?_
  refine gt_X5_past hX dX5_accept_1 ?_
  refine g_aload_0 hX dX5_accept_4 ?_
  refine gt_X5_bus hX dX5_accept_5 ?_
  refine g_cV1v hX mkX1_keep ml_X5_278 (c_X1_keep (bus_1 Z) hp hk hh h5 (by decide)) (ob_50 Z _) dX5_accept_8 rfl (by decide) (Nat.le_of_ble_eq_true rfl) ?_
  refine g_aload_0 hX dX5_accept_11 ?_
  refine gt_X5_bus hX dX5_accept_12 ?_
  refine g_aload_0 hX dX5_accept_15 ?_
  refine gt_X5_trial hX dX5_accept_16 ?_
  refine g_cV1v hX mkX0_takeFrom ml_X5_274 (c_X0_takeFrom (bus_1 Z) (bus_8 Z) (by omega)) ((bus_1 Z).obj _) dX5_accept_19 rfl (by decide) (Nat.le_of_ble_eq_true rfl) ?_
  refine g_aload_0 hX dX5_accept_22 ?_
  refine g_iconst hX 0 dX5_accept_23 (by decide) ?_
  refine pt_X5_planned hX (by rfl) (by rfl) dX5_accept_24 ?_
  exact hq _ _ _ dX5_accept_27 (by rfl)
set_option maxRecDepth 100000 in
set_option maxHeartbeats 4000000 in
theorem c_X5_draft {Z : Zt} {b : Mem}  : Con Z yX5_draft cX5_draft 1 (some (.object "SnakedBus$Bus")) 3 [.ref (zad Z 0)] b (some (.ref (zad Z 8))) (tk b 8 1) := by
  refine con_a (by decide) (Nat.le_of_ble_eq_true rfl) rfl (fun X hX hq => ?_)
  have hX : Ok Z X cX5_draft 1 RX5 3 := hX
  show G Z X b 0 [some (.ref (zad Z 0))] []
  refine g_aload_0 hX dX5_draft_0 ?_
  refine gt_X5_trial hX dX5_draft_1 ?_
  refine g_aload_0 hX dX5_draft_4 ?_
  refine gt_X5_bus hX dX5_draft_5 ?_
  refine g_cV1v hX mkX0_takeFrom ml_X5_274 (c_X0_takeFrom (bus_8 Z) (bus_1 Z) (by omega)) ((bus_8 Z).obj _) dX5_draft_8 rfl (by decide) (Nat.le_of_ble_eq_true rfl) ?_
  refine g_aload_0 hX dX5_draft_11 ?_
  refine gt_X5_trial hX dX5_draft_12 ?_
  exact hq _ _ _ _ dX5_draft_15 (by rfl) (by rfl)
set_option maxRecDepth 100000 in
set_option maxHeartbeats 4000000 in
theorem c_X5_settled {Z : Zt} {b : Mem} {x : Int32} {k h : Nat} (hp : b 50 1 = nI k) (hk : k < 5) (hh : b 50 2 = nI h) (h5 : h ≤ 5) : Con Z yX5_settled cX5_settled 2 (some .int) 5 [.ref (zad Z 0), .int x] b (some (.int (x))) (if x < 0 then refM b x else acM b k h) := by
  refine con_i (by decide) (Nat.le_of_ble_eq_true rfl) rfl (fun X hX hq => ?_)
  have hX : Ok Z X cX5_settled 2 RX5 5 := hX
  show G Z X b 0 [some (.ref (zad Z 0)), some (.int x)] []
  refine g_iload_1 hX dX5_settled_0 ?_
  refine g_if_ge hX 10 dX5_settled_1 (by decide) (fun c1 => ?_) (fun c1 => ?_)
  · refine g_aload_0 hX dX5_settled_10 ?_
    refine g_cV0v hX mkX5_accept ml_X5_221 (c_X5_accept hp hk hh h5) (ob_0 Z _) dX5_settled_11 rfl (by decide) (Nat.le_of_ble_eq_true rfl) ?_
    refine g_iload_1 hX dX5_settled_14 ?_
    exact hq _ _ _ _ dX5_settled_15 (by rw [if_neg c1]) (by rfl)
  · refine g_aload_0 hX dX5_settled_4 ?_
    refine g_iload_1 hX dX5_settled_5 ?_
    refine g_cV1r hX mkX5_refused ml_X5_99 (c_X5_refused) (ob_0 Z _) dX5_settled_6 rfl (by decide) (Nat.le_of_ble_eq_true rfl) ?_
    exact hq _ _ _ _ dX5_settled_9 (by rw [if_pos c1]) (by rfl)
theorem opM_c {m : Mem} {j : Nat} (h : j < 8 ∨ 14 < j) : (∀ a, addLineM m 8 a j = m j) ∧ (∀ l t a, addRunM m 8 l t a j = m j) ∧ (∀ l, dropRunM m 8 l j = m j) ∧ (∀ w t, addPocketM m 8 w t j = m j) ∧ (∀ p w, wideM m 8 p w j = m j) ∧ (∀ p w, touchM m 8 p w j = m j) ∧ ∀ k x, setM m 8 k x j = m j := by
  refine ⟨fun a => ?_, fun l t a => ?_, fun l => ?_, fun w t => ?_, fun p w => ?_, fun p w => ?_, fun k x => ?_⟩
  all_goals
    simp only [addLineM, addRunM, dropRunM, addPocketM, setM, wideM, touchM]
    (repeat' split) <;> simp only [u2c _ _ (show j ≠ 8 by omega), u2c _ _ (show j ≠ 8 + 1 by omega), u2c _ _ (show j ≠ 8 + 2 by omega), u2c _ _ (show j ≠ 8 + 3 by omega), u2c _ _ (show j ≠ 8 + 4 by omega), u2c _ _ (show j ≠ 8 + 5 by omega), u2c _ _ (show j ≠ 8 + 6 by omega)]
theorem rn6 {x n : Int32} {m : Nat} (h : ¬ x < 0 ∧ x < n) (hn : n = nI m) (hm : m ≤ 6) : x.toNatClampNeg < 6 := by
  rw [hn] at h
  obtain ⟨j, hj, rfl⟩ := in_of h.1 h.2 (by omega)
  rw [nI_clamp (by omega)]; omega
theorem addRunR_rg {n r r' l t a : Int32} {m : Nat} (hn : n = nI m) (hm : m ≤ 6) (h : l.toNatClampNeg < 6 → r = r') : addRunR n r l t a = addRunR n r' l t a := by
  unfold addRunR
  by_cases c : (¬ l < 0 ∧ l < n) ∧ (¬ t < 0 ∧ ¬ 1 < t) ∧ ¬ a < 1 ∧ ¬ 60 < a
  · rw [if_pos c, if_pos c, h (rn6 c.1 hn hm)]
  · rw [if_neg c, if_neg c]
theorem dropRunR_rg {n r r' l : Int32} {m : Nat} (hn : n = nI m) (hm : m ≤ 6) (h : l.toNatClampNeg < 6 → r = r') : dropRunR n r l = dropRunR n r' l := by
  unfold dropRunR
  by_cases c : ¬ l < 0 ∧ l < n
  · rw [if_pos c, if_pos c, h (rn6 c hn hm)]
  · rw [if_neg c, if_neg c]
theorem wideR_rg {n r r' p w : Int32} {m : Nat} (hn : n = nI m) (hm : m ≤ 6) (h : p.toNatClampNeg < 6 → r = r') : wideR n r p w = wideR n r' p w := by
  unfold wideR
  by_cases c : (¬ p < 0 ∧ p < n) ∧ ¬ w < 1 ∧ ¬ 60 < w
  · rw [if_pos c, if_pos c, h (rn6 c.1 hn hm)]
  · rw [if_neg c, if_neg c]
theorem touchR_rg {n r r' p w : Int32} {m : Nat} (hn : n = nI m) (hm : m ≤ 6) (h : p.toNatClampNeg < 6 → r = r') : touchR n r p w = touchR n r' p w := by
  unfold touchR
  by_cases c : (¬ p < 0 ∧ p < n) ∧ ¬ w < 0 ∧ ¬ 63 < w
  · rw [if_pos c, if_pos c, h (rn6 c.1 hn hm)]
  · rw [if_neg c, if_neg c]
theorem setR_rg {r r' k x : Int32} (h : k.toNatClampNeg < 7 → r = r') : setR r k x = setR r' k x := by
  unfold setR
  by_cases c : (¬ k < 0 ∧ ¬ 6 < k) ∧ ¬ x < lowF k.toNatClampNeg ∧ ¬ higF k.toNatClampNeg < x
  · rw [if_pos c, if_pos c]
    obtain ⟨j, hj, rfl⟩ := in_of6 (n := 6) c.1.1 c.1.2 (by decide)
    rw [h (by rw [nI_clamp (by omega)]; omega)]
  · rw [if_neg c, if_neg c]
set_option maxRecDepth 100000 in
set_option maxHeartbeats 4000000 in
theorem c_X5_line {Z : Zt} {b : Mem} {a : Int32} (hC : CI b) : ConE Z yX5_line cX5_line 2 (some .int) 6 [.ref (zad Z 0), .int a] b (pI (fun x' b' => x' = addLineR (b 1 6) a ∧ ((x' < 0 ∧ RF b x' b') ∨ (¬ x' < 0 ∧ ∃ m, Rg (cv m 8) (cv b 1) ∧ Rg (cv b' 1) (cv (addLineM m 8 a) 8) ∧ AC b b')))) := by
  have hr := tk_rg b (o := 8) (p := 1) (by omega)
  obtain ⟨q1, q2, q3, q4, -⟩ := hC.2.2.2.2.st
  have hm : ∀ j, (j < 8 ∨ 14 < j) → addLineM (tk b 8 1) 8 a j = b j := fun j hj => by rw [(opM_c (m := tk b 8 1) hj).1, tk_c _ (by omega)]
  refine conE_i (by decide) (Nat.le_of_ble_eq_true rfl) rfl (fun X hX hq => ?_)
  have hX : Ok Z X cX5_line 2 RX5 6 := hX
  show G Z X b 0 [some (.ref (zad Z 0)), some (.int a)] []
  refine g_aload_0 hX dX5_line_0 ?_
  refine g_aload_0 hX dX5_line_1 ?_
  refine g_cV0r hX mkX5_draft ml_X5_64 (c_X5_draft) (ob_0 Z _) dX5_line_2 rfl (by decide) (Nat.le_of_ble_eq_true rfl) ?_
  refine g_iload_1 hX dX5_line_5 ?_
  refine g_cV1r hX mkX0_addLine ml_X5_68 (c_X0_addLine (bus_8 Z) (hr.sy.vc hC.1).1) ((bus_8 Z).obj _) dX5_line_6 rfl (by decide) (Nat.le_of_ble_eq_true rfl) ?_
  refine g_top (addLineR (b 1 6) a) (by rw [show tk b 8 1 8 6 = b 1 6 from hr.1]) ?_
  refine g_cV1r hX mkX5_settled ml_X5_72 (c_X5_settled (k := pk b) (h := hd b) (by rw [hm 50 (by omega)]; exact q1) q2 (by rw [hm 50 (by omega)]; exact q3) q4) (ob_0 Z _) dX5_line_9 rfl (by decide) (Nat.le_of_ble_eq_true rfl) ?_
  exact hq _ _ _ _ dX5_line_12 (⟨rfl, by
      by_cases z : addLineR (b 1 6) a < 0
      · rw [if_pos z]; exact Or.inl ⟨z, RF_mk hC hm _⟩
      · rw [if_neg z]
        obtain ⟨a1, a2⟩ := AC_mk hC hm (vc_addLine a (hr.sy.vc hC.1))
        exact Or.inr ⟨z, tk b 8 1, hr, a2, a1⟩⟩)
set_option maxRecDepth 100000 in
set_option maxHeartbeats 4000000 in
theorem c_X5_goes {Z : Zt} {b : Mem} {l t a : Int32} (hC : CI b) : ConE Z yX5_goes cX5_goes 4 (some .int) 6 [.ref (zad Z 0), .int l, .int t, .int a] b (pI (fun x' b' => x' = addRunR (b 1 6) (b (1 + 1) l.toNatClampNeg) l t a ∧ ((x' < 0 ∧ RF b x' b') ∨ (¬ x' < 0 ∧ ∃ m, Rg (cv m 8) (cv b 1) ∧ Rg (cv b' 1) (cv (addRunM m 8 l t a) 8) ∧ AC b b')))) := by
  have hr := tk_rg b (o := 8) (p := 1) (by omega)
  obtain ⟨q1, q2, q3, q4, -⟩ := hC.2.2.2.2.st
  have hm : ∀ j, (j < 8 ∨ 14 < j) → addRunM (tk b 8 1) 8 l t a j = b j := fun j hj => by rw [(opM_c (m := tk b 8 1) hj).2.1, tk_c _ (by omega)]
  refine conE_i (by decide) (Nat.le_of_ble_eq_true rfl) rfl (fun X hX hq => ?_)
  have hX : Ok Z X cX5_goes 4 RX5 6 := hX
  show G Z X b 0 [some (.ref (zad Z 0)), some (.int l), some (.int t), some (.int a)] []
  refine g_aload_0 hX dX5_goes_0 ?_
  refine g_aload_0 hX dX5_goes_1 ?_
  refine g_cV0r hX mkX5_draft ml_X5_64 (c_X5_draft) (ob_0 Z _) dX5_goes_2 rfl (by decide) (Nat.le_of_ble_eq_true rfl) ?_
  refine g_iload_1 hX dX5_goes_5 ?_
  refine g_iload_2 hX dX5_goes_6 ?_
  refine g_iload_3 hX dX5_goes_7 ?_
  refine g_cV3r hX mkX0_addRun ml_X5_75 (c_X0_addRun (bus_8 Z) (hr.sy.vc hC.1).1) ((bus_8 Z).obj _) dX5_goes_8 rfl (by decide) (Nat.le_of_ble_eq_true rfl) ?_
  refine g_top (addRunR (b 1 6) (b (1 + 1) l.toNatClampNeg) l t a) (by rw [show tk b 8 1 8 6 = b 1 6 from hr.1]; exact addRunR_rg hC.1.1.1.1 hC.1.1.1.2 (fun q => (hr.2.2.1 _ q).1)) ?_
  refine g_cV1r hX mkX5_settled ml_X5_72 (c_X5_settled (k := pk b) (h := hd b) (by rw [hm 50 (by omega)]; exact q1) q2 (by rw [hm 50 (by omega)]; exact q3) q4) (ob_0 Z _) dX5_goes_11 rfl (by decide) (Nat.le_of_ble_eq_true rfl) ?_
  exact hq _ _ _ _ dX5_goes_14 (⟨rfl, by
      by_cases z : addRunR (b 1 6) (b (1 + 1) l.toNatClampNeg) l t a < 0
      · rw [if_pos z]; exact Or.inl ⟨z, RF_mk hC hm _⟩
      · rw [if_neg z]
        obtain ⟨a1, a2⟩ := AC_mk hC hm (vc_addRun l t a (hr.sy.vc hC.1))
        exact Or.inr ⟨z, tk b 8 1, hr, a2, a1⟩⟩)
set_option maxRecDepth 100000 in
set_option maxHeartbeats 4000000 in
theorem c_X5_shortens {Z : Zt} {b : Mem} {l : Int32} (hC : CI b) : ConE Z yX5_shortens cX5_shortens 2 (some .int) 6 [.ref (zad Z 0), .int l] b (pI (fun x' b' => x' = dropRunR (b 1 6) (b (1 + 1) l.toNatClampNeg) l ∧ ((x' < 0 ∧ RF b x' b') ∨ (¬ x' < 0 ∧ ∃ m, Rg (cv m 8) (cv b 1) ∧ Rg (cv b' 1) (cv (dropRunM m 8 l) 8) ∧ AC b b')))) := by
  have hr := tk_rg b (o := 8) (p := 1) (by omega)
  obtain ⟨q1, q2, q3, q4, -⟩ := hC.2.2.2.2.st
  have hm : ∀ j, (j < 8 ∨ 14 < j) → dropRunM (tk b 8 1) 8 l j = b j := fun j hj => by rw [(opM_c (m := tk b 8 1) hj).2.2.1, tk_c _ (by omega)]
  refine conE_i (by decide) (Nat.le_of_ble_eq_true rfl) rfl (fun X hX hq => ?_)
  have hX : Ok Z X cX5_shortens 2 RX5 6 := hX
  show G Z X b 0 [some (.ref (zad Z 0)), some (.int l)] []
  refine g_aload_0 hX dX5_shortens_0 ?_
  refine g_aload_0 hX dX5_shortens_1 ?_
  refine g_cV0r hX mkX5_draft ml_X5_64 (c_X5_draft) (ob_0 Z _) dX5_shortens_2 rfl (by decide) (Nat.le_of_ble_eq_true rfl) ?_
  refine g_iload_1 hX dX5_shortens_5 ?_
  refine g_cV1r hX mkX0_dropRun ml_X5_79 (c_X0_dropRun (bus_8 Z) (hr.sy.vc hC.1).1) ((bus_8 Z).obj _) dX5_shortens_6 rfl (by decide) (Nat.le_of_ble_eq_true rfl) ?_
  refine g_top (dropRunR (b 1 6) (b (1 + 1) l.toNatClampNeg) l) (by rw [show tk b 8 1 8 6 = b 1 6 from hr.1]; exact dropRunR_rg hC.1.1.1.1 hC.1.1.1.2 (fun q => (hr.2.2.1 _ q).1)) ?_
  refine g_cV1r hX mkX5_settled ml_X5_72 (c_X5_settled (k := pk b) (h := hd b) (by rw [hm 50 (by omega)]; exact q1) q2 (by rw [hm 50 (by omega)]; exact q3) q4) (ob_0 Z _) dX5_shortens_9 rfl (by decide) (Nat.le_of_ble_eq_true rfl) ?_
  exact hq _ _ _ _ dX5_shortens_12 (⟨rfl, by
      by_cases z : dropRunR (b 1 6) (b (1 + 1) l.toNatClampNeg) l < 0
      · rw [if_pos z]; exact Or.inl ⟨z, RF_mk hC hm _⟩
      · rw [if_neg z]
        obtain ⟨a1, a2⟩ := AC_mk hC hm (vc_dropRun l (hr.sy.vc hC.1))
        exact Or.inr ⟨z, tk b 8 1, hr, a2, a1⟩⟩)
set_option maxRecDepth 100000 in
set_option maxHeartbeats 4000000 in
theorem c_X5_pocket {Z : Zt} {b : Mem} {w t : Int32} (hC : CI b) : ConE Z yX5_pocket cX5_pocket 3 (some .int) 6 [.ref (zad Z 0), .int w, .int t] b (pI (fun x' b' => x' = addPocketR (b 1 7) w t ∧ ((x' < 0 ∧ RF b x' b') ∨ (¬ x' < 0 ∧ ∃ m, Rg (cv m 8) (cv b 1) ∧ Rg (cv b' 1) (cv (addPocketM m 8 w t) 8) ∧ AC b b')))) := by
  have hr := tk_rg b (o := 8) (p := 1) (by omega)
  obtain ⟨q1, q2, q3, q4, -⟩ := hC.2.2.2.2.st
  have hm : ∀ j, (j < 8 ∨ 14 < j) → addPocketM (tk b 8 1) 8 w t j = b j := fun j hj => by rw [(opM_c (m := tk b 8 1) hj).2.2.2.1, tk_c _ (by omega)]
  refine conE_i (by decide) (Nat.le_of_ble_eq_true rfl) rfl (fun X hX hq => ?_)
  have hX : Ok Z X cX5_pocket 3 RX5 6 := hX
  show G Z X b 0 [some (.ref (zad Z 0)), some (.int w), some (.int t)] []
  refine g_aload_0 hX dX5_pocket_0 ?_
  refine g_aload_0 hX dX5_pocket_1 ?_
  refine g_cV0r hX mkX5_draft ml_X5_64 (c_X5_draft) (ob_0 Z _) dX5_pocket_2 rfl (by decide) (Nat.le_of_ble_eq_true rfl) ?_
  refine g_iload_1 hX dX5_pocket_5 ?_
  refine g_iload_2 hX dX5_pocket_6 ?_
  refine g_cV2r hX mkX0_addPocket ml_X5_82 (c_X0_addPocket (bus_8 Z) (hr.sy.vc hC.1).1) ((bus_8 Z).obj _) dX5_pocket_7 rfl (by decide) (Nat.le_of_ble_eq_true rfl) ?_
  refine g_top (addPocketR (b 1 7) w t) (by rw [show tk b 8 1 8 7 = b 1 7 from hr.2.1]) ?_
  refine g_cV1r hX mkX5_settled ml_X5_72 (c_X5_settled (k := pk b) (h := hd b) (by rw [hm 50 (by omega)]; exact q1) q2 (by rw [hm 50 (by omega)]; exact q3) q4) (ob_0 Z _) dX5_pocket_10 rfl (by decide) (Nat.le_of_ble_eq_true rfl) ?_
  exact hq _ _ _ _ dX5_pocket_13 (⟨rfl, by
      by_cases z : addPocketR (b 1 7) w t < 0
      · rw [if_pos z]; exact Or.inl ⟨z, RF_mk hC hm _⟩
      · rw [if_neg z]
        obtain ⟨a1, a2⟩ := AC_mk hC hm (vc_addPocket w t (hr.sy.vc hC.1))
        exact Or.inr ⟨z, tk b 8 1, hr, a2, a1⟩⟩)
set_option maxRecDepth 100000 in
set_option maxHeartbeats 4000000 in
theorem c_X5_widens {Z : Zt} {b : Mem} {p w : Int32} (hC : CI b) : ConE Z yX5_widens cX5_widens 3 (some .int) 6 [.ref (zad Z 0), .int p, .int w] b (pI (fun x' b' => x' = wideR (b 1 7) (b (1 + 4) p.toNatClampNeg) p w ∧ ((x' < 0 ∧ RF b x' b') ∨ (¬ x' < 0 ∧ ∃ m, Rg (cv m 8) (cv b 1) ∧ Rg (cv b' 1) (cv (wideM m 8 p w) 8) ∧ AC b b')))) := by
  have hr := tk_rg b (o := 8) (p := 1) (by omega)
  obtain ⟨q1, q2, q3, q4, -⟩ := hC.2.2.2.2.st
  have hm : ∀ j, (j < 8 ∨ 14 < j) → wideM (tk b 8 1) 8 p w j = b j := fun j hj => by rw [(opM_c (m := tk b 8 1) hj).2.2.2.2.1, tk_c _ (by omega)]
  refine conE_i (by decide) (Nat.le_of_ble_eq_true rfl) rfl (fun X hX hq => ?_)
  have hX : Ok Z X cX5_widens 3 RX5 6 := hX
  show G Z X b 0 [some (.ref (zad Z 0)), some (.int p), some (.int w)] []
  refine g_aload_0 hX dX5_widens_0 ?_
  refine g_aload_0 hX dX5_widens_1 ?_
  refine g_cV0r hX mkX5_draft ml_X5_64 (c_X5_draft) (ob_0 Z _) dX5_widens_2 rfl (by decide) (Nat.le_of_ble_eq_true rfl) ?_
  refine g_iload_1 hX dX5_widens_5 ?_
  refine g_iload_2 hX dX5_widens_6 ?_
  refine g_cV2r hX mkX0_changeWide ml_X5_86 (c_X0_changeWide (bus_8 Z) (hr.sy.vc hC.1).1) ((bus_8 Z).obj _) dX5_widens_7 rfl (by decide) (Nat.le_of_ble_eq_true rfl) ?_
  refine g_top (wideR (b 1 7) (b (1 + 4) p.toNatClampNeg) p w) (by rw [show tk b 8 1 8 7 = b 1 7 from hr.2.1]; exact wideR_rg hC.1.1.2.1.1 hC.1.1.2.1.2 (fun q => (hr.2.2.1 _ q).2.1)) ?_
  refine g_cV1r hX mkX5_settled ml_X5_72 (c_X5_settled (k := pk b) (h := hd b) (by rw [hm 50 (by omega)]; exact q1) q2 (by rw [hm 50 (by omega)]; exact q3) q4) (ob_0 Z _) dX5_widens_10 rfl (by decide) (Nat.le_of_ble_eq_true rfl) ?_
  exact hq _ _ _ _ dX5_widens_13 (⟨rfl, by
      by_cases z : wideR (b 1 7) (b (1 + 4) p.toNatClampNeg) p w < 0
      · rw [if_pos z]; exact Or.inl ⟨z, RF_mk hC hm _⟩
      · rw [if_neg z]
        obtain ⟨a1, a2⟩ := AC_mk hC hm (vc_wide p w (hr.sy.vc hC.1))
        exact Or.inr ⟨z, tk b 8 1, hr, a2, a1⟩⟩)
set_option maxRecDepth 100000 in
set_option maxHeartbeats 4000000 in
theorem c_X5_touches {Z : Zt} {b : Mem} {p w : Int32} (hC : CI b) : ConE Z yX5_touches cX5_touches 3 (some .int) 6 [.ref (zad Z 0), .int p, .int w] b (pI (fun x' b' => x' = touchR (b 1 7) (b (1 + 5) p.toNatClampNeg) p w ∧ ((x' < 0 ∧ RF b x' b') ∨ (¬ x' < 0 ∧ ∃ m, Rg (cv m 8) (cv b 1) ∧ Rg (cv b' 1) (cv (touchM m 8 p w) 8) ∧ AC b b')))) := by
  have hr := tk_rg b (o := 8) (p := 1) (by omega)
  obtain ⟨q1, q2, q3, q4, -⟩ := hC.2.2.2.2.st
  have hm : ∀ j, (j < 8 ∨ 14 < j) → touchM (tk b 8 1) 8 p w j = b j := fun j hj => by rw [(opM_c (m := tk b 8 1) hj).2.2.2.2.2.1, tk_c _ (by omega)]
  refine conE_i (by decide) (Nat.le_of_ble_eq_true rfl) rfl (fun X hX hq => ?_)
  have hX : Ok Z X cX5_touches 3 RX5 6 := hX
  show G Z X b 0 [some (.ref (zad Z 0)), some (.int p), some (.int w)] []
  refine g_aload_0 hX dX5_touches_0 ?_
  refine g_aload_0 hX dX5_touches_1 ?_
  refine g_cV0r hX mkX5_draft ml_X5_64 (c_X5_draft) (ob_0 Z _) dX5_touches_2 rfl (by decide) (Nat.le_of_ble_eq_true rfl) ?_
  refine g_iload_1 hX dX5_touches_5 ?_
  refine g_iload_2 hX dX5_touches_6 ?_
  refine g_cV2r hX mkX0_changeTouch ml_X5_89 (c_X0_changeTouch (bus_8 Z) (hr.sy.vc hC.1).1) ((bus_8 Z).obj _) dX5_touches_7 rfl (by decide) (Nat.le_of_ble_eq_true rfl) ?_
  refine g_top (touchR (b 1 7) (b (1 + 5) p.toNatClampNeg) p w) (by rw [show tk b 8 1 8 7 = b 1 7 from hr.2.1]; exact touchR_rg hC.1.1.2.1.1 hC.1.1.2.1.2 (fun q => (hr.2.2.1 _ q).2.2.1)) ?_
  refine g_cV1r hX mkX5_settled ml_X5_72 (c_X5_settled (k := pk b) (h := hd b) (by rw [hm 50 (by omega)]; exact q1) q2 (by rw [hm 50 (by omega)]; exact q3) q4) (ob_0 Z _) dX5_touches_10 rfl (by decide) (Nat.le_of_ble_eq_true rfl) ?_
  exact hq _ _ _ _ dX5_touches_13 (⟨rfl, by
      by_cases z : touchR (b 1 7) (b (1 + 5) p.toNatClampNeg) p w < 0
      · rw [if_pos z]; exact Or.inl ⟨z, RF_mk hC hm _⟩
      · rw [if_neg z]
        obtain ⟨a1, a2⟩ := AC_mk hC hm (vc_touch p w (hr.sy.vc hC.1))
        exact Or.inr ⟨z, tk b 8 1, hr, a2, a1⟩⟩)
set_option maxRecDepth 100000 in
set_option maxHeartbeats 4000000 in
theorem c_X5_sets {Z : Zt} {b : Mem} {k x : Int32} (hC : CI b) : ConE Z yX5_sets cX5_sets 3 (some .int) 6 [.ref (zad Z 0), .int k, .int x] b (pI (fun x' b' => x' = setR (b (1 + 6) k.toNatClampNeg) k x ∧ ((x' < 0 ∧ RF b x' b') ∨ (¬ x' < 0 ∧ ∃ m, Rg (cv m 8) (cv b 1) ∧ Rg (cv b' 1) (cv (setM m 8 k x) 8) ∧ AC b b')))) := by
  have hr := tk_rg b (o := 8) (p := 1) (by omega)
  obtain ⟨q1, q2, q3, q4, -⟩ := hC.2.2.2.2.st
  have hm : ∀ j, (j < 8 ∨ 14 < j) → setM (tk b 8 1) 8 k x j = b j := fun j hj => by rw [(opM_c (m := tk b 8 1) hj).2.2.2.2.2.2, tk_c _ (by omega)]
  refine conE_i (by decide) (Nat.le_of_ble_eq_true rfl) rfl (fun X hX hq => ?_)
  have hX : Ok Z X cX5_sets 3 RX5 6 := hX
  show G Z X b 0 [some (.ref (zad Z 0)), some (.int k), some (.int x)] []
  refine g_aload_0 hX dX5_sets_0 ?_
  refine g_aload_0 hX dX5_sets_1 ?_
  refine g_cV0r hX mkX5_draft ml_X5_64 (c_X5_draft) (ob_0 Z _) dX5_sets_2 rfl (by decide) (Nat.le_of_ble_eq_true rfl) ?_
  refine g_iload_1 hX dX5_sets_5 ?_
  refine g_iload_2 hX dX5_sets_6 ?_
  refine g_cV2r hX mkX0_changeSetting ml_X5_92 (c_X0_changeSetting (bus_8 Z)) ((bus_8 Z).obj _) dX5_sets_7 rfl (by decide) (Nat.le_of_ble_eq_true rfl) ?_
  refine g_top (setR (b (1 + 6) k.toNatClampNeg) k x) (setR_rg (fun q => hr.2.2.2 _ q)) ?_
  refine g_cV1r hX mkX5_settled ml_X5_72 (c_X5_settled (k := pk b) (h := hd b) (by rw [hm 50 (by omega)]; exact q1) q2 (by rw [hm 50 (by omega)]; exact q3) q4) (ob_0 Z _) dX5_sets_10 rfl (by decide) (Nat.le_of_ble_eq_true rfl) ?_
  exact hq _ _ _ _ dX5_sets_13 (⟨rfl, by
      by_cases z : setR (b (1 + 6) k.toNatClampNeg) k x < 0
      · rw [if_pos z]; exact Or.inl ⟨z, RF_mk hC hm _⟩
      · rw [if_neg z]
        obtain ⟨a1, a2⟩ := AC_mk hC hm (vc_set k x (hr.sy.vc hC.1))
        exact Or.inr ⟨z, tk b 8 1, hr, a2, a1⟩⟩)
