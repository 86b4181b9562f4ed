/-! each public call, made of both: the answers are alike, SIM holds again -/
theorem SIM.k {b b1 : Mem} {c : Int32} (h : SIM b) (g : GP b c b1) : mv b1 = mv b ∧ Val (mv b1) := by
  have e : mv b1 = mv b := by unfold mv; rw [g.2.1 71 (by omega)]
  exact ⟨e, by rw [e]; exact h.val⟩
theorem SIM.cV {b : Mem} (h : SIM b) : Val (cv b 1) := h.1.1.1
theorem SIM.hi {b b1 : Mem} {x : Int32} {op : Mem → Mem} (hcl : (x < 0 ∧ RF b x b1) ∨ (¬ x < 0 ∧ ∃ m, Rg (cv m 8) (cv b 1) ∧ Rg (cv b1 1) (cv (op m) 8) ∧ AC b b1)) : ∀ j, 69 ≤ j → b1 j = b j := by
  rcases hcl with ⟨-, h⟩ | ⟨-, m, -, -, h⟩
  · exact fun j hj => h.2.1.1 j (by omega)
  · exact fun j hj => h.2.1.1 j (by omega)
theorem SIM.pre {b b1 : Mem} (h : SIM b) (hi : ∀ j, 69 ≤ j → b1 j = b j) : Val (mv b1) ∧ b1 69 3 = nI (hd b) ∧ hd b ≤ 5 ∧ b1 71 = b 71 ∧ mv (ptM b1) = mv b := by
  have e : b1 71 = b 71 := hi 71 (by omega)
  have e2 : mv b1 = mv b := by unfold mv; rw [e]
  have e3 : mv (ptM b1) = mv b := by unfold mv; rw [ptM_c _ (by decide), e]
  exact ⟨by rw [e2]; exact h.val, by rw [hi 69 (by omega)]; exact h.2.2.2.2.1, h.1.hd5.2, e, e3⟩
theorem pr_line {b b1 : Mem} {x a : Int32} (h : SIM b) (hp : x = addLineR (b 1 6) a ∧ ((x < 0 ∧ RF b x b1) ∨ (¬ x < 0 ∧ ∃ m, Rg (cv m 8) (cv b 1) ∧ Rg (cv b1 1) (cv (addLineM m 8 a) 8) ∧ AC b b1))) : (Val (mv b1) ∧ b1 69 3 = nI (hd b) ∧ hd b ≤ 5) ∧ x = addLineR (b1 71 0) a ∧ SIM (dnM (addLineN (ptM b1) a) (hd b) (addLineR (b1 71 0) a)) := by
  obtain ⟨ex, hcl⟩ := hp
  obtain ⟨hv, h3, h5, e71, em⟩ := h.pre (SIM.hi (op := fun m => addLineM m 8 a) hcl)
  have e : x = addLineR (b1 71 0) a := by
    rw [ex, e71]
    exact (sim_addLine (m := b) (m' := b) (o := 1) a h.2.1 h.cV).1
  refine ⟨⟨hv, h3, h5⟩, e, ?_⟩
  rw [← e]
  refine h.chg (op := fun m => addLineM m 8 a) hcl (fun hx => neg_line (by rw [em]; exact h.val) ?_) (fun j hj => addLineN_c _ _ hj) (fun m hS hV => (sim_addLine a hS hV).2)
  rw [ptM_c _ (by decide), ← e]; exact hx
theorem pr_goes {b b1 : Mem} {x l t a : Int32} (h : SIM b) (hp : x = addRunR (b 1 6) (b (1 + 1) l.toNatClampNeg) l t a ∧ ((x < 0 ∧ RF b x b1) ∨ (¬ x < 0 ∧ ∃ m, Rg (cv m 8) (cv b 1) ∧ Rg (cv b1 1) (cv (addRunM m 8 l t a) 8) ∧ AC b b1))) : (Val (mv b1) ∧ b1 69 3 = nI (hd b) ∧ hd b ≤ 5) ∧ x = addRunR (b1 71 0) (b1 71 (9 + 17 * l.toNatClampNeg)) l t a ∧ SIM (dnM (addRunN (ptM b1) l t a) (hd b) (addRunR (b1 71 0) (b1 71 (9 + 17 * l.toNatClampNeg)) l t a)) := by
  obtain ⟨ex, hcl⟩ := hp
  obtain ⟨hv, h3, h5, e71, em⟩ := h.pre (SIM.hi (op := fun m => addRunM m 8 l t a) hcl)
  have e : x = addRunR (b1 71 0) (b1 71 (9 + 17 * l.toNatClampNeg)) l t a := by
    rw [ex, e71]
    exact (sim_addRun (m := b) (m' := b) (o := 1) l t a h.2.1 h.cV).1
  refine ⟨⟨hv, h3, h5⟩, e, ?_⟩
  rw [← e]
  refine h.chg (op := fun m => addRunM m 8 l t a) hcl (fun hx => neg_run (by rw [em]; exact h.val) ?_) (fun j hj => addRunN_c _ _ _ _ hj) (fun m hS hV => (sim_addRun l t a hS hV).2)
  rw [ptM_c _ (by decide), ← e]; exact hx
theorem pr_shortens {b b1 : Mem} {x l : Int32} (h : SIM b) (hp : x = dropRunR (b 1 6) (b (1 + 1) l.toNatClampNeg) l ∧ ((x < 0 ∧ RF b x b1) ∨ (¬ x < 0 ∧ ∃ m, Rg (cv m 8) (cv b 1) ∧ Rg (cv b1 1) (cv (dropRunM m 8 l) 8) ∧ AC b b1))) : (Val (mv b1) ∧ b1 69 3 = nI (hd b) ∧ hd b ≤ 5) ∧ x = dropRunR (b1 71 0) (b1 71 (9 + 17 * l.toNatClampNeg)) l ∧ SIM (dnM (dropRunN (ptM b1) l) (hd b) (dropRunR (b1 71 0) (b1 71 (9 + 17 * l.toNatClampNeg)) l)) := by
  obtain ⟨ex, hcl⟩ := hp
  obtain ⟨hv, h3, h5, e71, em⟩ := h.pre (SIM.hi (op := fun m => dropRunM m 8 l) hcl)
  have e : x = dropRunR (b1 71 0) (b1 71 (9 + 17 * l.toNatClampNeg)) l := by
    rw [ex, e71]
    exact (sim_dropRun (m := b) (m' := b) (o := 1) l h.2.1 h.cV).1
  refine ⟨⟨hv, h3, h5⟩, e, ?_⟩
  rw [← e]
  refine h.chg (op := fun m => dropRunM m 8 l) hcl (fun hx => neg_drop (by rw [em]; exact h.val) ?_) (fun j hj => dropRunN_c _ _ hj) (fun m hS hV => (sim_dropRun l hS hV).2)
  rw [ptM_c _ (by decide), ← e]; exact hx
theorem pr_pocket {b b1 : Mem} {x w t : Int32} (h : SIM b) (hp : x = addPocketR (b 1 7) w t ∧ ((x < 0 ∧ RF b x b1) ∨ (¬ x < 0 ∧ ∃ m, Rg (cv m 8) (cv b 1) ∧ Rg (cv b1 1) (cv (addPocketM m 8 w t) 8) ∧ AC b b1))) : (Val (mv b1) ∧ b1 69 3 = nI (hd b) ∧ hd b ≤ 5) ∧ x = addPocketR (b1 71 1) w t ∧ SIM (dnM (addPocketN (ptM b1) w t) (hd b) (addPocketR (b1 71 1) w t)) := by
  obtain ⟨ex, hcl⟩ := hp
  obtain ⟨hv, h3, h5, e71, em⟩ := h.pre (SIM.hi (op := fun m => addPocketM m 8 w t) hcl)
  have e : x = addPocketR (b1 71 1) w t := by
    rw [ex, e71]
    exact (sim_addPocket (m := b) (m' := b) (o := 1) w t h.2.1 h.cV).1
  refine ⟨⟨hv, h3, h5⟩, e, ?_⟩
  rw [← e]
  refine h.chg (op := fun m => addPocketM m 8 w t) hcl (fun hx => neg_pocket (by rw [em]; exact h.val) ?_) (fun j hj => addPocketN_c _ _ _ hj) (fun m hS hV => (sim_addPocket w t hS hV).2)
  rw [ptM_c _ (by decide), ← e]; exact hx
theorem pr_widens {b b1 : Mem} {x p w : Int32} (h : SIM b) (hp : x = wideR (b 1 7) (b (1 + 4) p.toNatClampNeg) p w ∧ ((x < 0 ∧ RF b x b1) ∨ (¬ x < 0 ∧ ∃ m, Rg (cv m 8) (cv b 1) ∧ Rg (cv b1 1) (cv (wideM m 8 p w) 8) ∧ AC b b1))) : (Val (mv b1) ∧ b1 69 3 = nI (hd b) ∧ hd b ≤ 5) ∧ x = wideR (b1 71 1) (b1 71 (111 + 2 * p.toNatClampNeg)) p w ∧ SIM (dnM (wideN (ptM b1) p w) (hd b) (wideR (b1 71 1) (b1 71 (111 + 2 * p.toNatClampNeg)) p w)) := by
  obtain ⟨ex, hcl⟩ := hp
  obtain ⟨hv, h3, h5, e71, em⟩ := h.pre (SIM.hi (op := fun m => wideM m 8 p w) hcl)
  have e : x = wideR (b1 71 1) (b1 71 (111 + 2 * p.toNatClampNeg)) p w := by
    rw [ex, e71]
    exact (sim_wide (m := b) (m' := b) (o := 1) p w h.2.1 h.cV).1
  refine ⟨⟨hv, h3, h5⟩, e, ?_⟩
  rw [← e]
  refine h.chg (op := fun m => wideM m 8 p w) hcl (fun hx => neg_wide (by rw [em]; exact h.val) ?_) (fun j hj => wideN_c _ _ _ hj) (fun m hS hV => (sim_wide p w hS hV).2)
  rw [ptM_c _ (by decide), ← e]; exact hx
theorem pr_touches {b b1 : Mem} {x p w : Int32} (h : SIM b) (hp : x = touchR (b 1 7) (b (1 + 5) p.toNatClampNeg) p w ∧ ((x < 0 ∧ RF b x b1) ∨ (¬ x < 0 ∧ ∃ m, Rg (cv m 8) (cv b 1) ∧ Rg (cv b1 1) (cv (touchM m 8 p w) 8) ∧ AC b b1))) : (Val (mv b1) ∧ b1 69 3 = nI (hd b) ∧ hd b ≤ 5) ∧ x = touchR (b1 71 1) (b1 71 (111 + 2 * p.toNatClampNeg + 1)) p w ∧ SIM (dnM (touchN (ptM b1) p w) (hd b) (touchR (b1 71 1) (b1 71 (111 + 2 * p.toNatClampNeg + 1)) p w)) := by
  obtain ⟨ex, hcl⟩ := hp
  obtain ⟨hv, h3, h5, e71, em⟩ := h.pre (SIM.hi (op := fun m => touchM m 8 p w) hcl)
  have e : x = touchR (b1 71 1) (b1 71 (111 + 2 * p.toNatClampNeg + 1)) p w := by
    rw [ex, e71]
    exact (sim_touch (m := b) (m' := b) (o := 1) p w h.2.1 h.cV).1
  refine ⟨⟨hv, h3, h5⟩, e, ?_⟩
  rw [← e]
  refine h.chg (op := fun m => touchM m 8 p w) hcl (fun hx => neg_touch (by rw [em]; exact h.val) ?_) (fun j hj => touchN_c _ _ _ hj) (fun m hS hV => (sim_touch p w hS hV).2)
  rw [ptM_c _ (by decide), ← e]; exact hx
theorem pr_sets {b b1 : Mem} {x k y : Int32} (h : SIM b) (hp : x = setR (b (1 + 6) k.toNatClampNeg) k y ∧ ((x < 0 ∧ RF b x b1) ∨ (¬ x < 0 ∧ ∃ m, Rg (cv m 8) (cv b 1) ∧ Rg (cv b1 1) (cv (setM m 8 k y) 8) ∧ AC b b1))) : (Val (mv b1) ∧ b1 69 3 = nI (hd b) ∧ hd b ≤ 5) ∧ x = setR (b1 71 (2 + k.toNatClampNeg)) k y ∧ SIM (dnM (setN (ptM b1) k y) (hd b) (setR (b1 71 (2 + k.toNatClampNeg)) k y)) := by
  obtain ⟨ex, hcl⟩ := hp
  obtain ⟨hv, h3, h5, e71, em⟩ := h.pre (SIM.hi (op := fun m => setM m 8 k y) hcl)
  have e : x = setR (b1 71 (2 + k.toNatClampNeg)) k y := by
    rw [ex, e71]
    exact (sim_set (m := b) (m' := b) (o := 1) k y h.2.1 h.cV).1
  refine ⟨⟨hv, h3, h5⟩, e, ?_⟩
  rw [← e]
  refine h.chg (op := fun m => setM m 8 k y) hcl (fun hx => neg_set (by rw [em]; exact h.val) ?_) (fun j hj => setN_c _ _ _ hj) (fun m hS hV => (sim_set k y hS hV).2)
  rw [ptM_c _ (by decide), ← e]; exact hx
theorem pr_of {b b1 b2 : Mem} {x y l w : Int32} (h : SIM b) (hp : x = ofR (cv b 1) l w ∧ GP b (ofC (cv b 1) l w) b1) (hq : y = ofR (mv b1) l w ∧ MG b1 (ofC (mv b1) l w) b2) : x = y ∧ SIM b2 := by
  obtain ⟨ex, g⟩ := hp
  obtain ⟨ey, m⟩ := hq
  rw [(h.k g).1] at ey m
  have e : ofR (cv b 1) l w = ofR (mv b) l w := (h.2.1.ofRQ h.cV l w).1
  have ec : ofC (cv b 1) l w = ofC (mv b) l w := (h.2.1.ofRQ h.cV l w).2
  exact ⟨by rw [ex, ey, e], h.get g (by rw [ec]; exact m)⟩
theorem pr_run {b b1 b2 : Mem} {x y l i w : Int32} (h : SIM b) (hp : x = runR (cv b 1) l i w ∧ GP b (runC (cv b 1) l i w) b1) (hq : y = runR (mv b1) l i w ∧ MG b1 (runC (mv b1) l i w) b2) : x = y ∧ SIM b2 := by
  obtain ⟨ex, g⟩ := hp
  obtain ⟨ey, m⟩ := hq
  rw [(h.k g).1] at ey m
  have e : runR (cv b 1) l i w = runR (mv b) l i w := (h.2.1.runRQ h.cV l i w).1
  have ec : runC (cv b 1) l i w = runC (mv b) l i w := (h.2.1.runRQ h.cV l i w).2
  exact ⟨by rw [ex, ey, e], h.get g (by rw [ec]; exact m)⟩
theorem pr_about {b b1 b2 : Mem} {x y p w : Int32} (h : SIM b) (hp : x = abR (cv b 1) p w ∧ GP b (abC (cv b 1) p w) b1) (hq : y = abR (mv b1) p w ∧ MG b1 (abC (mv b1) p w) b2) : x = y ∧ SIM b2 := by
  obtain ⟨ex, g⟩ := hp
  obtain ⟨ey, m⟩ := hq
  rw [(h.k g).1] at ey m
  have e : abR (cv b 1) p w = abR (mv b) p w := (h.2.1.abRQ h.cV p w).1
  have ec : abC (cv b 1) p w = abC (mv b) p w := (h.2.1.abRQ h.cV p w).2
  exact ⟨by rw [ex, ey, e], h.get g (by rw [ec]; exact m)⟩
theorem pr_setting {b b1 b2 : Mem} {x y k : Int32} (h : SIM b) (hp : x = seR (cv b 1) k ∧ GP b (seC k) b1) (hq : y = seR (mv b1) k ∧ MG b1 (seC k) b2) : x = y ∧ SIM b2 := by
  obtain ⟨ex, g⟩ := hp
  obtain ⟨ey, m⟩ := hq
  rw [(h.k g).1] at ey
  have e : seR (cv b 1) k = seR (mv b) k := h.2.1.seRQ k
  skip
  exact ⟨by rw [ex, ey, e], h.get g m⟩
theorem pr_count {b b1 b2 : Mem} {x y w : Int32} (h : SIM b) (hp : x = coR (cv b 1) w ∧ GP b (coC w) b1) (hq : y = coR (mv b1) w ∧ MG b1 (coC w) b2) : x = y ∧ SIM b2 := by
  obtain ⟨ex, g⟩ := hp
  obtain ⟨ey, m⟩ := hq
  rw [(h.k g).1] at ey
  have e : coR (cv b 1) w = coR (mv b) w := h.2.1.coRQ w
  skip
  exact ⟨by rw [ex, ey, e], h.get g m⟩
theorem pr_draws {b b1 b2 : Mem} {x y l p : Int32} (h : SIM b) (hp : x = drR (cv b 1) l p ∧ GP b (drC (cv b 1) l p) b1) (hq : y = drR (mv b1) l p ∧ MG b1 (drC (mv b1) l p) b2) : x = y ∧ SIM b2 := by
  obtain ⟨ex, g⟩ := hp
  obtain ⟨ey, m⟩ := hq
  rw [(h.k g).1] at ey m
  have e : drR (cv b 1) l p = drR (mv b) l p := (h.2.1.drRQ h.cV l p).1
  have ec : drC (cv b 1) l p = drC (mv b) l p := (h.2.1.drRQ h.cV l p).2
  exact ⟨by rw [ex, ey, e], h.get g (by rw [ec]; exact m)⟩
theorem pr_length {b b1 b2 : Mem} {x y l : Int32} (h : SIM b) (hp : x = leR (cv b 1) l ∧ GP b (leC (cv b 1) l) b1) (hq : y = leR (mv b1) l ∧ MG b1 (leC (mv b1) l) b2) : x = y ∧ SIM b2 := by
  obtain ⟨ex, g⟩ := hp
  obtain ⟨ey, m⟩ := hq
  rw [(h.k g).1] at ey m
  have e : leR (cv b 1) l = leR (mv b) l := (h.2.1.leRQ h.cV l).1
  have ec : leC (cv b 1) l = leC (mv b) l := (h.2.1.leRQ h.cV l).2
  exact ⟨by rw [ex, ey, e], h.get g (by rw [ec]; exact m)⟩
theorem pr_blocked {b b1 b2 : Mem} {x y : Int32} (h : SIM b) (hp : x = nI (blN (cv b 1) ((cv b 1) 5 4 0)) ∧ GP b (0) b1) (hq : y = nI (blN (mv b1) ((mv b1) 5 4 0)) ∧ MG b1 (0) b2) : x = y ∧ SIM b2 := by
  obtain ⟨ex, g⟩ := hp
  obtain ⟨ey, m⟩ := hq
  rw [(h.k g).1] at ey
  have e : nI (blN (cv b 1) ((cv b 1) 5 4 0)) = nI (blN (mv b) ((mv b) 5 4 0)) := (by rw [h.2.1.bl, h.2.1.t4])
  skip
  exact ⟨by rw [ex, ey, e], h.get g m⟩
theorem pr_can {b b1 b2 : Mem} {x y t : Int32} (h : SIM b) (hp : x = caR (cv b 1) t ∧ GP b (caC t) b1) (hq : y = caR (mv b1) t ∧ MG b1 (caC t) b2) : x = y ∧ SIM b2 := by
  obtain ⟨ex, g⟩ := hp
  obtain ⟨ey, m⟩ := hq
  rw [(h.k g).1] at ey
  have e : caR (cv b 1) t = caR (mv b) t := h.2.1.caRQ t
  skip
  exact ⟨by rw [ex, ey, e], h.get g m⟩
theorem pr_least {b b1 b2 : Mem} {x y : Int32} (h : SIM b) (hp : x = lsR (cv b 1) ∧ GP b (0) b1) (hq : y = lsR (mv b1) ∧ MG b1 (0) b2) : x = y ∧ SIM b2 := by
  obtain ⟨ex, g⟩ := hp
  obtain ⟨ey, m⟩ := hq
  rw [(h.k g).1] at ey
  have e : lsR (cv b 1) = lsR (mv b) := h.2.1.lsRQ
  skip
  exact ⟨by rw [ex, ey, e], h.get g m⟩
theorem pr_greatest {b b1 b2 : Mem} {x y : Int32} (h : SIM b) (hp : x = grR (cv b 1) ∧ GP b (0) b1) (hq : y = grR (mv b1) ∧ MG b1 (0) b2) : x = y ∧ SIM b2 := by
  obtain ⟨ex, g⟩ := hp
  obtain ⟨ey, m⟩ := hq
  rw [(h.k g).1] at ey
  have e : grR (cv b 1) = grR (mv b) := h.2.1.grRQ
  skip
  exact ⟨by rw [ex, ey, e], h.get g m⟩
theorem pr_bumps {b b1 b2 : Mem} {x y l : Int32} (h : SIM b) (hp : x = buR (cv b 1) l ∧ GP b (buC (cv b 1) l) b1) (hq : y = buR (mv b1) l ∧ MG b1 (buC (mv b1) l) b2) : x = y ∧ SIM b2 := by
  obtain ⟨ex, g⟩ := hp
  obtain ⟨ey, m⟩ := hq
  rw [(h.k g).1] at ey m
  have e : buR (cv b 1) l = buR (mv b) l := (h.2.1.buRQ h.cV l).1
  have ec : buC (cv b 1) l = buC (mv b) l := (h.2.1.buRQ h.cV l).2
  exact ⟨by rw [ex, ey, e], h.get g (by rw [ec]; exact m)⟩
theorem pr_skew {b b1 b2 : Mem} {x y l i : Int32} (h : SIM b) (hp : x = skR (cv b 1) l i ∧ GP b (skC (cv b 1) l i) b1) (hq : y = skR (mv b1) l i ∧ MG b1 (skC (mv b1) l i) b2) : x = y ∧ SIM b2 := by
  obtain ⟨ex, g⟩ := hp
  obtain ⟨ey, m⟩ := hq
  rw [(h.k g).1] at ey m
  have e : skR (cv b 1) l i = skR (mv b) l i := (h.2.1.skRQ h.cV l i).1
  have ec : skC (cv b 1) l i = skC (mv b) l i := (h.2.1.skRQ h.cV l i).2
  exact ⟨by rw [ex, ey, e], h.get g (by rw [ec]; exact m)⟩
theorem pr_more {b b1 b2 : Mem} {x y : Int32} (h : SIM b) (hp : moreP (cv b 1) x ∧ GP b (moreC (cv b 1)) b1) (hq : moreP (mv b1) y ∧ MG b1 (moreC (mv b1)) b2) : x = y ∧ SIM b2 := by
  obtain ⟨ex, g⟩ := hp
  obtain ⟨ey, m⟩ := hq
  rw [(h.k g).1] at ey m
  obtain ⟨e, ec⟩ := h.2.1.moreQ ex ey
  exact ⟨e, h.get g (by rw [ec]; exact m)⟩
theorem mtN_e {b b1 : Mem} (h69 : b1 69 = b 69) (h70 : b1 70 = b 70) (k : Nat) : mtN b1 k = mtN b k := by
  unfold mtN
  rw [h69, h70]
theorem pr_told {b b1 b2 : Mem} {x y w : Int32} (h : SIM b) (hp : x = toR b w ∧ GP b (toC w) b1) (hq : y = cl (¬ w < 0 ∧ ¬ 4 < w) (mtN b1 w.toNatClampNeg) (-2) ∧ MG b1 (toC w) b2) : x = y ∧ SIM b2 := by
  obtain ⟨ex, g⟩ := hp
  obtain ⟨ey, m⟩ := hq
  refine ⟨?_, h.get g m⟩
  rw [ex, ey]
  unfold toR
  refine cl_cong Iff.rfl (fun z => ?_)
  obtain ⟨j, hj, rfl⟩ := in_of6 (n := 4) z.1 z.2 (by decide)
  rw [nI_clamp (by omega), mtN_e (g.2.1 69 (by omega)) (g.2.1 70 (by omega))]
  exact to_mt h (by omega)
theorem pr_digest {b b1 b2 : Mem} {x y : Int64} (h : SIM b) (hp : x = dgS (cv b 1) (fun w => toV b (nI w)) ∧ GP b 0 b1) (hq : y = dgS (mv b1) (fun w => mtN b1 w) ∧ MG b1 0 b2) : x = y ∧ SIM b2 := by
  obtain ⟨ex, g⟩ := hp
  obtain ⟨ey, m⟩ := hq
  refine ⟨?_, h.get g m⟩
  rw [ex, ey, (h.k g).1]
  exact h.2.1.dgQ (fun k hk => by
    show toV b (nI k) = mtN b1 k
    rw [mtN_e (g.2.1 69 (by omega)) (g.2.1 70 (by omega))]
    exact to_mt h hk)
theorem pr_type {b b1 : Mem} {x c : Int32} (h : SIM b) (hp : x = tyR b c ∧ tyP b c b1) : (b1 69 11 = nI (tn b) ∧ tn b ≤ 120) ∧ x = mtyR b1 c ∧ SIM (mtyM b1 (tn b) c) := by
  obtain ⟨ex, g⟩ := hp
  obtain ⟨t1, t2⟩ := h.1.2.2.2.1.n
  obtain ⟨e, hS⟩ := h.type g
  exact ⟨⟨by rw [g.2.1 69 (by omega), ← h.2.2.2.1.1]; exact t1, t2⟩, by rw [ex]; exact e, hS⟩
theorem pr_clear {b b1 : Mem} {x : Int32} (h : SIM b) (hp : x = b 52 3 ∧ CI b1 ∧ (∀ j, (1 ≤ j ∧ j < 52 ∨ j = 53 ∨ 69 ≤ j) → b1 j = b j) ∧ b1 52 3 = 0 ∧ Ct b b1 0) : x = b1 69 11 ∧ SIM (up2 b1 69 11 0) := by
  obtain ⟨ex, g1, g2, g3, g4⟩ := hp
  obtain ⟨e, hS⟩ := h.clear g1 g2 g3 g4
  exact ⟨by rw [ex]; exact e, hS⟩
theorem pr_back {b b1 : Mem} {x : Int32} (h : SIM b) (hp : (hd b = 0 ∧ x = -3 ∧ GP b (-3) b1) ∨ (¬ hd b = 0 ∧ x = nI (hd b - 1) ∧ BK b b1)) : (b1 69 3 = nI (hd b) ∧ hd b ≤ 5) ∧ x = (if hd b = 0 then -3 else nI (hd b - 1)) ∧ SIM (if hd b = 0 then up2 b1 70 1 (b1 70 1 + 1) else up1 (up2 b1 69 3 (nI (hd b - 1))) 71 (cpF (fun i => b1 72 (123 * (hd b - 1) + i)) (b1 71) 0 123)) := by
  have h5 := h.1.hd5.2
  have h3 := h.2.2.2.2.1
  rcases hp with ⟨c, ex, g⟩ | ⟨c, ex, g⟩
  · refine ⟨⟨by rw [g.2.1 69 (by omega)]; exact h3, h5⟩, by rw [if_pos c]; exact ex, ?_⟩
    rw [if_pos c]
    refine h.get g ⟨fun j hj => u2c _ _ (by omega), ?_, ?_, ?_⟩
    · rw [u2k _ _ (by decide), bI0 (by decide)]
    · rw [u2s]; rfl
    · rw [u2k _ _ (by decide), bI0 (by decide)]
  · refine ⟨⟨by rw [g.2.1.1 69 (by omega)]; exact h3, h5⟩, by rw [if_neg c]; exact ex, ?_⟩
    rw [if_neg c]
    exact h.back c g
