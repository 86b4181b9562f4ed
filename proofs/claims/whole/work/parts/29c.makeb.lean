/-! the makers: arrays of references, stores, a copy out of a static row -/
section NCOPY
variable {l : Launch} {D : va_G} {c : ClassId × ClassId} {tA : Nat} {A : Nat → Prop} {X : Xt} {cc : ByteArray} {nL d mc ms : Nat} {own : String} {w rest : va_W} {cs sl pc : Nat} {L : List (Option Value)} {st : List Value}
theorem tA_cell {U : State} {H : Heap} {N : Nat} {f : Nat → Int32} (h : va_T .int tA N (fun j => .int (f j)) A U H) : ∃ cell : Cell, H[tA]? = some cell ∧ U.isArrayOf cell .int ∧ cell.vm ≠ .unknown ∧ N ≤ cell.slots.size ∧ (∀ j : Nat, j < N → cell.slots[j]? = some (.int (f j))) ∧ ¬ A tA := by
  obtain ⟨cell, h1, h2, h3, h4, -, h6, h7⟩ := h
  exact ⟨cell, h1, h2, h3, h4, h6, h7⟩
theorem n_copyT (hX : NOk D c tA A X cc nL own d mc ms) {index q : Nat} {g : Nat → Int32} (w1 : Cond.methodLink own index arraycopyName ∈ TB) (hLn : L.length = nL) (hd : 1 ≤ d) (hw : (st.map fun v => v.category).sum ≤ 8) (dg : decode cc pc = .ok (.invokestatic index, 3))
    (k : NX l D A X ((q, .inl (c.1, (7, .inl (va_cpy atF g 0 0 7)))) :: rest) cs sl (pc + 3) L st) : NX l D A X ((q, .inl (c.1, (7, .inl g))) :: rest) cs sl pc L (.int 7 :: .int 0 :: .ref q :: .int 0 :: .ref tA :: st) := by
  obtain ⟨hx, hb, hml, hown, hts, hK, hA, hrf, hrl, hcl, hsl⟩ := hX
  intro H locs ls hP hD hS hl T hT XX
  obtain ⟨scr, hs1, hs2, hs3, hs4, hs5, hs6⟩ := tA_cell hK.2.2.2.2.2
  have hlt : tA < X.2.2.2.1.heap.size := (Array.getElem?_eq_some_iff.mp hs1).1
  have hc0 : H[tA]? = some scr := by rw [hS.2.1 tA hlt hs6]; exact hs1
  have hc1 : H[q]? = some (vp_cell c.1 (7, .inl g)) := hP 0 _ rfl
  obtain ⟨hs7, k0, hk0, cm0, hkk0⟩ := hs2
  obtain ⟨-, k1, hk1, cm1, hkk1⟩ := (hK.1.2 0 _ rfl).1 7 (fun j => .int (g j))
  obtain ⟨vm', X', step⟩ := XX.arraycopy hx hown (hts _ w1) (hts _ sy_nat) (hts _ sy_sta) (hts _ sy_ini) (src := tA) (dst := q) (cs := scr) (cd := vp_cell c.1 (7, .inl g)) (srcPos := 0) (destPos := 0) (n := 7) (by rw [hT]; exact hc0) (by rw [hT]; exact hc1)
    hs7 (fun _ h => by cases h) hs3 (fun h => by cases h) hk0 hk1 hkk0 hkk1 (by simp [refKind]) (by decide) (by decide) (by decide)
    (by
      have e0 : (0 : Int32).toInt = 0 := by decide
      have e7 : (7 : Int32).toInt = 7 := by decide
      rw [e0, e7]; omega)
    (by
      have e0 : (0 : Int32).toInt = 0 := by decide
      have e7 : (7 : Int32).toInt = 7 := by decide
      rw [e0, e7]; show ¬ _ > ((arrV c.1 7 (fun j => .int (g j))).slots.size : Int); rw [arrV_size]; omega)
    (fun vm₁ _ i hi => by
      have hi7 : i < 7 := hi
      have e : scr.slots.getD ((0 : Int32).toNatClampNeg + i) .null = .int (atF ((0 : Int32).toNatClampNeg + i)) := by
        rw [Array.getD_eq_getD_getElem?, hs5 _ (by rw [sb_cl0]; omega)]
        rfl
      refine ⟨?_, ?_⟩
      · rw [e]
        rfl
      · rw [e]
        exact trivial)
    (g := F0 X.2.2.2.2.1 pc ls (.int 7 :: .int 0 :: .ref q :: .int 0 :: .ref tA :: st)) rfl (by rw [hml]; exact hl.1.trans hLn) (rest := st) rfl (by rw [hb]; exact dg) (by omega) (by show 2 * 0 + _ + (7 + 11) ≤ _; omega)
  have e1 : copied scr (vp_cell c.1 (7, .inl g)) 0 0 7 = vp_cell c.1 (7, .inl (va_cpy atF g (0 : Int32).toNatClampNeg (0 : Int32).toNatClampNeg (7 : Int32).toNatClampNeg)) := va_copiedX (fun z => .int z) scr c.1 atF g hs5 (by decide)
  rw [e1] at X' step
  rw [sb_cl0, show (7 : Int32).toNatClampNeg = 7 by decide] at X' step
  have hl1 : q < H.size := (Array.getElem?_eq_some_iff.mp hc1).1
  have hheap : ((T.setVm vm').setCell q (vp_cell c.1 (7, .inl (va_cpy atF g 0 0 7)))).heap = H.setIfInBounds q (vp_cell c.1 (7, .inl (va_cpy atF g 0 0 7))) := by rw [← hT]; rfl
  have oq : ∀ z : Nat, z ≠ q → (H.setIfInBounds q (vp_cell c.1 (7, .inl (va_cpy atF g 0 0 7))))[z]? = H[z]? := fun z hz => by simp [Array.getElem?_setIfInBounds, Ne.symm hz]
  obtain ⟨t, a1, b1⟩ := k _ _ ls (hP.set hD (p := 0) (e0 := .inl (c.1, (7, .inl g))) (e := .inl (c.1, (7, .inl (va_cpy atF g 0 0 7)))) rfl (show (H.setIfInBounds q _)[q]? = some _ by simp [Array.getElem?_setIfInBounds, hl1]) oq) (hD.set (p := 0) (e0 := .inl (c.1, (7, .inl g))) rfl) ⟨by simp; exact hS.1, fun z g1 g2 => by
      rw [oq z (fun e => g2 (by rw [e]; exact hD.2 0 _ rfl))]
      exact hS.2.1 z g1 g2, fun z hz => by
      rcases List.mem_append.mp hz with h | h
      · exact hS.2.2 z h
      · obtain ⟨y, -, hy⟩ := List.mem_map.mp h
        rw [← hy]
        exact hD.2 0 _ rfl⟩ hl _ hheap X'
  exact ⟨t, step t a1, b1⟩
theorem n_lenT (hX : NOk D c tA A X cc nL own d mc ms) (dg : decode cc pc = .ok (.arraylength, 1)) (k : NX l D A X w cs sl (pc + 1) L (.int 7 :: st)) : NX l D A X w cs sl pc L (.ref tA :: st) :=
  fun H locs ls hP hD hS hl => va_tlen (ty := .int) hX.1 hX.2.1 hX.2.2.2.2.2.1.2.2.2.2.2 hS rfl dg (k H locs ls hP hD hS hl)
theorem n_len (hX : NOk D c tA A X cc nL own d mc ms) {q : Nat} {x : vp_A} {v : Int32} {cA : ClassId} {ty : FieldType} (p t0 : Nat) (ha : w[p]? = some (q, .inl (cA, x))) (ht : ([(c.1, .int), (c.2, .object "SnakedBus$Bus")] : List (ClassId × FieldType))[t0]? = some (cA, ty)) (hv : Int32.ofNat x.1 = v) (dg : decode cc pc = .ok (.arraylength, 1)) (k : NX l D A X w cs sl (pc + 1) L (.int v :: st)) : NX l D A X w cs sl pc L (.ref q :: st) :=
  fun H locs ls hP hD hS hl => va_alen hX.1 hX.2.1 hX.2.2.2.2.2.1.1 hP p t0 ha ht hv dg (k H locs ls hP hD hS hl)
theorem n_min7 (hX : NOk D c tA A X cc nL own d mc ms) {index : Nat} (w1 : Cond.methodLink own index Lib.Math.min.name ∈ TB) (hLn : L.length = nL) (hd : 1 ≤ d) (hw : (st.map fun v => v.category).sum ≤ 8) (hc : cs ≤ mc) (hs : sl ≤ ms) (dg : decode cc pc = .ok (.invokestatic index, 3)) (k : NX l D A X w cs sl (pc + 3) L (.int 7 :: st)) : NX l D A X w cs sl pc L (.int 7 :: .int 7 :: st) := by
  obtain ⟨hx, hb, hml, hown, hts, hK, hA, hrf, hrl, hcl, hsl⟩ := hX
  intro H locs ls hP hD hS hl
  exact va_mmin hx hb (hml.trans (hLn.symm.trans hl.1.symm)) hown (hts _ w1) (hts _ mm_min_s) (hts _ mm_ini) (hts _ mm_min_c) (by omega) (by omega) (by omega) (by omega) dg (k H locs ls hP hD hS hl)
theorem n_getA (hX : NOk D c tA A X cc nL "SnakedBus$Bus" d mc ms) (dg : decode cc pc = .ok (.getstatic 37, 3)) (k : NX l D A X w cs sl (pc + 3) L (.ref tA :: st)) : NX l D A X w cs sl pc L st := by
  obtain ⟨hx, hb, hml, hown, hts, hK, hA, hrf, hrl, hcl, hsl⟩ := hX
  intro H locs ls hP hD hS hl
  exact va_getsN hx hb hK.2.2.2.2.1 hS hown (va_Nw.use rfl hK.2.2.1) (fun x9 h9 => h9) dg (k H locs ls hP hD hS hl)
theorem n_iast (hX : NOk D c tA A X cc nL own d mc ms) {q n : Nat} {f : Nat → Int32} {i x : Int32} (p : Nat) (w' : va_W) (ha : w[p]? = some (q, .inl (c.1, (n, .inl f)))) (hin : vp_in i n) (hw : w.set p (q, .inl (c.1, (n, .inl (upd f i.toNatClampNeg x)))) = w') (dg : decode cc pc = .ok (.iastore, 1)) (k : NX l D A X w' cs sl (pc + 1) L st) : NX l D A X w cs sl pc L (.int x :: .int i :: .ref q :: st) := by
  obtain ⟨hx, hb, hml, hown, hts, hK, hA, hrf, hrl, hcl, hsl⟩ := hX
  subst hw
  intro H locs ls hP hD hS hl
  exact va_iast hx hb hK.1 hP hD hS p 0 ha rfl hin dg (fun H1 locs1 hP1 hD1 hS1 => k H1 locs1 ls hP1 hD1 hS1 hl)
theorem n_newq (hX : NOk D c tA A X cc nL own d mc ms) {index : Nat} {n : Int32} (w1 : Cond.classLink own index RX0 ∈ TB) (pre : va_W) (N : Nat) (hn : n = nI N) (hN : N ≤ 1000) (hc : cs + 1 ≤ mc) (hs : sl + N ≤ ms) (dg : decode cc pc = .ok (.anewarray index, 3)) (k : ∀ q, NX l D A X (pre ++ (q, .inl (c.2, (N, .inr (.inr (.inr (.inr (fun _ => none))))))) :: rest) (cs + 1) (sl + N) (pc + 3) L (.ref q :: st)) : NX l D A X (pre ++ rest) cs sl pc L (.int n :: st) := by
  obtain ⟨hx, hb, hml, hown, hts, hK, hA, hrf, hrl, hcl, hsl⟩ := hX
  subst hn
  intro H locs ls hP hD hS hl
  refine va_newq (C := RX0) (N' := N) hx hb hown (hts _ w1) hK.2.2.2.1 hK.1 hP hD hS hA (nI_pos (by omega)) (nI_clamp (by omega)) (by omega) (by omega) (by omega) dg (fun q cA H1 hK1 hP1 hD1 hS1 => ?_)
  have e1 := va_nmO (hK1.2 2 (cA, .object RX0) rfl).2 rfl
  have e2 := va_nmO (hK.1.2 1 (c.2, .object RX0) rfl).2 rfl
  have e : cA = c.2 := Option.some.inj (e1.symm.trans e2)
  subst e
  have hp : ((pre ++ rest) ++ [(q, Sum.inl (c.2, (N, .inr (.inr (.inr (.inr (fun _ => none)))))))] : va_W).Perm (pre ++ (q, .inl (c.2, (N, .inr (.inr (.inr (.inr (fun _ => none))))))) :: rest) := (List.perm_append_singleton _ _).trans List.perm_middle.symm
  exact k q H1 locs ls (pw_permP hP1 hp) (pw_permD hD1 hp) hS1 hl
theorem n_aast (hX : NOk D c tA A X cc nL own d mc ms) {q n v : Nat} {vs : List Value} {f : Nat → Option Nat} {i : Int32} (p pk : Nat) (w' : va_W) (ha : w[p]? = some (q, .inl (c.2, (n, .inr (.inr (.inr (.inr f))))))) (hv : w[pk]? = some (v, .inr (0, vs))) (hin : vp_in i n) (hw : w.set p (q, .inl (c.2, (n, .inr (.inr (.inr (.inr (va_up f i.toNatClampNeg (some v)))))))) = w') (dg : decode cc pc = .ok (.aastore, 1)) (k : NX l D A X w' cs sl (pc + 1) L st) : NX l D A X w cs sl pc L (.ref v :: .int i :: .ref q :: st) := by
  obtain ⟨hx, hb, hml, hown, hts, hK, hA, hrf, hrl, hcl, hsl⟩ := hX
  subst hw
  intro H locs ls hP hD hS hl
  exact va_astq (r := (RX0, TX0, 8)) (ci := 0) hx hb hK.1 hP hD hS p 1 pk ha rfl hv rfl hin dg (fun H1 locs1 hP1 hD1 hS1 => k H1 locs1 ls hP1 hD1 hS1 hl)
end NCOPY
