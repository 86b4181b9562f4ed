/-! the makers: rules that lay new cells at the world's end; copy out of AT_FIRST; the constructors without loops -/
section NEND
variable {l : Launch} {D : va_G} {c : ClassId × ClassId} {tA : Nat} {A : Nat → Prop} {X : Xt} {cc : ByteArray} {nL d mc ms : Nat} {own : String} {w rest : va_W} {cs sl pc : Nat} {L : List (Option Value)} {st : List Value}
theorem nx_nil (h : NX l D A X (w ++ []) cs sl pc L st) : NX l D A X w cs sl pc L st := by
  rw [List.append_nil] at h; exact h
theorem n_newaE (hX : NOk D c tA A X cc nL own d mc ms) (w1 : Cond.arrayClass .int ∈ TB) {n : Int32} (N : Nat) (hn : n = nI N) (hN : N ≤ 1000) (hc : cs + 1 ≤ mc) (hs : sl + N ≤ ms) (dg : decode cc pc = .ok (.newarray .int, 2)) (k : ∀ q, NX l D A X (w ++ [(q, .inl (c.1, (N, .inl (fun _ => 0))))]) (cs + 1) (sl + N) (pc + 2) L (.ref q :: st)) : NX l D A X w cs sl pc L (.int n :: st) :=
  nx_nil (n_newa (rest := []) hX w1 w N hn hN hc hs dg k)
theorem n_newqE (hX : NOk D c tA A X cc nL own d mc ms) {index : Nat} {n : Int32} (w1 : Cond.classLink own index RX0 ∈ TB) (N : Nat) (hn : n = nI N) (hN : N ≤ 1000) (hc : cs + 1 ≤ mc) (hs : sl + N ≤ ms) (dg : decode cc pc = .ok (.anewarray index, 3)) (k : ∀ q, NX l D A X (w ++ [(q, .inl (c.2, (N, .inr (.inr (.inr (.inr (fun _ => none)))))))]) (cs + 1) (sl + N) (pc + 3) L (.ref q :: st)) : NX l D A X w cs sl pc L (.int n :: st) :=
  nx_nil (n_newq (rest := []) hX w1 w N hn hN hc hs dg k)
theorem n_makeE {C : String} {T : u_T} {N ci i1 i2 d' mc' ms' : Nat} {ty0 : Nat → FieldType} {y : MethodName} {cy : ByteArray} {mL : Nat} {fin : Nat → (Nat → Nat) → va_W} (hX : NOk D c tA A X cc nL own d mc ms) (hin : ∀ w ∈ u_ws C T N, w ∈ TB) (hty : ∀ k, k < N → parseFieldDescriptor (T k).2.2.1 = some (ty0 k)) (fs : List Value) (hc : vwCl[ci]? = some (C, T, N)) (hfs : ∀ j, j < N → defaultValue (ty0 j) = vp_V fs j)
    (u1 : Cond.classLink own i1 C ∈ TB) (u2 : Cond.instantiable C N ∈ TB) (u3 : Cond.initialized C ∈ TB) (m1 : Cond.code y cy mL none ∈ TB) (m2 : Cond.initialized y.cls ∈ TB) (m3 : y.cls ≠ "java/lang/invoke/MethodHandle" ∧ y.cls ≠ "java/lang/invoke/VarHandle" ∧ (parseMethodDescriptor y.desc).map (fun d => d.parameters.length) = some 0) (m4 : Cond.methodLink own i2 y ∈ TB) (m5 : Cond.instanceMethod y ∈ TB) (m6 : y.name = "<init>") (m7 : mL ≤ 19)
    (hM : ∀ q, Mk l D c tA y cy mL d' mc' ms' [.ref q] [(q, .inr (ci, fs))] (fin q)) (hLn : L.length = nL) (hd : d' + 1 ≤ d) (hcs : cs + 1 + mc' ≤ mc) (hsl : sl + N + ms' ≤ ms) (hw : (st.map fun v => v.category).sum ≤ 7) (dg0 : decode cc pc = .ok (.new i1, 3)) (dg1 : decode cc (pc + 3) = .ok (.dup, 1)) (dg2 : decode cc (pc + 4) = .ok (.invokespecial i2, 3))
    (k : ∀ q a, NX l D A X (w ++ fin q a) (cs + 1 + mc') (sl + N + ms') (pc + 7) L (.ref q :: st)) : NX l D A X w cs sl pc L st :=
  nx_nil (n_make (rest := []) hX hin hty fs hc hfs u1 u2 u3 m1 m2 m3 m4 m5 m6 m7 hM w hLn hd hcs hsl hw dg0 dg1 dg2 (fun q a => by rw [List.append_nil]; exact k q a))
set_option maxRecDepth 100000 in
set_option maxHeartbeats 4000000 in
theorem k_copyA {q : Nat} {g : Nat → Int32} : Mk l D c tA yX5_copy cX5_copy 2 1 0 0 [.ref tA, .ref q] [(q, .inl (c.1, (7, .inl g)))] (fun _ => [(q, .inl (c.1, (7, .inl (va_cpy atF g 0 0 7))))]) := by
  refine mk_v (by decide) (Nat.le_of_ble_eq_true rfl) rfl (fun X A hX _ hq => ?_)
  have hX : NOk D c tA A X cX5_copy 2 RX5 1 0 0 := hX
  show NX l D A X [(q, .inl (c.1, (7, .inl g)))] 0 0 0 [some (.ref tA), some (.ref q)] []
  refine n_aload_0 hX dX5_copy_0 ?_
  refine n_iconst hX 0 dX5_copy_1 (by decide) ?_
  refine n_aload_1 hX dX5_copy_2 ?_
  refine n_iconst hX 0 dX5_copy_3 (by decide) ?_
  refine n_aload_0 hX dX5_copy_4 ?_
  refine n_lenT hX dX5_copy_5 ?_
  refine n_aload_1 hX dX5_copy_6 ?_
  refine n_len hX 0 0 rfl rfl rfl dX5_copy_7 ?_
  refine n_min7 hX ml_X5_291 rfl (by decide) (Nat.le_of_ble_eq_true rfl) (by decide) (by decide) dX5_copy_8 ?_
  refine n_copyT hX ml_X5_296 rfl (by decide) (Nat.le_of_ble_eq_true rfl) dX5_copy_11 ?_
  exact hq _ _ _ (fun _ => 0) _ _ dX5_copy_14 (List.Perm.refl _) rfl rfl
theorem n_callA (hX : NOk D c tA A X cc nL "SnakedBus$Bus" d mc ms) {q : Nat} {g : Nat → Int32} {pre rest : va_W} (hLn : L.length = nL) (hd : 2 ≤ d) (hw : (st.map fun v => v.category).sum ≤ 8) (hc : cs ≤ mc) (hs : sl ≤ ms) (dg : decode cc pc = .ok (.invokestatic 40, 3))
    (k : NX l D A X (pre ++ (q, .inl (c.1, (7, .inl (va_cpy atF g 0 0 7)))) :: rest) cs sl (pc + 3) L st) : NX l D A X (pre ++ (q, .inl (c.1, (7, .inl g))) :: rest) cs sl pc L (.ref q :: .ref tA :: st) := by
  obtain ⟨hx, hb, hml, hown, hts, hK, hA, hrf, hrl, hcl, hsl'⟩ := hX
  obtain ⟨⟨m1, m2, m3, m4⟩, m5⟩ := mkX5_copy
  intro H locs ls hP hD hS hl
  have hp1 : (pre ++ (q, Sum.inl (c.1, (7, Sum.inl g))) :: rest : va_W).Perm ((q, .inl (c.1, (7, .inl g))) :: (pre ++ rest)) := List.perm_middle
  have hP1 := pw_permP hP hp1
  have hD1 := pw_permD hD hp1
  have hAq : A q := hD1.2 0 _ rfl
  have hF : ∀ z, va_A [(q, Sum.inl (c.1, (7, Sum.inl g)))] H.size z → A z := by
    rintro z (⟨i, e, hi⟩ | hz)
    · have hi0 : i < 1 := (List.getElem?_eq_some_iff.mp hi).1
      have i0 : i = 0 := by omega
      subst i0
      have e1 : (q, Sum.inl (c.1, (7, Sum.inl g))) = (z, e) := Option.some.inj hi
      rw [← (Prod.mk.inj e1).1]; exact hAq
    · exact hA z (Nat.le_trans hS.1 hz)
  intro T1 hT1 XX
  have hr := va_runSN (p := X.1) (l := l) (e := X.2.1) (R := X.2.2.1) (s := X.2.2.2.1) (m := X.2.2.2.2.1) (args := X.2.2.2.2.2.1) (below := X.2.2.2.2.2.2.1) (meth := X.2.2.2.2.2.2.2.1) (c := X.2.2.2.2.2.2.2.2.1) (H := H) (locs := locs) (cells := cs) (slots := sl) (Ts := TB) (As := [.ref tA, .ref q]) (rest := st) (n := 2) (nL := nL) (g := F0 X.2.2.2.2.1 pc ls (.ref q :: .ref tA :: st)) ⟨hx, hb, hml, hown, hts⟩ (k_copyA (l := l) (D := D) (c := c) (tA := tA) (q := q) (g := g) H.size) ⟨va_cnB 2 hts (tb_code m1) rfl rfl rfl hK.2.1 (hts _ m2) m3 ⟨by show 1 + 1 ≤ _; omega, by show 8 + (2 + 11) + 38 * 1 ≤ _; omega⟩, hts _ m5, trivial⟩
    ⟨kP_blind D c tA _ _ _, fun U hU hW => ⟨rfl, by rw [hU], by rw [hU]; exact pw_mem.mpr (fun z hz => pw_mem.mp hP1 z (List.mem_cons.mpr (Or.inl (List.mem_singleton.mp hz)))), pw_D.mpr ⟨by simp, fun _ _ => trivial⟩, hK.to hS hU hW hF⟩⟩ rfl rfl (hl.1.trans hLn) rfl (lv_room hw) dg ⟨by omega, by omega⟩
  obtain ⟨v, st₀, t, T', L', h0, X', hL', e1, e2, ⟨⟨a, hv, hPf, hDf⟩, hz, hkk⟩, sst⟩ := hr T1 hT1 XX
  have hv : v = none := by injection hv
  subst hv
  rw [h0] at hz hkk
  obtain ⟨hP2, hD2⟩ := pw_join (H1 := T'.heap) hP1 hD1 (fun z h1 h2 => by rw [e1]; exact hkk z h1 h2) hF (by rw [e1]; exact hPf) hDf
  have hp2 : ([(q, Sum.inl (c.1, (7, Sum.inl (va_cpy atF g 0 0 7))))] ++ (pre ++ rest) : va_W).Perm (pre ++ (q, .inl (c.1, (7, .inl (va_cpy atF g 0 0 7)))) :: rest) := (List.perm_middle (a := (q, Sum.inl (c.1, (7, Sum.inl (va_cpy atF g 0 0 7))))) (l₁ := pre) (l₂ := rest)).symm
  obtain ⟨t2, a1, b1⟩ := k T'.heap (locs ++ L') ls (pw_permP hP2 hp2) (pw_permD hD2 hp2)
    ⟨Nat.le_trans hS.1 (by rw [e1]; exact hz), fun z h1 h2 => by rw [e1, hkk z (Nat.lt_of_lt_of_le h1 hS.1) (fun y => h2 (hF z y))]; exact hS.2.1 z h1 h2, fun z hz => by
      rcases List.mem_append.mp hz with h | h
      · exact hS.2.2 z h
      · exact hF _ (hL' z h)⟩ hl T' rfl X'
  exact ⟨t2, sst t2 a1, b1⟩
end NEND
def busW (c : ClassId × ClassId) (h : Nat) (a : Nat → Nat) : va_W := [(h, .inr (0, [.ref (a 1), .ref (a 2), .ref (a 3), .ref (a 4), .ref (a 5), .ref (a 6), .int 0, .int 0])), (a 1, .inl (c.1, (6, .inl (fun _ => 0)))), (a 2, .inl (c.1, (48, .inl (fun _ => 0)))), (a 3, .inl (c.1, (48, .inl (fun _ => 0)))), (a 4, .inl (c.1, (6, .inl (fun _ => 0)))), (a 5, .inl (c.1, (6, .inl (fun _ => 0)))), (a 6, .inl (c.1, (7, .inl (va_cpy atF (fun _ => 0) 0 0 7))))]
def phaW (c : ClassId × ClassId) (h : Nat) (a : Nat → Nat) : va_W := [(h, .inr (2, [.ref (a 1), .ref (a 2)])), (a 1, .inl (c.1, (15, .inl (fun _ => 0)))), (a 2, .inl (c.1, (15, .inl (fun _ => 0))))]
def shrW (c : ClassId × ClassId) (h : Nat) (a : Nat → Nat) : va_W := [(h, .inr (3, [.ref (a 1), .ref (a 2), .ref (a 3), .ref (a 4), .int 0, .int 0, .int 0, .int 0])), (a 1, .inl (c.1, (64, .inl (fun _ => 0)))), (a 2, .inl (c.1, (64, .inl (fun _ => 0)))), (a 3, .inl (c.1, (6, .inl (fun _ => 0)))), (a 4, .inl (c.1, (36, .inl (fun _ => 0))))]
def texW (c : ClassId × ClassId) (h : Nat) (a : Nat → Nat) : va_W := [(h, .inr (4, [.ref (a 1), .ref (a 2), .ref (a 3), .int 0, .int 0, .int 0, .int 0, .int 0])), (a 1, .inl (c.1, (120, .inl (fun _ => 0)))), (a 2, .inl (c.1, (40, .inl (fun _ => 0)))), (a 3, .inl (c.1, (120, .inl (fun _ => 0))))]
def moW (c : ClassId × ClassId) (h : Nat) (a : Nat → Nat) : va_W := [(h, .inr (6, [.ref (a 1), .ref (a 2), .ref (a 3), .int 0, .ref (a 4), .ref (a 5), .ref (a 6), .ref (a 7), .ref (a 8), .ref (a 9), .ref (a 10), .int 0, .ref (a 11), .int 0, .int 0])), (a 1, .inl (c.1, (3, .inl (fun _ => 0)))), (a 2, .inl (c.1, (123, .inl (upd (upd (upd (fun _ => 0) 2 6) 3 2) 8 4)))), (a 3, .inl (c.1, (738, .inl (fun _ => 0)))), (a 4, .inl (c.1, (6, .inl (fun _ => 0)))), (a 5, .inl (c.1, (6, .inl (fun _ => 0)))), (a 6, .inl (c.1, (6, .inl (fun _ => 0)))), (a 7, .inl (c.1, (36, .inl (fun _ => 0)))), (a 8, .inl (c.1, (17, .inl (fun _ => 0)))), (a 9, .inl (c.1, (17, .inl (fun _ => 0)))), (a 10, .inl (c.1, (120, .inl (fun _ => 0)))), (a 11, .inl (c.1, (200, .inl (fun _ => 0))))]
/-- the five kept states first, then the object and its row: a 0 .. a 34 the states, h the object, a 36 the row -/
def rowf (a : Nat → Nat) : Nat → Option Nat := fun j => if j < 5 then some (a (7 * j)) else none
def pastW (c : ClassId × ClassId) (h : Nat) (a : Nat → Nat) : va_W := ((((busW c (a 0) (fun i => a i) ++ busW c (a 7) (fun i => a (7 + i))) ++ busW c (a 14) (fun i => a (14 + i))) ++ busW c (a 21) (fun i => a (21 + i))) ++ busW c (a 28) (fun i => a (28 + i))) ++ [(h, .inr (1, [.ref (a 36), .int 0, .int 0])), (a 36, .inl (c.2, (5, .inr (.inr (.inr (.inr (rowf a)))))))]
/-- by the cells of the memory: h is cell 0 -/
def sbW (c : ClassId × ClassId) (h : Nat) (a : Nat → Nat) : va_W := (h, .inr (5, [.ref (a 1), .ref (a 8), .ref (a 50), .ref (a 52), .ref (a 56), .ref (a 61), .ref (a 66), .int 0, .int 0, .int 0, .int 0])) :: ((((((busW c (a 1) (fun i => a (1 + i)) ++ busW c (a 8) (fun i => a (8 + i))) ++ pastW c (a 50) (fun i => a (15 + i))) ++ texW c (a 52) (fun i => a (52 + i))) ++ shrW c (a 56) (fun i => a (56 + i))) ++ shrW c (a 61) (fun i => a (61 + i))) ++ phaW c (a 66) (fun i => a (66 + i)))
set_option maxRecDepth 100000 in
set_option maxHeartbeats 4000000 in
theorem k_X0_init {l : Launch} {D : va_G} {c : ClassId × ClassId} {tA h0 : Nat} : Mk l D c tA yX0_init cX0_init 1 2 6 121 [.ref h0] [(h0, .inr (0, [.null, .null, .null, .null, .null, .null, .int 0, .int 0]))] (busW c h0) := by
  refine mk_v (by decide) (Nat.le_of_ble_eq_true rfl) rfl (fun X A hX hmn hq => ?_)
  have hX : NOk D c tA A X cX0_init 1 RX0 2 6 121 := hX
  have hmn : X.2.2.2.2.2.2.2.1.name = "<init>" := hmn
  show NX l D A X ([(h0, .inr (0, [.null, .null, .null, .null, .null, .null, .int 0, .int 0]))]) 0 0 0 [some (.ref h0)] []
  refine n_aload_0 hX dX0_init_0 ?_
  refine n_obj hX ml_X0_3 oi_i oi_c rfl (Nat.le_of_ble_eq_true rfl) dX0_init_1 ?_
  refine n_aload_0 hX dX0_init_4 ?_
  refine n_bipush hX 6 dX0_init_5 (by decide) ?_
  refine n_newaE hX ac_int 6 rfl (by decide) (by decide) (by decide) dX0_init_7 (fun q1 => ?_)
  show NX l D A X ([(h0, .inr (0, [.null, .null, .null, .null, .null, .null, .int 0, .int 0])), (q1, .inl (c.1, (6, .inl (fun _ => 0))))]) 1 6 9 [some (.ref h0)] [.ref q1, .ref h0]
  refine n_putF (ty0 := tyX0) hX hmn in_X0 tyX0_ok nmX0 rfl 0 (by decide) fl_X0_runs rfl rfl (ty := (.array .int)) (by decide +kernel) rfl rfl (Nat.le_of_ble_eq_true rfl) dX0_init_9 ?_
  show NX l D A X ([(h0, .inr (0, [.ref q1, .null, .null, .null, .null, .null, .int 0, .int 0])), (q1, .inl (c.1, (6, .inl (fun _ => 0))))]) 1 6 12 [some (.ref h0)] []
  refine n_aload_0 hX dX0_init_12 ?_
  refine n_bipush hX 48 dX0_init_13 (by decide) ?_
  refine n_newaE hX ac_int 48 rfl (by decide) (by decide) (by decide) dX0_init_15 (fun q2 => ?_)
  show NX l D A X ([(h0, .inr (0, [.ref q1, .null, .null, .null, .null, .null, .int 0, .int 0])), (q1, .inl (c.1, (6, .inl (fun _ => 0)))), (q2, .inl (c.1, (48, .inl (fun _ => 0))))]) 2 54 17 [some (.ref h0)] [.ref q2, .ref h0]
  refine n_putF (ty0 := tyX0) hX hmn in_X0 tyX0_ok nmX0 rfl 1 (by decide) fl_X0_longs rfl rfl (ty := (.array .int)) (by decide +kernel) rfl rfl (Nat.le_of_ble_eq_true rfl) dX0_init_17 ?_
  show NX l D A X ([(h0, .inr (0, [.ref q1, .ref q2, .null, .null, .null, .null, .int 0, .int 0])), (q1, .inl (c.1, (6, .inl (fun _ => 0)))), (q2, .inl (c.1, (48, .inl (fun _ => 0))))]) 2 54 20 [some (.ref h0)] []
  refine n_aload_0 hX dX0_init_20 ?_
  refine n_bipush hX 48 dX0_init_21 (by decide) ?_
  refine n_newaE hX ac_int 48 rfl (by decide) (by decide) (by decide) dX0_init_23 (fun q3 => ?_)
  show NX l D A X ([(h0, .inr (0, [.ref q1, .ref q2, .null, .null, .null, .null, .int 0, .int 0])), (q1, .inl (c.1, (6, .inl (fun _ => 0)))), (q2, .inl (c.1, (48, .inl (fun _ => 0)))), (q3, .inl (c.1, (48, .inl (fun _ => 0))))]) 3 102 25 [some (.ref h0)] [.ref q3, .ref h0]
  refine n_putF (ty0 := tyX0) hX hmn in_X0 tyX0_ok nmX0 rfl 2 (by decide) fl_X0_turns rfl rfl (ty := (.array .int)) (by decide +kernel) rfl rfl (Nat.le_of_ble_eq_true rfl) dX0_init_25 ?_
  show NX l D A X ([(h0, .inr (0, [.ref q1, .ref q2, .ref q3, .null, .null, .null, .int 0, .int 0])), (q1, .inl (c.1, (6, .inl (fun _ => 0)))), (q2, .inl (c.1, (48, .inl (fun _ => 0)))), (q3, .inl (c.1, (48, .inl (fun _ => 0))))]) 3 102 28 [some (.ref h0)] []
  refine n_aload_0 hX dX0_init_28 ?_
  refine n_bipush hX 6 dX0_init_29 (by decide) ?_
  refine n_newaE hX ac_int 6 rfl (by decide) (by decide) (by decide) dX0_init_31 (fun q4 => ?_)
  show NX l D A X ([(h0, .inr (0, [.ref q1, .ref q2, .ref q3, .null, .null, .null, .int 0, .int 0])), (q1, .inl (c.1, (6, .inl (fun _ => 0)))), (q2, .inl (c.1, (48, .inl (fun _ => 0)))), (q3, .inl (c.1, (48, .inl (fun _ => 0)))), (q4, .inl (c.1, (6, .inl (fun _ => 0))))]) 4 108 33 [some (.ref h0)] [.ref q4, .ref h0]
  refine n_putF (ty0 := tyX0) hX hmn in_X0 tyX0_ok nmX0 rfl 3 (by decide) fl_X0_wides rfl rfl (ty := (.array .int)) (by decide +kernel) rfl rfl (Nat.le_of_ble_eq_true rfl) dX0_init_33 ?_
  show NX l D A X ([(h0, .inr (0, [.ref q1, .ref q2, .ref q3, .ref q4, .null, .null, .int 0, .int 0])), (q1, .inl (c.1, (6, .inl (fun _ => 0)))), (q2, .inl (c.1, (48, .inl (fun _ => 0)))), (q3, .inl (c.1, (48, .inl (fun _ => 0)))), (q4, .inl (c.1, (6, .inl (fun _ => 0))))]) 4 108 36 [some (.ref h0)] []
  refine n_aload_0 hX dX0_init_36 ?_
  refine n_bipush hX 6 dX0_init_37 (by decide) ?_
  refine n_newaE hX ac_int 6 rfl (by decide) (by decide) (by decide) dX0_init_39 (fun q5 => ?_)
  show NX l D A X ([(h0, .inr (0, [.ref q1, .ref q2, .ref q3, .ref q4, .null, .null, .int 0, .int 0])), (q1, .inl (c.1, (6, .inl (fun _ => 0)))), (q2, .inl (c.1, (48, .inl (fun _ => 0)))), (q3, .inl (c.1, (48, .inl (fun _ => 0)))), (q4, .inl (c.1, (6, .inl (fun _ => 0)))), (q5, .inl (c.1, (6, .inl (fun _ => 0))))]) 5 114 41 [some (.ref h0)] [.ref q5, .ref h0]
  refine n_putF (ty0 := tyX0) hX hmn in_X0 tyX0_ok nmX0 rfl 4 (by decide) fl_X0_touching rfl rfl (ty := (.array .int)) (by decide +kernel) rfl rfl (Nat.le_of_ble_eq_true rfl) dX0_init_41 ?_
  show NX l D A X ([(h0, .inr (0, [.ref q1, .ref q2, .ref q3, .ref q4, .ref q5, .null, .int 0, .int 0])), (q1, .inl (c.1, (6, .inl (fun _ => 0)))), (q2, .inl (c.1, (48, .inl (fun _ => 0)))), (q3, .inl (c.1, (48, .inl (fun _ => 0)))), (q4, .inl (c.1, (6, .inl (fun _ => 0)))), (q5, .inl (c.1, (6, .inl (fun _ => 0))))]) 5 114 44 [some (.ref h0)] []
  refine n_aload_0 hX dX0_init_44 ?_
  refine n_bipush hX 7 dX0_init_45 (by decide) ?_
  refine n_newaE hX ac_int 7 rfl (by decide) (by decide) (by decide) dX0_init_47 (fun q6 => ?_)
  show NX l D A X ([(h0, .inr (0, [.ref q1, .ref q2, .ref q3, .ref q4, .ref q5, .null, .int 0, .int 0])), (q1, .inl (c.1, (6, .inl (fun _ => 0)))), (q2, .inl (c.1, (48, .inl (fun _ => 0)))), (q3, .inl (c.1, (48, .inl (fun _ => 0)))), (q4, .inl (c.1, (6, .inl (fun _ => 0)))), (q5, .inl (c.1, (6, .inl (fun _ => 0)))), (q6, .inl (c.1, (7, .inl (fun _ => 0))))]) 6 121 49 [some (.ref h0)] [.ref q6, .ref h0]
  refine n_putF (ty0 := tyX0) hX hmn in_X0 tyX0_ok nmX0 rfl 5 (by decide) fl_X0_chosen rfl rfl (ty := (.array .int)) (by decide +kernel) rfl rfl (Nat.le_of_ble_eq_true rfl) dX0_init_49 ?_
  show NX l D A X ([(h0, .inr (0, [.ref q1, .ref q2, .ref q3, .ref q4, .ref q5, .ref q6, .int 0, .int 0])), (q1, .inl (c.1, (6, .inl (fun _ => 0)))), (q2, .inl (c.1, (48, .inl (fun _ => 0)))), (q3, .inl (c.1, (48, .inl (fun _ => 0)))), (q4, .inl (c.1, (6, .inl (fun _ => 0)))), (q5, .inl (c.1, (6, .inl (fun _ => 0)))), (q6, .inl (c.1, (7, .inl (fun _ => 0))))]) 6 121 52 [some (.ref h0)] []
  refine n_aload_0 hX dX0_init_52 ?_
  refine n_iconst hX 0 dX0_init_53 (by decide) ?_
  refine n_put (ty0 := tyX0) hX in_X0 tyX0_ok nmX0 rfl 6 (by decide) fl_X0_lines rfl rfl (ty := .int) (by decide +kernel) rfl rfl (Nat.le_of_ble_eq_true rfl) dX0_init_54 ?_
  show NX l D A X ([(h0, .inr (0, [.ref q1, .ref q2, .ref q3, .ref q4, .ref q5, .ref q6, .int 0, .int 0])), (q1, .inl (c.1, (6, .inl (fun _ => 0)))), (q2, .inl (c.1, (48, .inl (fun _ => 0)))), (q3, .inl (c.1, (48, .inl (fun _ => 0)))), (q4, .inl (c.1, (6, .inl (fun _ => 0)))), (q5, .inl (c.1, (6, .inl (fun _ => 0)))), (q6, .inl (c.1, (7, .inl (fun _ => 0))))]) 6 121 57 [some (.ref h0)] []
  refine n_aload_0 hX dX0_init_57 ?_
  refine n_iconst hX 0 dX0_init_58 (by decide) ?_
  refine n_put (ty0 := tyX0) hX in_X0 tyX0_ok nmX0 rfl 7 (by decide) fl_X0_pockets rfl rfl (ty := .int) (by decide +kernel) rfl rfl (Nat.le_of_ble_eq_true rfl) dX0_init_59 ?_
  show NX l D A X ([(h0, .inr (0, [.ref q1, .ref q2, .ref q3, .ref q4, .ref q5, .ref q6, .int 0, .int 0])), (q1, .inl (c.1, (6, .inl (fun _ => 0)))), (q2, .inl (c.1, (48, .inl (fun _ => 0)))), (q3, .inl (c.1, (48, .inl (fun _ => 0)))), (q4, .inl (c.1, (6, .inl (fun _ => 0)))), (q5, .inl (c.1, (6, .inl (fun _ => 0)))), (q6, .inl (c.1, (7, .inl (fun _ => 0))))]) 6 121 62 [some (.ref h0)] []
  refine n_getA hX dX0_init_62 ?_
  refine n_aload_0 hX dX0_init_65 ?_
  refine n_get hX in_X0 rfl 5 (by decide) fl_X0_chosen rfl rfl dX0_init_66 ?_
  refine n_callA hX (pre := [(h0, .inr (0, [.ref q1, .ref q2, .ref q3, .ref q4, .ref q5, .ref q6, .int 0, .int 0])), (q1, .inl (c.1, (6, .inl (fun _ => 0)))), (q2, .inl (c.1, (48, .inl (fun _ => 0)))), (q3, .inl (c.1, (48, .inl (fun _ => 0)))), (q4, .inl (c.1, (6, .inl (fun _ => 0)))), (q5, .inl (c.1, (6, .inl (fun _ => 0))))]) (rest := []) rfl (by decide) (by decide) (by decide) (by decide) dX0_init_69 ?_
  show NX l D A X ([(h0, .inr (0, [.ref q1, .ref q2, .ref q3, .ref q4, .ref q5, .ref q6, .int 0, .int 0])), (q1, .inl (c.1, (6, .inl (fun _ => 0)))), (q2, .inl (c.1, (48, .inl (fun _ => 0)))), (q3, .inl (c.1, (48, .inl (fun _ => 0)))), (q4, .inl (c.1, (6, .inl (fun _ => 0)))), (q5, .inl (c.1, (6, .inl (fun _ => 0)))), (q6, .inl (c.1, (7, .inl (va_cpy atF (fun _ => 0) 0 0 7))))]) 6 121 72 [some (.ref h0)] []
  exact hq _ _ _ (fun i => ([h0, q1, q2, q3, q4, q5, q6] : List Nat).getD i 0) _ _ dX0_init_72 (List.Perm.refl _) rfl rfl
set_option maxRecDepth 100000 in
set_option maxHeartbeats 4000000 in
theorem k_X2_init {l : Launch} {D : va_G} {c : ClassId × ClassId} {tA h0 : Nat} : Mk l D c tA yX2_init cX2_init 1 1 2 30 [.ref h0] [(h0, .inr (2, [.null, .null]))] (phaW c h0) := by
  refine mk_v (by decide) (Nat.le_of_ble_eq_true rfl) rfl (fun X A hX hmn hq => ?_)
  have hX : NOk D c tA A X cX2_init 1 RX2 1 2 30 := hX
  have hmn : X.2.2.2.2.2.2.2.1.name = "<init>" := hmn
  show NX l D A X ([(h0, .inr (2, [.null, .null]))]) 0 0 0 [some (.ref h0)] []
  refine n_aload_0 hX dX2_init_0 ?_
  refine n_obj hX ml_X2_3 oi_i oi_c rfl (Nat.le_of_ble_eq_true rfl) dX2_init_1 ?_
  refine n_aload_0 hX dX2_init_4 ?_
  refine n_bipush hX 15 dX2_init_5 (by decide) ?_
  refine n_newaE hX ac_int 15 rfl (by decide) (by decide) (by decide) dX2_init_7 (fun q1 => ?_)
  show NX l D A X ([(h0, .inr (2, [.null, .null])), (q1, .inl (c.1, (15, .inl (fun _ => 0))))]) 1 15 9 [some (.ref h0)] [.ref q1, .ref h0]
  refine n_putF (ty0 := tyX2) hX hmn in_X2 tyX2_ok nmX2 rfl 0 (by decide) fl_X2_fewest rfl rfl (ty := (.array .int)) (by decide +kernel) rfl rfl (Nat.le_of_ble_eq_true rfl) dX2_init_9 ?_
  show NX l D A X ([(h0, .inr (2, [.ref q1, .null])), (q1, .inl (c.1, (15, .inl (fun _ => 0))))]) 1 15 12 [some (.ref h0)] []
  refine n_aload_0 hX dX2_init_12 ?_
  refine n_bipush hX 15 dX2_init_13 (by decide) ?_
  refine n_newaE hX ac_int 15 rfl (by decide) (by decide) (by decide) dX2_init_15 (fun q2 => ?_)
  show NX l D A X ([(h0, .inr (2, [.ref q1, .null])), (q1, .inl (c.1, (15, .inl (fun _ => 0)))), (q2, .inl (c.1, (15, .inl (fun _ => 0))))]) 2 30 17 [some (.ref h0)] [.ref q2, .ref h0]
  refine n_putF (ty0 := tyX2) hX hmn in_X2 tyX2_ok nmX2 rfl 1 (by decide) fl_X2_next rfl rfl (ty := (.array .int)) (by decide +kernel) rfl rfl (Nat.le_of_ble_eq_true rfl) dX2_init_17 ?_
  show NX l D A X ([(h0, .inr (2, [.ref q1, .ref q2])), (q1, .inl (c.1, (15, .inl (fun _ => 0)))), (q2, .inl (c.1, (15, .inl (fun _ => 0))))]) 2 30 20 [some (.ref h0)] []
  exact hq _ _ _ (fun i => ([h0, q1, q2] : List Nat).getD i 0) _ _ dX2_init_20 (List.Perm.refl _) rfl rfl
set_option maxRecDepth 100000 in
set_option maxHeartbeats 4000000 in
theorem k_X3_init {l : Launch} {D : va_G} {c : ClassId × ClassId} {tA h0 : Nat} : Mk l D c tA yX3_init cX3_init 1 1 4 170 [.ref h0] [(h0, .inr (3, [.null, .null, .null, .null, .int 0, .int 0, .int 0, .int 0]))] (shrW c h0) := by
  refine mk_v (by decide) (Nat.le_of_ble_eq_true rfl) rfl (fun X A hX hmn hq => ?_)
  have hX : NOk D c tA A X cX3_init 1 RX3 1 4 170 := hX
  have hmn : X.2.2.2.2.2.2.2.1.name = "<init>" := hmn
  show NX l D A X ([(h0, .inr (3, [.null, .null, .null, .null, .int 0, .int 0, .int 0, .int 0]))]) 0 0 0 [some (.ref h0)] []
  refine n_aload_0 hX dX3_init_0 ?_
  refine n_obj hX ml_X3_3 oi_i oi_c rfl (Nat.le_of_ble_eq_true rfl) dX3_init_1 ?_
  refine n_aload_0 hX dX3_init_4 ?_
  refine n_bipush hX 64 dX3_init_5 (by decide) ?_
  refine n_newaE hX ac_int 64 rfl (by decide) (by decide) (by decide) dX3_init_7 (fun q1 => ?_)
  show NX l D A X ([(h0, .inr (3, [.null, .null, .null, .null, .int 0, .int 0, .int 0, .int 0])), (q1, .inl (c.1, (64, .inl (fun _ => 0))))]) 1 64 9 [some (.ref h0)] [.ref q1, .ref h0]
  refine n_putF (ty0 := tyX3) hX hmn in_X3 tyX3_ok nmX3 rfl 0 (by decide) fl_X3_needs rfl rfl (ty := (.array .int)) (by decide +kernel) rfl rfl (Nat.le_of_ble_eq_true rfl) dX3_init_9 ?_
  show NX l D A X ([(h0, .inr (3, [.ref q1, .null, .null, .null, .int 0, .int 0, .int 0, .int 0])), (q1, .inl (c.1, (64, .inl (fun _ => 0))))]) 1 64 12 [some (.ref h0)] []
  refine n_aload_0 hX dX3_init_12 ?_
  refine n_bipush hX 64 dX3_init_13 (by decide) ?_
  refine n_newaE hX ac_int 64 rfl (by decide) (by decide) (by decide) dX3_init_15 (fun q2 => ?_)
  show NX l D A X ([(h0, .inr (3, [.ref q1, .null, .null, .null, .int 0, .int 0, .int 0, .int 0])), (q1, .inl (c.1, (64, .inl (fun _ => 0)))), (q2, .inl (c.1, (64, .inl (fun _ => 0))))]) 2 128 17 [some (.ref h0)] [.ref q2, .ref h0]
  refine n_putF (ty0 := tyX3) hX hmn in_X3 tyX3_ok nmX3 rfl 1 (by decide) fl_X3_reach rfl rfl (ty := (.array .int)) (by decide +kernel) rfl rfl (Nat.le_of_ble_eq_true rfl) dX3_init_17 ?_
  show NX l D A X ([(h0, .inr (3, [.ref q1, .ref q2, .null, .null, .int 0, .int 0, .int 0, .int 0])), (q1, .inl (c.1, (64, .inl (fun _ => 0)))), (q2, .inl (c.1, (64, .inl (fun _ => 0))))]) 2 128 20 [some (.ref h0)] []
  refine n_aload_0 hX dX3_init_20 ?_
  refine n_bipush hX 6 dX3_init_21 (by decide) ?_
  refine n_newaE hX ac_int 6 rfl (by decide) (by decide) (by decide) dX3_init_23 (fun q3 => ?_)
  show NX l D A X ([(h0, .inr (3, [.ref q1, .ref q2, .null, .null, .int 0, .int 0, .int 0, .int 0])), (q1, .inl (c.1, (64, .inl (fun _ => 0)))), (q2, .inl (c.1, (64, .inl (fun _ => 0)))), (q3, .inl (c.1, (6, .inl (fun _ => 0))))]) 3 134 25 [some (.ref h0)] [.ref q3, .ref h0]
  refine n_putF (ty0 := tyX3) hX hmn in_X3 tyX3_ok nmX3 rfl 2 (by decide) fl_X3_rooms rfl rfl (ty := (.array .int)) (by decide +kernel) rfl rfl (Nat.le_of_ble_eq_true rfl) dX3_init_25 ?_
  show NX l D A X ([(h0, .inr (3, [.ref q1, .ref q2, .ref q3, .null, .int 0, .int 0, .int 0, .int 0])), (q1, .inl (c.1, (64, .inl (fun _ => 0)))), (q2, .inl (c.1, (64, .inl (fun _ => 0)))), (q3, .inl (c.1, (6, .inl (fun _ => 0))))]) 3 134 28 [some (.ref h0)] []
  refine n_aload_0 hX dX3_init_28 ?_
  refine n_bipush hX 36 dX3_init_29 (by decide) ?_
  refine n_newaE hX ac_int 36 rfl (by decide) (by decide) (by decide) dX3_init_31 (fun q4 => ?_)
  show NX l D A X ([(h0, .inr (3, [.ref q1, .ref q2, .ref q3, .null, .int 0, .int 0, .int 0, .int 0])), (q1, .inl (c.1, (64, .inl (fun _ => 0)))), (q2, .inl (c.1, (64, .inl (fun _ => 0)))), (q3, .inl (c.1, (6, .inl (fun _ => 0)))), (q4, .inl (c.1, (36, .inl (fun _ => 0))))]) 4 170 33 [some (.ref h0)] [.ref q4, .ref h0]
  refine n_putF (ty0 := tyX3) hX hmn in_X3 tyX3_ok nmX3 rfl 3 (by decide) fl_X3_drawn rfl rfl (ty := (.array .int)) (by decide +kernel) rfl rfl (Nat.le_of_ble_eq_true rfl) dX3_init_33 ?_
  show NX l D A X ([(h0, .inr (3, [.ref q1, .ref q2, .ref q3, .ref q4, .int 0, .int 0, .int 0, .int 0])), (q1, .inl (c.1, (64, .inl (fun _ => 0)))), (q2, .inl (c.1, (64, .inl (fun _ => 0)))), (q3, .inl (c.1, (6, .inl (fun _ => 0)))), (q4, .inl (c.1, (36, .inl (fun _ => 0))))]) 4 170 36 [some (.ref h0)] []
  refine n_aload_0 hX dX3_init_36 ?_
  refine n_iconst hX 0 dX3_init_37 (by decide) ?_
  refine n_put (ty0 := tyX3) hX in_X3 tyX3_ok nmX3 rfl 4 (by decide) fl_X3_lines rfl rfl (ty := .int) (by decide +kernel) rfl rfl (Nat.le_of_ble_eq_true rfl) dX3_init_38 ?_
  show NX l D A X ([(h0, .inr (3, [.ref q1, .ref q2, .ref q3, .ref q4, .int 0, .int 0, .int 0, .int 0])), (q1, .inl (c.1, (64, .inl (fun _ => 0)))), (q2, .inl (c.1, (64, .inl (fun _ => 0)))), (q3, .inl (c.1, (6, .inl (fun _ => 0)))), (q4, .inl (c.1, (36, .inl (fun _ => 0))))]) 4 170 41 [some (.ref h0)] []
  refine n_aload_0 hX dX3_init_41 ?_
  refine n_iconst hX 0 dX3_init_42 (by decide) ?_
  refine n_put (ty0 := tyX3) hX in_X3 tyX3_ok nmX3 rfl 5 (by decide) fl_X3_pockets rfl rfl (ty := .int) (by decide +kernel) rfl rfl (Nat.le_of_ble_eq_true rfl) dX3_init_43 ?_
  show NX l D A X ([(h0, .inr (3, [.ref q1, .ref q2, .ref q3, .ref q4, .int 0, .int 0, .int 0, .int 0])), (q1, .inl (c.1, (64, .inl (fun _ => 0)))), (q2, .inl (c.1, (64, .inl (fun _ => 0)))), (q3, .inl (c.1, (6, .inl (fun _ => 0)))), (q4, .inl (c.1, (36, .inl (fun _ => 0))))]) 4 170 46 [some (.ref h0)] []
  refine n_aload_0 hX dX3_init_46 ?_
  refine n_iconst hX 0 dX3_init_47 (by decide) ?_
  refine n_put (ty0 := tyX3) hX in_X3 tyX3_ok nmX3 rfl 6 (by decide) fl_X3_tooLong rfl rfl (ty := .int) (by decide +kernel) rfl rfl (Nat.le_of_ble_eq_true rfl) dX3_init_48 ?_
  show NX l D A X ([(h0, .inr (3, [.ref q1, .ref q2, .ref q3, .ref q4, .int 0, .int 0, .int 0, .int 0])), (q1, .inl (c.1, (64, .inl (fun _ => 0)))), (q2, .inl (c.1, (64, .inl (fun _ => 0)))), (q3, .inl (c.1, (6, .inl (fun _ => 0)))), (q4, .inl (c.1, (36, .inl (fun _ => 0))))]) 4 170 51 [some (.ref h0)] []
  refine n_aload_0 hX dX3_init_51 ?_
  refine n_iconst hX 0 dX3_init_52 (by decide) ?_
  refine n_put (ty0 := tyX3) hX in_X3 tyX3_ok nmX3 rfl 7 (by decide) fl_X3_inTheWay rfl rfl (ty := .int) (by decide +kernel) rfl rfl (Nat.le_of_ble_eq_true rfl) dX3_init_53 ?_
  show NX l D A X ([(h0, .inr (3, [.ref q1, .ref q2, .ref q3, .ref q4, .int 0, .int 0, .int 0, .int 0])), (q1, .inl (c.1, (64, .inl (fun _ => 0)))), (q2, .inl (c.1, (64, .inl (fun _ => 0)))), (q3, .inl (c.1, (6, .inl (fun _ => 0)))), (q4, .inl (c.1, (36, .inl (fun _ => 0))))]) 4 170 56 [some (.ref h0)] []
  exact hq _ _ _ (fun i => ([h0, q1, q2, q3, q4] : List Nat).getD i 0) _ _ dX3_init_56 (List.Perm.refl _) rfl rfl
set_option maxRecDepth 100000 in
set_option maxHeartbeats 4000000 in
theorem k_X4_init {l : Launch} {D : va_G} {c : ClassId × ClassId} {tA h0 : Nat} : Mk l D c tA yX4_init cX4_init 1 1 3 280 [.ref h0] [(h0, .inr (4, [.null, .null, .null, .int 0, .int 0, .int 0, .int 0, .int 0]))] (texW c h0) := by
  refine mk_v (by decide) (Nat.le_of_ble_eq_true rfl) rfl (fun X A hX hmn hq => ?_)
  have hX : NOk D c tA A X cX4_init 1 RX4 1 3 280 := hX
  have hmn : X.2.2.2.2.2.2.2.1.name = "<init>" := hmn
  show NX l D A X ([(h0, .inr (4, [.null, .null, .null, .int 0, .int 0, .int 0, .int 0, .int 0]))]) 0 0 0 [some (.ref h0)] []
  refine n_aload_0 hX dX4_init_0 ?_
  refine n_obj hX ml_X4_3 oi_i oi_c rfl (Nat.le_of_ble_eq_true rfl) dX4_init_1 ?_
  refine n_aload_0 hX dX4_init_4 ?_
  refine n_bipush hX 120 dX4_init_5 (by decide) ?_
  refine n_newaE hX ac_int 120 rfl (by decide) (by decide) (by decide) dX4_init_7 (fun q1 => ?_)
  show NX l D A X ([(h0, .inr (4, [.null, .null, .null, .int 0, .int 0, .int 0, .int 0, .int 0])), (q1, .inl (c.1, (120, .inl (fun _ => 0))))]) 1 120 9 [some (.ref h0)] [.ref q1, .ref h0]
  refine n_putF (ty0 := tyX4) hX hmn in_X4 tyX4_ok nmX4 rfl 0 (by decide) fl_X4_bytes rfl rfl (ty := (.array .int)) (by decide +kernel) rfl rfl (Nat.le_of_ble_eq_true rfl) dX4_init_9 ?_
  show NX l D A X ([(h0, .inr (4, [.ref q1, .null, .null, .int 0, .int 0, .int 0, .int 0, .int 0])), (q1, .inl (c.1, (120, .inl (fun _ => 0))))]) 1 120 12 [some (.ref h0)] []
  refine n_aload_0 hX dX4_init_12 ?_
  refine n_bipush hX 40 dX4_init_13 (by decide) ?_
  refine n_newaE hX ac_int 40 rfl (by decide) (by decide) (by decide) dX4_init_15 (fun q2 => ?_)
  show NX l D A X ([(h0, .inr (4, [.ref q1, .null, .null, .int 0, .int 0, .int 0, .int 0, .int 0])), (q1, .inl (c.1, (120, .inl (fun _ => 0)))), (q2, .inl (c.1, (40, .inl (fun _ => 0))))]) 2 160 17 [some (.ref h0)] [.ref q2, .ref h0]
  refine n_putF (ty0 := tyX4) hX hmn in_X4 tyX4_ok nmX4 rfl 1 (by decide) fl_X4_letters rfl rfl (ty := (.array .int)) (by decide +kernel) rfl rfl (Nat.le_of_ble_eq_true rfl) dX4_init_17 ?_
  show NX l D A X ([(h0, .inr (4, [.ref q1, .ref q2, .null, .int 0, .int 0, .int 0, .int 0, .int 0])), (q1, .inl (c.1, (120, .inl (fun _ => 0)))), (q2, .inl (c.1, (40, .inl (fun _ => 0))))]) 2 160 20 [some (.ref h0)] []
  refine n_aload_0 hX dX4_init_20 ?_
  refine n_bipush hX 120 dX4_init_21 (by decide) ?_
  refine n_newaE hX ac_int 120 rfl (by decide) (by decide) (by decide) dX4_init_23 (fun q3 => ?_)
  show NX l D A X ([(h0, .inr (4, [.ref q1, .ref q2, .null, .int 0, .int 0, .int 0, .int 0, .int 0])), (q1, .inl (c.1, (120, .inl (fun _ => 0)))), (q2, .inl (c.1, (40, .inl (fun _ => 0)))), (q3, .inl (c.1, (120, .inl (fun _ => 0))))]) 3 280 25 [some (.ref h0)] [.ref q3, .ref h0]
  refine n_putF (ty0 := tyX4) hX hmn in_X4 tyX4_ok nmX4 rfl 2 (by decide) fl_X4_numbers rfl rfl (ty := (.array .int)) (by decide +kernel) rfl rfl (Nat.le_of_ble_eq_true rfl) dX4_init_25 ?_
  show NX l D A X ([(h0, .inr (4, [.ref q1, .ref q2, .ref q3, .int 0, .int 0, .int 0, .int 0, .int 0])), (q1, .inl (c.1, (120, .inl (fun _ => 0)))), (q2, .inl (c.1, (40, .inl (fun _ => 0)))), (q3, .inl (c.1, (120, .inl (fun _ => 0))))]) 3 280 28 [some (.ref h0)] []
  refine n_aload_0 hX dX4_init_28 ?_
  refine n_iconst hX 0 dX4_init_29 (by decide) ?_
  refine n_put (ty0 := tyX4) hX in_X4 tyX4_ok nmX4 rfl 3 (by decide) fl_X4_many rfl rfl (ty := .int) (by decide +kernel) rfl rfl (Nat.le_of_ble_eq_true rfl) dX4_init_30 ?_
  show NX l D A X ([(h0, .inr (4, [.ref q1, .ref q2, .ref q3, .int 0, .int 0, .int 0, .int 0, .int 0])), (q1, .inl (c.1, (120, .inl (fun _ => 0)))), (q2, .inl (c.1, (40, .inl (fun _ => 0)))), (q3, .inl (c.1, (120, .inl (fun _ => 0))))]) 3 280 33 [some (.ref h0)] []
  refine n_aload_0 hX dX4_init_33 ?_
  refine n_iconst hX 0 dX4_init_34 (by decide) ?_
  refine n_put (ty0 := tyX4) hX in_X4 tyX4_ok nmX4 rfl 4 (by decide) fl_X4_orders rfl rfl (ty := .int) (by decide +kernel) rfl rfl (Nat.le_of_ble_eq_true rfl) dX4_init_35 ?_
  show NX l D A X ([(h0, .inr (4, [.ref q1, .ref q2, .ref q3, .int 0, .int 0, .int 0, .int 0, .int 0])), (q1, .inl (c.1, (120, .inl (fun _ => 0)))), (q2, .inl (c.1, (40, .inl (fun _ => 0)))), (q3, .inl (c.1, (120, .inl (fun _ => 0))))]) 3 280 38 [some (.ref h0)] []
  refine n_aload_0 hX dX4_init_38 ?_
  refine n_iconst hX 0 dX4_init_39 (by decide) ?_
  refine n_put (ty0 := tyX4) hX in_X4 tyX4_ok nmX4 rfl 5 (by decide) fl_X4_letter rfl rfl (ty := .int) (by decide +kernel) rfl rfl (Nat.le_of_ble_eq_true rfl) dX4_init_40 ?_
  show NX l D A X ([(h0, .inr (4, [.ref q1, .ref q2, .ref q3, .int 0, .int 0, .int 0, .int 0, .int 0])), (q1, .inl (c.1, (120, .inl (fun _ => 0)))), (q2, .inl (c.1, (40, .inl (fun _ => 0)))), (q3, .inl (c.1, (120, .inl (fun _ => 0))))]) 3 280 43 [some (.ref h0)] []
  refine n_aload_0 hX dX4_init_43 ?_
  refine n_iconst hX 0 dX4_init_44 (by decide) ?_
  refine n_put (ty0 := tyX4) hX in_X4 tyX4_ok nmX4 rfl 6 (by decide) fl_X4_begun rfl rfl (ty := .int) (by decide +kernel) rfl rfl (Nat.le_of_ble_eq_true rfl) dX4_init_45 ?_
  show NX l D A X ([(h0, .inr (4, [.ref q1, .ref q2, .ref q3, .int 0, .int 0, .int 0, .int 0, .int 0])), (q1, .inl (c.1, (120, .inl (fun _ => 0)))), (q2, .inl (c.1, (40, .inl (fun _ => 0)))), (q3, .inl (c.1, (120, .inl (fun _ => 0))))]) 3 280 48 [some (.ref h0)] []
  refine n_aload_0 hX dX4_init_48 ?_
  refine n_iconst hX 0 dX4_init_49 (by decide) ?_
  refine n_put (ty0 := tyX4) hX in_X4 tyX4_ok nmX4 rfl 7 (by decide) fl_X4_figures rfl rfl (ty := .int) (by decide +kernel) rfl rfl (Nat.le_of_ble_eq_true rfl) dX4_init_50 ?_
  show NX l D A X ([(h0, .inr (4, [.ref q1, .ref q2, .ref q3, .int 0, .int 0, .int 0, .int 0, .int 0])), (q1, .inl (c.1, (120, .inl (fun _ => 0)))), (q2, .inl (c.1, (40, .inl (fun _ => 0)))), (q3, .inl (c.1, (120, .inl (fun _ => 0))))]) 3 280 53 [some (.ref h0)] []
  exact hq _ _ _ (fun i => ([h0, q1, q2, q3] : List Nat).getD i 0) _ _ dX4_init_53 (List.Perm.refl _) rfl rfl
set_option maxRecDepth 100000 in
set_option maxHeartbeats 4000000 in
theorem k_X6_init {l : Launch} {D : va_G} {c : ClassId × ClassId} {tA h0 : Nat} : Mk l D c tA yX6_init cX6_init 1 1 11 1272 [.ref h0] [(h0, .inr (6, [.null, .null, .null, .int 0, .null, .null, .null, .null, .null, .null, .null, .int 0, .null, .int 0, .int 0]))] (moW c h0) := by
  refine mk_v (by decide) (Nat.le_of_ble_eq_true rfl) rfl (fun X A hX hmn hq => ?_)
  have hX : NOk D c tA A X cX6_init 1 RX6 1 11 1272 := hX
  have hmn : X.2.2.2.2.2.2.2.1.name = "<init>" := hmn
  show NX l D A X ([(h0, .inr (6, [.null, .null, .null, .int 0, .null, .null, .null, .null, .null, .null, .null, .int 0, .null, .int 0, .int 0]))]) 0 0 0 [some (.ref h0)] []
  refine n_aload_0 hX dX6_init_0 ?_
  refine n_obj hX ml_X6_1 oi_i oi_c rfl (Nat.le_of_ble_eq_true rfl) dX6_init_1 ?_
  refine n_aload_0 hX dX6_init_4 ?_
  refine n_iconst hX 3 dX6_init_5 (by decide) ?_
  refine n_newaE hX ac_int 3 rfl (by decide) (by decide) (by decide) dX6_init_6 (fun q1 => ?_)
  show NX l D A X ([(h0, .inr (6, [.null, .null, .null, .int 0, .null, .null, .null, .null, .null, .null, .null, .int 0, .null, .int 0, .int 0])), (q1, .inl (c.1, (3, .inl (fun _ => 0))))]) 1 3 8 [some (.ref h0)] [.ref q1, .ref h0]
  refine n_putF (ty0 := tyX6) hX hmn in_X6 tyX6_ok nmX6 rfl 0 (by decide) fl_X6_refused rfl rfl (ty := (.array .int)) (by decide +kernel) rfl rfl (Nat.le_of_ble_eq_true rfl) dX6_init_8 ?_
  show NX l D A X ([(h0, .inr (6, [.ref q1, .null, .null, .int 0, .null, .null, .null, .null, .null, .null, .null, .int 0, .null, .int 0, .int 0])), (q1, .inl (c.1, (3, .inl (fun _ => 0))))]) 1 3 11 [some (.ref h0)] []
  refine n_aload_0 hX dX6_init_11 ?_
  refine n_bipush hX 123 dX6_init_12 (by decide) ?_
  refine n_newaE hX ac_int 123 rfl (by decide) (by decide) (by decide) dX6_init_14 (fun q2 => ?_)
  show NX l D A X ([(h0, .inr (6, [.ref q1, .null, .null, .int 0, .null, .null, .null, .null, .null, .null, .null, .int 0, .null, .int 0, .int 0])), (q1, .inl (c.1, (3, .inl (fun _ => 0)))), (q2, .inl (c.1, (123, .inl (fun _ => 0))))]) 2 126 16 [some (.ref h0)] [.ref q2, .ref h0]
  refine n_putF (ty0 := tyX6) hX hmn in_X6 tyX6_ok nmX6 rfl 1 (by decide) fl_X6_now rfl rfl (ty := (.array .int)) (by decide +kernel) rfl rfl (Nat.le_of_ble_eq_true rfl) dX6_init_16 ?_
  show NX l D A X ([(h0, .inr (6, [.ref q1, .ref q2, .null, .int 0, .null, .null, .null, .null, .null, .null, .null, .int 0, .null, .int 0, .int 0])), (q1, .inl (c.1, (3, .inl (fun _ => 0)))), (q2, .inl (c.1, (123, .inl (fun _ => 0))))]) 2 126 19 [some (.ref h0)] []
  refine n_aload_0 hX dX6_init_19 ?_
  refine n_sipush hX 738 dX6_init_20 (by decide) ?_
  refine n_newaE hX ac_int 738 rfl (by decide) (by decide) (by decide) dX6_init_23 (fun q3 => ?_)
  show NX l D A X ([(h0, .inr (6, [.ref q1, .ref q2, .null, .int 0, .null, .null, .null, .null, .null, .null, .null, .int 0, .null, .int 0, .int 0])), (q1, .inl (c.1, (3, .inl (fun _ => 0)))), (q2, .inl (c.1, (123, .inl (fun _ => 0)))), (q3, .inl (c.1, (738, .inl (fun _ => 0))))]) 3 864 25 [some (.ref h0)] [.ref q3, .ref h0]
  refine n_putF (ty0 := tyX6) hX hmn in_X6 tyX6_ok nmX6 rfl 2 (by decide) fl_X6_kept rfl rfl (ty := (.array .int)) (by decide +kernel) rfl rfl (Nat.le_of_ble_eq_true rfl) dX6_init_25 ?_
  show NX l D A X ([(h0, .inr (6, [.ref q1, .ref q2, .ref q3, .int 0, .null, .null, .null, .null, .null, .null, .null, .int 0, .null, .int 0, .int 0])), (q1, .inl (c.1, (3, .inl (fun _ => 0)))), (q2, .inl (c.1, (123, .inl (fun _ => 0)))), (q3, .inl (c.1, (738, .inl (fun _ => 0))))]) 3 864 28 [some (.ref h0)] []
  refine n_aload_0 hX dX6_init_28 ?_
  refine n_bipush hX 6 dX6_init_29 (by decide) ?_
  refine n_newaE hX ac_int 6 rfl (by decide) (by decide) (by decide) dX6_init_31 (fun q4 => ?_)
  show NX l D A X ([(h0, .inr (6, [.ref q1, .ref q2, .ref q3, .int 0, .null, .null, .null, .null, .null, .null, .null, .int 0, .null, .int 0, .int 0])), (q1, .inl (c.1, (3, .inl (fun _ => 0)))), (q2, .inl (c.1, (123, .inl (fun _ => 0)))), (q3, .inl (c.1, (738, .inl (fun _ => 0)))), (q4, .inl (c.1, (6, .inl (fun _ => 0))))]) 4 870 33 [some (.ref h0)] [.ref q4, .ref h0]
  refine n_putF (ty0 := tyX6) hX hmn in_X6 tyX6_ok nmX6 rfl 4 (by decide) fl_X6_need rfl rfl (ty := (.array .int)) (by decide +kernel) rfl rfl (Nat.le_of_ble_eq_true rfl) dX6_init_33 ?_
  show NX l D A X ([(h0, .inr (6, [.ref q1, .ref q2, .ref q3, .int 0, .ref q4, .null, .null, .null, .null, .null, .null, .int 0, .null, .int 0, .int 0])), (q1, .inl (c.1, (3, .inl (fun _ => 0)))), (q2, .inl (c.1, (123, .inl (fun _ => 0)))), (q3, .inl (c.1, (738, .inl (fun _ => 0)))), (q4, .inl (c.1, (6, .inl (fun _ => 0))))]) 4 870 36 [some (.ref h0)] []
  refine n_aload_0 hX dX6_init_36 ?_
  refine n_bipush hX 6 dX6_init_37 (by decide) ?_
  refine n_newaE hX ac_int 6 rfl (by decide) (by decide) (by decide) dX6_init_39 (fun q5 => ?_)
  show NX l D A X ([(h0, .inr (6, [.ref q1, .ref q2, .ref q3, .int 0, .ref q4, .null, .null, .null, .null, .null, .null, .int 0, .null, .int 0, .int 0])), (q1, .inl (c.1, (3, .inl (fun _ => 0)))), (q2, .inl (c.1, (123, .inl (fun _ => 0)))), (q3, .inl (c.1, (738, .inl (fun _ => 0)))), (q4, .inl (c.1, (6, .inl (fun _ => 0)))), (q5, .inl (c.1, (6, .inl (fun _ => 0))))]) 5 876 41 [some (.ref h0)] [.ref q5, .ref h0]
  refine n_putF (ty0 := tyX6) hX hmn in_X6 tyX6_ok nmX6 rfl 5 (by decide) fl_X6_room rfl rfl (ty := (.array .int)) (by decide +kernel) rfl rfl (Nat.le_of_ble_eq_true rfl) dX6_init_41 ?_
  show NX l D A X ([(h0, .inr (6, [.ref q1, .ref q2, .ref q3, .int 0, .ref q4, .ref q5, .null, .null, .null, .null, .null, .int 0, .null, .int 0, .int 0])), (q1, .inl (c.1, (3, .inl (fun _ => 0)))), (q2, .inl (c.1, (123, .inl (fun _ => 0)))), (q3, .inl (c.1, (738, .inl (fun _ => 0)))), (q4, .inl (c.1, (6, .inl (fun _ => 0)))), (q5, .inl (c.1, (6, .inl (fun _ => 0))))]) 5 876 44 [some (.ref h0)] []
  refine n_aload_0 hX dX6_init_44 ?_
  refine n_bipush hX 6 dX6_init_45 (by decide) ?_
  refine n_newaE hX ac_int 6 rfl (by decide) (by decide) (by decide) dX6_init_47 (fun q6 => ?_)
  show NX l D A X ([(h0, .inr (6, [.ref q1, .ref q2, .ref q3, .int 0, .ref q4, .ref q5, .null, .null, .null, .null, .null, .int 0, .null, .int 0, .int 0])), (q1, .inl (c.1, (3, .inl (fun _ => 0)))), (q2, .inl (c.1, (123, .inl (fun _ => 0)))), (q3, .inl (c.1, (738, .inl (fun _ => 0)))), (q4, .inl (c.1, (6, .inl (fun _ => 0)))), (q5, .inl (c.1, (6, .inl (fun _ => 0)))), (q6, .inl (c.1, (6, .inl (fun _ => 0))))]) 6 882 49 [some (.ref h0)] [.ref q6, .ref h0]
  refine n_putF (ty0 := tyX6) hX hmn in_X6 tyX6_ok nmX6 rfl 6 (by decide) fl_X6_may rfl rfl (ty := (.array .int)) (by decide +kernel) rfl rfl (Nat.le_of_ble_eq_true rfl) dX6_init_49 ?_
  show NX l D A X ([(h0, .inr (6, [.ref q1, .ref q2, .ref q3, .int 0, .ref q4, .ref q5, .ref q6, .null, .null, .null, .null, .int 0, .null, .int 0, .int 0])), (q1, .inl (c.1, (3, .inl (fun _ => 0)))), (q2, .inl (c.1, (123, .inl (fun _ => 0)))), (q3, .inl (c.1, (738, .inl (fun _ => 0)))), (q4, .inl (c.1, (6, .inl (fun _ => 0)))), (q5, .inl (c.1, (6, .inl (fun _ => 0)))), (q6, .inl (c.1, (6, .inl (fun _ => 0))))]) 6 882 52 [some (.ref h0)] []
  refine n_aload_0 hX dX6_init_52 ?_
  refine n_bipush hX 36 dX6_init_53 (by decide) ?_
  refine n_newaE hX ac_int 36 rfl (by decide) (by decide) (by decide) dX6_init_55 (fun q7 => ?_)
  show NX l D A X ([(h0, .inr (6, [.ref q1, .ref q2, .ref q3, .int 0, .ref q4, .ref q5, .ref q6, .null, .null, .null, .null, .int 0, .null, .int 0, .int 0])), (q1, .inl (c.1, (3, .inl (fun _ => 0)))), (q2, .inl (c.1, (123, .inl (fun _ => 0)))), (q3, .inl (c.1, (738, .inl (fun _ => 0)))), (q4, .inl (c.1, (6, .inl (fun _ => 0)))), (q5, .inl (c.1, (6, .inl (fun _ => 0)))), (q6, .inl (c.1, (6, .inl (fun _ => 0)))), (q7, .inl (c.1, (36, .inl (fun _ => 0))))]) 7 918 57 [some (.ref h0)] [.ref q7, .ref h0]
  refine n_putF (ty0 := tyX6) hX hmn in_X6 tyX6_ok nmX6 rfl 7 (by decide) fl_X6_drawn rfl rfl (ty := (.array .int)) (by decide +kernel) rfl rfl (Nat.le_of_ble_eq_true rfl) dX6_init_57 ?_
  show NX l D A X ([(h0, .inr (6, [.ref q1, .ref q2, .ref q3, .int 0, .ref q4, .ref q5, .ref q6, .ref q7, .null, .null, .null, .int 0, .null, .int 0, .int 0])), (q1, .inl (c.1, (3, .inl (fun _ => 0)))), (q2, .inl (c.1, (123, .inl (fun _ => 0)))), (q3, .inl (c.1, (738, .inl (fun _ => 0)))), (q4, .inl (c.1, (6, .inl (fun _ => 0)))), (q5, .inl (c.1, (6, .inl (fun _ => 0)))), (q6, .inl (c.1, (6, .inl (fun _ => 0)))), (q7, .inl (c.1, (36, .inl (fun _ => 0))))]) 7 918 60 [some (.ref h0)] []
  refine n_aload_0 hX dX6_init_60 ?_
  refine n_bipush hX 17 dX6_init_61 (by decide) ?_
  refine n_newaE hX ac_int 17 rfl (by decide) (by decide) (by decide) dX6_init_63 (fun q8 => ?_)
  show NX l D A X ([(h0, .inr (6, [.ref q1, .ref q2, .ref q3, .int 0, .ref q4, .ref q5, .ref q6, .ref q7, .null, .null, .null, .int 0, .null, .int 0, .int 0])), (q1, .inl (c.1, (3, .inl (fun _ => 0)))), (q2, .inl (c.1, (123, .inl (fun _ => 0)))), (q3, .inl (c.1, (738, .inl (fun _ => 0)))), (q4, .inl (c.1, (6, .inl (fun _ => 0)))), (q5, .inl (c.1, (6, .inl (fun _ => 0)))), (q6, .inl (c.1, (6, .inl (fun _ => 0)))), (q7, .inl (c.1, (36, .inl (fun _ => 0)))), (q8, .inl (c.1, (17, .inl (fun _ => 0))))]) 8 935 65 [some (.ref h0)] [.ref q8, .ref h0]
  refine n_putF (ty0 := tyX6) hX hmn in_X6 tyX6_ok nmX6 rfl 8 (by decide) fl_X6_fewest rfl rfl (ty := (.array .int)) (by decide +kernel) rfl rfl (Nat.le_of_ble_eq_true rfl) dX6_init_65 ?_
  show NX l D A X ([(h0, .inr (6, [.ref q1, .ref q2, .ref q3, .int 0, .ref q4, .ref q5, .ref q6, .ref q7, .ref q8, .null, .null, .int 0, .null, .int 0, .int 0])), (q1, .inl (c.1, (3, .inl (fun _ => 0)))), (q2, .inl (c.1, (123, .inl (fun _ => 0)))), (q3, .inl (c.1, (738, .inl (fun _ => 0)))), (q4, .inl (c.1, (6, .inl (fun _ => 0)))), (q5, .inl (c.1, (6, .inl (fun _ => 0)))), (q6, .inl (c.1, (6, .inl (fun _ => 0)))), (q7, .inl (c.1, (36, .inl (fun _ => 0)))), (q8, .inl (c.1, (17, .inl (fun _ => 0))))]) 8 935 68 [some (.ref h0)] []
  refine n_aload_0 hX dX6_init_68 ?_
  refine n_bipush hX 17 dX6_init_69 (by decide) ?_
  refine n_newaE hX ac_int 17 rfl (by decide) (by decide) (by decide) dX6_init_71 (fun q9 => ?_)
  show NX l D A X ([(h0, .inr (6, [.ref q1, .ref q2, .ref q3, .int 0, .ref q4, .ref q5, .ref q6, .ref q7, .ref q8, .null, .null, .int 0, .null, .int 0, .int 0])), (q1, .inl (c.1, (3, .inl (fun _ => 0)))), (q2, .inl (c.1, (123, .inl (fun _ => 0)))), (q3, .inl (c.1, (738, .inl (fun _ => 0)))), (q4, .inl (c.1, (6, .inl (fun _ => 0)))), (q5, .inl (c.1, (6, .inl (fun _ => 0)))), (q6, .inl (c.1, (6, .inl (fun _ => 0)))), (q7, .inl (c.1, (36, .inl (fun _ => 0)))), (q8, .inl (c.1, (17, .inl (fun _ => 0)))), (q9, .inl (c.1, (17, .inl (fun _ => 0))))]) 9 952 73 [some (.ref h0)] [.ref q9, .ref h0]
  refine n_putF (ty0 := tyX6) hX hmn in_X6 tyX6_ok nmX6 rfl 9 (by decide) fl_X6_then rfl rfl (ty := (.array .int)) (by decide +kernel) rfl rfl (Nat.le_of_ble_eq_true rfl) dX6_init_73 ?_
  show NX l D A X ([(h0, .inr (6, [.ref q1, .ref q2, .ref q3, .int 0, .ref q4, .ref q5, .ref q6, .ref q7, .ref q8, .ref q9, .null, .int 0, .null, .int 0, .int 0])), (q1, .inl (c.1, (3, .inl (fun _ => 0)))), (q2, .inl (c.1, (123, .inl (fun _ => 0)))), (q3, .inl (c.1, (738, .inl (fun _ => 0)))), (q4, .inl (c.1, (6, .inl (fun _ => 0)))), (q5, .inl (c.1, (6, .inl (fun _ => 0)))), (q6, .inl (c.1, (6, .inl (fun _ => 0)))), (q7, .inl (c.1, (36, .inl (fun _ => 0)))), (q8, .inl (c.1, (17, .inl (fun _ => 0)))), (q9, .inl (c.1, (17, .inl (fun _ => 0))))]) 9 952 76 [some (.ref h0)] []
  refine n_aload_0 hX dX6_init_76 ?_
  refine n_bipush hX 120 dX6_init_77 (by decide) ?_
  refine n_newaE hX ac_int 120 rfl (by decide) (by decide) (by decide) dX6_init_79 (fun q10 => ?_)
  show NX l D A X ([(h0, .inr (6, [.ref q1, .ref q2, .ref q3, .int 0, .ref q4, .ref q5, .ref q6, .ref q7, .ref q8, .ref q9, .null, .int 0, .null, .int 0, .int 0])), (q1, .inl (c.1, (3, .inl (fun _ => 0)))), (q2, .inl (c.1, (123, .inl (fun _ => 0)))), (q3, .inl (c.1, (738, .inl (fun _ => 0)))), (q4, .inl (c.1, (6, .inl (fun _ => 0)))), (q5, .inl (c.1, (6, .inl (fun _ => 0)))), (q6, .inl (c.1, (6, .inl (fun _ => 0)))), (q7, .inl (c.1, (36, .inl (fun _ => 0)))), (q8, .inl (c.1, (17, .inl (fun _ => 0)))), (q9, .inl (c.1, (17, .inl (fun _ => 0)))), (q10, .inl (c.1, (120, .inl (fun _ => 0))))]) 10 1072 81 [some (.ref h0)] [.ref q10, .ref h0]
  refine n_putF (ty0 := tyX6) hX hmn in_X6 tyX6_ok nmX6 rfl 10 (by decide) fl_X6_text rfl rfl (ty := (.array .int)) (by decide +kernel) rfl rfl (Nat.le_of_ble_eq_true rfl) dX6_init_81 ?_
  show NX l D A X ([(h0, .inr (6, [.ref q1, .ref q2, .ref q3, .int 0, .ref q4, .ref q5, .ref q6, .ref q7, .ref q8, .ref q9, .ref q10, .int 0, .null, .int 0, .int 0])), (q1, .inl (c.1, (3, .inl (fun _ => 0)))), (q2, .inl (c.1, (123, .inl (fun _ => 0)))), (q3, .inl (c.1, (738, .inl (fun _ => 0)))), (q4, .inl (c.1, (6, .inl (fun _ => 0)))), (q5, .inl (c.1, (6, .inl (fun _ => 0)))), (q6, .inl (c.1, (6, .inl (fun _ => 0)))), (q7, .inl (c.1, (36, .inl (fun _ => 0)))), (q8, .inl (c.1, (17, .inl (fun _ => 0)))), (q9, .inl (c.1, (17, .inl (fun _ => 0)))), (q10, .inl (c.1, (120, .inl (fun _ => 0))))]) 10 1072 84 [some (.ref h0)] []
  refine n_aload_0 hX dX6_init_84 ?_
  refine n_sipush hX 200 dX6_init_85 (by decide) ?_
  refine n_newaE hX ac_int 200 rfl (by decide) (by decide) (by decide) dX6_init_88 (fun q11 => ?_)
  show NX l D A X ([(h0, .inr (6, [.ref q1, .ref q2, .ref q3, .int 0, .ref q4, .ref q5, .ref q6, .ref q7, .ref q8, .ref q9, .ref q10, .int 0, .null, .int 0, .int 0])), (q1, .inl (c.1, (3, .inl (fun _ => 0)))), (q2, .inl (c.1, (123, .inl (fun _ => 0)))), (q3, .inl (c.1, (738, .inl (fun _ => 0)))), (q4, .inl (c.1, (6, .inl (fun _ => 0)))), (q5, .inl (c.1, (6, .inl (fun _ => 0)))), (q6, .inl (c.1, (6, .inl (fun _ => 0)))), (q7, .inl (c.1, (36, .inl (fun _ => 0)))), (q8, .inl (c.1, (17, .inl (fun _ => 0)))), (q9, .inl (c.1, (17, .inl (fun _ => 0)))), (q10, .inl (c.1, (120, .inl (fun _ => 0)))), (q11, .inl (c.1, (200, .inl (fun _ => 0))))]) 11 1272 90 [some (.ref h0)] [.ref q11, .ref h0]
  refine n_putF (ty0 := tyX6) hX hmn in_X6 tyX6_ok nmX6 rfl 12 (by decide) fl_X6_orders rfl rfl (ty := (.array .int)) (by decide +kernel) rfl rfl (Nat.le_of_ble_eq_true rfl) dX6_init_90 ?_
  show NX l D A X ([(h0, .inr (6, [.ref q1, .ref q2, .ref q3, .int 0, .ref q4, .ref q5, .ref q6, .ref q7, .ref q8, .ref q9, .ref q10, .int 0, .ref q11, .int 0, .int 0])), (q1, .inl (c.1, (3, .inl (fun _ => 0)))), (q2, .inl (c.1, (123, .inl (fun _ => 0)))), (q3, .inl (c.1, (738, .inl (fun _ => 0)))), (q4, .inl (c.1, (6, .inl (fun _ => 0)))), (q5, .inl (c.1, (6, .inl (fun _ => 0)))), (q6, .inl (c.1, (6, .inl (fun _ => 0)))), (q7, .inl (c.1, (36, .inl (fun _ => 0)))), (q8, .inl (c.1, (17, .inl (fun _ => 0)))), (q9, .inl (c.1, (17, .inl (fun _ => 0)))), (q10, .inl (c.1, (120, .inl (fun _ => 0)))), (q11, .inl (c.1, (200, .inl (fun _ => 0))))]) 11 1272 93 [some (.ref h0)] []
  refine n_aload_0 hX dX6_init_93 ?_
  refine n_get hX in_X6 rfl 1 (by decide) fl_X6_now rfl rfl dX6_init_94 ?_
  refine n_iconst hX 2 dX6_init_97 (by decide) ?_
  refine n_bipush hX 6 dX6_init_98 (by decide) ?_
  refine n_iast hX 2 ([(h0, .inr (6, [.ref q1, .ref q2, .ref q3, .int 0, .ref q4, .ref q5, .ref q6, .ref q7, .ref q8, .ref q9, .ref q10, .int 0, .ref q11, .int 0, .int 0])), (q1, .inl (c.1, (3, .inl (fun _ => 0)))), (q2, .inl (c.1, (123, .inl (upd (fun _ => 0) 2 6)))), (q3, .inl (c.1, (738, .inl (fun _ => 0)))), (q4, .inl (c.1, (6, .inl (fun _ => 0)))), (q5, .inl (c.1, (6, .inl (fun _ => 0)))), (q6, .inl (c.1, (6, .inl (fun _ => 0)))), (q7, .inl (c.1, (36, .inl (fun _ => 0)))), (q8, .inl (c.1, (17, .inl (fun _ => 0)))), (q9, .inl (c.1, (17, .inl (fun _ => 0)))), (q10, .inl (c.1, (120, .inl (fun _ => 0)))), (q11, .inl (c.1, (200, .inl (fun _ => 0))))]) rfl (vin (k := 2) (by decide) (by decide)) rfl dX6_init_100 ?_
  refine n_aload_0 hX dX6_init_101 ?_
  refine n_get hX in_X6 rfl 1 (by decide) fl_X6_now rfl rfl dX6_init_102 ?_
  refine n_iconst hX 3 dX6_init_105 (by decide) ?_
  refine n_iconst hX 2 dX6_init_106 (by decide) ?_
  refine n_iast hX 2 ([(h0, .inr (6, [.ref q1, .ref q2, .ref q3, .int 0, .ref q4, .ref q5, .ref q6, .ref q7, .ref q8, .ref q9, .ref q10, .int 0, .ref q11, .int 0, .int 0])), (q1, .inl (c.1, (3, .inl (fun _ => 0)))), (q2, .inl (c.1, (123, .inl (upd (upd (fun _ => 0) 2 6) 3 2)))), (q3, .inl (c.1, (738, .inl (fun _ => 0)))), (q4, .inl (c.1, (6, .inl (fun _ => 0)))), (q5, .inl (c.1, (6, .inl (fun _ => 0)))), (q6, .inl (c.1, (6, .inl (fun _ => 0)))), (q7, .inl (c.1, (36, .inl (fun _ => 0)))), (q8, .inl (c.1, (17, .inl (fun _ => 0)))), (q9, .inl (c.1, (17, .inl (fun _ => 0)))), (q10, .inl (c.1, (120, .inl (fun _ => 0)))), (q11, .inl (c.1, (200, .inl (fun _ => 0))))]) rfl (vin (k := 3) (by decide) (by decide)) rfl dX6_init_107 ?_
  refine n_aload_0 hX dX6_init_108 ?_
  refine n_get hX in_X6 rfl 1 (by decide) fl_X6_now rfl rfl dX6_init_109 ?_
  refine n_bipush hX 8 dX6_init_112 (by decide) ?_
  refine n_iconst hX 4 dX6_init_114 (by decide) ?_
  refine n_iast hX 2 ([(h0, .inr (6, [.ref q1, .ref q2, .ref q3, .int 0, .ref q4, .ref q5, .ref q6, .ref q7, .ref q8, .ref q9, .ref q10, .int 0, .ref q11, .int 0, .int 0])), (q1, .inl (c.1, (3, .inl (fun _ => 0)))), (q2, .inl (c.1, (123, .inl (upd (upd (upd (fun _ => 0) 2 6) 3 2) 8 4)))), (q3, .inl (c.1, (738, .inl (fun _ => 0)))), (q4, .inl (c.1, (6, .inl (fun _ => 0)))), (q5, .inl (c.1, (6, .inl (fun _ => 0)))), (q6, .inl (c.1, (6, .inl (fun _ => 0)))), (q7, .inl (c.1, (36, .inl (fun _ => 0)))), (q8, .inl (c.1, (17, .inl (fun _ => 0)))), (q9, .inl (c.1, (17, .inl (fun _ => 0)))), (q10, .inl (c.1, (120, .inl (fun _ => 0)))), (q11, .inl (c.1, (200, .inl (fun _ => 0))))]) rfl (vin (k := 8) (by decide) (by decide)) rfl dX6_init_115 ?_
  exact hq _ _ _ (fun i => ([h0, q1, q2, q3, q4, q5, q6, q7, q8, q9, q10, q11] : List Nat).getD i 0) _ _ dX6_init_116 (List.Perm.refl _) rfl rfl
