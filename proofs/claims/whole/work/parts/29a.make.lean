/-! the makers: worlds that grow; the goal form NX; its rules -/
def atF : Nat → Int32 := fun j => ([6, 2, 0, 0, 0, 0, 4] : List Int32).getD j 0
/-- what the tables say, to one that makes cells; A: its own cells and the new ones -/
def KN (D : va_G) (c : ClassId × ClassId) (tA : Nat) (A : Nat → Prop) (U : State) : Prop :=
  va_K D vwCl [(c.1, .int), (c.2, .object "SnakedBus$Bus")] U ∧ va_Nw (.methodLinkNest "SnakedBus$Bus" 40 yX5_copy "SnakedBus") U ∧ va_Nw (.fieldLinkNest "SnakedBus$Bus" 37 "SnakedBus" "AT_FIRST" "[I" "SnakedBus") U ∧ va_AO "SnakedBus$Bus" U ∧
  va_Z "SnakedBus" "AT_FIRST" "[I" (.ref tA) A U U.heap ∧ va_T .int tA 7 (fun j => .int (atF j)) A U U.heap
theorem KN.to {D : va_G} {c : ClassId × ClassId} {tA : Nat} {A A1 : Nat → Prop} {s U : State} {H : Heap} {locs : List Loc} (h : KN D c tA A s) (hS : va_S A s.heap H locs) (hU : U.heap = H) (hW : s.WarmedH U.vm) (hA : ∀ q, A1 q → A q) : KN D c tA A1 U := by
  obtain ⟨h1, h2, h3, h4, h5, h6⟩ := h
  subst hU
  exact ⟨h1.moved hW.alike, h2.warmM hW, h3.warmF hW, h4.moved hW.alike, ((h5.moved hW.alike).kept hS.2.1).narrow hA, ((h6.moved hW.alike).kept hS.2.1).narrow hA⟩
theorem KN.calling {D : va_G} {c : ClassId × ClassId} {tA : Nat} {A : Nat → Prop} {U : State} (h : KN D c tA A U) (g : JFrame) (mk : MethodId) (a : Array Value) : KN D c tA A (U.calling g mk a) := by
  obtain ⟨h1, h2, h3, h4, h5, h6⟩ := h
  exact ⟨h1.moved (u := U) (U := U.calling g mk a) (Vm.Alike.refl U.vm), h2.same rfl rfl, h3.same rfl rfl, h4.moved (u := U) (U := U.calling g mk a) (Vm.Alike.refl U.vm), h5.moved (u := U) (U := U.calling g mk a) (Vm.Alike.refl U.vm), h6.moved (u := U) (U := U.calling g mk a) (Vm.Alike.refl U.vm)⟩
/-! worlds as sets of cells -/
theorem pw_mem {D : va_G} {cl : List vw_C} {ws : va_W} {H : Heap} : va_P D cl ws H ↔ ∀ q ∈ ws, va_at D cl q H :=
  ⟨fun h q hq => by obtain ⟨i, hi⟩ := List.getElem?_of_mem hq; exact h i q hi, fun h k q hk => h q (List.mem_of_getElem? hk)⟩
theorem pw_D {A : Nat → Prop} {ws : va_W} : va_D A ws ↔ (ws.map (fun q => q.1)).Nodup ∧ ∀ q ∈ ws, A q.1 := by
  constructor
  · intro h
    refine ⟨List.pairwise_iff_getElem.mpr (fun i j hi hj hij e => ?_), fun q hq => ?_⟩
    · rw [List.getElem_map, List.getElem_map] at e
      have hi' : i < ws.length := by simpa using hi
      have hj' : j < ws.length := by simpa using hj
      have := h.1 i j _ _ (List.getElem?_eq_getElem hi') (List.getElem?_eq_getElem hj') e
      omega
    · obtain ⟨i, hi⟩ := List.getElem?_of_mem hq
      exact h.2 i q hi
  · rintro ⟨h1, h2⟩
    refine ⟨fun i j p q hp hq e => ?_, fun k q hk => h2 q (List.mem_of_getElem? hk)⟩
    have hi : i < (ws.map (fun q => q.1)).length := by
      have := (List.getElem?_eq_some_iff.mp hp).1
      simpa using this
    exact (List.getElem?_inj hi h1).mp (by rw [List.getElem?_map, List.getElem?_map, hp, hq]; exact congrArg some e)
theorem pw_permP {D : va_G} {cl : List vw_C} {ws ws' : va_W} {H : Heap} (h : va_P D cl ws H) (hp : ws.Perm ws') : va_P D cl ws' H := pw_mem.mpr (fun q hq => pw_mem.mp h q (hp.mem_iff.mpr hq))
theorem pw_permD {A : Nat → Prop} {ws ws' : va_W} (h : va_D A ws) (hp : ws.Perm ws') : va_D A ws' := by
  obtain ⟨h1, h2⟩ := pw_D.mp h
  exact pw_D.mpr ⟨(hp.map _).nodup h1, fun q hq => h2 q (hp.mem_iff.mpr hq)⟩
/-- behind a call that was given the cell x alone -/
theorem pw_join {A0 : Nat → Prop} {D : va_G} {cl : List vw_C} {x : Nat × va_E} {wr w1 : va_W} {H H1 : Heap} (hP : va_P D cl (x :: wr) H) (hD : va_D A0 (x :: wr)) (hk : ∀ q : Nat, q < H.size → ¬ va_A [x] H.size q → H1[q]? = H[q]?) (hF : ∀ q, va_A [x] H.size q → A0 q) (hP1 : va_P D cl w1 H1) (hD1 : va_D (va_A [x] H.size) w1) : va_P D cl (w1 ++ wr) H1 ∧ va_D A0 (w1 ++ wr) := by
  have hw : ∀ q ∈ wr, q.1 < H.size ∧ ¬ va_A [x] H.size q.1 := by
    intro q hq
    obtain ⟨i, hi⟩ := List.getElem?_of_mem hq
    have hi' : (x :: wr)[i + 1]? = some q := by rw [List.getElem?_cons_succ]; exact hi
    have hl := (hP (i + 1) q hi').lt
    refine ⟨hl, fun h => ?_⟩
    rcases h with ⟨k, e, hk⟩ | h
    · have hk0 : k < 1 := (List.getElem?_eq_some_iff.mp hk).1
      have k0 : k = 0 := by omega
      subst k0
      have e1 : x = (q.1, e) := Option.some.inj hk
      have := hD.1 0 (i + 1) x q rfl hi' (by rw [e1])
      omega
    · omega
  obtain ⟨d1, d2⟩ := pw_D.mp hD
  obtain ⟨c1, c2⟩ := pw_D.mp hD1
  have d3 : (wr.map (fun q => q.1)).Nodup := by
    rw [List.map_cons] at d1
    exact (List.nodup_cons.mp d1).2
  constructor
  · refine pw_mem.mpr (fun q hq => ?_)
    rcases List.mem_append.mp hq with h | h
    · exact pw_mem.mp hP1 q h
    · exact (pw_mem.mp hP q (List.mem_cons_of_mem _ h)).kept (hk q.1 (hw q h).1 (hw q h).2)
  · refine pw_D.mpr ⟨?_, fun q hq => ?_⟩
    · rw [List.map_append]
      refine List.nodup_append.mpr ⟨c1, d3, fun a ha b hb e => ?_⟩
      obtain ⟨p, hp, rfl⟩ := List.mem_map.mp ha
      obtain ⟨q, hq, rfl⟩ := List.mem_map.mp hb
      exact (hw q hq).2 (by rw [← e]; exact c2 p hp)
    · rcases List.mem_append.mp hq with h | h
      · exact hF _ (c2 q h)
      · exact d2 q (List.mem_cons_of_mem _ h)
/-- the goal of a maker: from every heap that holds the world w -/
def NX (l : Launch) (D : va_G) (A : Nat → Prop) (X : Xt) (w : va_W) (cs sl pc : Nat) (L : List (Option Value)) (st : List Value) : Prop :=
  ∀ (H : Heap) (locs : List Loc) (ls : Array Slot), va_P D vwCl w H → va_D A w → va_S A X.2.2.2.1.heap H locs → lvk ls L →
    W X.1 l X.2.1 X.2.2.1 X.2.2.2.1 X.2.2.2.2.1 X.2.2.2.2.2.1 X.2.2.2.2.2.2.1 X.2.2.2.2.2.2.2.1 X.2.2.2.2.2.2.2.2.1 H locs cs sl X.2.2.2.2.2.2.2.2.2.2 (F0 X.2.2.2.2.1 pc ls st)
def NOk (D : va_G) (c : ClassId × ClassId) (tA : Nat) (A : Nat → Prop) (X : Xt) (cc : ByteArray) (nL : Nat) (own : String) (d mc ms : Nat) : Prop :=
  X.1.tables.exec = Jvm.exec ∧ X.2.2.2.2.2.2.2.2.1.code = cc ∧ X.2.2.2.2.2.2.2.2.1.maxLocals = nL ∧ X.2.2.2.1.vm.findClass own = some X.2.2.2.2.1.cls ∧ (∀ w ∈ TB, w.before X.2.2.2.2.2.1 X.2.2.2.1 = true) ∧ KN D c tA A X.2.2.2.1 ∧ (∀ q, X.2.2.2.1.heap.size ≤ q → A q) ∧
  d ≤ X.2.2.1.frames ∧ 38 * d ≤ X.2.2.1.locals ∧ mc ≤ X.2.2.1.cells ∧ ms ≤ X.2.2.1.slots
/-- a maker's contract: over the cells ws alone; behind it the world is fin a, for some addresses a -/
def kP (D : va_G) (c : ClassId × ClassId) (tA : Nat) (ws : va_W) (sz : Nat) : State → Prop := fun U => U.heap.size = sz ∧ va_P D vwCl ws U.heap ∧ va_D (fun _ => True) ws ∧ KN D c tA (va_A ws sz) U
def kQ (D : va_G) (ws : va_W) (sz : Nat) (fin : (Nat → Nat) → va_W) : Array Value → State → Outcome → State → Prop := fun _ st o t => (∃ a : Nat → Nat, o = .returned none ∧ va_P D vwCl (fin a) t.heap ∧ va_D (va_A ws sz) (fin a)) ∧ va_F (va_A ws sz) st t
def Mk (l : Launch) (D : va_G) (c : ClassId × ClassId) (tA : Nat) (y : MethodName) (cc : ByteArray) (mL d mc ms : Nat) (av : List Value) (ws : va_W) (fin : (Nat → Nat) → va_W) : Prop :=
  ∀ sz, Met l y (.code y cc mL none :: TB) { frames := d, cells := mc, slots := ms, locals := 38 * d } (va_Pc av (kP D c tA ws sz)) (kQ D ws sz fin) mc ms (va_A ws sz)
theorem kP_blind (D : va_G) (c : ClassId × ClassId) (tA : Nat) (ws : va_W) (sz : Nat) (av : List Value) : FrameBlind (va_Pc av (kP D c tA ws sz)) := fun a U g mk q => ⟨q.1, q.2.1, q.2.2.1, q.2.2.2.1, q.2.2.2.2.calling g mk a⟩
theorem mk_v {l : Launch} {D : va_G} {c : ClassId × ClassId} {tA : Nat} {y : MethodName} {cc : ByteArray} {mL d mc ms : Nat} {av : List Value} {ws : va_W} {fin : (Nat → Nat) → va_W} {L0 : List (Option Value)} (hy : plainName y.cls = true) (hn : (lg_sl av).length ≤ mL) (hL : entL av mL = L0)
    (body : ∀ (X : Xt) (A : Nat → Prop), NOk D c tA A X cc mL y.cls d mc ms → X.2.2.2.2.2.2.2.1.name = y.name → (∀ (pc : Nat) (L : List (Option Value)) (w : va_W) (a : Nat → Nat) (cs sl : Nat), decode cc pc = .ok (.return_, 1) → w.Perm (fin a) → cs = mc → sl = ms → NX l D A X w cs sl pc L []) → NX l D A X ws 0 0 0 L0 []) : Mk l D c tA y cc mL d mc ms av ws fin := by
  intro sz
  refine Met.ofW (cc := cc) (maxL := mL) (ret := none) hy rfl ?_
  intro p e s m args below meth cd s₁ B hml hv
  obtain ⟨rfl, hsz, hP, hD, hK⟩ := hv
  have hts := atoms_spec (ws := .code y cc mL none :: TB) B.pre
  rw [lg_entry_eq]
  have hlk := B.notSynchronized
  have hnm : meth.name = y.name := (name_of_methodNamed B.named B.method).1
  subst hsz
  refine body (p, e, { frames := d, cells := mc, slots := ms, locals := 38 * d }, s, m, av.toArray, below, meth, cd, (0, 0), MQ below (kQ D ws s.heap.size fin) av.toArray s mc ms (va_A ws s.heap.size)) (va_A ws s.heap.size) ⟨B.exec, B.bytes, hml, findClass_of_methodNamed B.named, fun w hw => hts w (List.mem_cons_of_mem _ hw), hK, fun q h => Or.inr h, Nat.le_refl _, Nat.le_refl _, Nat.le_refl _, Nat.le_refl _⟩ hnm ?_ s.heap [] _ hP hD.self va_S.rf (by rw [← hL]; exact lvk.entry av hn)
  intro pc L w a cs sl dg hp hcs hsl
  subst hcs; subst hsl
  intro H locs ls hP hD hS hl
  exact W.vret B.exec B.bytes B.returns (fun t ht _ => ⟨⟨a, rfl, by rw [ht]; exact pw_permP hP hp, pw_permD hD hp⟩, hS.F ht⟩) hS.2.2 dg
section NRULES
variable {l : Launch} {D : va_G} {c : ClassId × ClassId} {tA : Nat} {A : Nat → Prop} {X : Xt} {cc : ByteArray} {nL d mc ms : Nat} {own : String} {w rest : va_W} {cs sl pc : Nat} {L : List (Option Value)} {st : List Value}
theorem n_iconst (hX : NOk D c tA A X cc nL own d mc ms) {n : Int} (v : Int32) (dg : decode cc pc = .ok (.iconst n, 1)) (hv : Int32.ofInt n = v) (k : NX l D A X w cs sl (pc + 1) L (.int v :: st)) : NX l D A X w cs sl pc L st :=
  fun H locs ls hP hD hS hl => lv_iconst hX.1 hX.2.1 dg hv (k H locs ls hP hD hS hl)
theorem n_bipush (hX : NOk D c tA A X cc nL own d mc ms) {n : Int} (v : Int32) (dg : decode cc pc = .ok (.bipush n, 2)) (hv : (Int8.ofInt n).toInt32 = v) (k : NX l D A X w cs sl (pc + 2) L (.int v :: st)) : NX l D A X w cs sl pc L st :=
  fun H locs ls hP hD hS hl => lv_bipush hX.1 hX.2.1 dg hv (k H locs ls hP hD hS hl)
theorem n_sipush (hX : NOk D c tA A X cc nL own d mc ms) {n : Int} (v : Int32) (dg : decode cc pc = .ok (.sipush n, 3)) (hv : (Int16.ofInt n).toInt32 = v) (k : NX l D A X w cs sl (pc + 3) L (.int v :: st)) : NX l D A X w cs sl pc L st :=
  fun H locs ls hP hD hS hl => lv_sipush hX.1 hX.2.1 dg hv (k H locs ls hP hD hS hl)
theorem n_aload_0 (hX : NOk D c tA A X cc nL own d mc ms) {x : Nat} (dg : decode cc pc = .ok (.aload_n 0, 1)) (k : NX l D A X w cs sl (pc + 1) (some (.ref x) :: L) (.ref x :: st)) : NX l D A X w cs sl pc (some (.ref x) :: L) st :=
  fun H locs ls hP hD hS hl => lv_aload_n hX.1 hX.2.1 dg rfl (hl.2.2 0 _ rfl) (k H locs ls hP hD hS hl)
theorem n_aload_1 (hX : NOk D c tA A X cc nL own d mc ms) {a0 : Option Value} {x : Nat} (dg : decode cc pc = .ok (.aload_n 1, 1)) (k : NX l D A X w cs sl (pc + 1) (a0 :: some (.ref x) :: L) (.ref x :: st)) : NX l D A X w cs sl pc (a0 :: some (.ref x) :: L) st :=
  fun H locs ls hP hD hS hl => lv_aload_n hX.1 hX.2.1 dg rfl (hl.2.2 1 _ rfl) (k H locs ls hP hD hS hl)
theorem n_iload_1 (hX : NOk D c tA A X cc nL own d mc ms) {a0 : Option Value} {x : Int32} (dg : decode cc pc = .ok (.iload_n 1, 1)) (k : NX l D A X w cs sl (pc + 1) (a0 :: some (.int x) :: L) (.int x :: st)) : NX l D A X w cs sl pc (a0 :: some (.int x) :: L) st :=
  fun H locs ls hP hD hS hl => lv_iload_n hX.1 hX.2.1 dg rfl (hl.2.2 1 _ rfl) (k H locs ls hP hD hS hl)
theorem n_istore_1 (hX : NOk D c tA A X cc nL own d mc ms) {a0 a1 : Option Value} {x : Int32} (dg : decode cc pc = .ok (.istore_n 1, 1)) (h0 : nl1 a0 = true) (k : NX l D A X w cs sl (pc + 1) (a0 :: some (.int x) :: L) st) : NX l D A X w cs sl pc (a0 :: a1 :: L) (.int x :: st) :=
  fun H locs ls hP hD hS hl => lv_istore_n hX.1 hX.2.1 dg rfl hl.has (show 1 < _ by simp only [List.length_cons]; omega) rfl (fun ls' h => k H locs ls' hP hD hS (lvk.set h (fun v hv _ => by
    have hv : a0 = some v := Option.some.inj hv
    subst hv
    simpa [nl1] using h0)))
theorem n_iinc_1 (hX : NOk D c tA A X cc nL own d mc ms) {a0 : Option Value} {x : Int32} {n : Int} (v : Int32) (dg : decode cc pc = .ok (.iinc 1 n, 3)) (hc : x + Int32.ofInt n = v) (h0 : nl1 a0 = true) (k : NX l D A X w cs sl (pc + 3) (a0 :: some (.int v) :: L) st) : NX l D A X w cs sl pc (a0 :: some (.int x) :: L) st := by
  intro H locs ls hP hD hS hl
  have hm : (1, Value.int x) ∈ lval (a0 :: some (.int x) :: L) := lval_mem.mpr rfl
  obtain ⟨kk, hkk⟩ := List.getElem?_of_mem hm
  exact lv_iinc (v := v) hX.1 hX.2.1 dg hl.has hkk (by rw [hc]) (by simp) rfl (fun ls' h => k H locs ls' hP hD hS (lvk.set h (fun v hv _ => by
    have hv : a0 = some v := Option.some.inj hv
    subst hv
    simpa [nl1] using h0)))
theorem n_goto (hX : NOk D c tA A X cc nL own d mc ms) {off : Int} (tgt : Nat) (dg : decode cc pc = .ok (.goto off, 3)) (ht : (pc : Int) + off = (tgt : Int)) (k : NX l D A X w cs sl tgt L st) : NX l D A X w cs sl pc L st :=
  fun H locs ls hP hD hS hl => lv_goto hX.1 hX.2.1 dg ht (k H locs ls hP hD hS hl)
theorem n_icmp_ge (hX : NOk D c tA A X cc nL own d mc ms) {x y : Int32} {off : Int} (tgt : Nat) (dg : decode cc pc = .ok (.if_icmp .ge off, 3)) (ht : (pc : Int) + off = (tgt : Int)) (k1 : ¬ x < y → NX l D A X w cs sl tgt L st) (k2 : x < y → NX l D A X w cs sl (pc + 3) L st) : NX l D A X w cs sl pc L (.int y :: .int x :: st) :=
  fun H locs ls hP hD hS hl => lv_icmp_ge hX.1 hX.2.1 dg ht (fun h => k1 (Int32.not_lt.mpr h) H locs ls hP hD hS hl) (fun h => k2 (Int32.not_le.mp h) H locs ls hP hD hS hl)
theorem n_obj (hX : NOk D c tA A X cc nL own d mc ms) {idx x : Nat} (w1 : Cond.methodLink own idx objectInit ∈ TB) (w2 : Cond.instanceMethod objectInit ∈ TB) (w3 : Cond.code objectInit ⟨#[0xb1]⟩ 1 none ∈ TB) (hLn : L.length = nL) (hd : 1 ≤ d) (dg : decode cc pc = .ok (.invokespecial idx, 3)) (k : NX l D A X w cs sl (pc + 3) L []) : NX l D A X w cs sl pc L [.ref x] := by
  obtain ⟨hx, hb, hml, hown, hts, hK, hA, hrf, hrl, hcl, hsl⟩ := hX
  intro H locs ls hP hD hS hl
  refine W.objInit hx hb hown (hts _ w1) (hts _ w2) (hts _ w3) rfl (by rw [hml]; exact hl.1.trans hLn) rfl dg (by omega) (by show 2 * 0 + 0 + 12 ≤ _; omega) ?_
  exact W.eq (g2 := F0 X.2.2.2.2.1 (pc + 3) ls []) rfl (k H locs ls hP hD hS hl)
theorem n_newa (hX : NOk D c tA A X cc nL own d mc ms) (w1 : Cond.arrayClass .int ∈ TB) {n : Int32} (pre : va_W) (N : Nat) (hn : n = nI N) (hN : N ≤ 1000) (hc : cs + 1 ≤ mc) (hs : sl + N ≤ ms) (dg : decode cc pc = .ok (.newarray .int, 2)) (k : ∀ q, NX l D A X (pre ++ (q, .inl (c.1, (N, .inl (fun _ => 0)))) :: rest) (cs + 1) (sl + N) (pc + 2) L (.ref q :: st)) : NX l D A X (pre ++ rest) cs sl pc L (.int n :: st) := by
  obtain ⟨hx, hb, hml, hown, hts, hK, hA, hrf, hrl, hcl, hsl⟩ := hX
  subst hn
  intro H locs ls hP hD hS hl
  refine va_newa (atype := .int) (ty := .int) (a0 := (N, .inl (fun _ => 0))) (N' := N) hx hb (hts _ w1) rfl hK.1 hP hD hS hA (fun _ => rfl) (nI_pos (by omega)) (nI_clamp (by omega)) (by show N * 4 ≤ 536870912; omega) (by omega) (by omega) dg (fun q cA H1 hK1 hP1 hD1 hS1 => ?_)
  have e1 := va_nm_int (hK1.2 2 (cA, .int) rfl).2
  have e2 := va_nm_int (hK.1.2 0 (c.1, .int) rfl).2
  have e : cA = c.1 := Option.some.inj (e1.symm.trans e2)
  subst e
  have hp : ((pre ++ rest) ++ [(q, Sum.inl (c.1, (N, Sum.inl (fun _ => (0 : Int32)))))] : va_W).Perm (pre ++ (q, .inl (c.1, (N, .inl (fun _ => 0)))) :: rest) := (List.perm_append_singleton _ _).trans List.perm_middle.symm
  exact k q H1 locs ls (pw_permP hP1 hp) (pw_permD hD1 hp) hS1 hl
theorem n_put {C : String} {T : u_T} {N ci index h0 : Nat} {ty0 : Nat → FieldType} (hX : NOk D c tA A X cc nL C d mc ms) (hin : ∀ w ∈ u_ws C T N, w ∈ TB) (hty : ∀ k, k < N → parseFieldDescriptor (T k).2.2.1 = some (ty0 k)) (hnm : ∀ a, a < N → ∀ b, b < N → a ≠ b → (T a).2.1 ≠ (T b).2.1) {fs : List Value} (hc : vwCl[ci]? = some (C, T, N)) (k : Nat) (hk : k < N) (hlk : Cond.fieldLink C index C (T k).2.1 (T k).2.2.1 ∈ TB) (hT : (T k).1 = C) (hfin : (T k).2.2.2 = false) {ty : FieldType} {v : Value} (hd : parseFieldDescriptor (T k).2.2.1 = some ty) (hn : narrow ty v = v) (hfit : fits ty v = true) (hl : k < fs.length) (dg : decode cc pc = .ok (.putfield index, 3))
    (kk : NX l D A X ((h0, .inr (ci, fs.set k v)) :: rest) cs sl (pc + 3) L st) : NX l D A X ((h0, .inr (ci, fs)) :: rest) cs sl pc L (v :: .ref h0 :: st) := by
  obtain ⟨hx, hb, hml, hown, hts, hK, hA, hrf, hrl, hcl, hsl⟩ := hX
  intro H locs ls hP hD hS hl'
  exact va_put (D := D) (ci := ci) (v := v) (ty := ty) (C := C) (T := T) (N := N) hx hb hts hin ty0 hty hnm hown hK.1 hP hD hS 0 rfl hc k hk (hts _ hlk) (fun _ h9 => by rw [hT] at h9; exact h9) hfin hd hn hfit hl dg (fun H1 locs1 hP1 hD1 hS1 => kk H1 locs1 ls hP1 hD1 hS1 hl')
theorem n_putF {C : String} {T : u_T} {N ci index h0 : Nat} {ty0 : Nat → FieldType} (hX : NOk D c tA A X cc nL C d mc ms) (hmn : X.2.2.2.2.2.2.2.1.name = "<init>") (hin : ∀ w ∈ u_ws C T N, w ∈ TB) (hty : ∀ k, k < N → parseFieldDescriptor (T k).2.2.1 = some (ty0 k)) (hnm : ∀ a, a < N → ∀ b, b < N → a ≠ b → (T a).2.1 ≠ (T b).2.1) {fs : List Value} (hc : vwCl[ci]? = some (C, T, N)) (k : Nat) (hk : k < N) (hlk : Cond.fieldLink C index C (T k).2.1 (T k).2.2.1 ∈ TB) (hT : (T k).1 = C) (hfin : (T k).2.2.2 = true) {ty : FieldType} {q : Nat} (hd : parseFieldDescriptor (T k).2.2.1 = some ty) (hn : narrow ty (.ref q) = .ref q) (hfit : fits ty (.ref q) = true) (hl : k < fs.length) (dg : decode cc pc = .ok (.putfield index, 3))
    (kk : NX l D A X ((h0, .inr (ci, fs.set k (.ref q))) :: rest) cs sl (pc + 3) L st) : NX l D A X ((h0, .inr (ci, fs)) :: rest) cs sl pc L (.ref q :: .ref h0 :: st) := by
  obtain ⟨hx, hb, hml, hown, hts, hK, hA, hrf, hrl, hcl, hsl⟩ := hX
  intro H locs ls hP hD hS hl'
  exact va_putF (D := D) (ci := ci) (v := .ref q) (ty := ty) (C := C) (T := T) (N := N) hx hb hts hin ty0 hty hnm hown hK.1 hP hD hS 0 rfl hc k hk (hts _ hlk) (fun _ h9 => by rw [hT] at h9; exact h9) hfin hmn hT hd hn hfit hl dg (fun H1 locs1 hP1 hD1 hS1 => kk H1 locs1 ls hP1 hD1 hS1 hl')
theorem n_get {C : String} {T : u_T} {N ci index h0 : Nat} (hX : NOk D c tA A X cc nL C d mc ms) (hin : ∀ w ∈ u_ws C T N, w ∈ TB) {fs : List Value} (hc : vwCl[ci]? = some (C, T, N)) (k : Nat) (hk : k < N) (hlk : Cond.fieldLink C index C (T k).2.1 (T k).2.2.1 ∈ TB) (hT : (T k).1 = C) {v : Value} (hv : fs[k]? = some v) (dg : decode cc pc = .ok (.getfield index, 3))
    (kk : NX l D A X ((h0, .inr (ci, fs)) :: rest) cs sl (pc + 3) L (v :: st)) : NX l D A X ((h0, .inr (ci, fs)) :: rest) cs sl pc L (.ref h0 :: st) := by
  obtain ⟨hx, hb, hml, hown, hts, hK, hA, hrf, hrl, hcl, hsl⟩ := hX
  intro H locs ls hP hD hS hl'
  exact va_get (D := D) (ci := ci) (C := C) (T := T) (N := N) hx hb hts hin hown hK.1 hP 0 rfl hc k hk (hts _ hlk) (fun _ h9 => by rw [hT] at h9; exact h9) hv dg (kk H locs ls hP hD hS hl')
/-- new C() as a whole: new, dup, invokespecial -/
theorem n_make {C : String} {T : u_T} {N ci i1 i2 d' mc' ms' : Nat} {ty0 : Nat → FieldType} {y : MethodName} {cy : ByteArray} {mL : Nat} {fin : Nat → (Nat → Nat) → va_W} (hX : NOk D c tA A X cc nL own d mc ms) (hin : ∀ w ∈ u_ws C T N, w ∈ TB) (hty : ∀ k, k < N → parseFieldDescriptor (T k).2.2.1 = some (ty0 k)) (fs : List Value) (hc : vwCl[ci]? = some (C, T, N)) (hfs : ∀ j, j < N → defaultValue (ty0 j) = vp_V fs j)
    (u1 : Cond.classLink own i1 C ∈ TB) (u2 : Cond.instantiable C N ∈ TB) (u3 : Cond.initialized C ∈ TB) (m1 : Cond.code y cy mL none ∈ TB) (m2 : Cond.initialized y.cls ∈ TB) (m3 : y.cls ≠ "java/lang/invoke/MethodHandle" ∧ y.cls ≠ "java/lang/invoke/VarHandle" ∧ (parseMethodDescriptor y.desc).map (fun d => d.parameters.length) = some 0) (m4 : Cond.methodLink own i2 y ∈ TB) (m5 : Cond.instanceMethod y ∈ TB) (m6 : y.name = "<init>") (m7 : mL ≤ 19)
    (hM : ∀ q, Mk l D c tA y cy mL d' mc' ms' [.ref q] [(q, .inr (ci, fs))] (fin q)) (pre : va_W) (hLn : L.length = nL) (hd : d' + 1 ≤ d) (hcs : cs + 1 + mc' ≤ mc) (hsl : sl + N + ms' ≤ ms) (hw : (st.map fun v => v.category).sum ≤ 7) (dg0 : decode cc pc = .ok (.new i1, 3)) (dg1 : decode cc (pc + 3) = .ok (.dup, 1)) (dg2 : decode cc (pc + 4) = .ok (.invokespecial i2, 3))
    (k : ∀ q a, NX l D A X (pre ++ (fin q a ++ rest)) (cs + 1 + mc') (sl + N + ms') (pc + 7) L (.ref q :: st)) : NX l D A X (pre ++ rest) cs sl pc L st := by
  obtain ⟨hx, hb, hml, hown, hts, hK, hA, hrf, hrl, hcl, hsl'⟩ := hX
  intro H0 locs0 ls hP0 hD0 hS0 hl
  refine va_new (Ts := TB) (ci := ci) (fs := fs) (C := C) (T := T) (N := N) hx hb hts hin ty0 hty hown (hts _ u1) (hts _ u2) (hts _ u3) hK.1 hP0 hD0 hS0 hA hc hfs (by omega) (by omega) dg0 (fun q H hP hD hS => ?_)
  refine lv_dup hx hb dg1 rfl ?_
  have hp1 : ((pre ++ rest) ++ [(q, Sum.inr (ci, fs))] : va_W).Perm ((q, .inr (ci, fs)) :: (pre ++ rest)) := List.perm_append_singleton _ _
  have hP1 := pw_permP hP hp1
  have hD1 := pw_permD hD hp1
  have hAq : A q := hD1.2 0 _ rfl
  have hF : ∀ z, va_A [(q, Sum.inr (ci, fs))] H.size z → A z := by
    rintro z (⟨i, e, hi⟩ | hz)
    · have hi0 : i < 1 := (List.getElem?_eq_some_iff.mp hi).1
      have i0 : i = 0 := by omega
      subst i0
      have e1 : (q, Sum.inr (ci, fs)) = (z, e) := Option.some.inj hi
      rw [← (Prod.mk.inj e1).1]; exact hAq
    · exact hA z (Nat.le_trans hS.1 hz)
  intro T1 hT1 XX
  have hr := va_runI (p := X.1) (l := l) (e := X.2.1) (R := X.2.2.1) (s := X.2.2.2.1) (m := X.2.2.2.2.1) (args := X.2.2.2.2.2.1) (below := X.2.2.2.2.2.2.1) (meth := X.2.2.2.2.2.2.2.1) (c := X.2.2.2.2.2.2.2.2.1) (H := H) (locs := locs0) (cells := cs + 1) (slots := sl + N) (Ts := TB) (As := []) (b := q) (rest := .ref q :: st) (n := 0) (nL := nL) (g := F0 X.2.2.2.2.1 (pc + 3 + 1) ls (.ref q :: .ref q :: st)) ⟨hx, hb, hml, hown, hts⟩ (hM q H.size) ⟨callB_of 0 hts (tb_code m1) rfl rfl rfl (hts _ m2) (hts _ m4) m3 ⟨by show d' + 1 ≤ _; omega, by show 8 + (mL + 11) + 38 * d' ≤ _; omega⟩, m6, hts _ m5⟩
    ⟨kP_blind D c tA _ _ _, fun U hU hW => ⟨rfl, by rw [hU], by rw [hU]; exact pw_mem.mpr (fun z hz => pw_mem.mp hP1 z (List.mem_cons.mpr (Or.inl (List.mem_singleton.mp hz)))), pw_D.mpr ⟨by simp, fun _ _ => trivial⟩, hK.to hS hU hW hF⟩⟩ rfl rfl (hl.1.trans hLn) rfl (lv_room (by show 1 + (st.map fun v => v.category).sum ≤ 8; omega)) dg2 ⟨by omega, by omega⟩
  obtain ⟨v, st₀, t, T', L', h0, X', hL', e1, e2, ⟨⟨a, hv, hPf, hDf⟩, hz, hkk⟩, sst⟩ := hr T1 hT1 XX
  have hv : v = none := by injection hv
  subst hv
  rw [h0] at hz hkk
  obtain ⟨hP2, hD2⟩ := pw_join (H1 := T'.heap) hP1 hD1 (fun z h1 h2 => by rw [e1]; exact hkk z h1 h2) hF (by rw [e1]; exact hPf) hDf
  have hp2 : (fin q a ++ (pre ++ rest)).Perm (pre ++ (fin q a ++ rest)) := List.perm_append_comm_assoc _ _ _
  obtain ⟨t2, a1, b1⟩ := k q a T'.heap (locs0 ++ L') ls (pw_permP hP2 hp2) (pw_permD hD2 hp2)
    ⟨Nat.le_trans hS.1 (by rw [e1]; exact hz), fun z h1 h2 => by rw [e1, hkk z (Nat.lt_of_lt_of_le h1 hS.1) (fun y => h2 (hF z y))]; exact hS.2.1 z h1 h2, fun z hz => by
      rcases List.mem_append.mp hz with h | h
      · exact hS.2.2 z h
      · exact hF _ (hL' z h)⟩ hl T' rfl X'
  exact ⟨t2, sst t2 a1, b1⟩
end NRULES
