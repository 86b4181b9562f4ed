/-! the memory of the whole system as numbers by cell and place; the goal form G; its rules -/
abbrev Mem : Type := Nat → Nat → Int32
/-- the launch, the classes' numbers and slots, the classes of int rows and of rows of Bus, the cells' addresses, the two static rows' addresses -/
abbrev Zt : Type := Launch × va_G × (ClassId × ClassId) × (Nat → Nat) × (Nat × Nat)
def zad (Z : Zt) (i : Nat) : Nat := Z.2.2.2.1 i
def zcI (Z : Zt) : ClassId := Z.2.2.1.1
def zcB (Z : Zt) : ClassId := Z.2.2.1.2
def ztL (Z : Zt) : Nat := Z.2.2.2.2.1
def ztH (Z : Zt) : Nat := Z.2.2.2.2.2
/-- the program, the environment, the room, the start, the method, its arguments, the frames below, its table rows, cells and slots made, the end -/
abbrev Xt : Type := Program × Env × Room × State × MethodId × Array Value × List Frame × Method × Code × (Nat × Nat) × (State → Prop)
def TB : List Cond := lw_tbl.filter goodWord
theorem tb_of {i : Nat} {w : Cond} (h : lw_tbl[i]? = some w) (g : goodWord w = true) : w ∈ TB := List.mem_filter.mpr ⟨List.mem_of_getElem? h, g⟩
theorem tb_good : GoodIn TB TB := fun _ hw => ⟨hw, good_of_word (List.mem_filter.mp hw).2⟩
theorem tb_code {w : Cond} (h : w ∈ TB) : GoodIn TB (w :: TB) := fun u hu => by
  rcases List.mem_cons.mp hu with rfl | hu
  · exact tb_good _ h
  · exact tb_good _ hu
def NC : Nat := 81
def obs (ci : Nat) (fs : List Value) : va_E := .inr (ci, fs)
def ars (Z : Zt) (n : Nat) (f : Nat → Int32) : va_E := .inl (zcI Z, (n, .inl f))
def shBus (Z : Zt) (o : Nat) (f : Nat → Int32) : va_E := .inr (0, [.ref (zad Z (o + 1)), .ref (zad Z (o + 2)), .ref (zad Z (o + 3)), .ref (zad Z (o + 4)), .ref (zad Z (o + 5)), .ref (zad Z (o + 6)), .int (f 6), .int (f 7)])
def shShr (Z : Zt) (o : Nat) (f : Nat → Int32) : va_E := .inr (3, [.ref (zad Z (o + 1)), .ref (zad Z (o + 2)), .ref (zad Z (o + 3)), .ref (zad Z (o + 4)), .int (f 4), .int (f 5), .int (f 6), .int (f 7)])
def shl7 (Z : Zt) (o : Nat) : List ((Nat → Int32) → va_E) := [shBus Z o, ars Z 6, ars Z 48, ars Z 48, ars Z 6, ars Z 6, ars Z 7]
def shl5 (Z : Zt) (o : Nat) : List ((Nat → Int32) → va_E) := [shShr Z o, ars Z 64, ars Z 64, ars Z 6, ars Z 36]
def shl (Z : Zt) : List ((Nat → Int32) → va_E) :=
  [fun f => .inr (5, [.ref (zad Z 1), .ref (zad Z 8), .ref (zad Z 50), .ref (zad Z 52), .ref (zad Z 56), .ref (zad Z 61), .ref (zad Z 66), .int (f 7), .int (f 8), .int (f 9), .int (f 10)])]
  ++ (shl7 Z 1 ++ (shl7 Z 8 ++ (shl7 Z 15 ++ (shl7 Z 22 ++ (shl7 Z 29 ++ (shl7 Z 36 ++ (shl7 Z 43 ++
  ([fun f => .inr (1, [.ref (zad Z 51), .int (f 1), .int (f 2)]), fun _ => .inl (zcB Z, (5, .inr (.inr (.inr (.inr (fun j => some (zad Z (15 + 7 * j))))))))]
  ++ ([fun f => .inr (4, [.ref (zad Z 53), .ref (zad Z 54), .ref (zad Z 55), .int (f 3), .int (f 4), .int (f 5), .int (f 6), .int (f 7)]), ars Z 120, ars Z 40, ars Z 120]
  ++ (shl5 Z 56 ++ (shl5 Z 61 ++ ([fun _ => .inr (2, [.ref (zad Z 67), .ref (zad Z 68)]), ars Z 15, ars Z 15]
  ++ [fun f => .inr (6, [.ref (zad Z 70), .ref (zad Z 71), .ref (zad Z 72), .int (f 3), .ref (zad Z 73), .ref (zad Z 74), .ref (zad Z 75), .ref (zad Z 76), .ref (zad Z 77), .ref (zad Z 78), .ref (zad Z 79), .int (f 11), .ref (zad Z 80), .int (f 13), .int (f 14)]),
      ars Z 3, ars Z 123, ars Z 738, ars Z 6, ars Z 6, ars Z 6, ars Z 36, ars Z 17, ars Z 17, ars Z 120, ars Z 200]))))))))))))
def sh (Z : Zt) (i : Nat) (f : Nat → Int32) : va_E := ((shl Z).getD i (fun _ => .inr (0, []))) f
def ww (Z : Zt) (b : Mem) : va_W := (List.range NC).map (fun i => (zad Z i, sh Z i (b i)))
def up1 (b : Mem) (i : Nat) (f : Nat → Int32) : Mem := fun j => if j = i then f else b j
def up2 (b : Mem) (i k : Nat) (x : Int32) : Mem := up1 b i (upd (b i) k x)
theorem up1_s (b : Mem) (i : Nat) (f : Nat → Int32) : up1 b i f i = f := if_pos rfl
theorem up1_n (b : Mem) {i j : Nat} (f : Nat → Int32) (h : j ≠ i) : up1 b i f j = b j := if_neg h
theorem ww_get (Z : Zt) (b : Mem) {i : Nat} (h : i < NC) : (ww Z b)[i]? = some (zad Z i, sh Z i (b i)) := by
  simp [ww, h]
theorem ww_set (Z : Zt) (b : Mem) {i : Nat} (f : Nat → Int32) {e : va_E} (h : i < NC) (he : sh Z i f = e) : (ww Z b).set i (zad Z i, e) = ww Z (up1 b i f) := by
  subst he
  apply List.ext_getElem?
  intro j
  by_cases hj : j = i
  · subst hj
    rw [ww_get Z _ h, up1_s, List.getElem?_set_self (by simp [ww, h])]
  · rw [List.getElem?_set_ne (fun q => hj q.symm)]
    by_cases hn : j < NC
    · rw [ww_get Z _ hn, ww_get Z _ hn, up1_n _ _ hj]
    · rw [List.getElem?_eq_none (by simp [ww]; omega), List.getElem?_eq_none (by simp [ww]; omega)]
def AA (Z : Zt) : Nat → Prop := fun q => ∃ i, i < NC ∧ zad Z i = q
def nestM : List (String × Nat × MethodName) := [("SnakedBus$Text", 67, yX5_cell), ("SnakedBus$Text", 56, yX5_within), ("SnakedBus$Text", 41, yX5_at), ("SnakedBus$Text", 37, yX5_put), ("SnakedBus$Sharing", 90, yX5_cell), ("SnakedBus$Sharing", 78, yX5_hasBit), ("SnakedBus$Sharing", 67, yX5_at), ("SnakedBus$Sharing", 54, yX5_put), ("SnakedBus$Phasing", 56, yX5_at), ("SnakedBus$Phasing", 52, yX5_copy), ("SnakedBus$Phasing", 25, yX5_put), ("SnakedBus$Bus", 70, yX5_at), ("SnakedBus$Bus", 52, yX5_cell), ("SnakedBus$Bus", 48, yX5_put), ("SnakedBus$Bus", 44, yX5_within), ("SnakedBus$Bus", 40, yX5_copy), ("SnakedBus$Bus", 105, yX5_hasBit)]
def nestF : List (Nat × String) := [(74, "LOWEST"), (77, "HIGHEST")]
def lowF : Nat → Int32 := fun j => ([2, 1, 0, 0, 0, 0, 1] : List Int32).getD j 0
def higF : Nat → Int32 := fun j => ([12, 4, 2, 20, 999, 6, 9] : List Int32).getD j 0
/-- what the tables and the static rows are, at a state -/
def KX (Z : Zt) (U : State) : Prop :=
  va_K Z.2.1 vwCl [(zcI Z, .int), (zcB Z, .object "SnakedBus$Bus")] U ∧ (∀ q ∈ nestM, va_Nw (.methodLinkNest q.1 q.2.1 q.2.2 "SnakedBus") U) ∧ (∀ q ∈ nestF, va_Nw (.fieldLinkNest "SnakedBus$Bus" q.1 "SnakedBus" q.2 "[I" "SnakedBus") U) ∧
  (∀ i j, i < NC → j < NC → zad Z i = zad Z j → i = j) ∧
  (va_Z "SnakedBus" "LOWEST" "[I" (.ref (ztL Z)) (AA Z) U U.heap ∧ va_T .int (ztL Z) 7 (fun j => .int (lowF j)) (AA Z) U U.heap) ∧ (va_Z "SnakedBus" "HIGHEST" "[I" (.ref (ztH Z)) (AA Z) U U.heap ∧ va_T .int (ztH Z) 7 (fun j => .int (higF j)) (AA Z) U U.heap)
theorem KX.to {Z : Zt} {s U : State} {H : Heap} {locs : List Loc} (h : KX Z s) (hS : va_S (AA Z) s.heap H locs) (hU : U.heap = H) (hW : s.WarmedH U.vm) : KX Z U := by
  obtain ⟨h1, h2, h3, h4, ⟨h5, h6⟩, h7, h8⟩ := h
  subst hU
  exact ⟨h1.moved hW.alike, fun q hq => (h2 q hq).warmM hW, fun q hq => (h3 q hq).warmF hW, h4, ⟨(h5.moved hW.alike).kept hS.2.1, (h6.moved hW.alike).kept hS.2.1⟩, (h7.moved hW.alike).kept hS.2.1, (h8.moved hW.alike).kept hS.2.1⟩
theorem KX.calling {Z : Zt} {U : State} (h : KX Z U) (g : JFrame) (mk : MethodId) (a : Array Value) : KX Z (U.calling g mk a) := by
  obtain ⟨h1, h2, h3, h4, ⟨h5, h6⟩, h7, h8⟩ := h
  exact ⟨h1.moved (u := U) (U := U.calling g mk a) (Vm.Alike.refl U.vm), fun q hq => (h2 q hq).same rfl rfl, fun q hq => (h3 q hq).same rfl rfl, h4, ⟨h5.moved (u := U) (U := U.calling g mk a) (Vm.Alike.refl U.vm), h6.moved (u := U) (U := U.calling g mk a) (Vm.Alike.refl U.vm)⟩, h7.moved (u := U) (U := U.calling g mk a) (Vm.Alike.refl U.vm), h8.moved (u := U) (U := U.calling g mk a) (Vm.Alike.refl U.vm)⟩
theorem KX.D {Z : Zt} {U : State} (h : KX Z U) (b : Mem) : va_D (AA Z) (ww Z b) := by
  have hg : ∀ (i : Nat) (q : Nat × va_E), (ww Z b)[i]? = some q → i < NC ∧ q.1 = zad Z i := by
    intro i q hq
    have hi : i < NC := by
      have := (List.getElem?_eq_some_iff.mp hq).1
      simpa [ww] using this
    rw [ww_get Z b hi] at hq
    exact ⟨hi, by rw [← Option.some.inj hq]⟩
  refine ⟨fun i j p q hp hq e => ?_, fun k q hq => ?_⟩
  · obtain ⟨a1, a2⟩ := hg i p hp
    obtain ⟨b1, b2⟩ := hg j q hq
    exact h.2.2.2.1 i j a1 b1 (by rw [← a2, ← b2]; exact e)
  · obtain ⟨a1, a2⟩ := hg k q hq
    exact ⟨k, a1, a2.symm⟩
/-- the locals, by place -/
def lvk (ls : Array Slot) (L : List (Option Value)) : Prop := ls.size = L.length ∧ lv_wf ls ∧ ∀ (i : Nat) (v : Value), L[i]? = some (some v) → ls[i]? = some (.val v)
def lval (L : List (Option Value)) : List (Nat × Value) := (List.range L.length).filterMap (fun j => (L.getD j none).map (fun v => (j, v)))
theorem lval_mem {L : List (Option Value)} {j : Nat} {v : Value} : (j, v) ∈ lval L ↔ L[j]? = some (some v) := by
  unfold lval
  rw [List.mem_filterMap]
  constructor
  · rintro ⟨k, hk, h⟩
    rw [List.mem_range] at hk
    rw [Option.map_eq_some_iff] at h
    obtain ⟨w, hw, e⟩ := h
    cases e
    rw [List.getD_eq_getElem?_getD, List.getElem?_eq_getElem hk] at hw
    rw [List.getElem?_eq_getElem hk]
    exact congrArg some hw
  · intro h
    have hk : j < L.length := (List.getElem?_eq_some_iff.mp h).1
    exact ⟨j, List.mem_range.mpr hk, by rw [List.getD_eq_getElem?_getD, h]; rfl⟩
theorem lvk.has {ls : Array Slot} {L : List (Option Value)} (h : lvk ls L) : lv_has ls L.length (lval L) := ⟨h.1, h.2.1, fun q hq => h.2.2 q.1 q.2 (lval_mem.mp hq)⟩
theorem lvk.set {ls' : Array Slot} {L : List (Option Value)} {i : Nat} {x : Value} (h : lv_has ls' L.length ((i, x) :: (lval L).filter (fun q => !(q.1 == i) && !(q.1 + 1 == i && q.2.category == 2)))) (hp : ∀ v, L[i - 1]? = some (some v) → i ≠ 0 → v.category = 1) : lvk ls' (L.set i (some x)) := by
  refine ⟨by rw [h.1, List.length_set], h.2.1, fun j v hj => ?_⟩
  by_cases e : j = i
  · subst e
    have hl : j < (L.set j (some x)).length := (List.getElem?_eq_some_iff.mp hj).1
    rw [List.getElem?_set_self (by simpa using hl)] at hj
    have : x = v := Option.some.inj (Option.some.inj hj)
    subst this
    exact h.2.2 (j, x) List.mem_cons_self
  · rw [List.getElem?_set_ne (fun q => e q.symm)] at hj
    refine h.2.2 (j, v) (List.mem_cons_of_mem _ (List.mem_filter.mpr ⟨lval_mem.mpr hj, ?_⟩))
    have h1 : (j == i) = false := by simpa using e
    by_cases c : j + 1 = i
    · have h2 : v.category = 1 := hp v (by rw [← c]; simpa using hj) (by omega)
      simp [h1, h2]
    · simp [h1, c]
theorem lvk.set2 {ls' : Array Slot} {L : List (Option Value)} {i : Nat} {x : Value} (h : lv_has ls' L.length ((i, x) :: (lval L).filter (fun q => !(q.1 == i) && (!(q.1 == i + 1) && !(q.1 + 1 == i && q.2.category == 2))))) (hp : ∀ v, L[i - 1]? = some (some v) → i ≠ 0 → v.category = 1) : lvk ls' ((L.set i (some x)).set (i + 1) none) := by
  refine ⟨by rw [h.1, List.length_set, List.length_set], h.2.1, fun j v hj => ?_⟩
  by_cases e2 : j = i + 1
  · subst e2
    have hl := (List.getElem?_eq_some_iff.mp hj).1
    rw [List.getElem?_set_self (by simpa using hl)] at hj
    cases hj
  · rw [List.getElem?_set_ne (fun q => e2 q.symm)] at hj
    by_cases e : j = i
    · subst e
      have hl : j < (L.set j (some x)).length := (List.getElem?_eq_some_iff.mp hj).1
      rw [List.getElem?_set_self (by simpa using hl)] at hj
      have : x = v := Option.some.inj (Option.some.inj hj)
      subst this
      exact h.2.2 (j, x) List.mem_cons_self
    · rw [List.getElem?_set_ne (fun q => e q.symm)] at hj
      refine h.2.2 (j, v) (List.mem_cons_of_mem _ (List.mem_filter.mpr ⟨lval_mem.mpr hj, ?_⟩))
      have h1 : (j == i) = false := by simpa using e
      have h3 : (j == i + 1) = false := by simpa using e2
      by_cases c : j + 1 = i
      · have h2 : v.category = 1 := hp v (by rw [← c]; simpa using hj) (by omega)
        simp [h1, h2, h3]
      · simp [h1, c, h3]
/-- a method begins with its arguments -/
def entL (av : List Value) (n : Nat) : List (Option Value) := (List.range n).map (fun i => ((lv_args 0 av).find? (fun q => q.1 == i)).map (fun q => q.2))
theorem lvk.entry (av : List Value) {n : Nat} (h : (lg_sl av).length ≤ n) : lvk ((lg_sl av ++ List.replicate (n - (lg_sl av).length) Slot.unset).toArray) (entL av n) := by
  have h0 := lv_entry av h
  refine ⟨by rw [h0.1]; simp [entL], h0.2.1, fun i v hv => ?_⟩
  unfold entL at hv
  rw [List.getElem?_map] at hv
  cases hr : (List.range n)[i]? with
  | none => rw [hr] at hv; cases hv
  | some k =>
    rw [hr] at hv
    have hk : k = i := by
      obtain ⟨q1, q2⟩ := List.getElem?_eq_some_iff.mp hr
      rw [← q2]; simp
    subst hk
    have hv2 : ((lv_args 0 av).find? (fun q => q.1 == k)).map (fun q => q.2) = some v := Option.some.inj hv
    rw [Option.map_eq_some_iff] at hv2
    obtain ⟨q, hq, rfl⟩ := hv2
    have hm := List.mem_of_find?_eq_some hq
    have he : q.1 = k := by simpa using List.find?_some hq
    have := h0.2.2 q hm
    rw [he] at this
    exact this
/-- the goal: from every heap that holds the memory b, at pc with locals L and stack st, the machine comes to its end -/
def G (Z : Zt) (X : Xt) (b : Mem) (pc : Nat) (L : List (Option Value)) (st : List Value) : Prop :=
  ∀ (H : Heap) (locs : List Loc) (ls : Array Slot), va_P Z.2.1 vwCl (ww Z b) H → va_S (AA Z) X.2.2.2.1.heap H locs → lvk ls L →
    W X.1 Z.1 X.2.1 X.2.2.1 X.2.2.2.1 X.2.2.2.2.1 X.2.2.2.2.2.1 X.2.2.2.2.2.2.1 X.2.2.2.2.2.2.2.1 X.2.2.2.2.2.2.2.2.1 H locs X.2.2.2.2.2.2.2.2.2.1.1 X.2.2.2.2.2.2.2.2.2.1.2 X.2.2.2.2.2.2.2.2.2.2 (F0 X.2.2.2.2.1 pc ls st)
/-- what a walk may use -/
def Ok (Z : Zt) (X : Xt) (cc : ByteArray) (nL : Nat) (own : String) (d : Nat) : Prop :=
  X.1.tables.exec = Jvm.exec ∧ X.2.2.2.2.2.2.2.2.1.code = cc ∧ X.2.2.2.2.2.2.2.2.1.maxLocals = nL ∧ X.2.2.2.1.vm.findClass own = some X.2.2.2.2.1.cls ∧ (∀ w ∈ TB, w.before X.2.2.2.2.2.1 X.2.2.2.1 = true) ∧ KX Z X.2.2.2.1 ∧
  d ≤ X.2.2.1.frames ∧ 38 * d ≤ X.2.2.1.locals ∧ X.2.2.2.2.2.2.2.2.2.1.1 ≤ X.2.2.1.cells ∧ X.2.2.2.2.2.2.2.2.2.1.2 ≤ X.2.2.1.slots
theorem g_cast {Z : Zt} {X : Xt} {b b' : Mem} {pc : Nat} {L L' : List (Option Value)} {st st' : List Value} (k : G Z X b' pc L' st') (hb : b = b') (hL : L = L') (hs : st = st') : G Z X b pc L st := by
  subst hb; subst hL; subst hs; exact k
