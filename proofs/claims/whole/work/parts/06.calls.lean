/-! contracts: Con; from a walk to a contract; the calls -/
def bI (c : Prop) [Decidable c] : Int32 := if c then 1 else 0
theorem bI_t {c : Prop} [Decidable c] (h : c) : bI c = 1 := if_pos h
theorem bI_f {c : Prop} [Decidable c] (h : ¬ c) : bI c = 0 := if_neg h
theorem bI_n (c : Prop) [Decidable c] : narrow .boolean (.int (bI c)) = .int (bI c) := by
  unfold bI; split <;> rfl
theorem bI_fit (c : Prop) [Decidable c] : fits .boolean (.int (bI c)) = true := by
  unfold bI; split <;> rfl
def cQ (Z : Zt) (r : Option Value) (b' : Mem) : Array Value → State → Outcome → State → Prop := fun _ st o t => (o = .returned r ∧ va_P Z.2.1 vwCl (ww Z b') t.heap) ∧ va_F (AA Z) st t
def cP (Z : Zt) (b : Mem) : State → Prop := fun U => va_P Z.2.1 vwCl (ww Z b) U.heap ∧ KX Z U
/-- the method y, called with av over the memory b, answers r and leaves the memory b' -/
def Con (Z : Zt) (y : MethodName) (cc : ByteArray) (mL : Nat) (ret : Option FieldType) (d : Nat) (av : List Value) (b : Mem) (r : Option Value) (b' : Mem) : Prop :=
  Met Z.1 y (.code y cc mL ret :: TB) { frames := d, cells := 0, slots := 0, locals := 38 * d } (va_Pc av (cP Z b)) (cQ Z r b') 0 0 (AA Z)
theorem Con.eq {Z : Zt} {y : MethodName} {cc : ByteArray} {mL : Nat} {ret : Option FieldType} {d : Nat} {av : List Value} {b : Mem} {r r2 : Option Value} {b' b2 : Mem} (h : Con Z y cc mL ret d av b r b') (hr : r = r2) (hb : b' = b2) : Con Z y cc mL ret d av b r2 b2 := by
  subst hr; subst hb; exact h
section CON
variable {Z : Zt} {y : MethodName} {cc : ByteArray} {mL : Nat} {d : Nat} {av : List Value} {b : Mem} {b' : Mem} {L0 : List (Option Value)}
theorem con_i {v : Int32} (hy : plainName y.cls = true) (hn : (lg_sl av).length ≤ mL) (hL : entL av mL = L0) 
    (body : ∀ X : Xt, Ok Z X cc mL y.cls d → (∀ (pc : Nat) (L : List (Option Value)) (bb : Mem) (x : Int32), decode cc pc = .ok (.ireturn, 1) → bb = b' → x = v → G Z X bb pc L [.int x]) → G Z X b 0 L0 []) : Con Z y cc mL (some .int) d av b (some (.int v)) b' := by
  refine Met.ofW (cc := cc) (maxL := mL) (ret := (some .int)) hy rfl ?_
  intro p e s m args below meth c s₁ B hml hv
  obtain ⟨rfl, hP, hK⟩ := hv
  have hts := atoms_spec (ws := .code y cc mL (some .int) :: TB) B.pre
  rw [lg_entry_eq]
  have hlk := B.notSynchronized
  refine body (p, e, { frames := d, cells := 0, slots := 0, locals := 38 * d }, s, m, av.toArray, below, meth, c, (0, 0), MQ below (cQ Z (some (.int v)) b') av.toArray s 0 0 (AA Z)) ⟨B.exec, B.bytes, hml, findClass_of_methodNamed B.named, fun w hw => hts w (List.mem_cons_of_mem _ hw), hK, Nat.le_refl _, Nat.le_refl _, Nat.le_refl _, Nat.le_refl _⟩ ?_ s.heap [] _ hP va_S.rf (by rw [← hL]; exact lvk.entry av hn)
  intro pc L bb x dg hb hx
  subst hb; subst hx
  intro H locs ls hP hS hl
  exact W.iret B.exec B.bytes B.returns (fun t ht _ => ⟨⟨rfl, by rw [ht]; exact hP⟩, hS.F ht⟩) hS.2.2 dg
theorem con_z {v : Int32} (hy : plainName y.cls = true) (hn : (lg_sl av).length ≤ mL) (hL : entL av mL = L0) (hz : narrow .boolean (.int v) = .int v)
    (body : ∀ X : Xt, Ok Z X cc mL y.cls d → (∀ (pc : Nat) (L : List (Option Value)) (bb : Mem) (x : Int32), decode cc pc = .ok (.ireturn, 1) → bb = b' → x = v → G Z X bb pc L [.int x]) → G Z X b 0 L0 []) : Con Z y cc mL (some .boolean) d av b (some (.int v)) b' := by
  refine Met.ofW (cc := cc) (maxL := mL) (ret := (some .boolean)) hy rfl ?_
  intro p e s m args below meth c s₁ B hml hv
  obtain ⟨rfl, hP, hK⟩ := hv
  have hts := atoms_spec (ws := .code y cc mL (some .boolean) :: TB) B.pre
  rw [lg_entry_eq]
  have hlk := B.notSynchronized
  refine body (p, e, { frames := d, cells := 0, slots := 0, locals := 38 * d }, s, m, av.toArray, below, meth, c, (0, 0), MQ below (cQ Z (some (.int v)) b') av.toArray s 0 0 (AA Z)) ⟨B.exec, B.bytes, hml, findClass_of_methodNamed B.named, fun w hw => hts w (List.mem_cons_of_mem _ hw), hK, Nat.le_refl _, Nat.le_refl _, Nat.le_refl _, Nat.le_refl _⟩ ?_ s.heap [] _ hP va_S.rf (by rw [← hL]; exact lvk.entry av hn)
  intro pc L bb x dg hb hx
  subst hb; subst hx
  intro H locs ls hP hS hl
  exact W.zret B.exec B.bytes B.returns hz (fun t ht _ => ⟨⟨rfl, by rw [ht]; exact hP⟩, hS.F ht⟩) hS.2.2 dg
theorem con_l {v : Int64} (hy : plainName y.cls = true) (hn : (lg_sl av).length ≤ mL) (hL : entL av mL = L0) 
    (body : ∀ X : Xt, Ok Z X cc mL y.cls d → (∀ (pc : Nat) (L : List (Option Value)) (bb : Mem) (x : Int64), decode cc pc = .ok (.lreturn, 1) → bb = b' → x = v → G Z X bb pc L [.long x]) → G Z X b 0 L0 []) : Con Z y cc mL (some .long) d av b (some (.long v)) b' := by
  refine Met.ofW (cc := cc) (maxL := mL) (ret := (some .long)) hy rfl ?_
  intro p e s m args below meth c s₁ B hml hv
  obtain ⟨rfl, hP, hK⟩ := hv
  have hts := atoms_spec (ws := .code y cc mL (some .long) :: TB) B.pre
  rw [lg_entry_eq]
  have hlk := B.notSynchronized
  refine body (p, e, { frames := d, cells := 0, slots := 0, locals := 38 * d }, s, m, av.toArray, below, meth, c, (0, 0), MQ below (cQ Z (some (.long v)) b') av.toArray s 0 0 (AA Z)) ⟨B.exec, B.bytes, hml, findClass_of_methodNamed B.named, fun w hw => hts w (List.mem_cons_of_mem _ hw), hK, Nat.le_refl _, Nat.le_refl _, Nat.le_refl _, Nat.le_refl _⟩ ?_ s.heap [] _ hP va_S.rf (by rw [← hL]; exact lvk.entry av hn)
  intro pc L bb x dg hb hx
  subst hb; subst hx
  intro H locs ls hP hS hl
  exact W.lret B.exec B.bytes B.returns (fun t ht _ => ⟨⟨rfl, by rw [ht]; exact hP⟩, hS.F ht⟩) hS.2.2 dg
theorem con_v (hy : plainName y.cls = true) (hn : (lg_sl av).length ≤ mL) (hL : entL av mL = L0) 
    (body : ∀ X : Xt, Ok Z X cc mL y.cls d → (∀ (pc : Nat) (L : List (Option Value)) (bb : Mem), decode cc pc = .ok (.return_, 1) → bb = b' → G Z X bb pc L []) → G Z X b 0 L0 []) : Con Z y cc mL none d av b none b' := by
  refine Met.ofW (cc := cc) (maxL := mL) (ret := none) hy rfl ?_
  intro p e s m args below meth c s₁ B hml hv
  obtain ⟨rfl, hP, hK⟩ := hv
  have hts := atoms_spec (ws := .code y cc mL none :: TB) B.pre
  rw [lg_entry_eq]
  have hlk := B.notSynchronized
  refine body (p, e, { frames := d, cells := 0, slots := 0, locals := 38 * d }, s, m, av.toArray, below, meth, c, (0, 0), MQ below (cQ Z none b') av.toArray s 0 0 (AA Z)) ⟨B.exec, B.bytes, hml, findClass_of_methodNamed B.named, fun w hw => hts w (List.mem_cons_of_mem _ hw), hK, Nat.le_refl _, Nat.le_refl _, Nat.le_refl _, Nat.le_refl _⟩ ?_ s.heap [] _ hP va_S.rf (by rw [← hL]; exact lvk.entry av hn)
  intro pc L bb dg hb
  subst hb
  intro H locs ls hP hS hl
  exact W.vret B.exec B.bytes B.returns (fun t ht _ => ⟨⟨rfl, by rw [ht]; exact hP⟩, hS.F ht⟩) hS.2.2 dg
theorem con_a {v : Nat} {C : String} (hy : plainName y.cls = true) (hn : (lg_sl av).length ≤ mL) (hL : entL av mL = L0) 
    (body : ∀ X : Xt, Ok Z X cc mL y.cls d → (∀ (pc : Nat) (L : List (Option Value)) (bb : Mem) (x : Nat), decode cc pc = .ok (.areturn, 1) → bb = b' → x = v → G Z X bb pc L [.ref x]) → G Z X b 0 L0 []) : Con Z y cc mL (some (.object C)) d av b (some (.ref v)) b' := by
  refine Met.ofW (cc := cc) (maxL := mL) (ret := (some (.object C))) hy rfl ?_
  intro p e s m args below meth c s₁ B hml hv
  obtain ⟨rfl, hP, hK⟩ := hv
  have hts := atoms_spec (ws := .code y cc mL (some (.object C)) :: TB) B.pre
  rw [lg_entry_eq]
  have hlk := B.notSynchronized
  refine body (p, e, { frames := d, cells := 0, slots := 0, locals := 38 * d }, s, m, av.toArray, below, meth, c, (0, 0), MQ below (cQ Z (some (.ref v)) b') av.toArray s 0 0 (AA Z)) ⟨B.exec, B.bytes, hml, findClass_of_methodNamed B.named, fun w hw => hts w (List.mem_cons_of_mem _ hw), hK, Nat.le_refl _, Nat.le_refl _, Nat.le_refl _, Nat.le_refl _⟩ ?_ s.heap [] _ hP va_S.rf (by rw [← hL]; exact lvk.entry av hn)
  intro pc L bb x dg hb hx
  subst hb; subst hx
  intro H locs ls hP hS hl
  exact W.aret B.exec B.bytes B.returns (Or.inl ⟨_, rfl⟩) (Or.inr ⟨_, rfl⟩) (fun t ht _ => ⟨⟨rfl, by rw [ht]; exact hP⟩, hS.F ht⟩) hS.2.2 dg
end CON
/-- what a call needs of the tables for a method -/
def mokB (y : MethodName) (cc : ByteArray) (mL : Nat) (ret : Option FieldType) (n : Nat) : Prop := Cond.code y cc mL ret ∈ TB ∧ Cond.initialized y.cls ∈ TB ∧ (y.cls ≠ "java/lang/invoke/MethodHandle" ∧ y.cls ≠ "java/lang/invoke/VarHandle" ∧ (parseMethodDescriptor y.desc).map (fun d => d.parameters.length) = some n) ∧ mL ≤ 19
def mokI (y : MethodName) (cc : ByteArray) (mL : Nat) (ret : Option FieldType) (n : Nat) : Prop := mokB y cc mL ret n ∧ Cond.instanceMethod y ∈ TB ∧ Cond.selects y.cls y y ∈ TB
def mokS (y : MethodName) (cc : ByteArray) (mL : Nat) (ret : Option FieldType) (n : Nat) : Prop := mokB y cc mL ret n ∧ Cond.static y ∈ TB
/-- cell i is an object of class C -/
def isObj (Z : Zt) (b : Mem) (i : Nat) (C : String) : Prop := i < NC ∧ ∃ (ci : Nat) (fs : List Value) (T : u_T) (N : Nat), sh Z i (b i) = .inr (ci, fs) ∧ vwCl[ci]? = some (C, T, N)
theorem cP_blind (Z : Zt) (b : Mem) (av : List Value) : FrameBlind (va_Pc av (cP Z b)) := fun a U g mk q => ⟨q.1, q.2.1, q.2.2.calling g mk a⟩
section CALLS
variable {Z : Zt} {X : Xt} {cc : ByteArray} {nL d : Nat} {own : String} {b b' : Mem} {pc : Nat} {L : List (Option Value)} {st rest : List Value} {r : Option Value}
theorem g_run (hrun : ∀ (H : Heap) (locs : List Loc) (ls : Array Slot), va_P Z.2.1 vwCl (ww Z b) H → va_S (AA Z) X.2.2.2.1.heap H locs → lvk ls L → ∃ a : Array Value,
    va_Run X.1 Z.1 X.2.1 X.2.2.1 X.2.2.2.1 X.2.2.2.2.1 X.2.2.2.2.2.1 X.2.2.2.2.2.2.1 X.2.2.2.2.2.2.2.1 X.2.2.2.2.2.2.2.2.1 H locs X.2.2.2.2.2.2.2.2.2.1.1 X.2.2.2.2.2.2.2.2.2.1.2 0 0 (F0 X.2.2.2.2.1 pc ls st) rest (cQ Z r b' a) (AA Z))
    (k : G Z X b' (pc + 3) L (r.toList ++ rest)) : G Z X b pc L st := by
  intro H locs ls hP hS hl T hT XX
  obtain ⟨a, hr⟩ := hrun H locs ls hP hS hl
  obtain ⟨v, st₀, t, T', L', h0, X', hL, e1, e2, ⟨⟨hv, hP'⟩, hz, hk⟩, sst⟩ := hr T hT XX
  have hv : v = r := by injection hv
  subst hv
  rw [h0] at hz hk
  obtain ⟨t2, a1, b1⟩ := k T'.heap (locs ++ L') ls (by rw [e1]; exact hP')
    ⟨Nat.le_trans hS.1 (by rw [e1]; exact hz), fun q h1 h2 => by rw [e1, hk q (Nat.lt_of_lt_of_le h1 hS.1) h2]; exact hS.2.1 q h1 h2, fun q hq => by
      rcases List.mem_append.mp hq with h | h
      · exact hS.2.2 q h
      · exact hL q h⟩ hl T' rfl X'
  exact ⟨t2, sst t2 a1, b1⟩
theorem g_callV {y : MethodName} {cy : ByteArray} {mL n d' i index : Nat} {ret : Option FieldType} {As : List Value} (hX : Ok Z X cc nL own d) (hm : mokI y cy mL ret n) (hl0 : Cond.methodLink own index y ∈ TB) (hC : Con Z y cy mL ret d' (.ref (zad Z i) :: As) b r b') (ho : isObj Z b i y.cls) (hLn : L.length = nL) (hd : d' + 1 ≤ d) (hn : As.length = n) (hw : (rest.map fun v => v.category).sum ≤ 8) (hst : st = As.reverse ++ .ref (zad Z i) :: rest) (dg : decode cc pc = .ok (.invokevirtual index, 3))
    (k : G Z X b' (pc + 3) L (r.toList ++ rest)) : G Z X b pc L st := by
  obtain ⟨hx, hb, hml, hown, hts, hK, hrf, hrl, hcl, hsl⟩ := hX
  obtain ⟨⟨m1, m2, m3, m4⟩, m5, m6⟩ := hm
  obtain ⟨hi, ci, fs, T, N, ho1, ho2⟩ := ho
  refine g_run (fun H locs ls hP hS hl => ⟨(Value.ref (zad Z i) :: As).toArray, ?_⟩) k
  exact va_runV (Ts := TB) (As := As) (rest := rest) (n := n) (nL := nL) ⟨hx, hb, hml, hown, hts⟩ hC ⟨callB_of n hts (tb_code m1) rfl rfl rfl (hts _ m2) (hts _ hl0) m3 ⟨by show d' + 1 ≤ _; omega, by show 8 + (mL + 11) + 38 * d' ≤ _; omega⟩, hts _ m5, hts _ m6⟩
    ⟨cP_blind Z b _, va_recv hK.1 hP ho2 ((ww_get Z b hi).trans (by rw [ho1])), fun U hU hW => ⟨rfl, by rw [hU]; exact hP, hK.to hS hU hW⟩⟩ rfl hn (hl.1.trans hLn) hst (lv_room hw) dg ⟨hcl, hsl⟩
theorem g_callS {y : MethodName} {cy : ByteArray} {mL n d' index : Nat} {ret : Option FieldType} {As : List Value} (hX : Ok Z X cc nL own d) (hm : mokS y cy mL ret n) (hl0 : Cond.methodLink own index y ∈ TB) (hC : Con Z y cy mL ret d' As b r b') (hLn : L.length = nL) (hd : d' + 1 ≤ d) (hn : As.length = n) (hw : (rest.map fun v => v.category).sum ≤ 8) (hst : st = As.reverse ++ rest) (dg : decode cc pc = .ok (.invokestatic index, 3))
    (k : G Z X b' (pc + 3) L (r.toList ++ rest)) : G Z X b pc L st := by
  obtain ⟨hx, hb, hml, hown, hts, hK, hrf, hrl, hcl, hsl⟩ := hX
  obtain ⟨⟨m1, m2, m3, m4⟩, m5⟩ := hm
  refine g_run (fun H locs ls hP hS hl => ⟨As.toArray, ?_⟩) k
  exact va_runS (Ts := TB) (As := As) (rest := rest) (n := n) (nL := nL) ⟨hx, hb, hml, hown, hts⟩ hC ⟨callB_of n hts (tb_code m1) rfl rfl rfl (hts _ m2) (hts _ hl0) m3 ⟨by show d' + 1 ≤ _; omega, by show 8 + (mL + 11) + 38 * d' ≤ _; omega⟩, hts _ m5⟩
    ⟨cP_blind Z b _, fun U hU hW => ⟨rfl, by rw [hU]; exact hP, hK.to hS hU hW⟩⟩ rfl hn (hl.1.trans hLn) hst (lv_room hw) dg ⟨hcl, hsl⟩
theorem g_callN {y : MethodName} {cy : ByteArray} {mL n d' index : Nat} {ret : Option FieldType} {As : List Value} (hX : Ok Z X cc nL own d) (hm : mokS y cy mL ret n) (hl0 : (own, index, y) ∈ nestM) (hC : Con Z y cy mL ret d' As b r b') (hLn : L.length = nL) (hd : d' + 1 ≤ d) (hn : As.length = n) (hw : (rest.map fun v => v.category).sum ≤ 8) (hst : st = As.reverse ++ rest) (dg : decode cc pc = .ok (.invokestatic index, 3))
    (k : G Z X b' (pc + 3) L (r.toList ++ rest)) : G Z X b pc L st := by
  obtain ⟨hx, hb, hml, hown, hts, hK, hrf, hrl, hcl, hsl⟩ := hX
  obtain ⟨⟨m1, m2, m3, m4⟩, m5⟩ := hm
  refine g_run (fun H locs ls hP hS hl => ⟨As.toArray, ?_⟩) k
  exact va_runSN (Ts := TB) (As := As) (rest := rest) (n := n) (nL := nL) ⟨hx, hb, hml, hown, hts⟩ hC ⟨va_cnB n hts (tb_code m1) rfl rfl rfl (hK.2.1 _ hl0) (hts _ m2) m3 ⟨by show d' + 1 ≤ _; omega, by show 8 + (mL + 11) + 38 * d' ≤ _; omega⟩, hts _ m5, trivial⟩
    ⟨cP_blind Z b _, fun U hU hW => ⟨rfl, by rw [hU]; exact hP, hK.to hS hU hW⟩⟩ rfl hn (hl.1.trans hLn) hst (lv_room hw) dg ⟨hcl, hsl⟩
theorem g_cV0r {y : MethodName} {cy : ByteArray} {mL d' i index : Nat} {ret : Option FieldType} {w : Value} (hX : Ok Z X cc nL own d) (hm : mokI y cy mL ret 0) (hl0 : Cond.methodLink own index y ∈ TB) (hC : Con Z y cy mL ret d' (.ref (zad Z i) :: []) b (some w) b') (ho : isObj Z b i y.cls) (dg : decode cc pc = .ok (.invokevirtual index, 3)) (hLn : L.length = nL) (hd : d' + 1 ≤ d) (hw : (rest.map fun v => v.category).sum ≤ 8) (k : G Z X b' (pc + 3) L (w :: rest)) : G Z X b pc L (.ref (zad Z i) :: rest) :=
  g_callV hX hm hl0 hC ho hLn hd rfl hw rfl dg k
theorem g_cS0r {y : MethodName} {cy : ByteArray} {mL d' index : Nat} {ret : Option FieldType} {w : Value} (hX : Ok Z X cc nL own d) (hm : mokS y cy mL ret 0) (hl0 : Cond.methodLink own index y ∈ TB) (hC : Con Z y cy mL ret d' [] b (some w) b') (dg : decode cc pc = .ok (.invokestatic index, 3)) (hLn : L.length = nL) (hd : d' + 1 ≤ d) (hw : (rest.map fun v => v.category).sum ≤ 8) (k : G Z X b' (pc + 3) L (w :: rest)) : G Z X b pc L (rest) :=
  g_callS hX hm hl0 hC hLn hd rfl hw rfl dg k
theorem g_cN0r {y : MethodName} {cy : ByteArray} {mL d' index : Nat} {ret : Option FieldType} {w : Value} (hX : Ok Z X cc nL own d) (hm : mokS y cy mL ret 0) (hl0 : (own, index, y) ∈ nestM) (hC : Con Z y cy mL ret d' [] b (some w) b') (dg : decode cc pc = .ok (.invokestatic index, 3)) (hLn : L.length = nL) (hd : d' + 1 ≤ d) (hw : (rest.map fun v => v.category).sum ≤ 8) (k : G Z X b' (pc + 3) L (w :: rest)) : G Z X b pc L (rest) :=
  g_callN hX hm hl0 hC hLn hd rfl hw rfl dg k
theorem g_cV0v {y : MethodName} {cy : ByteArray} {mL d' i index : Nat} {ret : Option FieldType} (hX : Ok Z X cc nL own d) (hm : mokI y cy mL ret 0) (hl0 : Cond.methodLink own index y ∈ TB) (hC : Con Z y cy mL ret d' (.ref (zad Z i) :: []) b none b') (ho : isObj Z b i y.cls) (dg : decode cc pc = .ok (.invokevirtual index, 3)) (hLn : L.length = nL) (hd : d' + 1 ≤ d) (hw : (rest.map fun v => v.category).sum ≤ 8) (k : G Z X b' (pc + 3) L rest) : G Z X b pc L (.ref (zad Z i) :: rest) :=
  g_callV hX hm hl0 hC ho hLn hd rfl hw rfl dg k
theorem g_cS0v {y : MethodName} {cy : ByteArray} {mL d' index : Nat} {ret : Option FieldType} (hX : Ok Z X cc nL own d) (hm : mokS y cy mL ret 0) (hl0 : Cond.methodLink own index y ∈ TB) (hC : Con Z y cy mL ret d' [] b none b') (dg : decode cc pc = .ok (.invokestatic index, 3)) (hLn : L.length = nL) (hd : d' + 1 ≤ d) (hw : (rest.map fun v => v.category).sum ≤ 8) (k : G Z X b' (pc + 3) L rest) : G Z X b pc L (rest) :=
  g_callS hX hm hl0 hC hLn hd rfl hw rfl dg k
theorem g_cN0v {y : MethodName} {cy : ByteArray} {mL d' index : Nat} {ret : Option FieldType} (hX : Ok Z X cc nL own d) (hm : mokS y cy mL ret 0) (hl0 : (own, index, y) ∈ nestM) (hC : Con Z y cy mL ret d' [] b none b') (dg : decode cc pc = .ok (.invokestatic index, 3)) (hLn : L.length = nL) (hd : d' + 1 ≤ d) (hw : (rest.map fun v => v.category).sum ≤ 8) (k : G Z X b' (pc + 3) L rest) : G Z X b pc L (rest) :=
  g_callN hX hm hl0 hC hLn hd rfl hw rfl dg k
theorem g_cV1r {y : MethodName} {cy : ByteArray} {mL d' i index : Nat} {ret : Option FieldType} {v1 : Value} {w : Value} (hX : Ok Z X cc nL own d) (hm : mokI y cy mL ret 1) (hl0 : Cond.methodLink own index y ∈ TB) (hC : Con Z y cy mL ret d' (.ref (zad Z i) :: [v1]) b (some w) b') (ho : isObj Z b i y.cls) (dg : decode cc pc = .ok (.invokevirtual index, 3)) (hLn : L.length = nL) (hd : d' + 1 ≤ d) (hw : (rest.map fun v => v.category).sum ≤ 8) (k : G Z X b' (pc + 3) L (w :: rest)) : G Z X b pc L (v1 :: .ref (zad Z i) :: rest) :=
  g_callV hX hm hl0 hC ho hLn hd rfl hw rfl dg k
theorem g_cS1r {y : MethodName} {cy : ByteArray} {mL d' index : Nat} {ret : Option FieldType} {v1 : Value} {w : Value} (hX : Ok Z X cc nL own d) (hm : mokS y cy mL ret 1) (hl0 : Cond.methodLink own index y ∈ TB) (hC : Con Z y cy mL ret d' [v1] b (some w) b') (dg : decode cc pc = .ok (.invokestatic index, 3)) (hLn : L.length = nL) (hd : d' + 1 ≤ d) (hw : (rest.map fun v => v.category).sum ≤ 8) (k : G Z X b' (pc + 3) L (w :: rest)) : G Z X b pc L (v1 :: rest) :=
  g_callS hX hm hl0 hC hLn hd rfl hw rfl dg k
theorem g_cN1r {y : MethodName} {cy : ByteArray} {mL d' index : Nat} {ret : Option FieldType} {v1 : Value} {w : Value} (hX : Ok Z X cc nL own d) (hm : mokS y cy mL ret 1) (hl0 : (own, index, y) ∈ nestM) (hC : Con Z y cy mL ret d' [v1] b (some w) b') (dg : decode cc pc = .ok (.invokestatic index, 3)) (hLn : L.length = nL) (hd : d' + 1 ≤ d) (hw : (rest.map fun v => v.category).sum ≤ 8) (k : G Z X b' (pc + 3) L (w :: rest)) : G Z X b pc L (v1 :: rest) :=
  g_callN hX hm hl0 hC hLn hd rfl hw rfl dg k
theorem g_cV1v {y : MethodName} {cy : ByteArray} {mL d' i index : Nat} {ret : Option FieldType} {v1 : Value} (hX : Ok Z X cc nL own d) (hm : mokI y cy mL ret 1) (hl0 : Cond.methodLink own index y ∈ TB) (hC : Con Z y cy mL ret d' (.ref (zad Z i) :: [v1]) b none b') (ho : isObj Z b i y.cls) (dg : decode cc pc = .ok (.invokevirtual index, 3)) (hLn : L.length = nL) (hd : d' + 1 ≤ d) (hw : (rest.map fun v => v.category).sum ≤ 8) (k : G Z X b' (pc + 3) L rest) : G Z X b pc L (v1 :: .ref (zad Z i) :: rest) :=
  g_callV hX hm hl0 hC ho hLn hd rfl hw rfl dg k
theorem g_cS1v {y : MethodName} {cy : ByteArray} {mL d' index : Nat} {ret : Option FieldType} {v1 : Value} (hX : Ok Z X cc nL own d) (hm : mokS y cy mL ret 1) (hl0 : Cond.methodLink own index y ∈ TB) (hC : Con Z y cy mL ret d' [v1] b none b') (dg : decode cc pc = .ok (.invokestatic index, 3)) (hLn : L.length = nL) (hd : d' + 1 ≤ d) (hw : (rest.map fun v => v.category).sum ≤ 8) (k : G Z X b' (pc + 3) L rest) : G Z X b pc L (v1 :: rest) :=
  g_callS hX hm hl0 hC hLn hd rfl hw rfl dg k
theorem g_cN1v {y : MethodName} {cy : ByteArray} {mL d' index : Nat} {ret : Option FieldType} {v1 : Value} (hX : Ok Z X cc nL own d) (hm : mokS y cy mL ret 1) (hl0 : (own, index, y) ∈ nestM) (hC : Con Z y cy mL ret d' [v1] b none b') (dg : decode cc pc = .ok (.invokestatic index, 3)) (hLn : L.length = nL) (hd : d' + 1 ≤ d) (hw : (rest.map fun v => v.category).sum ≤ 8) (k : G Z X b' (pc + 3) L rest) : G Z X b pc L (v1 :: rest) :=
  g_callN hX hm hl0 hC hLn hd rfl hw rfl dg k
theorem g_cV2r {y : MethodName} {cy : ByteArray} {mL d' i index : Nat} {ret : Option FieldType} {v1 v2 : Value} {w : Value} (hX : Ok Z X cc nL own d) (hm : mokI y cy mL ret 2) (hl0 : Cond.methodLink own index y ∈ TB) (hC : Con Z y cy mL ret d' (.ref (zad Z i) :: [v1, v2]) b (some w) b') (ho : isObj Z b i y.cls) (dg : decode cc pc = .ok (.invokevirtual index, 3)) (hLn : L.length = nL) (hd : d' + 1 ≤ d) (hw : (rest.map fun v => v.category).sum ≤ 8) (k : G Z X b' (pc + 3) L (w :: rest)) : G Z X b pc L (v2 :: v1 :: .ref (zad Z i) :: rest) :=
  g_callV hX hm hl0 hC ho hLn hd rfl hw rfl dg k
theorem g_cS2r {y : MethodName} {cy : ByteArray} {mL d' index : Nat} {ret : Option FieldType} {v1 v2 : Value} {w : Value} (hX : Ok Z X cc nL own d) (hm : mokS y cy mL ret 2) (hl0 : Cond.methodLink own index y ∈ TB) (hC : Con Z y cy mL ret d' [v1, v2] b (some w) b') (dg : decode cc pc = .ok (.invokestatic index, 3)) (hLn : L.length = nL) (hd : d' + 1 ≤ d) (hw : (rest.map fun v => v.category).sum ≤ 8) (k : G Z X b' (pc + 3) L (w :: rest)) : G Z X b pc L (v2 :: v1 :: rest) :=
  g_callS hX hm hl0 hC hLn hd rfl hw rfl dg k
theorem g_cN2r {y : MethodName} {cy : ByteArray} {mL d' index : Nat} {ret : Option FieldType} {v1 v2 : Value} {w : Value} (hX : Ok Z X cc nL own d) (hm : mokS y cy mL ret 2) (hl0 : (own, index, y) ∈ nestM) (hC : Con Z y cy mL ret d' [v1, v2] b (some w) b') (dg : decode cc pc = .ok (.invokestatic index, 3)) (hLn : L.length = nL) (hd : d' + 1 ≤ d) (hw : (rest.map fun v => v.category).sum ≤ 8) (k : G Z X b' (pc + 3) L (w :: rest)) : G Z X b pc L (v2 :: v1 :: rest) :=
  g_callN hX hm hl0 hC hLn hd rfl hw rfl dg k
theorem g_cV2v {y : MethodName} {cy : ByteArray} {mL d' i index : Nat} {ret : Option FieldType} {v1 v2 : Value} (hX : Ok Z X cc nL own d) (hm : mokI y cy mL ret 2) (hl0 : Cond.methodLink own index y ∈ TB) (hC : Con Z y cy mL ret d' (.ref (zad Z i) :: [v1, v2]) b none b') (ho : isObj Z b i y.cls) (dg : decode cc pc = .ok (.invokevirtual index, 3)) (hLn : L.length = nL) (hd : d' + 1 ≤ d) (hw : (rest.map fun v => v.category).sum ≤ 8) (k : G Z X b' (pc + 3) L rest) : G Z X b pc L (v2 :: v1 :: .ref (zad Z i) :: rest) :=
  g_callV hX hm hl0 hC ho hLn hd rfl hw rfl dg k
theorem g_cS2v {y : MethodName} {cy : ByteArray} {mL d' index : Nat} {ret : Option FieldType} {v1 v2 : Value} (hX : Ok Z X cc nL own d) (hm : mokS y cy mL ret 2) (hl0 : Cond.methodLink own index y ∈ TB) (hC : Con Z y cy mL ret d' [v1, v2] b none b') (dg : decode cc pc = .ok (.invokestatic index, 3)) (hLn : L.length = nL) (hd : d' + 1 ≤ d) (hw : (rest.map fun v => v.category).sum ≤ 8) (k : G Z X b' (pc + 3) L rest) : G Z X b pc L (v2 :: v1 :: rest) :=
  g_callS hX hm hl0 hC hLn hd rfl hw rfl dg k
theorem g_cN2v {y : MethodName} {cy : ByteArray} {mL d' index : Nat} {ret : Option FieldType} {v1 v2 : Value} (hX : Ok Z X cc nL own d) (hm : mokS y cy mL ret 2) (hl0 : (own, index, y) ∈ nestM) (hC : Con Z y cy mL ret d' [v1, v2] b none b') (dg : decode cc pc = .ok (.invokestatic index, 3)) (hLn : L.length = nL) (hd : d' + 1 ≤ d) (hw : (rest.map fun v => v.category).sum ≤ 8) (k : G Z X b' (pc + 3) L rest) : G Z X b pc L (v2 :: v1 :: rest) :=
  g_callN hX hm hl0 hC hLn hd rfl hw rfl dg k
theorem g_cV3r {y : MethodName} {cy : ByteArray} {mL d' i index : Nat} {ret : Option FieldType} {v1 v2 v3 : Value} {w : Value} (hX : Ok Z X cc nL own d) (hm : mokI y cy mL ret 3) (hl0 : Cond.methodLink own index y ∈ TB) (hC : Con Z y cy mL ret d' (.ref (zad Z i) :: [v1, v2, v3]) b (some w) b') (ho : isObj Z b i y.cls) (dg : decode cc pc = .ok (.invokevirtual index, 3)) (hLn : L.length = nL) (hd : d' + 1 ≤ d) (hw : (rest.map fun v => v.category).sum ≤ 8) (k : G Z X b' (pc + 3) L (w :: rest)) : G Z X b pc L (v3 :: v2 :: v1 :: .ref (zad Z i) :: rest) :=
  g_callV hX hm hl0 hC ho hLn hd rfl hw rfl dg k
theorem g_cS3r {y : MethodName} {cy : ByteArray} {mL d' index : Nat} {ret : Option FieldType} {v1 v2 v3 : Value} {w : Value} (hX : Ok Z X cc nL own d) (hm : mokS y cy mL ret 3) (hl0 : Cond.methodLink own index y ∈ TB) (hC : Con Z y cy mL ret d' [v1, v2, v3] b (some w) b') (dg : decode cc pc = .ok (.invokestatic index, 3)) (hLn : L.length = nL) (hd : d' + 1 ≤ d) (hw : (rest.map fun v => v.category).sum ≤ 8) (k : G Z X b' (pc + 3) L (w :: rest)) : G Z X b pc L (v3 :: v2 :: v1 :: rest) :=
  g_callS hX hm hl0 hC hLn hd rfl hw rfl dg k
theorem g_cN3r {y : MethodName} {cy : ByteArray} {mL d' index : Nat} {ret : Option FieldType} {v1 v2 v3 : Value} {w : Value} (hX : Ok Z X cc nL own d) (hm : mokS y cy mL ret 3) (hl0 : (own, index, y) ∈ nestM) (hC : Con Z y cy mL ret d' [v1, v2, v3] b (some w) b') (dg : decode cc pc = .ok (.invokestatic index, 3)) (hLn : L.length = nL) (hd : d' + 1 ≤ d) (hw : (rest.map fun v => v.category).sum ≤ 8) (k : G Z X b' (pc + 3) L (w :: rest)) : G Z X b pc L (v3 :: v2 :: v1 :: rest) :=
  g_callN hX hm hl0 hC hLn hd rfl hw rfl dg k
theorem g_cV3v {y : MethodName} {cy : ByteArray} {mL d' i index : Nat} {ret : Option FieldType} {v1 v2 v3 : Value} (hX : Ok Z X cc nL own d) (hm : mokI y cy mL ret 3) (hl0 : Cond.methodLink own index y ∈ TB) (hC : Con Z y cy mL ret d' (.ref (zad Z i) :: [v1, v2, v3]) b none b') (ho : isObj Z b i y.cls) (dg : decode cc pc = .ok (.invokevirtual index, 3)) (hLn : L.length = nL) (hd : d' + 1 ≤ d) (hw : (rest.map fun v => v.category).sum ≤ 8) (k : G Z X b' (pc + 3) L rest) : G Z X b pc L (v3 :: v2 :: v1 :: .ref (zad Z i) :: rest) :=
  g_callV hX hm hl0 hC ho hLn hd rfl hw rfl dg k
theorem g_cS3v {y : MethodName} {cy : ByteArray} {mL d' index : Nat} {ret : Option FieldType} {v1 v2 v3 : Value} (hX : Ok Z X cc nL own d) (hm : mokS y cy mL ret 3) (hl0 : Cond.methodLink own index y ∈ TB) (hC : Con Z y cy mL ret d' [v1, v2, v3] b none b') (dg : decode cc pc = .ok (.invokestatic index, 3)) (hLn : L.length = nL) (hd : d' + 1 ≤ d) (hw : (rest.map fun v => v.category).sum ≤ 8) (k : G Z X b' (pc + 3) L rest) : G Z X b pc L (v3 :: v2 :: v1 :: rest) :=
  g_callS hX hm hl0 hC hLn hd rfl hw rfl dg k
theorem g_cN3v {y : MethodName} {cy : ByteArray} {mL d' index : Nat} {ret : Option FieldType} {v1 v2 v3 : Value} (hX : Ok Z X cc nL own d) (hm : mokS y cy mL ret 3) (hl0 : (own, index, y) ∈ nestM) (hC : Con Z y cy mL ret d' [v1, v2, v3] b none b') (dg : decode cc pc = .ok (.invokestatic index, 3)) (hLn : L.length = nL) (hd : d' + 1 ≤ d) (hw : (rest.map fun v => v.category).sum ≤ 8) (k : G Z X b' (pc + 3) L rest) : G Z X b pc L (v3 :: v2 :: v1 :: rest) :=
  g_callN hX hm hl0 hC hLn hd rfl hw rfl dg k
theorem g_cV4r {y : MethodName} {cy : ByteArray} {mL d' i index : Nat} {ret : Option FieldType} {v1 v2 v3 v4 : Value} {w : Value} (hX : Ok Z X cc nL own d) (hm : mokI y cy mL ret 4) (hl0 : Cond.methodLink own index y ∈ TB) (hC : Con Z y cy mL ret d' (.ref (zad Z i) :: [v1, v2, v3, v4]) b (some w) b') (ho : isObj Z b i y.cls) (dg : decode cc pc = .ok (.invokevirtual index, 3)) (hLn : L.length = nL) (hd : d' + 1 ≤ d) (hw : (rest.map fun v => v.category).sum ≤ 8) (k : G Z X b' (pc + 3) L (w :: rest)) : G Z X b pc L (v4 :: v3 :: v2 :: v1 :: .ref (zad Z i) :: rest) :=
  g_callV hX hm hl0 hC ho hLn hd rfl hw rfl dg k
theorem g_cS4r {y : MethodName} {cy : ByteArray} {mL d' index : Nat} {ret : Option FieldType} {v1 v2 v3 v4 : Value} {w : Value} (hX : Ok Z X cc nL own d) (hm : mokS y cy mL ret 4) (hl0 : Cond.methodLink own index y ∈ TB) (hC : Con Z y cy mL ret d' [v1, v2, v3, v4] b (some w) b') (dg : decode cc pc = .ok (.invokestatic index, 3)) (hLn : L.length = nL) (hd : d' + 1 ≤ d) (hw : (rest.map fun v => v.category).sum ≤ 8) (k : G Z X b' (pc + 3) L (w :: rest)) : G Z X b pc L (v4 :: v3 :: v2 :: v1 :: rest) :=
  g_callS hX hm hl0 hC hLn hd rfl hw rfl dg k
theorem g_cN4r {y : MethodName} {cy : ByteArray} {mL d' index : Nat} {ret : Option FieldType} {v1 v2 v3 v4 : Value} {w : Value} (hX : Ok Z X cc nL own d) (hm : mokS y cy mL ret 4) (hl0 : (own, index, y) ∈ nestM) (hC : Con Z y cy mL ret d' [v1, v2, v3, v4] b (some w) b') (dg : decode cc pc = .ok (.invokestatic index, 3)) (hLn : L.length = nL) (hd : d' + 1 ≤ d) (hw : (rest.map fun v => v.category).sum ≤ 8) (k : G Z X b' (pc + 3) L (w :: rest)) : G Z X b pc L (v4 :: v3 :: v2 :: v1 :: rest) :=
  g_callN hX hm hl0 hC hLn hd rfl hw rfl dg k
theorem g_cV4v {y : MethodName} {cy : ByteArray} {mL d' i index : Nat} {ret : Option FieldType} {v1 v2 v3 v4 : Value} (hX : Ok Z X cc nL own d) (hm : mokI y cy mL ret 4) (hl0 : Cond.methodLink own index y ∈ TB) (hC : Con Z y cy mL ret d' (.ref (zad Z i) :: [v1, v2, v3, v4]) b none b') (ho : isObj Z b i y.cls) (dg : decode cc pc = .ok (.invokevirtual index, 3)) (hLn : L.length = nL) (hd : d' + 1 ≤ d) (hw : (rest.map fun v => v.category).sum ≤ 8) (k : G Z X b' (pc + 3) L rest) : G Z X b pc L (v4 :: v3 :: v2 :: v1 :: .ref (zad Z i) :: rest) :=
  g_callV hX hm hl0 hC ho hLn hd rfl hw rfl dg k
theorem g_cS4v {y : MethodName} {cy : ByteArray} {mL d' index : Nat} {ret : Option FieldType} {v1 v2 v3 v4 : Value} (hX : Ok Z X cc nL own d) (hm : mokS y cy mL ret 4) (hl0 : Cond.methodLink own index y ∈ TB) (hC : Con Z y cy mL ret d' [v1, v2, v3, v4] b none b') (dg : decode cc pc = .ok (.invokestatic index, 3)) (hLn : L.length = nL) (hd : d' + 1 ≤ d) (hw : (rest.map fun v => v.category).sum ≤ 8) (k : G Z X b' (pc + 3) L rest) : G Z X b pc L (v4 :: v3 :: v2 :: v1 :: rest) :=
  g_callS hX hm hl0 hC hLn hd rfl hw rfl dg k
theorem g_cN4v {y : MethodName} {cy : ByteArray} {mL d' index : Nat} {ret : Option FieldType} {v1 v2 v3 v4 : Value} (hX : Ok Z X cc nL own d) (hm : mokS y cy mL ret 4) (hl0 : (own, index, y) ∈ nestM) (hC : Con Z y cy mL ret d' [v1, v2, v3, v4] b none b') (dg : decode cc pc = .ok (.invokestatic index, 3)) (hLn : L.length = nL) (hd : d' + 1 ≤ d) (hw : (rest.map fun v => v.category).sum ≤ 8) (k : G Z X b' (pc + 3) L rest) : G Z X b pc L (v4 :: v3 :: v2 :: v1 :: rest) :=
  g_callN hX hm hl0 hC hLn hd rfl hw rfl dg k
theorem g_max {index : Nat} {x y : Int32} (hX : Ok Z X cc nL own d) (w1 : Cond.methodLink own index Lib.Math.max.name ∈ TB) (w2 : Cond.static Lib.Math.max.name ∈ TB) (w3 : Cond.initialized "java/lang/Math" ∈ TB) (w4 : Cond.code Lib.Math.max.name Lib.Math.max.code 2 (some .int) ∈ TB) (dg : decode cc pc = .ok (.invokestatic index, 3)) (hLn : L.length = nL) (hd : 1 ≤ d) (hw : (st.map fun v => v.category).sum ≤ 8)
    (k : G Z X b (pc + 3) L (.int (if x < y then y else x) :: st)) : G Z X b pc L (.int y :: .int x :: st) := by
  obtain ⟨hx, hb, hml, hown, hts, hK, hrf, hrl, hcl, hsl⟩ := hX
  intro H locs ls hP hS hl
  exact va_mmax hx hb (hml.trans (hLn.symm.trans hl.1.symm)) hown (hts _ w1) (hts _ w2) (hts _ w3) (hts _ w4) (by omega) (by omega) hcl hsl dg (k H locs ls hP hS hl)
theorem g_min {index : Nat} {x y : Int32} (hX : Ok Z X cc nL own d) (w1 : Cond.methodLink own index Lib.Math.min.name ∈ TB) (w2 : Cond.static Lib.Math.min.name ∈ TB) (w3 : Cond.initialized "java/lang/Math" ∈ TB) (w4 : Cond.code Lib.Math.min.name Lib.Math.min.code 2 (some .int) ∈ TB) (dg : decode cc pc = .ok (.invokestatic index, 3)) (hLn : L.length = nL) (hd : 1 ≤ d) (hw : (st.map fun v => v.category).sum ≤ 8)
    (k : G Z X b (pc + 3) L (.int (if y < x then y else x) :: st)) : G Z X b pc L (.int y :: .int x :: st) := by
  obtain ⟨hx, hb, hml, hown, hts, hK, hrf, hrl, hcl, hsl⟩ := hX
  intro H locs ls hP hS hl
  exact va_mmin hx hb (hml.trans (hLn.symm.trans hl.1.symm)) hown (hts _ w1) (hts _ w2) (hts _ w3) (hts _ w4) (by omega) (by omega) hcl hsl dg (k H locs ls hP hS hl)
theorem g_abs {index : Nat} {x : Int32} (hX : Ok Z X cc nL own d) (w1 : Cond.methodLink own index Lib.Math.abs.name ∈ TB) (w2 : Cond.static Lib.Math.abs.name ∈ TB) (w3 : Cond.initialized "java/lang/Math" ∈ TB) (w4 : Cond.code Lib.Math.abs.name Lib.Math.abs.code 1 (some .int) ∈ TB) (dg : decode cc pc = .ok (.invokestatic index, 3)) (hLn : L.length = nL) (hd : 1 ≤ d) (hw : (st.map fun v => v.category).sum ≤ 8)
    (k : G Z X b (pc + 3) L (.int (if 0 ≤ x then x else 0 - x) :: st)) : G Z X b pc L (.int x :: st) := by
  obtain ⟨hx, hb, hml, hown, hts, hK, hrf, hrl, hcl, hsl⟩ := hX
  intro H locs ls hP hS hl
  exact va_mabs hx hb (hml.trans (hLn.symm.trans hl.1.symm)) hown (hts _ w1) (hts _ w2) (hts _ w3) (hts _ w4) (by omega) (by omega) hcl hsl dg (k H locs ls hP hS hl)
theorem g_copy {i j n0 n1 index : Nat} {n : Int32} (hX : Ok Z X cc nL own d) (hi : isArr Z i n0) (hj : isArr Z j n1) (w1 : Cond.methodLink own index arraycopyName ∈ TB) (w2 : Cond.native arraycopyName ∈ TB) (w3 : Cond.static arraycopyName ∈ TB) (w4 : Cond.initialized "java/lang/System" ∈ TB) (h3 : ¬ n < 0) (h4 : n.toNatClampNeg ≤ n0) (h5 : n.toNatClampNeg ≤ n1) (hLn : L.length = nL) (hd : 1 ≤ d) (hw : (st.map fun v => v.category).sum ≤ 8) (dg : decode cc pc = .ok (.invokestatic index, 3))
    (k : G Z X (up1 b j (va_cpy (b i) (b j) 0 0 n.toNatClampNeg)) (pc + 3) L st) : G Z X b pc L (.int n :: .int 0 :: .ref (zad Z j) :: .int 0 :: .ref (zad Z i) :: st) := by
  obtain ⟨hx, hb, hml, hown, hts, hK, hrf, hrl, hcl, hsl⟩ := hX
  intro H locs ls hP hS hl
  refine va_copyi (ty := .int) hx hb (hml.trans (hLn.symm.trans hl.1.symm)) hown (hts _ w1) (hts _ w2) (hts _ w3) (hts _ w4) hK.1 hP (hK.D b) hS i j 0 0 ((ww_get Z b hi.1).trans (by rw [hi.2])) ((ww_get Z b hj.1).trans (by rw [hj.2])) rfl rfl rfl (by decide) (by decide) h3 (by show 0 + _ ≤ _; omega) (by show 0 + _ ≤ _; omega) (fun _ _ => rfl) (by omega) (by show _ + (7 + 11) ≤ _; omega) dg (fun H1 locs1 hP1 _ hS1 => ?_)
  rw [sb_cl0] at hP1
  rw [ww_set Z b (va_cpy (b i) (b j) 0 0 n.toNatClampNeg) hj.1 (hj.2 _)] at hP1
  exact k H1 locs1 ls hP1 hS1 hl
end CALLS
