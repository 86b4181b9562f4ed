/-! contracts whose memory is told by what holds of it -/
def cQE (Z : Zt) (post : Option Value → Mem → Prop) : Array Value → State → Outcome → State → Prop := fun _ st o t => (∃ (r : Option Value) (b' : Mem), o = .returned r ∧ post r b' ∧ va_P Z.2.1 vwCl (ww Z b') t.heap) ∧ va_F (AA Z) st t
def ConE (Z : Zt) (y : MethodName) (cc : ByteArray) (mL : Nat) (ret : Option FieldType) (d : Nat) (av : List Value) (b : Mem) (post : Option Value → Mem → Prop) : Prop :=
  Met Z.1 y (.code y cc mL ret :: TB) { frames := d, cells := 0, slots := 0, locals := 38 * d } (va_Pc av (cP Z b)) (cQE Z post) 0 0 (AA Z)
def pI (post : Int32 → Mem → Prop) : Option Value → Mem → Prop := fun r b' => ∃ x, r = some (.int x) ∧ post x b'
def pL (post : Int64 → Mem → Prop) : Option Value → Mem → Prop := fun r b' => ∃ x, r = some (.long x) ∧ post x b'
def pR (a : Nat) (post : Mem → Prop) : Option Value → Mem → Prop := fun r b' => r = some (.ref a) ∧ post b'
def pV (post : Mem → Prop) : Option Value → Mem → Prop := fun r b' => r = none ∧ post b'
theorem Met.weaken {l : Launch} {y : MethodName} {ws : List Cond} {rm : Room} {Pc : Array Value → State → Prop} {Qc Qc' : Array Value → State → Outcome → State → Prop} {mc ms : Nat} {free : Addr → Prop} (h : Met l y ws rm Pc Qc mc ms free) (hQ : ∀ a st o t, Qc a st o t → Qc' a st o t) : Met l y ws rm Pc Qc' mc ms free := by
  intro p e ha hc hk s m args below hf hap hP hK
  obtain ⟨t, o, h1, h2, h3, hq, hL⟩ := h p e ha hc hk s m args below hf hap hP hK
  exact ⟨t, o, h1, h2, h3, hQ _ _ _ _ hq, hL⟩
theorem Con.toE {Z : Zt} {y : MethodName} {cc : ByteArray} {mL : Nat} {ret : Option FieldType} {d : Nat} {av : List Value} {b : Mem} {r : Option Value} {b' : Mem} {post : Option Value → Mem → Prop} (h : Con Z y cc mL ret d av b r b') (hp : post r b') : ConE Z y cc mL ret d av b post :=
  Met.weaken h (fun _ _ _ _ hq => ⟨⟨r, b', hq.1.1, hp, hq.1.2⟩, hq.2⟩)
theorem ConE.mono {Z : Zt} {y : MethodName} {cc : ByteArray} {mL : Nat} {ret : Option FieldType} {d : Nat} {av : List Value} {b : Mem} {post post' : Option Value → Mem → Prop} (h : ConE Z y cc mL ret d av b post) (hp : ∀ r b', post r b' → post' r b') : ConE Z y cc mL ret d av b post' :=
  Met.weaken h (fun _ _ _ _ hq => by
    obtain ⟨⟨r, b', h1, h2, h3⟩, h4⟩ := hq
    exact ⟨⟨r, b', h1, hp r b' h2, h3⟩, h4⟩)
section CONE
variable {Z : Zt} {y : MethodName} {cc : ByteArray} {mL : Nat} {d : Nat} {av : List Value} {b : Mem} {L0 : List (Option Value)}
theorem conE_i {post : Int32 → Mem → Prop} (hy : plainName y.cls = true) (hn : (lg_sl av).length ≤ mL) (hL : entL av mL = L0) 
    (body : ∀ X : Xt, Ok Z X cc mL y.cls d → (∀ (pc : Nat) (L : List (Option Value)) (bb : Mem) (x : Int32), decode cc pc = .ok (.ireturn, 1) → post x bb → G Z X bb pc L [.int x]) → G Z X b 0 L0 []) : ConE Z y cc mL (some .int) d av b (pI post) := by
  refine Met.ofW (cc := cc) (maxL := mL) (ret := (some .int)) hy rfl ?_
  intro p e s m args below meth c s₁ B hml hv
  obtain ⟨rfl, hP, hK⟩ := hv
  have hts := atoms_spec (ws := .code y cc mL (some .int) :: TB) B.pre
  rw [lg_entry_eq]
  have hlk := B.notSynchronized
  refine body (p, e, { frames := d, cells := 0, slots := 0, locals := 38 * d }, s, m, av.toArray, below, meth, c, (0, 0), MQ below (cQE Z (pI post)) av.toArray s 0 0 (AA Z)) ⟨B.exec, B.bytes, hml, findClass_of_methodNamed B.named, fun w hw => hts w (List.mem_cons_of_mem _ hw), hK, Nat.le_refl _, Nat.le_refl _, Nat.le_refl _, Nat.le_refl _⟩ ?_ s.heap [] _ hP va_S.rf (by rw [← hL]; exact lvk.entry av hn)
  intro pc L bb x dg hp
  intro H locs ls hP hS hl
  exact W.iret B.exec B.bytes B.returns (fun t ht _ => ⟨⟨_, bb, rfl, ⟨x, rfl, hp⟩, by rw [ht]; exact hP⟩, hS.F ht⟩) hS.2.2 dg
theorem conE_z {post : Int32 → Mem → Prop} (hy : plainName y.cls = true) (hn : (lg_sl av).length ≤ mL) (hL : entL av mL = L0) 
    (body : ∀ X : Xt, Ok Z X cc mL y.cls d → (∀ (pc : Nat) (L : List (Option Value)) (bb : Mem) (x : Int32), decode cc pc = .ok (.ireturn, 1) → narrow .boolean (.int x) = .int x → post x bb → G Z X bb pc L [.int x]) → G Z X b 0 L0 []) : ConE Z y cc mL (some .boolean) d av b (pI post) := by
  refine Met.ofW (cc := cc) (maxL := mL) (ret := (some .boolean)) hy rfl ?_
  intro p e s m args below meth c s₁ B hml hv
  obtain ⟨rfl, hP, hK⟩ := hv
  have hts := atoms_spec (ws := .code y cc mL (some .boolean) :: TB) B.pre
  rw [lg_entry_eq]
  have hlk := B.notSynchronized
  refine body (p, e, { frames := d, cells := 0, slots := 0, locals := 38 * d }, s, m, av.toArray, below, meth, c, (0, 0), MQ below (cQE Z (pI post)) av.toArray s 0 0 (AA Z)) ⟨B.exec, B.bytes, hml, findClass_of_methodNamed B.named, fun w hw => hts w (List.mem_cons_of_mem _ hw), hK, Nat.le_refl _, Nat.le_refl _, Nat.le_refl _, Nat.le_refl _⟩ ?_ s.heap [] _ hP va_S.rf (by rw [← hL]; exact lvk.entry av hn)
  intro pc L bb x dg hz hp
  intro H locs ls hP hS hl
  exact W.zret B.exec B.bytes B.returns hz (fun t ht _ => ⟨⟨_, bb, rfl, ⟨x, rfl, hp⟩, by rw [ht]; exact hP⟩, hS.F ht⟩) hS.2.2 dg
theorem conE_l {post : Int64 → Mem → Prop} (hy : plainName y.cls = true) (hn : (lg_sl av).length ≤ mL) (hL : entL av mL = L0) 
    (body : ∀ X : Xt, Ok Z X cc mL y.cls d → (∀ (pc : Nat) (L : List (Option Value)) (bb : Mem) (x : Int64), decode cc pc = .ok (.lreturn, 1) → post x bb → G Z X bb pc L [.long x]) → G Z X b 0 L0 []) : ConE Z y cc mL (some .long) d av b (pL post) := by
  refine Met.ofW (cc := cc) (maxL := mL) (ret := (some .long)) hy rfl ?_
  intro p e s m args below meth c s₁ B hml hv
  obtain ⟨rfl, hP, hK⟩ := hv
  have hts := atoms_spec (ws := .code y cc mL (some .long) :: TB) B.pre
  rw [lg_entry_eq]
  have hlk := B.notSynchronized
  refine body (p, e, { frames := d, cells := 0, slots := 0, locals := 38 * d }, s, m, av.toArray, below, meth, c, (0, 0), MQ below (cQE Z (pL post)) av.toArray s 0 0 (AA Z)) ⟨B.exec, B.bytes, hml, findClass_of_methodNamed B.named, fun w hw => hts w (List.mem_cons_of_mem _ hw), hK, Nat.le_refl _, Nat.le_refl _, Nat.le_refl _, Nat.le_refl _⟩ ?_ s.heap [] _ hP va_S.rf (by rw [← hL]; exact lvk.entry av hn)
  intro pc L bb x dg hp
  intro H locs ls hP hS hl
  exact W.lret B.exec B.bytes B.returns (fun t ht _ => ⟨⟨_, bb, rfl, ⟨x, rfl, hp⟩, by rw [ht]; exact hP⟩, hS.F ht⟩) hS.2.2 dg
theorem conE_v {post : Mem → Prop} (hy : plainName y.cls = true) (hn : (lg_sl av).length ≤ mL) (hL : entL av mL = L0) 
    (body : ∀ X : Xt, Ok Z X cc mL y.cls d → (∀ (pc : Nat) (L : List (Option Value)) (bb : Mem), decode cc pc = .ok (.return_, 1) → post bb → G Z X bb pc L []) → G Z X b 0 L0 []) : ConE Z y cc mL none d av b (pV post) := by
  refine Met.ofW (cc := cc) (maxL := mL) (ret := none) hy rfl ?_
  intro p e s m args below meth c s₁ B hml hv
  obtain ⟨rfl, hP, hK⟩ := hv
  have hts := atoms_spec (ws := .code y cc mL none :: TB) B.pre
  rw [lg_entry_eq]
  have hlk := B.notSynchronized
  refine body (p, e, { frames := d, cells := 0, slots := 0, locals := 38 * d }, s, m, av.toArray, below, meth, c, (0, 0), MQ below (cQE Z (pV post)) av.toArray s 0 0 (AA Z)) ⟨B.exec, B.bytes, hml, findClass_of_methodNamed B.named, fun w hw => hts w (List.mem_cons_of_mem _ hw), hK, Nat.le_refl _, Nat.le_refl _, Nat.le_refl _, Nat.le_refl _⟩ ?_ s.heap [] _ hP va_S.rf (by rw [← hL]; exact lvk.entry av hn)
  intro pc L bb dg hp
  intro H locs ls hP hS hl
  exact W.vret B.exec B.bytes B.returns (fun t ht _ => ⟨⟨_, bb, rfl, ⟨rfl, hp⟩, by rw [ht]; exact hP⟩, hS.F ht⟩) hS.2.2 dg
end CONE
section CALLE
variable {Z : Zt} {X : Xt} {cc : ByteArray} {nL d : Nat} {own : String} {b b' : Mem} {pc : Nat} {L : List (Option Value)} {st rest : List Value} {post : Option Value → Mem → Prop}
theorem g_runE (hrun : ∀ (H : Heap) (locs : List Loc) (ls : Array Slot), va_P Z.2.1 vwCl (ww Z b) H → va_S (AA Z) X.2.2.2.1.heap H locs → lvk ls L → ∃ a : Array Value,
    va_Run X.1 Z.1 X.2.1 X.2.2.1 X.2.2.2.1 X.2.2.2.2.1 X.2.2.2.2.2.1 X.2.2.2.2.2.2.1 X.2.2.2.2.2.2.2.1 X.2.2.2.2.2.2.2.2.1 H locs X.2.2.2.2.2.2.2.2.2.1.1 X.2.2.2.2.2.2.2.2.2.1.2 0 0 (F0 X.2.2.2.2.1 pc ls st) rest (cQE Z post a) (AA Z))
    (k : ∀ r b', post r b' → G Z X b' (pc + 3) L (r.toList ++ rest)) : G Z X b pc L st := by
  intro H locs ls hP hS hl T hT XX
  obtain ⟨a, hr⟩ := hrun H locs ls hP hS hl
  obtain ⟨v, st₀, t, T', L', h0, X', hL, e1, e2, ⟨⟨r, b', hv, hp, hP'⟩, hz, hk⟩, sst⟩ := hr T hT XX
  have hv : v = r := by injection hv
  subst hv
  rw [h0] at hz hk
  obtain ⟨t2, a1, b1⟩ := k v b' hp T'.heap (locs ++ L') ls (by rw [e1]; exact hP')
    ⟨Nat.le_trans hS.1 (by rw [e1]; exact hz), fun q h1 h2 => by rw [e1, hk q (Nat.lt_of_lt_of_le h1 hS.1) h2]; exact hS.2.1 q h1 h2, fun q hq => by
      rcases List.mem_append.mp hq with h | h
      · exact hS.2.2 q h
      · exact hL q h⟩ hl T' rfl X'
  exact ⟨t2, sst t2 a1, b1⟩
theorem g_callVE {y : MethodName} {cy : ByteArray} {mL n d' i index : Nat} {ret : Option FieldType} {As : List Value} (hX : Ok Z X cc nL own d) (hm : mokI y cy mL ret n) (hl0 : Cond.methodLink own index y ∈ TB) (hC : ConE Z y cy mL ret d' (.ref (zad Z i) :: As) b post) (ho : isObj Z b i y.cls) (hLn : L.length = nL) (hd : d' + 1 ≤ d) (hn : As.length = n) (hw : (rest.map fun v => v.category).sum ≤ 8) (hst : st = As.reverse ++ .ref (zad Z i) :: rest) (dg : decode cc pc = .ok (.invokevirtual index, 3))
    (k : ∀ r b', post r b' → G Z X b' (pc + 3) L (r.toList ++ rest)) : G Z X b pc L st := by
  obtain ⟨hx, hb, hml, hown, hts, hK, hrf, hrl, hcl, hsl⟩ := hX
  obtain ⟨⟨m1, m2, m3, m4⟩, m5, m6⟩ := hm
  obtain ⟨hi, ci, fs, T, N, ho1, ho2⟩ := ho
  refine g_runE (fun H locs ls hP hS hl => ⟨(Value.ref (zad Z i) :: As).toArray, ?_⟩) k
  exact va_runV (Ts := TB) (As := As) (rest := rest) (n := n) (nL := nL) ⟨hx, hb, hml, hown, hts⟩ hC ⟨callB_of n hts (tb_code m1) rfl rfl rfl (hts _ m2) (hts _ hl0) m3 ⟨by show d' + 1 ≤ _; omega, by show 8 + (mL + 11) + 38 * d' ≤ _; omega⟩, hts _ m5, hts _ m6⟩
    ⟨cP_blind Z b _, va_recv hK.1 hP ho2 ((ww_get Z b hi).trans (by rw [ho1])), fun U hU hW => ⟨rfl, by rw [hU]; exact hP, hK.to hS hU hW⟩⟩ rfl hn (hl.1.trans hLn) hst (lv_room hw) dg ⟨hcl, hsl⟩
theorem g_eV0i {y : MethodName} {cy : ByteArray} {mL d' i index : Nat} {ret : Option FieldType} {po : Int32 → Mem → Prop} (hX : Ok Z X cc nL own d) (hm : mokI y cy mL ret 0) (hl0 : Cond.methodLink own index y ∈ TB) (hC : ConE Z y cy mL ret d' (.ref (zad Z i) :: []) b (pI po)) (ho : isObj Z b i y.cls) (dg : decode cc pc = .ok (.invokevirtual index, 3)) (hLn : L.length = nL) (hd : d' + 1 ≤ d) (hw : (rest.map fun v => v.category).sum ≤ 8) (k : ∀ x b', po x b' → G Z X b' (pc + 3) L (.int x :: rest)) : G Z X b pc L (.ref (zad Z i) :: rest) :=
  g_callVE hX hm hl0 hC ho hLn hd rfl hw rfl dg (fun r b' hp => by
    obtain ⟨x, rfl, hp⟩ := hp; exact k x b' hp)
theorem g_eV0l {y : MethodName} {cy : ByteArray} {mL d' i index : Nat} {ret : Option FieldType} {po : Int64 → Mem → Prop} (hX : Ok Z X cc nL own d) (hm : mokI y cy mL ret 0) (hl0 : Cond.methodLink own index y ∈ TB) (hC : ConE Z y cy mL ret d' (.ref (zad Z i) :: []) b (pL po)) (ho : isObj Z b i y.cls) (dg : decode cc pc = .ok (.invokevirtual index, 3)) (hLn : L.length = nL) (hd : d' + 1 ≤ d) (hw : (rest.map fun v => v.category).sum ≤ 8) (k : ∀ x b', po x b' → G Z X b' (pc + 3) L (.long x :: rest)) : G Z X b pc L (.ref (zad Z i) :: rest) :=
  g_callVE hX hm hl0 hC ho hLn hd rfl hw rfl dg (fun r b' hp => by
    obtain ⟨x, rfl, hp⟩ := hp; exact k x b' hp)
theorem g_eV0r {y : MethodName} {cy : ByteArray} {mL d' i index : Nat} {ret : Option FieldType} {a0 : Nat} {po : Mem → Prop} (hX : Ok Z X cc nL own d) (hm : mokI y cy mL ret 0) (hl0 : Cond.methodLink own index y ∈ TB) (hC : ConE Z y cy mL ret d' (.ref (zad Z i) :: []) b (pR a0 po)) (ho : isObj Z b i y.cls) (dg : decode cc pc = .ok (.invokevirtual index, 3)) (hLn : L.length = nL) (hd : d' + 1 ≤ d) (hw : (rest.map fun v => v.category).sum ≤ 8) (k : ∀ b', po b' → G Z X b' (pc + 3) L (.ref a0 :: rest)) : G Z X b pc L (.ref (zad Z i) :: rest) :=
  g_callVE hX hm hl0 hC ho hLn hd rfl hw rfl dg (fun r b' hp => by
    obtain ⟨rfl, hp⟩ := hp; exact k b' hp)
theorem g_eV0v {y : MethodName} {cy : ByteArray} {mL d' i index : Nat} {ret : Option FieldType} {po : Mem → Prop} (hX : Ok Z X cc nL own d) (hm : mokI y cy mL ret 0) (hl0 : Cond.methodLink own index y ∈ TB) (hC : ConE Z y cy mL ret d' (.ref (zad Z i) :: []) b (pV po)) (ho : isObj Z b i y.cls) (dg : decode cc pc = .ok (.invokevirtual index, 3)) (hLn : L.length = nL) (hd : d' + 1 ≤ d) (hw : (rest.map fun v => v.category).sum ≤ 8) (k : ∀ b', po b' → G Z X b' (pc + 3) L rest) : G Z X b pc L (.ref (zad Z i) :: rest) :=
  g_callVE hX hm hl0 hC ho hLn hd rfl hw rfl dg (fun r b' hp => by
    obtain ⟨rfl, hp⟩ := hp; exact k b' hp)
theorem g_eV1i {y : MethodName} {cy : ByteArray} {mL d' i index : Nat} {ret : Option FieldType} {v1 : Value} {po : Int32 → Mem → Prop} (hX : Ok Z X cc nL own d) (hm : mokI y cy mL ret 1) (hl0 : Cond.methodLink own index y ∈ TB) (hC : ConE Z y cy mL ret d' (.ref (zad Z i) :: [v1]) b (pI po)) (ho : isObj Z b i y.cls) (dg : decode cc pc = .ok (.invokevirtual index, 3)) (hLn : L.length = nL) (hd : d' + 1 ≤ d) (hw : (rest.map fun v => v.category).sum ≤ 8) (k : ∀ x b', po x b' → G Z X b' (pc + 3) L (.int x :: rest)) : G Z X b pc L (v1 :: .ref (zad Z i) :: rest) :=
  g_callVE hX hm hl0 hC ho hLn hd rfl hw rfl dg (fun r b' hp => by
    obtain ⟨x, rfl, hp⟩ := hp; exact k x b' hp)
theorem g_eV1l {y : MethodName} {cy : ByteArray} {mL d' i index : Nat} {ret : Option FieldType} {v1 : Value} {po : Int64 → Mem → Prop} (hX : Ok Z X cc nL own d) (hm : mokI y cy mL ret 1) (hl0 : Cond.methodLink own index y ∈ TB) (hC : ConE Z y cy mL ret d' (.ref (zad Z i) :: [v1]) b (pL po)) (ho : isObj Z b i y.cls) (dg : decode cc pc = .ok (.invokevirtual index, 3)) (hLn : L.length = nL) (hd : d' + 1 ≤ d) (hw : (rest.map fun v => v.category).sum ≤ 8) (k : ∀ x b', po x b' → G Z X b' (pc + 3) L (.long x :: rest)) : G Z X b pc L (v1 :: .ref (zad Z i) :: rest) :=
  g_callVE hX hm hl0 hC ho hLn hd rfl hw rfl dg (fun r b' hp => by
    obtain ⟨x, rfl, hp⟩ := hp; exact k x b' hp)
theorem g_eV1r {y : MethodName} {cy : ByteArray} {mL d' i index : Nat} {ret : Option FieldType} {v1 : Value} {a0 : Nat} {po : Mem → Prop} (hX : Ok Z X cc nL own d) (hm : mokI y cy mL ret 1) (hl0 : Cond.methodLink own index y ∈ TB) (hC : ConE Z y cy mL ret d' (.ref (zad Z i) :: [v1]) b (pR a0 po)) (ho : isObj Z b i y.cls) (dg : decode cc pc = .ok (.invokevirtual index, 3)) (hLn : L.length = nL) (hd : d' + 1 ≤ d) (hw : (rest.map fun v => v.category).sum ≤ 8) (k : ∀ b', po b' → G Z X b' (pc + 3) L (.ref a0 :: rest)) : G Z X b pc L (v1 :: .ref (zad Z i) :: rest) :=
  g_callVE hX hm hl0 hC ho hLn hd rfl hw rfl dg (fun r b' hp => by
    obtain ⟨rfl, hp⟩ := hp; exact k b' hp)
theorem g_eV1v {y : MethodName} {cy : ByteArray} {mL d' i index : Nat} {ret : Option FieldType} {v1 : Value} {po : Mem → Prop} (hX : Ok Z X cc nL own d) (hm : mokI y cy mL ret 1) (hl0 : Cond.methodLink own index y ∈ TB) (hC : ConE Z y cy mL ret d' (.ref (zad Z i) :: [v1]) b (pV po)) (ho : isObj Z b i y.cls) (dg : decode cc pc = .ok (.invokevirtual index, 3)) (hLn : L.length = nL) (hd : d' + 1 ≤ d) (hw : (rest.map fun v => v.category).sum ≤ 8) (k : ∀ b', po b' → G Z X b' (pc + 3) L rest) : G Z X b pc L (v1 :: .ref (zad Z i) :: rest) :=
  g_callVE hX hm hl0 hC ho hLn hd rfl hw rfl dg (fun r b' hp => by
    obtain ⟨rfl, hp⟩ := hp; exact k b' hp)
theorem g_eV2i {y : MethodName} {cy : ByteArray} {mL d' i index : Nat} {ret : Option FieldType} {v1 v2 : Value} {po : Int32 → Mem → Prop} (hX : Ok Z X cc nL own d) (hm : mokI y cy mL ret 2) (hl0 : Cond.methodLink own index y ∈ TB) (hC : ConE Z y cy mL ret d' (.ref (zad Z i) :: [v1, v2]) b (pI po)) (ho : isObj Z b i y.cls) (dg : decode cc pc = .ok (.invokevirtual index, 3)) (hLn : L.length = nL) (hd : d' + 1 ≤ d) (hw : (rest.map fun v => v.category).sum ≤ 8) (k : ∀ x b', po x b' → G Z X b' (pc + 3) L (.int x :: rest)) : G Z X b pc L (v2 :: v1 :: .ref (zad Z i) :: rest) :=
  g_callVE hX hm hl0 hC ho hLn hd rfl hw rfl dg (fun r b' hp => by
    obtain ⟨x, rfl, hp⟩ := hp; exact k x b' hp)
theorem g_eV2l {y : MethodName} {cy : ByteArray} {mL d' i index : Nat} {ret : Option FieldType} {v1 v2 : Value} {po : Int64 → Mem → Prop} (hX : Ok Z X cc nL own d) (hm : mokI y cy mL ret 2) (hl0 : Cond.methodLink own index y ∈ TB) (hC : ConE Z y cy mL ret d' (.ref (zad Z i) :: [v1, v2]) b (pL po)) (ho : isObj Z b i y.cls) (dg : decode cc pc = .ok (.invokevirtual index, 3)) (hLn : L.length = nL) (hd : d' + 1 ≤ d) (hw : (rest.map fun v => v.category).sum ≤ 8) (k : ∀ x b', po x b' → G Z X b' (pc + 3) L (.long x :: rest)) : G Z X b pc L (v2 :: v1 :: .ref (zad Z i) :: rest) :=
  g_callVE hX hm hl0 hC ho hLn hd rfl hw rfl dg (fun r b' hp => by
    obtain ⟨x, rfl, hp⟩ := hp; exact k x b' hp)
theorem g_eV2r {y : MethodName} {cy : ByteArray} {mL d' i index : Nat} {ret : Option FieldType} {v1 v2 : Value} {a0 : Nat} {po : Mem → Prop} (hX : Ok Z X cc nL own d) (hm : mokI y cy mL ret 2) (hl0 : Cond.methodLink own index y ∈ TB) (hC : ConE Z y cy mL ret d' (.ref (zad Z i) :: [v1, v2]) b (pR a0 po)) (ho : isObj Z b i y.cls) (dg : decode cc pc = .ok (.invokevirtual index, 3)) (hLn : L.length = nL) (hd : d' + 1 ≤ d) (hw : (rest.map fun v => v.category).sum ≤ 8) (k : ∀ b', po b' → G Z X b' (pc + 3) L (.ref a0 :: rest)) : G Z X b pc L (v2 :: v1 :: .ref (zad Z i) :: rest) :=
  g_callVE hX hm hl0 hC ho hLn hd rfl hw rfl dg (fun r b' hp => by
    obtain ⟨rfl, hp⟩ := hp; exact k b' hp)
theorem g_eV2v {y : MethodName} {cy : ByteArray} {mL d' i index : Nat} {ret : Option FieldType} {v1 v2 : Value} {po : Mem → Prop} (hX : Ok Z X cc nL own d) (hm : mokI y cy mL ret 2) (hl0 : Cond.methodLink own index y ∈ TB) (hC : ConE Z y cy mL ret d' (.ref (zad Z i) :: [v1, v2]) b (pV po)) (ho : isObj Z b i y.cls) (dg : decode cc pc = .ok (.invokevirtual index, 3)) (hLn : L.length = nL) (hd : d' + 1 ≤ d) (hw : (rest.map fun v => v.category).sum ≤ 8) (k : ∀ b', po b' → G Z X b' (pc + 3) L rest) : G Z X b pc L (v2 :: v1 :: .ref (zad Z i) :: rest) :=
  g_callVE hX hm hl0 hC ho hLn hd rfl hw rfl dg (fun r b' hp => by
    obtain ⟨rfl, hp⟩ := hp; exact k b' hp)
theorem g_eV3i {y : MethodName} {cy : ByteArray} {mL d' i index : Nat} {ret : Option FieldType} {v1 v2 v3 : Value} {po : Int32 → Mem → Prop} (hX : Ok Z X cc nL own d) (hm : mokI y cy mL ret 3) (hl0 : Cond.methodLink own index y ∈ TB) (hC : ConE Z y cy mL ret d' (.ref (zad Z i) :: [v1, v2, v3]) b (pI po)) (ho : isObj Z b i y.cls) (dg : decode cc pc = .ok (.invokevirtual index, 3)) (hLn : L.length = nL) (hd : d' + 1 ≤ d) (hw : (rest.map fun v => v.category).sum ≤ 8) (k : ∀ x b', po x b' → G Z X b' (pc + 3) L (.int x :: rest)) : G Z X b pc L (v3 :: v2 :: v1 :: .ref (zad Z i) :: rest) :=
  g_callVE hX hm hl0 hC ho hLn hd rfl hw rfl dg (fun r b' hp => by
    obtain ⟨x, rfl, hp⟩ := hp; exact k x b' hp)
theorem g_eV3l {y : MethodName} {cy : ByteArray} {mL d' i index : Nat} {ret : Option FieldType} {v1 v2 v3 : Value} {po : Int64 → Mem → Prop} (hX : Ok Z X cc nL own d) (hm : mokI y cy mL ret 3) (hl0 : Cond.methodLink own index y ∈ TB) (hC : ConE Z y cy mL ret d' (.ref (zad Z i) :: [v1, v2, v3]) b (pL po)) (ho : isObj Z b i y.cls) (dg : decode cc pc = .ok (.invokevirtual index, 3)) (hLn : L.length = nL) (hd : d' + 1 ≤ d) (hw : (rest.map fun v => v.category).sum ≤ 8) (k : ∀ x b', po x b' → G Z X b' (pc + 3) L (.long x :: rest)) : G Z X b pc L (v3 :: v2 :: v1 :: .ref (zad Z i) :: rest) :=
  g_callVE hX hm hl0 hC ho hLn hd rfl hw rfl dg (fun r b' hp => by
    obtain ⟨x, rfl, hp⟩ := hp; exact k x b' hp)
theorem g_eV3r {y : MethodName} {cy : ByteArray} {mL d' i index : Nat} {ret : Option FieldType} {v1 v2 v3 : Value} {a0 : Nat} {po : Mem → Prop} (hX : Ok Z X cc nL own d) (hm : mokI y cy mL ret 3) (hl0 : Cond.methodLink own index y ∈ TB) (hC : ConE Z y cy mL ret d' (.ref (zad Z i) :: [v1, v2, v3]) b (pR a0 po)) (ho : isObj Z b i y.cls) (dg : decode cc pc = .ok (.invokevirtual index, 3)) (hLn : L.length = nL) (hd : d' + 1 ≤ d) (hw : (rest.map fun v => v.category).sum ≤ 8) (k : ∀ b', po b' → G Z X b' (pc + 3) L (.ref a0 :: rest)) : G Z X b pc L (v3 :: v2 :: v1 :: .ref (zad Z i) :: rest) :=
  g_callVE hX hm hl0 hC ho hLn hd rfl hw rfl dg (fun r b' hp => by
    obtain ⟨rfl, hp⟩ := hp; exact k b' hp)
theorem g_eV3v {y : MethodName} {cy : ByteArray} {mL d' i index : Nat} {ret : Option FieldType} {v1 v2 v3 : Value} {po : Mem → Prop} (hX : Ok Z X cc nL own d) (hm : mokI y cy mL ret 3) (hl0 : Cond.methodLink own index y ∈ TB) (hC : ConE Z y cy mL ret d' (.ref (zad Z i) :: [v1, v2, v3]) b (pV po)) (ho : isObj Z b i y.cls) (dg : decode cc pc = .ok (.invokevirtual index, 3)) (hLn : L.length = nL) (hd : d' + 1 ≤ d) (hw : (rest.map fun v => v.category).sum ≤ 8) (k : ∀ b', po b' → G Z X b' (pc + 3) L rest) : G Z X b pc L (v3 :: v2 :: v1 :: .ref (zad Z i) :: rest) :=
  g_callVE hX hm hl0 hC ho hLn hd rfl hw rfl dg (fun r b' hp => by
    obtain ⟨rfl, hp⟩ := hp; exact k b' hp)
theorem g_loopI (N : Nat) (Inv : Nat → Mem → List (Option Value) → Prop) (h0 : Inv 0 b L) (step : ∀ k b L, k < N → Inv k b L → (∀ b' L', Inv (k + 1) b' L' → G Z X b' pc L' st) → G Z X b pc L st) (out : ∀ b L, Inv N b L → G Z X b pc L st) : G Z X b pc L st := by
  have key : ∀ j, j ≤ N → ∀ b L, Inv (N - j) b L → G Z X b pc L st := by
    intro j
    induction j with
    | zero => intro _ b L h; exact out b L h
    | succ j ih =>
      intro hj b L h
      refine step (N - (j + 1)) b L (by omega) h (fun b' L' h' => ih (by omega) b' L' ?_)
      have e : N - j = (N - (j + 1)) + 1 := by omega
      rw [e]; exact h'
  exact key N (Nat.le_refl N) b L (by rw [Nat.sub_self]; exact h0)
end CALLE
