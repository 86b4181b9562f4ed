section RULES
variable {Z : Zt} {X : Xt} {cc : ByteArray} {nL d : Nat} {own : String} {b : Mem} {pc : Nat} {L : List (Option Value)} {st : List Value}
theorem g_iconst (hX : Ok Z X cc nL own d) {n : Int} (v : Int32) (dg : decode cc pc = .ok (.iconst n, 1)) (hv : Int32.ofInt n = v) (k : G Z X b (pc + 1) L (.int v :: st)) : G Z X b pc L st := by
  obtain ⟨hx, hb, hml, hown, hts, hK, hrf, hrl, hcl, hsl⟩ := hX
  intro H locs ls hP hS hl
  exact lv_iconst hx hb dg hv (k H locs ls hP hS hl)
theorem g_bipush (hX : Ok Z X cc nL own d) {n : Int} (v : Int32) (dg : decode cc pc = .ok (.bipush n, 2)) (hv : (Int8.ofInt n).toInt32 = v) (k : G Z X b (pc + 2) L (.int v :: st)) : G Z X b pc L st := by
  obtain ⟨hx, hb, hml, hown, hts, hK, hrf, hrl, hcl, hsl⟩ := hX
  intro H locs ls hP hS hl
  exact lv_bipush hx hb dg hv (k H locs ls hP hS hl)
theorem g_sipush (hX : Ok Z X cc nL own d) {n : Int} (v : Int32) (dg : decode cc pc = .ok (.sipush n, 3)) (hv : (Int16.ofInt n).toInt32 = v) (k : G Z X b (pc + 3) L (.int v :: st)) : G Z X b pc L st := by
  obtain ⟨hx, hb, hml, hown, hts, hK, hrf, hrl, hcl, hsl⟩ := hX
  intro H locs ls hP hS hl
  exact lv_sipush hx hb dg hv (k H locs ls hP hS hl)
theorem g_ldc (hX : Ok Z X cc nL own d) {index : Nat} (v : Int32) (hw : Cond.constant own index v ∈ TB) (dg : decode cc pc = .ok (.ldc index, 2)) (k : G Z X b (pc + 2) L (.int v :: st)) : G Z X b pc L st := by
  obtain ⟨hx, hb, hml, hown, hts, hK, hrf, hrl, hcl, hsl⟩ := hX
  intro H locs ls hP hS hl
  exact lv_ldc hx hb hown (hts _ hw) dg (k H locs ls hP hS hl)
theorem g_ldcw (hX : Ok Z X cc nL own d) {index : Nat} (v : Int32) (hw : Cond.constant own index v ∈ TB) (dg : decode cc pc = .ok (.ldc_w index, 3)) (k : G Z X b (pc + 3) L (.int v :: st)) : G Z X b pc L st := by
  obtain ⟨hx, hb, hml, hown, hts, hK, hrf, hrl, hcl, hsl⟩ := hX
  intro H locs ls hP hS hl
  exact lv_ldcw hx hb hown (hts _ hw) dg (k H locs ls hP hS hl)
theorem g_ldc2 (hX : Ok Z X cc nL own d) {index : Nat} (v : Int64) (hw : Cond.constantLong own index v ∈ TB) (dg : decode cc pc = .ok (.ldc2_w index, 3)) (k : G Z X b (pc + 3) L (.long v :: st)) : G Z X b pc L st := by
  obtain ⟨hx, hb, hml, hown, hts, hK, hrf, hrl, hcl, hsl⟩ := hX
  intro H locs ls hP hS hl
  exact lv_ldc2 hx hb hown (hts _ hw) dg (k H locs ls hP hS hl)
def nl1 : Option Value → Bool
  | some v => v.category == 1
  | none => true
theorem g_iload_0 (hX : Ok Z X cc nL own d) {x : Int32} (dg : decode cc pc = .ok (.iload_n 0, 1)) (k : G Z X b (pc + 1) (some (.int x) :: L) (.int x :: st)) : G Z X b pc (some (.int x) :: L) st := by
  obtain ⟨hx, hb, hml, hown, hts, hK, hrf, hrl, hcl, hsl⟩ := hX
  intro H locs ls hP hS hl
  exact lv_iload_n hx hb dg rfl (hl.2.2 0 _ rfl) (k H locs ls hP hS hl)
theorem g_istore_0 (hX : Ok Z X cc nL own d) {a0 : Option Value} {x : Int32} (dg : decode cc pc = .ok (.istore_n 0, 1)) (k : G Z X b (pc + 1) (some (.int x) :: L) st) : G Z X b pc (a0 :: L) (.int x :: st) := by
  obtain ⟨hx, hb, hml, hown, hts, hK, hrf, hrl, hcl, hsl⟩ := hX
  intro H locs ls hP hS hl
  exact lv_istore_n hx hb dg rfl hl.has (show 0 < _ by simp only [List.length_cons]; omega) rfl (fun ls' h => k H locs ls' hP hS (lvk.set h (fun v hv h0 => absurd rfl h0)))
theorem g_aload_0 (hX : Ok Z X cc nL own d) {x : Nat} (dg : decode cc pc = .ok (.aload_n 0, 1)) (k : G Z X b (pc + 1) (some (.ref x) :: L) (.ref x :: st)) : G Z X b pc (some (.ref x) :: L) st := by
  obtain ⟨hx, hb, hml, hown, hts, hK, hrf, hrl, hcl, hsl⟩ := hX
  intro H locs ls hP hS hl
  exact lv_aload_n hx hb dg rfl (hl.2.2 0 _ rfl) (k H locs ls hP hS hl)
theorem g_astore_0 (hX : Ok Z X cc nL own d) {a0 : Option Value} {x : Nat} (dg : decode cc pc = .ok (.astore_n 0, 1)) (k : G Z X b (pc + 1) (some (.ref x) :: L) st) : G Z X b pc (a0 :: L) (.ref x :: st) := by
  obtain ⟨hx, hb, hml, hown, hts, hK, hrf, hrl, hcl, hsl⟩ := hX
  intro H locs ls hP hS hl
  exact lv_astore_n hx hb dg rfl hl.has (show 0 < _ by simp only [List.length_cons]; omega) rfl (fun ls' h => k H locs ls' hP hS (lvk.set h (fun v hv h0 => absurd rfl h0)))
theorem g_lload_0 (hX : Ok Z X cc nL own d) {x : Int64} (dg : decode cc pc = .ok (.lload_n 0, 1)) (k : G Z X b (pc + 1) (some (.long x) :: L) (.long x :: st)) : G Z X b pc (some (.long x) :: L) st := by
  obtain ⟨hx, hb, hml, hown, hts, hK, hrf, hrl, hcl, hsl⟩ := hX
  intro H locs ls hP hS hl
  exact lv_lload_n hx hb dg rfl (hl.2.2 0 _ rfl) (k H locs ls hP hS hl)
theorem g_lstore_0 (hX : Ok Z X cc nL own d) {a0 a1 : Option Value} {x : Int64} (dg : decode cc pc = .ok (.lstore_n 0, 1)) (k : G Z X b (pc + 1) (some (.long x) :: none :: L) st) : G Z X b pc (a0 :: a1 :: L) (.long x :: st) := by
  obtain ⟨hx, hb, hml, hown, hts, hK, hrf, hrl, hcl, hsl⟩ := hX
  intro H locs ls hP hS hl
  exact lv_lstore_n hx hb dg rfl hl.has (show 0 + 1 < _ by simp only [List.length_cons]; omega) rfl (fun ls' h => k H locs ls' hP hS (lvk.set2 h (fun v hv h0 => absurd rfl h0)))
theorem g_iinc_0 (hX : Ok Z X cc nL own d) {x : Int32} {n : Int} (c : Int32) (dg : decode cc pc = .ok (.iinc 0 n, 3)) (hc : Int32.ofInt n = c) (k : G Z X b (pc + 3) (some (.int (x + c)) :: L) st) : G Z X b pc (some (.int x) :: L) st := by
  obtain ⟨hx, hb, hml, hown, hts, hK, hrf, hrl, hcl, hsl⟩ := hX
  intro H locs ls hP hS hl
  have hm : (0, Value.int x) ∈ lval (some (.int x) :: L) := lval_mem.mpr rfl
  obtain ⟨kk, hkk⟩ := List.getElem?_of_mem hm
  exact lv_iinc (v := x + c) hx hb dg hl.has hkk (by rw [hc]) (by simp) rfl (fun ls' h => k H locs ls' hP hS (lvk.set h (fun v hv h0 => absurd rfl h0)))
theorem g_iload_1 (hX : Ok Z X cc nL own d) {a0 : Option Value} {x : Int32} (dg : decode cc pc = .ok (.iload_n 1, 1)) (k : G Z X b (pc + 1) (a0 :: some (.int x) :: L) (.int x :: st)) : G Z X b pc (a0 :: some (.int x) :: L) st := by
  obtain ⟨hx, hb, hml, hown, hts, hK, hrf, hrl, hcl, hsl⟩ := hX
  intro H locs ls hP hS hl
  exact lv_iload_n hx hb dg rfl (hl.2.2 1 _ rfl) (k H locs ls hP hS hl)
theorem g_istore_1 (hX : Ok Z X cc nL own d) {a0 a1 : Option Value} {x : Int32} (dg : decode cc pc = .ok (.istore_n 1, 1)) (hp : nl1 a0 = true) (k : G Z X b (pc + 1) (a0 :: some (.int x) :: L) st) : G Z X b pc (a0 :: a1 :: L) (.int x :: st) := by
  obtain ⟨hx, hb, hml, hown, hts, hK, hrf, hrl, hcl, hsl⟩ := hX
  intro H locs ls hP hS hl
  exact lv_istore_n hx hb dg rfl hl.has (show 1 < _ by simp only [List.length_cons]; omega) rfl (fun ls' h => k H locs ls' hP hS (lvk.set h (fun v hv _ => by
    have e : a0 = some v := Option.some.inj hv
    rw [e] at hp; simpa [nl1] using hp)))
theorem g_aload_1 (hX : Ok Z X cc nL own d) {a0 : Option Value} {x : Nat} (dg : decode cc pc = .ok (.aload_n 1, 1)) (k : G Z X b (pc + 1) (a0 :: some (.ref x) :: L) (.ref x :: st)) : G Z X b pc (a0 :: some (.ref x) :: L) st := by
  obtain ⟨hx, hb, hml, hown, hts, hK, hrf, hrl, hcl, hsl⟩ := hX
  intro H locs ls hP hS hl
  exact lv_aload_n hx hb dg rfl (hl.2.2 1 _ rfl) (k H locs ls hP hS hl)
theorem g_astore_1 (hX : Ok Z X cc nL own d) {a0 a1 : Option Value} {x : Nat} (dg : decode cc pc = .ok (.astore_n 1, 1)) (hp : nl1 a0 = true) (k : G Z X b (pc + 1) (a0 :: some (.ref x) :: L) st) : G Z X b pc (a0 :: a1 :: L) (.ref x :: st) := by
  obtain ⟨hx, hb, hml, hown, hts, hK, hrf, hrl, hcl, hsl⟩ := hX
  intro H locs ls hP hS hl
  exact lv_astore_n hx hb dg rfl hl.has (show 1 < _ by simp only [List.length_cons]; omega) rfl (fun ls' h => k H locs ls' hP hS (lvk.set h (fun v hv _ => by
    have e : a0 = some v := Option.some.inj hv
    rw [e] at hp; simpa [nl1] using hp)))
theorem g_lload_1 (hX : Ok Z X cc nL own d) {a0 : Option Value} {x : Int64} (dg : decode cc pc = .ok (.lload_n 1, 1)) (k : G Z X b (pc + 1) (a0 :: some (.long x) :: L) (.long x :: st)) : G Z X b pc (a0 :: some (.long x) :: L) st := by
  obtain ⟨hx, hb, hml, hown, hts, hK, hrf, hrl, hcl, hsl⟩ := hX
  intro H locs ls hP hS hl
  exact lv_lload_n hx hb dg rfl (hl.2.2 1 _ rfl) (k H locs ls hP hS hl)
theorem g_lstore_1 (hX : Ok Z X cc nL own d) {a0 a1 a2 : Option Value} {x : Int64} (dg : decode cc pc = .ok (.lstore_n 1, 1)) (hp : nl1 a0 = true) (k : G Z X b (pc + 1) (a0 :: some (.long x) :: none :: L) st) : G Z X b pc (a0 :: a1 :: a2 :: L) (.long x :: st) := by
  obtain ⟨hx, hb, hml, hown, hts, hK, hrf, hrl, hcl, hsl⟩ := hX
  intro H locs ls hP hS hl
  exact lv_lstore_n hx hb dg rfl hl.has (show 1 + 1 < _ by simp only [List.length_cons]; omega) rfl (fun ls' h => k H locs ls' hP hS (lvk.set2 h (fun v hv _ => by
    have e : a0 = some v := Option.some.inj hv
    rw [e] at hp; simpa [nl1] using hp)))
theorem g_iinc_1 (hX : Ok Z X cc nL own d) {a0 : Option Value} {x : Int32} {n : Int} (c : Int32) (dg : decode cc pc = .ok (.iinc 1 n, 3)) (hc : Int32.ofInt n = c) (hp : nl1 a0 = true) (k : G Z X b (pc + 3) (a0 :: some (.int (x + c)) :: L) st) : G Z X b pc (a0 :: some (.int x) :: L) st := by
  obtain ⟨hx, hb, hml, hown, hts, hK, hrf, hrl, hcl, hsl⟩ := hX
  intro H locs ls hP hS hl
  have hm : (1, Value.int x) ∈ lval (a0 :: some (.int x) :: L) := lval_mem.mpr rfl
  obtain ⟨kk, hkk⟩ := List.getElem?_of_mem hm
  exact lv_iinc (v := x + c) hx hb dg hl.has hkk (by rw [hc]) (by simp) rfl (fun ls' h => k H locs ls' hP hS (lvk.set h (fun v hv _ => by
    have e : a0 = some v := Option.some.inj hv
    rw [e] at hp; simpa [nl1] using hp)))
theorem g_iload_2 (hX : Ok Z X cc nL own d) {a0 a1 : Option Value} {x : Int32} (dg : decode cc pc = .ok (.iload_n 2, 1)) (k : G Z X b (pc + 1) (a0 :: a1 :: some (.int x) :: L) (.int x :: st)) : G Z X b pc (a0 :: a1 :: some (.int x) :: L) st := by
  obtain ⟨hx, hb, hml, hown, hts, hK, hrf, hrl, hcl, hsl⟩ := hX
  intro H locs ls hP hS hl
  exact lv_iload_n hx hb dg rfl (hl.2.2 2 _ rfl) (k H locs ls hP hS hl)
theorem g_istore_2 (hX : Ok Z X cc nL own d) {a0 a1 a2 : Option Value} {x : Int32} (dg : decode cc pc = .ok (.istore_n 2, 1)) (hp : nl1 a1 = true) (k : G Z X b (pc + 1) (a0 :: a1 :: some (.int x) :: L) st) : G Z X b pc (a0 :: a1 :: a2 :: L) (.int x :: st) := by
  obtain ⟨hx, hb, hml, hown, hts, hK, hrf, hrl, hcl, hsl⟩ := hX
  intro H locs ls hP hS hl
  exact lv_istore_n hx hb dg rfl hl.has (show 2 < _ by simp only [List.length_cons]; omega) rfl (fun ls' h => k H locs ls' hP hS (lvk.set h (fun v hv _ => by
    have e : a1 = some v := Option.some.inj hv
    rw [e] at hp; simpa [nl1] using hp)))
theorem g_aload_2 (hX : Ok Z X cc nL own d) {a0 a1 : Option Value} {x : Nat} (dg : decode cc pc = .ok (.aload_n 2, 1)) (k : G Z X b (pc + 1) (a0 :: a1 :: some (.ref x) :: L) (.ref x :: st)) : G Z X b pc (a0 :: a1 :: some (.ref x) :: L) st := by
  obtain ⟨hx, hb, hml, hown, hts, hK, hrf, hrl, hcl, hsl⟩ := hX
  intro H locs ls hP hS hl
  exact lv_aload_n hx hb dg rfl (hl.2.2 2 _ rfl) (k H locs ls hP hS hl)
theorem g_astore_2 (hX : Ok Z X cc nL own d) {a0 a1 a2 : Option Value} {x : Nat} (dg : decode cc pc = .ok (.astore_n 2, 1)) (hp : nl1 a1 = true) (k : G Z X b (pc + 1) (a0 :: a1 :: some (.ref x) :: L) st) : G Z X b pc (a0 :: a1 :: a2 :: L) (.ref x :: st) := by
  obtain ⟨hx, hb, hml, hown, hts, hK, hrf, hrl, hcl, hsl⟩ := hX
  intro H locs ls hP hS hl
  exact lv_astore_n hx hb dg rfl hl.has (show 2 < _ by simp only [List.length_cons]; omega) rfl (fun ls' h => k H locs ls' hP hS (lvk.set h (fun v hv _ => by
    have e : a1 = some v := Option.some.inj hv
    rw [e] at hp; simpa [nl1] using hp)))
theorem g_lload_2 (hX : Ok Z X cc nL own d) {a0 a1 : Option Value} {x : Int64} (dg : decode cc pc = .ok (.lload_n 2, 1)) (k : G Z X b (pc + 1) (a0 :: a1 :: some (.long x) :: L) (.long x :: st)) : G Z X b pc (a0 :: a1 :: some (.long x) :: L) st := by
  obtain ⟨hx, hb, hml, hown, hts, hK, hrf, hrl, hcl, hsl⟩ := hX
  intro H locs ls hP hS hl
  exact lv_lload_n hx hb dg rfl (hl.2.2 2 _ rfl) (k H locs ls hP hS hl)
theorem g_lstore_2 (hX : Ok Z X cc nL own d) {a0 a1 a2 a3 : Option Value} {x : Int64} (dg : decode cc pc = .ok (.lstore_n 2, 1)) (hp : nl1 a1 = true) (k : G Z X b (pc + 1) (a0 :: a1 :: some (.long x) :: none :: L) st) : G Z X b pc (a0 :: a1 :: a2 :: a3 :: L) (.long x :: st) := by
  obtain ⟨hx, hb, hml, hown, hts, hK, hrf, hrl, hcl, hsl⟩ := hX
  intro H locs ls hP hS hl
  exact lv_lstore_n hx hb dg rfl hl.has (show 2 + 1 < _ by simp only [List.length_cons]; omega) rfl (fun ls' h => k H locs ls' hP hS (lvk.set2 h (fun v hv _ => by
    have e : a1 = some v := Option.some.inj hv
    rw [e] at hp; simpa [nl1] using hp)))
theorem g_iinc_2 (hX : Ok Z X cc nL own d) {a0 a1 : Option Value} {x : Int32} {n : Int} (c : Int32) (dg : decode cc pc = .ok (.iinc 2 n, 3)) (hc : Int32.ofInt n = c) (hp : nl1 a1 = true) (k : G Z X b (pc + 3) (a0 :: a1 :: some (.int (x + c)) :: L) st) : G Z X b pc (a0 :: a1 :: some (.int x) :: L) st := by
  obtain ⟨hx, hb, hml, hown, hts, hK, hrf, hrl, hcl, hsl⟩ := hX
  intro H locs ls hP hS hl
  have hm : (2, Value.int x) ∈ lval (a0 :: a1 :: some (.int x) :: L) := lval_mem.mpr rfl
  obtain ⟨kk, hkk⟩ := List.getElem?_of_mem hm
  exact lv_iinc (v := x + c) hx hb dg hl.has hkk (by rw [hc]) (by simp) rfl (fun ls' h => k H locs ls' hP hS (lvk.set h (fun v hv _ => by
    have e : a1 = some v := Option.some.inj hv
    rw [e] at hp; simpa [nl1] using hp)))
theorem g_iload_3 (hX : Ok Z X cc nL own d) {a0 a1 a2 : Option Value} {x : Int32} (dg : decode cc pc = .ok (.iload_n 3, 1)) (k : G Z X b (pc + 1) (a0 :: a1 :: a2 :: some (.int x) :: L) (.int x :: st)) : G Z X b pc (a0 :: a1 :: a2 :: some (.int x) :: L) st := by
  obtain ⟨hx, hb, hml, hown, hts, hK, hrf, hrl, hcl, hsl⟩ := hX
  intro H locs ls hP hS hl
  exact lv_iload_n hx hb dg rfl (hl.2.2 3 _ rfl) (k H locs ls hP hS hl)
theorem g_istore_3 (hX : Ok Z X cc nL own d) {a0 a1 a2 a3 : Option Value} {x : Int32} (dg : decode cc pc = .ok (.istore_n 3, 1)) (hp : nl1 a2 = true) (k : G Z X b (pc + 1) (a0 :: a1 :: a2 :: some (.int x) :: L) st) : G Z X b pc (a0 :: a1 :: a2 :: a3 :: L) (.int x :: st) := by
  obtain ⟨hx, hb, hml, hown, hts, hK, hrf, hrl, hcl, hsl⟩ := hX
  intro H locs ls hP hS hl
  exact lv_istore_n hx hb dg rfl hl.has (show 3 < _ by simp only [List.length_cons]; omega) rfl (fun ls' h => k H locs ls' hP hS (lvk.set h (fun v hv _ => by
    have e : a2 = some v := Option.some.inj hv
    rw [e] at hp; simpa [nl1] using hp)))
theorem g_aload_3 (hX : Ok Z X cc nL own d) {a0 a1 a2 : Option Value} {x : Nat} (dg : decode cc pc = .ok (.aload_n 3, 1)) (k : G Z X b (pc + 1) (a0 :: a1 :: a2 :: some (.ref x) :: L) (.ref x :: st)) : G Z X b pc (a0 :: a1 :: a2 :: some (.ref x) :: L) st := by
  obtain ⟨hx, hb, hml, hown, hts, hK, hrf, hrl, hcl, hsl⟩ := hX
  intro H locs ls hP hS hl
  exact lv_aload_n hx hb dg rfl (hl.2.2 3 _ rfl) (k H locs ls hP hS hl)
theorem g_astore_3 (hX : Ok Z X cc nL own d) {a0 a1 a2 a3 : Option Value} {x : Nat} (dg : decode cc pc = .ok (.astore_n 3, 1)) (hp : nl1 a2 = true) (k : G Z X b (pc + 1) (a0 :: a1 :: a2 :: some (.ref x) :: L) st) : G Z X b pc (a0 :: a1 :: a2 :: a3 :: L) (.ref x :: st) := by
  obtain ⟨hx, hb, hml, hown, hts, hK, hrf, hrl, hcl, hsl⟩ := hX
  intro H locs ls hP hS hl
  exact lv_astore_n hx hb dg rfl hl.has (show 3 < _ by simp only [List.length_cons]; omega) rfl (fun ls' h => k H locs ls' hP hS (lvk.set h (fun v hv _ => by
    have e : a2 = some v := Option.some.inj hv
    rw [e] at hp; simpa [nl1] using hp)))
theorem g_lload_3 (hX : Ok Z X cc nL own d) {a0 a1 a2 : Option Value} {x : Int64} (dg : decode cc pc = .ok (.lload_n 3, 1)) (k : G Z X b (pc + 1) (a0 :: a1 :: a2 :: some (.long x) :: L) (.long x :: st)) : G Z X b pc (a0 :: a1 :: a2 :: some (.long x) :: L) st := by
  obtain ⟨hx, hb, hml, hown, hts, hK, hrf, hrl, hcl, hsl⟩ := hX
  intro H locs ls hP hS hl
  exact lv_lload_n hx hb dg rfl (hl.2.2 3 _ rfl) (k H locs ls hP hS hl)
theorem g_lstore_3 (hX : Ok Z X cc nL own d) {a0 a1 a2 a3 a4 : Option Value} {x : Int64} (dg : decode cc pc = .ok (.lstore_n 3, 1)) (hp : nl1 a2 = true) (k : G Z X b (pc + 1) (a0 :: a1 :: a2 :: some (.long x) :: none :: L) st) : G Z X b pc (a0 :: a1 :: a2 :: a3 :: a4 :: L) (.long x :: st) := by
  obtain ⟨hx, hb, hml, hown, hts, hK, hrf, hrl, hcl, hsl⟩ := hX
  intro H locs ls hP hS hl
  exact lv_lstore_n hx hb dg rfl hl.has (show 3 + 1 < _ by simp only [List.length_cons]; omega) rfl (fun ls' h => k H locs ls' hP hS (lvk.set2 h (fun v hv _ => by
    have e : a2 = some v := Option.some.inj hv
    rw [e] at hp; simpa [nl1] using hp)))
theorem g_iinc_3 (hX : Ok Z X cc nL own d) {a0 a1 a2 : Option Value} {x : Int32} {n : Int} (c : Int32) (dg : decode cc pc = .ok (.iinc 3 n, 3)) (hc : Int32.ofInt n = c) (hp : nl1 a2 = true) (k : G Z X b (pc + 3) (a0 :: a1 :: a2 :: some (.int (x + c)) :: L) st) : G Z X b pc (a0 :: a1 :: a2 :: some (.int x) :: L) st := by
  obtain ⟨hx, hb, hml, hown, hts, hK, hrf, hrl, hcl, hsl⟩ := hX
  intro H locs ls hP hS hl
  have hm : (3, Value.int x) ∈ lval (a0 :: a1 :: a2 :: some (.int x) :: L) := lval_mem.mpr rfl
  obtain ⟨kk, hkk⟩ := List.getElem?_of_mem hm
  exact lv_iinc (v := x + c) hx hb dg hl.has hkk (by rw [hc]) (by simp) rfl (fun ls' h => k H locs ls' hP hS (lvk.set h (fun v hv _ => by
    have e : a2 = some v := Option.some.inj hv
    rw [e] at hp; simpa [nl1] using hp)))
theorem g_iload_4 (hX : Ok Z X cc nL own d) {a0 a1 a2 a3 : Option Value} {x : Int32} (dg : decode cc pc = .ok (.iload 4, 2)) (k : G Z X b (pc + 2) (a0 :: a1 :: a2 :: a3 :: some (.int x) :: L) (.int x :: st)) : G Z X b pc (a0 :: a1 :: a2 :: a3 :: some (.int x) :: L) st := by
  obtain ⟨hx, hb, hml, hown, hts, hK, hrf, hrl, hcl, hsl⟩ := hX
  intro H locs ls hP hS hl
  exact lv_iload hx hb dg (hl.2.2 4 _ rfl) (k H locs ls hP hS hl)
theorem g_istore_4 (hX : Ok Z X cc nL own d) {a0 a1 a2 a3 a4 : Option Value} {x : Int32} (dg : decode cc pc = .ok (.istore 4, 2)) (hp : nl1 a3 = true) (k : G Z X b (pc + 2) (a0 :: a1 :: a2 :: a3 :: some (.int x) :: L) st) : G Z X b pc (a0 :: a1 :: a2 :: a3 :: a4 :: L) (.int x :: st) := by
  obtain ⟨hx, hb, hml, hown, hts, hK, hrf, hrl, hcl, hsl⟩ := hX
  intro H locs ls hP hS hl
  exact lv_istore hx hb dg hl.has (show 4 < _ by simp only [List.length_cons]; omega) rfl (fun ls' h => k H locs ls' hP hS (lvk.set h (fun v hv _ => by
    have e : a3 = some v := Option.some.inj hv
    rw [e] at hp; simpa [nl1] using hp)))
theorem g_lload_4 (hX : Ok Z X cc nL own d) {a0 a1 a2 a3 : Option Value} {x : Int64} (dg : decode cc pc = .ok (.lload 4, 2)) (k : G Z X b (pc + 2) (a0 :: a1 :: a2 :: a3 :: some (.long x) :: L) (.long x :: st)) : G Z X b pc (a0 :: a1 :: a2 :: a3 :: some (.long x) :: L) st := by
  obtain ⟨hx, hb, hml, hown, hts, hK, hrf, hrl, hcl, hsl⟩ := hX
  intro H locs ls hP hS hl
  exact lv_lload hx hb dg (hl.2.2 4 _ rfl) (k H locs ls hP hS hl)
theorem g_lstore_4 (hX : Ok Z X cc nL own d) {a0 a1 a2 a3 a4 a5 : Option Value} {x : Int64} (dg : decode cc pc = .ok (.lstore 4, 2)) (hp : nl1 a3 = true) (k : G Z X b (pc + 2) (a0 :: a1 :: a2 :: a3 :: some (.long x) :: none :: L) st) : G Z X b pc (a0 :: a1 :: a2 :: a3 :: a4 :: a5 :: L) (.long x :: st) := by
  obtain ⟨hx, hb, hml, hown, hts, hK, hrf, hrl, hcl, hsl⟩ := hX
  intro H locs ls hP hS hl
  exact lv_lstore hx hb dg hl.has (show 4 + 1 < _ by simp only [List.length_cons]; omega) rfl (fun ls' h => k H locs ls' hP hS (lvk.set2 h (fun v hv _ => by
    have e : a3 = some v := Option.some.inj hv
    rw [e] at hp; simpa [nl1] using hp)))
theorem g_iinc_4 (hX : Ok Z X cc nL own d) {a0 a1 a2 a3 : Option Value} {x : Int32} {n : Int} (c : Int32) (dg : decode cc pc = .ok (.iinc 4 n, 3)) (hc : Int32.ofInt n = c) (hp : nl1 a3 = true) (k : G Z X b (pc + 3) (a0 :: a1 :: a2 :: a3 :: some (.int (x + c)) :: L) st) : G Z X b pc (a0 :: a1 :: a2 :: a3 :: some (.int x) :: L) st := by
  obtain ⟨hx, hb, hml, hown, hts, hK, hrf, hrl, hcl, hsl⟩ := hX
  intro H locs ls hP hS hl
  have hm : (4, Value.int x) ∈ lval (a0 :: a1 :: a2 :: a3 :: some (.int x) :: L) := lval_mem.mpr rfl
  obtain ⟨kk, hkk⟩ := List.getElem?_of_mem hm
  exact lv_iinc (v := x + c) hx hb dg hl.has hkk (by rw [hc]) (by simp) rfl (fun ls' h => k H locs ls' hP hS (lvk.set h (fun v hv _ => by
    have e : a3 = some v := Option.some.inj hv
    rw [e] at hp; simpa [nl1] using hp)))
theorem g_iload_5 (hX : Ok Z X cc nL own d) {a0 a1 a2 a3 a4 : Option Value} {x : Int32} (dg : decode cc pc = .ok (.iload 5, 2)) (k : G Z X b (pc + 2) (a0 :: a1 :: a2 :: a3 :: a4 :: some (.int x) :: L) (.int x :: st)) : G Z X b pc (a0 :: a1 :: a2 :: a3 :: a4 :: some (.int x) :: L) st := by
  obtain ⟨hx, hb, hml, hown, hts, hK, hrf, hrl, hcl, hsl⟩ := hX
  intro H locs ls hP hS hl
  exact lv_iload hx hb dg (hl.2.2 5 _ rfl) (k H locs ls hP hS hl)
theorem g_istore_5 (hX : Ok Z X cc nL own d) {a0 a1 a2 a3 a4 a5 : Option Value} {x : Int32} (dg : decode cc pc = .ok (.istore 5, 2)) (hp : nl1 a4 = true) (k : G Z X b (pc + 2) (a0 :: a1 :: a2 :: a3 :: a4 :: some (.int x) :: L) st) : G Z X b pc (a0 :: a1 :: a2 :: a3 :: a4 :: a5 :: L) (.int x :: st) := by
  obtain ⟨hx, hb, hml, hown, hts, hK, hrf, hrl, hcl, hsl⟩ := hX
  intro H locs ls hP hS hl
  exact lv_istore hx hb dg hl.has (show 5 < _ by simp only [List.length_cons]; omega) rfl (fun ls' h => k H locs ls' hP hS (lvk.set h (fun v hv _ => by
    have e : a4 = some v := Option.some.inj hv
    rw [e] at hp; simpa [nl1] using hp)))
theorem g_lload_5 (hX : Ok Z X cc nL own d) {a0 a1 a2 a3 a4 : Option Value} {x : Int64} (dg : decode cc pc = .ok (.lload 5, 2)) (k : G Z X b (pc + 2) (a0 :: a1 :: a2 :: a3 :: a4 :: some (.long x) :: L) (.long x :: st)) : G Z X b pc (a0 :: a1 :: a2 :: a3 :: a4 :: some (.long x) :: L) st := by
  obtain ⟨hx, hb, hml, hown, hts, hK, hrf, hrl, hcl, hsl⟩ := hX
  intro H locs ls hP hS hl
  exact lv_lload hx hb dg (hl.2.2 5 _ rfl) (k H locs ls hP hS hl)
theorem g_lstore_5 (hX : Ok Z X cc nL own d) {a0 a1 a2 a3 a4 a5 a6 : Option Value} {x : Int64} (dg : decode cc pc = .ok (.lstore 5, 2)) (hp : nl1 a4 = true) (k : G Z X b (pc + 2) (a0 :: a1 :: a2 :: a3 :: a4 :: some (.long x) :: none :: L) st) : G Z X b pc (a0 :: a1 :: a2 :: a3 :: a4 :: a5 :: a6 :: L) (.long x :: st) := by
  obtain ⟨hx, hb, hml, hown, hts, hK, hrf, hrl, hcl, hsl⟩ := hX
  intro H locs ls hP hS hl
  exact lv_lstore hx hb dg hl.has (show 5 + 1 < _ by simp only [List.length_cons]; omega) rfl (fun ls' h => k H locs ls' hP hS (lvk.set2 h (fun v hv _ => by
    have e : a4 = some v := Option.some.inj hv
    rw [e] at hp; simpa [nl1] using hp)))
theorem g_iinc_5 (hX : Ok Z X cc nL own d) {a0 a1 a2 a3 a4 : Option Value} {x : Int32} {n : Int} (c : Int32) (dg : decode cc pc = .ok (.iinc 5 n, 3)) (hc : Int32.ofInt n = c) (hp : nl1 a4 = true) (k : G Z X b (pc + 3) (a0 :: a1 :: a2 :: a3 :: a4 :: some (.int (x + c)) :: L) st) : G Z X b pc (a0 :: a1 :: a2 :: a3 :: a4 :: some (.int x) :: L) st := by
  obtain ⟨hx, hb, hml, hown, hts, hK, hrf, hrl, hcl, hsl⟩ := hX
  intro H locs ls hP hS hl
  have hm : (5, Value.int x) ∈ lval (a0 :: a1 :: a2 :: a3 :: a4 :: some (.int x) :: L) := lval_mem.mpr rfl
  obtain ⟨kk, hkk⟩ := List.getElem?_of_mem hm
  exact lv_iinc (v := x + c) hx hb dg hl.has hkk (by rw [hc]) (by simp) rfl (fun ls' h => k H locs ls' hP hS (lvk.set h (fun v hv _ => by
    have e : a4 = some v := Option.some.inj hv
    rw [e] at hp; simpa [nl1] using hp)))
theorem g_iload_6 (hX : Ok Z X cc nL own d) {a0 a1 a2 a3 a4 a5 : Option Value} {x : Int32} (dg : decode cc pc = .ok (.iload 6, 2)) (k : G Z X b (pc + 2) (a0 :: a1 :: a2 :: a3 :: a4 :: a5 :: some (.int x) :: L) (.int x :: st)) : G Z X b pc (a0 :: a1 :: a2 :: a3 :: a4 :: a5 :: some (.int x) :: L) st := by
  obtain ⟨hx, hb, hml, hown, hts, hK, hrf, hrl, hcl, hsl⟩ := hX
  intro H locs ls hP hS hl
  exact lv_iload hx hb dg (hl.2.2 6 _ rfl) (k H locs ls hP hS hl)
theorem g_istore_6 (hX : Ok Z X cc nL own d) {a0 a1 a2 a3 a4 a5 a6 : Option Value} {x : Int32} (dg : decode cc pc = .ok (.istore 6, 2)) (hp : nl1 a5 = true) (k : G Z X b (pc + 2) (a0 :: a1 :: a2 :: a3 :: a4 :: a5 :: some (.int x) :: L) st) : G Z X b pc (a0 :: a1 :: a2 :: a3 :: a4 :: a5 :: a6 :: L) (.int x :: st) := by
  obtain ⟨hx, hb, hml, hown, hts, hK, hrf, hrl, hcl, hsl⟩ := hX
  intro H locs ls hP hS hl
  exact lv_istore hx hb dg hl.has (show 6 < _ by simp only [List.length_cons]; omega) rfl (fun ls' h => k H locs ls' hP hS (lvk.set h (fun v hv _ => by
    have e : a5 = some v := Option.some.inj hv
    rw [e] at hp; simpa [nl1] using hp)))
theorem g_lload_6 (hX : Ok Z X cc nL own d) {a0 a1 a2 a3 a4 a5 : Option Value} {x : Int64} (dg : decode cc pc = .ok (.lload 6, 2)) (k : G Z X b (pc + 2) (a0 :: a1 :: a2 :: a3 :: a4 :: a5 :: some (.long x) :: L) (.long x :: st)) : G Z X b pc (a0 :: a1 :: a2 :: a3 :: a4 :: a5 :: some (.long x) :: L) st := by
  obtain ⟨hx, hb, hml, hown, hts, hK, hrf, hrl, hcl, hsl⟩ := hX
  intro H locs ls hP hS hl
  exact lv_lload hx hb dg (hl.2.2 6 _ rfl) (k H locs ls hP hS hl)
theorem g_lstore_6 (hX : Ok Z X cc nL own d) {a0 a1 a2 a3 a4 a5 a6 a7 : Option Value} {x : Int64} (dg : decode cc pc = .ok (.lstore 6, 2)) (hp : nl1 a5 = true) (k : G Z X b (pc + 2) (a0 :: a1 :: a2 :: a3 :: a4 :: a5 :: some (.long x) :: none :: L) st) : G Z X b pc (a0 :: a1 :: a2 :: a3 :: a4 :: a5 :: a6 :: a7 :: L) (.long x :: st) := by
  obtain ⟨hx, hb, hml, hown, hts, hK, hrf, hrl, hcl, hsl⟩ := hX
  intro H locs ls hP hS hl
  exact lv_lstore hx hb dg hl.has (show 6 + 1 < _ by simp only [List.length_cons]; omega) rfl (fun ls' h => k H locs ls' hP hS (lvk.set2 h (fun v hv _ => by
    have e : a5 = some v := Option.some.inj hv
    rw [e] at hp; simpa [nl1] using hp)))
theorem g_iinc_6 (hX : Ok Z X cc nL own d) {a0 a1 a2 a3 a4 a5 : Option Value} {x : Int32} {n : Int} (c : Int32) (dg : decode cc pc = .ok (.iinc 6 n, 3)) (hc : Int32.ofInt n = c) (hp : nl1 a5 = true) (k : G Z X b (pc + 3) (a0 :: a1 :: a2 :: a3 :: a4 :: a5 :: some (.int (x + c)) :: L) st) : G Z X b pc (a0 :: a1 :: a2 :: a3 :: a4 :: a5 :: some (.int x) :: L) st := by
  obtain ⟨hx, hb, hml, hown, hts, hK, hrf, hrl, hcl, hsl⟩ := hX
  intro H locs ls hP hS hl
  have hm : (6, Value.int x) ∈ lval (a0 :: a1 :: a2 :: a3 :: a4 :: a5 :: some (.int x) :: L) := lval_mem.mpr rfl
  obtain ⟨kk, hkk⟩ := List.getElem?_of_mem hm
  exact lv_iinc (v := x + c) hx hb dg hl.has hkk (by rw [hc]) (by simp) rfl (fun ls' h => k H locs ls' hP hS (lvk.set h (fun v hv _ => by
    have e : a5 = some v := Option.some.inj hv
    rw [e] at hp; simpa [nl1] using hp)))
theorem g_iload_7 (hX : Ok Z X cc nL own d) {a0 a1 a2 a3 a4 a5 a6 : Option Value} {x : Int32} (dg : decode cc pc = .ok (.iload 7, 2)) (k : G Z X b (pc + 2) (a0 :: a1 :: a2 :: a3 :: a4 :: a5 :: a6 :: some (.int x) :: L) (.int x :: st)) : G Z X b pc (a0 :: a1 :: a2 :: a3 :: a4 :: a5 :: a6 :: some (.int x) :: L) st := by
  obtain ⟨hx, hb, hml, hown, hts, hK, hrf, hrl, hcl, hsl⟩ := hX
  intro H locs ls hP hS hl
  exact lv_iload hx hb dg (hl.2.2 7 _ rfl) (k H locs ls hP hS hl)
theorem g_istore_7 (hX : Ok Z X cc nL own d) {a0 a1 a2 a3 a4 a5 a6 a7 : Option Value} {x : Int32} (dg : decode cc pc = .ok (.istore 7, 2)) (hp : nl1 a6 = true) (k : G Z X b (pc + 2) (a0 :: a1 :: a2 :: a3 :: a4 :: a5 :: a6 :: some (.int x) :: L) st) : G Z X b pc (a0 :: a1 :: a2 :: a3 :: a4 :: a5 :: a6 :: a7 :: L) (.int x :: st) := by
  obtain ⟨hx, hb, hml, hown, hts, hK, hrf, hrl, hcl, hsl⟩ := hX
  intro H locs ls hP hS hl
  exact lv_istore hx hb dg hl.has (show 7 < _ by simp only [List.length_cons]; omega) rfl (fun ls' h => k H locs ls' hP hS (lvk.set h (fun v hv _ => by
    have e : a6 = some v := Option.some.inj hv
    rw [e] at hp; simpa [nl1] using hp)))
theorem g_lload_7 (hX : Ok Z X cc nL own d) {a0 a1 a2 a3 a4 a5 a6 : Option Value} {x : Int64} (dg : decode cc pc = .ok (.lload 7, 2)) (k : G Z X b (pc + 2) (a0 :: a1 :: a2 :: a3 :: a4 :: a5 :: a6 :: some (.long x) :: L) (.long x :: st)) : G Z X b pc (a0 :: a1 :: a2 :: a3 :: a4 :: a5 :: a6 :: some (.long x) :: L) st := by
  obtain ⟨hx, hb, hml, hown, hts, hK, hrf, hrl, hcl, hsl⟩ := hX
  intro H locs ls hP hS hl
  exact lv_lload hx hb dg (hl.2.2 7 _ rfl) (k H locs ls hP hS hl)
theorem g_lstore_7 (hX : Ok Z X cc nL own d) {a0 a1 a2 a3 a4 a5 a6 a7 a8 : Option Value} {x : Int64} (dg : decode cc pc = .ok (.lstore 7, 2)) (hp : nl1 a6 = true) (k : G Z X b (pc + 2) (a0 :: a1 :: a2 :: a3 :: a4 :: a5 :: a6 :: some (.long x) :: none :: L) st) : G Z X b pc (a0 :: a1 :: a2 :: a3 :: a4 :: a5 :: a6 :: a7 :: a8 :: L) (.long x :: st) := by
  obtain ⟨hx, hb, hml, hown, hts, hK, hrf, hrl, hcl, hsl⟩ := hX
  intro H locs ls hP hS hl
  exact lv_lstore hx hb dg hl.has (show 7 + 1 < _ by simp only [List.length_cons]; omega) rfl (fun ls' h => k H locs ls' hP hS (lvk.set2 h (fun v hv _ => by
    have e : a6 = some v := Option.some.inj hv
    rw [e] at hp; simpa [nl1] using hp)))
theorem g_iinc_7 (hX : Ok Z X cc nL own d) {a0 a1 a2 a3 a4 a5 a6 : Option Value} {x : Int32} {n : Int} (c : Int32) (dg : decode cc pc = .ok (.iinc 7 n, 3)) (hc : Int32.ofInt n = c) (hp : nl1 a6 = true) (k : G Z X b (pc + 3) (a0 :: a1 :: a2 :: a3 :: a4 :: a5 :: a6 :: some (.int (x + c)) :: L) st) : G Z X b pc (a0 :: a1 :: a2 :: a3 :: a4 :: a5 :: a6 :: some (.int x) :: L) st := by
  obtain ⟨hx, hb, hml, hown, hts, hK, hrf, hrl, hcl, hsl⟩ := hX
  intro H locs ls hP hS hl
  have hm : (7, Value.int x) ∈ lval (a0 :: a1 :: a2 :: a3 :: a4 :: a5 :: a6 :: some (.int x) :: L) := lval_mem.mpr rfl
  obtain ⟨kk, hkk⟩ := List.getElem?_of_mem hm
  exact lv_iinc (v := x + c) hx hb dg hl.has hkk (by rw [hc]) (by simp) rfl (fun ls' h => k H locs ls' hP hS (lvk.set h (fun v hv _ => by
    have e : a6 = some v := Option.some.inj hv
    rw [e] at hp; simpa [nl1] using hp)))
theorem g_iload_8 (hX : Ok Z X cc nL own d) {a0 a1 a2 a3 a4 a5 a6 a7 : Option Value} {x : Int32} (dg : decode cc pc = .ok (.iload 8, 2)) (k : G Z X b (pc + 2) (a0 :: a1 :: a2 :: a3 :: a4 :: a5 :: a6 :: a7 :: some (.int x) :: L) (.int x :: st)) : G Z X b pc (a0 :: a1 :: a2 :: a3 :: a4 :: a5 :: a6 :: a7 :: some (.int x) :: L) st := by
  obtain ⟨hx, hb, hml, hown, hts, hK, hrf, hrl, hcl, hsl⟩ := hX
  intro H locs ls hP hS hl
  exact lv_iload hx hb dg (hl.2.2 8 _ rfl) (k H locs ls hP hS hl)
theorem g_istore_8 (hX : Ok Z X cc nL own d) {a0 a1 a2 a3 a4 a5 a6 a7 a8 : Option Value} {x : Int32} (dg : decode cc pc = .ok (.istore 8, 2)) (hp : nl1 a7 = true) (k : G Z X b (pc + 2) (a0 :: a1 :: a2 :: a3 :: a4 :: a5 :: a6 :: a7 :: some (.int x) :: L) st) : G Z X b pc (a0 :: a1 :: a2 :: a3 :: a4 :: a5 :: a6 :: a7 :: a8 :: L) (.int x :: st) := by
  obtain ⟨hx, hb, hml, hown, hts, hK, hrf, hrl, hcl, hsl⟩ := hX
  intro H locs ls hP hS hl
  exact lv_istore hx hb dg hl.has (show 8 < _ by simp only [List.length_cons]; omega) rfl (fun ls' h => k H locs ls' hP hS (lvk.set h (fun v hv _ => by
    have e : a7 = some v := Option.some.inj hv
    rw [e] at hp; simpa [nl1] using hp)))
theorem g_lload_8 (hX : Ok Z X cc nL own d) {a0 a1 a2 a3 a4 a5 a6 a7 : Option Value} {x : Int64} (dg : decode cc pc = .ok (.lload 8, 2)) (k : G Z X b (pc + 2) (a0 :: a1 :: a2 :: a3 :: a4 :: a5 :: a6 :: a7 :: some (.long x) :: L) (.long x :: st)) : G Z X b pc (a0 :: a1 :: a2 :: a3 :: a4 :: a5 :: a6 :: a7 :: some (.long x) :: L) st := by
  obtain ⟨hx, hb, hml, hown, hts, hK, hrf, hrl, hcl, hsl⟩ := hX
  intro H locs ls hP hS hl
  exact lv_lload hx hb dg (hl.2.2 8 _ rfl) (k H locs ls hP hS hl)
theorem g_lstore_8 (hX : Ok Z X cc nL own d) {a0 a1 a2 a3 a4 a5 a6 a7 a8 a9 : Option Value} {x : Int64} (dg : decode cc pc = .ok (.lstore 8, 2)) (hp : nl1 a7 = true) (k : G Z X b (pc + 2) (a0 :: a1 :: a2 :: a3 :: a4 :: a5 :: a6 :: a7 :: some (.long x) :: none :: L) st) : G Z X b pc (a0 :: a1 :: a2 :: a3 :: a4 :: a5 :: a6 :: a7 :: a8 :: a9 :: L) (.long x :: st) := by
  obtain ⟨hx, hb, hml, hown, hts, hK, hrf, hrl, hcl, hsl⟩ := hX
  intro H locs ls hP hS hl
  exact lv_lstore hx hb dg hl.has (show 8 + 1 < _ by simp only [List.length_cons]; omega) rfl (fun ls' h => k H locs ls' hP hS (lvk.set2 h (fun v hv _ => by
    have e : a7 = some v := Option.some.inj hv
    rw [e] at hp; simpa [nl1] using hp)))
theorem g_iinc_8 (hX : Ok Z X cc nL own d) {a0 a1 a2 a3 a4 a5 a6 a7 : Option Value} {x : Int32} {n : Int} (c : Int32) (dg : decode cc pc = .ok (.iinc 8 n, 3)) (hc : Int32.ofInt n = c) (hp : nl1 a7 = true) (k : G Z X b (pc + 3) (a0 :: a1 :: a2 :: a3 :: a4 :: a5 :: a6 :: a7 :: some (.int (x + c)) :: L) st) : G Z X b pc (a0 :: a1 :: a2 :: a3 :: a4 :: a5 :: a6 :: a7 :: some (.int x) :: L) st := by
  obtain ⟨hx, hb, hml, hown, hts, hK, hrf, hrl, hcl, hsl⟩ := hX
  intro H locs ls hP hS hl
  have hm : (8, Value.int x) ∈ lval (a0 :: a1 :: a2 :: a3 :: a4 :: a5 :: a6 :: a7 :: some (.int x) :: L) := lval_mem.mpr rfl
  obtain ⟨kk, hkk⟩ := List.getElem?_of_mem hm
  exact lv_iinc (v := x + c) hx hb dg hl.has hkk (by rw [hc]) (by simp) rfl (fun ls' h => k H locs ls' hP hS (lvk.set h (fun v hv _ => by
    have e : a7 = some v := Option.some.inj hv
    rw [e] at hp; simpa [nl1] using hp)))
theorem g_iload_9 (hX : Ok Z X cc nL own d) {a0 a1 a2 a3 a4 a5 a6 a7 a8 : Option Value} {x : Int32} (dg : decode cc pc = .ok (.iload 9, 2)) (k : G Z X b (pc + 2) (a0 :: a1 :: a2 :: a3 :: a4 :: a5 :: a6 :: a7 :: a8 :: some (.int x) :: L) (.int x :: st)) : G Z X b pc (a0 :: a1 :: a2 :: a3 :: a4 :: a5 :: a6 :: a7 :: a8 :: some (.int x) :: L) st := by
  obtain ⟨hx, hb, hml, hown, hts, hK, hrf, hrl, hcl, hsl⟩ := hX
  intro H locs ls hP hS hl
  exact lv_iload hx hb dg (hl.2.2 9 _ rfl) (k H locs ls hP hS hl)
theorem g_istore_9 (hX : Ok Z X cc nL own d) {a0 a1 a2 a3 a4 a5 a6 a7 a8 a9 : Option Value} {x : Int32} (dg : decode cc pc = .ok (.istore 9, 2)) (hp : nl1 a8 = true) (k : G Z X b (pc + 2) (a0 :: a1 :: a2 :: a3 :: a4 :: a5 :: a6 :: a7 :: a8 :: some (.int x) :: L) st) : G Z X b pc (a0 :: a1 :: a2 :: a3 :: a4 :: a5 :: a6 :: a7 :: a8 :: a9 :: L) (.int x :: st) := by
  obtain ⟨hx, hb, hml, hown, hts, hK, hrf, hrl, hcl, hsl⟩ := hX
  intro H locs ls hP hS hl
  exact lv_istore hx hb dg hl.has (show 9 < _ by simp only [List.length_cons]; omega) rfl (fun ls' h => k H locs ls' hP hS (lvk.set h (fun v hv _ => by
    have e : a8 = some v := Option.some.inj hv
    rw [e] at hp; simpa [nl1] using hp)))
theorem g_lload_9 (hX : Ok Z X cc nL own d) {a0 a1 a2 a3 a4 a5 a6 a7 a8 : Option Value} {x : Int64} (dg : decode cc pc = .ok (.lload 9, 2)) (k : G Z X b (pc + 2) (a0 :: a1 :: a2 :: a3 :: a4 :: a5 :: a6 :: a7 :: a8 :: some (.long x) :: L) (.long x :: st)) : G Z X b pc (a0 :: a1 :: a2 :: a3 :: a4 :: a5 :: a6 :: a7 :: a8 :: some (.long x) :: L) st := by
  obtain ⟨hx, hb, hml, hown, hts, hK, hrf, hrl, hcl, hsl⟩ := hX
  intro H locs ls hP hS hl
  exact lv_lload hx hb dg (hl.2.2 9 _ rfl) (k H locs ls hP hS hl)
theorem g_lstore_9 (hX : Ok Z X cc nL own d) {a0 a1 a2 a3 a4 a5 a6 a7 a8 a9 a10 : Option Value} {x : Int64} (dg : decode cc pc = .ok (.lstore 9, 2)) (hp : nl1 a8 = true) (k : G Z X b (pc + 2) (a0 :: a1 :: a2 :: a3 :: a4 :: a5 :: a6 :: a7 :: a8 :: some (.long x) :: none :: L) st) : G Z X b pc (a0 :: a1 :: a2 :: a3 :: a4 :: a5 :: a6 :: a7 :: a8 :: a9 :: a10 :: L) (.long x :: st) := by
  obtain ⟨hx, hb, hml, hown, hts, hK, hrf, hrl, hcl, hsl⟩ := hX
  intro H locs ls hP hS hl
  exact lv_lstore hx hb dg hl.has (show 9 + 1 < _ by simp only [List.length_cons]; omega) rfl (fun ls' h => k H locs ls' hP hS (lvk.set2 h (fun v hv _ => by
    have e : a8 = some v := Option.some.inj hv
    rw [e] at hp; simpa [nl1] using hp)))
theorem g_iinc_9 (hX : Ok Z X cc nL own d) {a0 a1 a2 a3 a4 a5 a6 a7 a8 : Option Value} {x : Int32} {n : Int} (c : Int32) (dg : decode cc pc = .ok (.iinc 9 n, 3)) (hc : Int32.ofInt n = c) (hp : nl1 a8 = true) (k : G Z X b (pc + 3) (a0 :: a1 :: a2 :: a3 :: a4 :: a5 :: a6 :: a7 :: a8 :: some (.int (x + c)) :: L) st) : G Z X b pc (a0 :: a1 :: a2 :: a3 :: a4 :: a5 :: a6 :: a7 :: a8 :: some (.int x) :: L) st := by
  obtain ⟨hx, hb, hml, hown, hts, hK, hrf, hrl, hcl, hsl⟩ := hX
  intro H locs ls hP hS hl
  have hm : (9, Value.int x) ∈ lval (a0 :: a1 :: a2 :: a3 :: a4 :: a5 :: a6 :: a7 :: a8 :: some (.int x) :: L) := lval_mem.mpr rfl
  obtain ⟨kk, hkk⟩ := List.getElem?_of_mem hm
  exact lv_iinc (v := x + c) hx hb dg hl.has hkk (by rw [hc]) (by simp) rfl (fun ls' h => k H locs ls' hP hS (lvk.set h (fun v hv _ => by
    have e : a8 = some v := Option.some.inj hv
    rw [e] at hp; simpa [nl1] using hp)))
theorem g_iload_10 (hX : Ok Z X cc nL own d) {a0 a1 a2 a3 a4 a5 a6 a7 a8 a9 : Option Value} {x : Int32} (dg : decode cc pc = .ok (.iload 10, 2)) (k : G Z X b (pc + 2) (a0 :: a1 :: a2 :: a3 :: a4 :: a5 :: a6 :: a7 :: a8 :: a9 :: some (.int x) :: L) (.int x :: st)) : G Z X b pc (a0 :: a1 :: a2 :: a3 :: a4 :: a5 :: a6 :: a7 :: a8 :: a9 :: some (.int x) :: L) st := by
  obtain ⟨hx, hb, hml, hown, hts, hK, hrf, hrl, hcl, hsl⟩ := hX
  intro H locs ls hP hS hl
  exact lv_iload hx hb dg (hl.2.2 10 _ rfl) (k H locs ls hP hS hl)
theorem g_istore_10 (hX : Ok Z X cc nL own d) {a0 a1 a2 a3 a4 a5 a6 a7 a8 a9 a10 : Option Value} {x : Int32} (dg : decode cc pc = .ok (.istore 10, 2)) (hp : nl1 a9 = true) (k : G Z X b (pc + 2) (a0 :: a1 :: a2 :: a3 :: a4 :: a5 :: a6 :: a7 :: a8 :: a9 :: some (.int x) :: L) st) : G Z X b pc (a0 :: a1 :: a2 :: a3 :: a4 :: a5 :: a6 :: a7 :: a8 :: a9 :: a10 :: L) (.int x :: st) := by
  obtain ⟨hx, hb, hml, hown, hts, hK, hrf, hrl, hcl, hsl⟩ := hX
  intro H locs ls hP hS hl
  exact lv_istore hx hb dg hl.has (show 10 < _ by simp only [List.length_cons]; omega) rfl (fun ls' h => k H locs ls' hP hS (lvk.set h (fun v hv _ => by
    have e : a9 = some v := Option.some.inj hv
    rw [e] at hp; simpa [nl1] using hp)))
theorem g_lload_10 (hX : Ok Z X cc nL own d) {a0 a1 a2 a3 a4 a5 a6 a7 a8 a9 : Option Value} {x : Int64} (dg : decode cc pc = .ok (.lload 10, 2)) (k : G Z X b (pc + 2) (a0 :: a1 :: a2 :: a3 :: a4 :: a5 :: a6 :: a7 :: a8 :: a9 :: some (.long x) :: L) (.long x :: st)) : G Z X b pc (a0 :: a1 :: a2 :: a3 :: a4 :: a5 :: a6 :: a7 :: a8 :: a9 :: some (.long x) :: L) st := by
  obtain ⟨hx, hb, hml, hown, hts, hK, hrf, hrl, hcl, hsl⟩ := hX
  intro H locs ls hP hS hl
  exact lv_lload hx hb dg (hl.2.2 10 _ rfl) (k H locs ls hP hS hl)
theorem g_lstore_10 (hX : Ok Z X cc nL own d) {a0 a1 a2 a3 a4 a5 a6 a7 a8 a9 a10 a11 : Option Value} {x : Int64} (dg : decode cc pc = .ok (.lstore 10, 2)) (hp : nl1 a9 = true) (k : G Z X b (pc + 2) (a0 :: a1 :: a2 :: a3 :: a4 :: a5 :: a6 :: a7 :: a8 :: a9 :: some (.long x) :: none :: L) st) : G Z X b pc (a0 :: a1 :: a2 :: a3 :: a4 :: a5 :: a6 :: a7 :: a8 :: a9 :: a10 :: a11 :: L) (.long x :: st) := by
  obtain ⟨hx, hb, hml, hown, hts, hK, hrf, hrl, hcl, hsl⟩ := hX
  intro H locs ls hP hS hl
  exact lv_lstore hx hb dg hl.has (show 10 + 1 < _ by simp only [List.length_cons]; omega) rfl (fun ls' h => k H locs ls' hP hS (lvk.set2 h (fun v hv _ => by
    have e : a9 = some v := Option.some.inj hv
    rw [e] at hp; simpa [nl1] using hp)))
theorem g_iinc_10 (hX : Ok Z X cc nL own d) {a0 a1 a2 a3 a4 a5 a6 a7 a8 a9 : Option Value} {x : Int32} {n : Int} (c : Int32) (dg : decode cc pc = .ok (.iinc 10 n, 3)) (hc : Int32.ofInt n = c) (hp : nl1 a9 = true) (k : G Z X b (pc + 3) (a0 :: a1 :: a2 :: a3 :: a4 :: a5 :: a6 :: a7 :: a8 :: a9 :: some (.int (x + c)) :: L) st) : G Z X b pc (a0 :: a1 :: a2 :: a3 :: a4 :: a5 :: a6 :: a7 :: a8 :: a9 :: some (.int x) :: L) st := by
  obtain ⟨hx, hb, hml, hown, hts, hK, hrf, hrl, hcl, hsl⟩ := hX
  intro H locs ls hP hS hl
  have hm : (10, Value.int x) ∈ lval (a0 :: a1 :: a2 :: a3 :: a4 :: a5 :: a6 :: a7 :: a8 :: a9 :: some (.int x) :: L) := lval_mem.mpr rfl
  obtain ⟨kk, hkk⟩ := List.getElem?_of_mem hm
  exact lv_iinc (v := x + c) hx hb dg hl.has hkk (by rw [hc]) (by simp) rfl (fun ls' h => k H locs ls' hP hS (lvk.set h (fun v hv _ => by
    have e : a9 = some v := Option.some.inj hv
    rw [e] at hp; simpa [nl1] using hp)))
theorem g_iload_11 (hX : Ok Z X cc nL own d) {a0 a1 a2 a3 a4 a5 a6 a7 a8 a9 a10 : Option Value} {x : Int32} (dg : decode cc pc = .ok (.iload 11, 2)) (k : G Z X b (pc + 2) (a0 :: a1 :: a2 :: a3 :: a4 :: a5 :: a6 :: a7 :: a8 :: a9 :: a10 :: some (.int x) :: L) (.int x :: st)) : G Z X b pc (a0 :: a1 :: a2 :: a3 :: a4 :: a5 :: a6 :: a7 :: a8 :: a9 :: a10 :: some (.int x) :: L) st := by
  obtain ⟨hx, hb, hml, hown, hts, hK, hrf, hrl, hcl, hsl⟩ := hX
  intro H locs ls hP hS hl
  exact lv_iload hx hb dg (hl.2.2 11 _ rfl) (k H locs ls hP hS hl)
theorem g_istore_11 (hX : Ok Z X cc nL own d) {a0 a1 a2 a3 a4 a5 a6 a7 a8 a9 a10 a11 : Option Value} {x : Int32} (dg : decode cc pc = .ok (.istore 11, 2)) (hp : nl1 a10 = true) (k : G Z X b (pc + 2) (a0 :: a1 :: a2 :: a3 :: a4 :: a5 :: a6 :: a7 :: a8 :: a9 :: a10 :: some (.int x) :: L) st) : G Z X b pc (a0 :: a1 :: a2 :: a3 :: a4 :: a5 :: a6 :: a7 :: a8 :: a9 :: a10 :: a11 :: L) (.int x :: st) := by
  obtain ⟨hx, hb, hml, hown, hts, hK, hrf, hrl, hcl, hsl⟩ := hX
  intro H locs ls hP hS hl
  exact lv_istore hx hb dg hl.has (show 11 < _ by simp only [List.length_cons]; omega) rfl (fun ls' h => k H locs ls' hP hS (lvk.set h (fun v hv _ => by
    have e : a10 = some v := Option.some.inj hv
    rw [e] at hp; simpa [nl1] using hp)))
theorem g_lload_11 (hX : Ok Z X cc nL own d) {a0 a1 a2 a3 a4 a5 a6 a7 a8 a9 a10 : Option Value} {x : Int64} (dg : decode cc pc = .ok (.lload 11, 2)) (k : G Z X b (pc + 2) (a0 :: a1 :: a2 :: a3 :: a4 :: a5 :: a6 :: a7 :: a8 :: a9 :: a10 :: some (.long x) :: L) (.long x :: st)) : G Z X b pc (a0 :: a1 :: a2 :: a3 :: a4 :: a5 :: a6 :: a7 :: a8 :: a9 :: a10 :: some (.long x) :: L) st := by
  obtain ⟨hx, hb, hml, hown, hts, hK, hrf, hrl, hcl, hsl⟩ := hX
  intro H locs ls hP hS hl
  exact lv_lload hx hb dg (hl.2.2 11 _ rfl) (k H locs ls hP hS hl)
theorem g_lstore_11 (hX : Ok Z X cc nL own d) {a0 a1 a2 a3 a4 a5 a6 a7 a8 a9 a10 a11 a12 : Option Value} {x : Int64} (dg : decode cc pc = .ok (.lstore 11, 2)) (hp : nl1 a10 = true) (k : G Z X b (pc + 2) (a0 :: a1 :: a2 :: a3 :: a4 :: a5 :: a6 :: a7 :: a8 :: a9 :: a10 :: some (.long x) :: none :: L) st) : G Z X b pc (a0 :: a1 :: a2 :: a3 :: a4 :: a5 :: a6 :: a7 :: a8 :: a9 :: a10 :: a11 :: a12 :: L) (.long x :: st) := by
  obtain ⟨hx, hb, hml, hown, hts, hK, hrf, hrl, hcl, hsl⟩ := hX
  intro H locs ls hP hS hl
  exact lv_lstore hx hb dg hl.has (show 11 + 1 < _ by simp only [List.length_cons]; omega) rfl (fun ls' h => k H locs ls' hP hS (lvk.set2 h (fun v hv _ => by
    have e : a10 = some v := Option.some.inj hv
    rw [e] at hp; simpa [nl1] using hp)))
theorem g_iinc_11 (hX : Ok Z X cc nL own d) {a0 a1 a2 a3 a4 a5 a6 a7 a8 a9 a10 : Option Value} {x : Int32} {n : Int} (c : Int32) (dg : decode cc pc = .ok (.iinc 11 n, 3)) (hc : Int32.ofInt n = c) (hp : nl1 a10 = true) (k : G Z X b (pc + 3) (a0 :: a1 :: a2 :: a3 :: a4 :: a5 :: a6 :: a7 :: a8 :: a9 :: a10 :: some (.int (x + c)) :: L) st) : G Z X b pc (a0 :: a1 :: a2 :: a3 :: a4 :: a5 :: a6 :: a7 :: a8 :: a9 :: a10 :: some (.int x) :: L) st := by
  obtain ⟨hx, hb, hml, hown, hts, hK, hrf, hrl, hcl, hsl⟩ := hX
  intro H locs ls hP hS hl
  have hm : (11, Value.int x) ∈ lval (a0 :: a1 :: a2 :: a3 :: a4 :: a5 :: a6 :: a7 :: a8 :: a9 :: a10 :: some (.int x) :: L) := lval_mem.mpr rfl
  obtain ⟨kk, hkk⟩ := List.getElem?_of_mem hm
  exact lv_iinc (v := x + c) hx hb dg hl.has hkk (by rw [hc]) (by simp) rfl (fun ls' h => k H locs ls' hP hS (lvk.set h (fun v hv _ => by
    have e : a10 = some v := Option.some.inj hv
    rw [e] at hp; simpa [nl1] using hp)))
theorem g_iload_12 (hX : Ok Z X cc nL own d) {a0 a1 a2 a3 a4 a5 a6 a7 a8 a9 a10 a11 : Option Value} {x : Int32} (dg : decode cc pc = .ok (.iload 12, 2)) (k : G Z X b (pc + 2) (a0 :: a1 :: a2 :: a3 :: a4 :: a5 :: a6 :: a7 :: a8 :: a9 :: a10 :: a11 :: some (.int x) :: L) (.int x :: st)) : G Z X b pc (a0 :: a1 :: a2 :: a3 :: a4 :: a5 :: a6 :: a7 :: a8 :: a9 :: a10 :: a11 :: some (.int x) :: L) st := by
  obtain ⟨hx, hb, hml, hown, hts, hK, hrf, hrl, hcl, hsl⟩ := hX
  intro H locs ls hP hS hl
  exact lv_iload hx hb dg (hl.2.2 12 _ rfl) (k H locs ls hP hS hl)
theorem g_istore_12 (hX : Ok Z X cc nL own d) {a0 a1 a2 a3 a4 a5 a6 a7 a8 a9 a10 a11 a12 : Option Value} {x : Int32} (dg : decode cc pc = .ok (.istore 12, 2)) (hp : nl1 a11 = true) (k : G Z X b (pc + 2) (a0 :: a1 :: a2 :: a3 :: a4 :: a5 :: a6 :: a7 :: a8 :: a9 :: a10 :: a11 :: some (.int x) :: L) st) : G Z X b pc (a0 :: a1 :: a2 :: a3 :: a4 :: a5 :: a6 :: a7 :: a8 :: a9 :: a10 :: a11 :: a12 :: L) (.int x :: st) := by
  obtain ⟨hx, hb, hml, hown, hts, hK, hrf, hrl, hcl, hsl⟩ := hX
  intro H locs ls hP hS hl
  exact lv_istore hx hb dg hl.has (show 12 < _ by simp only [List.length_cons]; omega) rfl (fun ls' h => k H locs ls' hP hS (lvk.set h (fun v hv _ => by
    have e : a11 = some v := Option.some.inj hv
    rw [e] at hp; simpa [nl1] using hp)))
theorem g_lload_12 (hX : Ok Z X cc nL own d) {a0 a1 a2 a3 a4 a5 a6 a7 a8 a9 a10 a11 : Option Value} {x : Int64} (dg : decode cc pc = .ok (.lload 12, 2)) (k : G Z X b (pc + 2) (a0 :: a1 :: a2 :: a3 :: a4 :: a5 :: a6 :: a7 :: a8 :: a9 :: a10 :: a11 :: some (.long x) :: L) (.long x :: st)) : G Z X b pc (a0 :: a1 :: a2 :: a3 :: a4 :: a5 :: a6 :: a7 :: a8 :: a9 :: a10 :: a11 :: some (.long x) :: L) st := by
  obtain ⟨hx, hb, hml, hown, hts, hK, hrf, hrl, hcl, hsl⟩ := hX
  intro H locs ls hP hS hl
  exact lv_lload hx hb dg (hl.2.2 12 _ rfl) (k H locs ls hP hS hl)
theorem g_lstore_12 (hX : Ok Z X cc nL own d) {a0 a1 a2 a3 a4 a5 a6 a7 a8 a9 a10 a11 a12 a13 : Option Value} {x : Int64} (dg : decode cc pc = .ok (.lstore 12, 2)) (hp : nl1 a11 = true) (k : G Z X b (pc + 2) (a0 :: a1 :: a2 :: a3 :: a4 :: a5 :: a6 :: a7 :: a8 :: a9 :: a10 :: a11 :: some (.long x) :: none :: L) st) : G Z X b pc (a0 :: a1 :: a2 :: a3 :: a4 :: a5 :: a6 :: a7 :: a8 :: a9 :: a10 :: a11 :: a12 :: a13 :: L) (.long x :: st) := by
  obtain ⟨hx, hb, hml, hown, hts, hK, hrf, hrl, hcl, hsl⟩ := hX
  intro H locs ls hP hS hl
  exact lv_lstore hx hb dg hl.has (show 12 + 1 < _ by simp only [List.length_cons]; omega) rfl (fun ls' h => k H locs ls' hP hS (lvk.set2 h (fun v hv _ => by
    have e : a11 = some v := Option.some.inj hv
    rw [e] at hp; simpa [nl1] using hp)))
theorem g_iinc_12 (hX : Ok Z X cc nL own d) {a0 a1 a2 a3 a4 a5 a6 a7 a8 a9 a10 a11 : Option Value} {x : Int32} {n : Int} (c : Int32) (dg : decode cc pc = .ok (.iinc 12 n, 3)) (hc : Int32.ofInt n = c) (hp : nl1 a11 = true) (k : G Z X b (pc + 3) (a0 :: a1 :: a2 :: a3 :: a4 :: a5 :: a6 :: a7 :: a8 :: a9 :: a10 :: a11 :: some (.int (x + c)) :: L) st) : G Z X b pc (a0 :: a1 :: a2 :: a3 :: a4 :: a5 :: a6 :: a7 :: a8 :: a9 :: a10 :: a11 :: some (.int x) :: L) st := by
  obtain ⟨hx, hb, hml, hown, hts, hK, hrf, hrl, hcl, hsl⟩ := hX
  intro H locs ls hP hS hl
  have hm : (12, Value.int x) ∈ lval (a0 :: a1 :: a2 :: a3 :: a4 :: a5 :: a6 :: a7 :: a8 :: a9 :: a10 :: a11 :: some (.int x) :: L) := lval_mem.mpr rfl
  obtain ⟨kk, hkk⟩ := List.getElem?_of_mem hm
  exact lv_iinc (v := x + c) hx hb dg hl.has hkk (by rw [hc]) (by simp) rfl (fun ls' h => k H locs ls' hP hS (lvk.set h (fun v hv _ => by
    have e : a11 = some v := Option.some.inj hv
    rw [e] at hp; simpa [nl1] using hp)))
theorem g_iload_13 (hX : Ok Z X cc nL own d) {a0 a1 a2 a3 a4 a5 a6 a7 a8 a9 a10 a11 a12 : Option Value} {x : Int32} (dg : decode cc pc = .ok (.iload 13, 2)) (k : G Z X b (pc + 2) (a0 :: a1 :: a2 :: a3 :: a4 :: a5 :: a6 :: a7 :: a8 :: a9 :: a10 :: a11 :: a12 :: some (.int x) :: L) (.int x :: st)) : G Z X b pc (a0 :: a1 :: a2 :: a3 :: a4 :: a5 :: a6 :: a7 :: a8 :: a9 :: a10 :: a11 :: a12 :: some (.int x) :: L) st := by
  obtain ⟨hx, hb, hml, hown, hts, hK, hrf, hrl, hcl, hsl⟩ := hX
  intro H locs ls hP hS hl
  exact lv_iload hx hb dg (hl.2.2 13 _ rfl) (k H locs ls hP hS hl)
theorem g_istore_13 (hX : Ok Z X cc nL own d) {a0 a1 a2 a3 a4 a5 a6 a7 a8 a9 a10 a11 a12 a13 : Option Value} {x : Int32} (dg : decode cc pc = .ok (.istore 13, 2)) (hp : nl1 a12 = true) (k : G Z X b (pc + 2) (a0 :: a1 :: a2 :: a3 :: a4 :: a5 :: a6 :: a7 :: a8 :: a9 :: a10 :: a11 :: a12 :: some (.int x) :: L) st) : G Z X b pc (a0 :: a1 :: a2 :: a3 :: a4 :: a5 :: a6 :: a7 :: a8 :: a9 :: a10 :: a11 :: a12 :: a13 :: L) (.int x :: st) := by
  obtain ⟨hx, hb, hml, hown, hts, hK, hrf, hrl, hcl, hsl⟩ := hX
  intro H locs ls hP hS hl
  exact lv_istore hx hb dg hl.has (show 13 < _ by simp only [List.length_cons]; omega) rfl (fun ls' h => k H locs ls' hP hS (lvk.set h (fun v hv _ => by
    have e : a12 = some v := Option.some.inj hv
    rw [e] at hp; simpa [nl1] using hp)))
theorem g_lload_13 (hX : Ok Z X cc nL own d) {a0 a1 a2 a3 a4 a5 a6 a7 a8 a9 a10 a11 a12 : Option Value} {x : Int64} (dg : decode cc pc = .ok (.lload 13, 2)) (k : G Z X b (pc + 2) (a0 :: a1 :: a2 :: a3 :: a4 :: a5 :: a6 :: a7 :: a8 :: a9 :: a10 :: a11 :: a12 :: some (.long x) :: L) (.long x :: st)) : G Z X b pc (a0 :: a1 :: a2 :: a3 :: a4 :: a5 :: a6 :: a7 :: a8 :: a9 :: a10 :: a11 :: a12 :: some (.long x) :: L) st := by
  obtain ⟨hx, hb, hml, hown, hts, hK, hrf, hrl, hcl, hsl⟩ := hX
  intro H locs ls hP hS hl
  exact lv_lload hx hb dg (hl.2.2 13 _ rfl) (k H locs ls hP hS hl)
theorem g_lstore_13 (hX : Ok Z X cc nL own d) {a0 a1 a2 a3 a4 a5 a6 a7 a8 a9 a10 a11 a12 a13 a14 : Option Value} {x : Int64} (dg : decode cc pc = .ok (.lstore 13, 2)) (hp : nl1 a12 = true) (k : G Z X b (pc + 2) (a0 :: a1 :: a2 :: a3 :: a4 :: a5 :: a6 :: a7 :: a8 :: a9 :: a10 :: a11 :: a12 :: some (.long x) :: none :: L) st) : G Z X b pc (a0 :: a1 :: a2 :: a3 :: a4 :: a5 :: a6 :: a7 :: a8 :: a9 :: a10 :: a11 :: a12 :: a13 :: a14 :: L) (.long x :: st) := by
  obtain ⟨hx, hb, hml, hown, hts, hK, hrf, hrl, hcl, hsl⟩ := hX
  intro H locs ls hP hS hl
  exact lv_lstore hx hb dg hl.has (show 13 + 1 < _ by simp only [List.length_cons]; omega) rfl (fun ls' h => k H locs ls' hP hS (lvk.set2 h (fun v hv _ => by
    have e : a12 = some v := Option.some.inj hv
    rw [e] at hp; simpa [nl1] using hp)))
theorem g_iinc_13 (hX : Ok Z X cc nL own d) {a0 a1 a2 a3 a4 a5 a6 a7 a8 a9 a10 a11 a12 : Option Value} {x : Int32} {n : Int} (c : Int32) (dg : decode cc pc = .ok (.iinc 13 n, 3)) (hc : Int32.ofInt n = c) (hp : nl1 a12 = true) (k : G Z X b (pc + 3) (a0 :: a1 :: a2 :: a3 :: a4 :: a5 :: a6 :: a7 :: a8 :: a9 :: a10 :: a11 :: a12 :: some (.int (x + c)) :: L) st) : G Z X b pc (a0 :: a1 :: a2 :: a3 :: a4 :: a5 :: a6 :: a7 :: a8 :: a9 :: a10 :: a11 :: a12 :: some (.int x) :: L) st := by
  obtain ⟨hx, hb, hml, hown, hts, hK, hrf, hrl, hcl, hsl⟩ := hX
  intro H locs ls hP hS hl
  have hm : (13, Value.int x) ∈ lval (a0 :: a1 :: a2 :: a3 :: a4 :: a5 :: a6 :: a7 :: a8 :: a9 :: a10 :: a11 :: a12 :: some (.int x) :: L) := lval_mem.mpr rfl
  obtain ⟨kk, hkk⟩ := List.getElem?_of_mem hm
  exact lv_iinc (v := x + c) hx hb dg hl.has hkk (by rw [hc]) (by simp) rfl (fun ls' h => k H locs ls' hP hS (lvk.set h (fun v hv _ => by
    have e : a12 = some v := Option.some.inj hv
    rw [e] at hp; simpa [nl1] using hp)))
theorem g_iadd (hX : Ok Z X cc nL own d) {x y : Int32} (dg : decode cc pc = .ok (.iadd, 1)) (k : G Z X b (pc + 1) L (.int (x + y) :: st)) : G Z X b pc L (.int y :: .int x :: st) := by
  obtain ⟨hx, hb, hml, hown, hts, hK, hrf, hrl, hcl, hsl⟩ := hX
  intro H locs ls hP hS hl
  exact lv_iadd hx hb dg (k H locs ls hP hS hl)
theorem g_isub (hX : Ok Z X cc nL own d) {x y : Int32} (dg : decode cc pc = .ok (.isub, 1)) (k : G Z X b (pc + 1) L (.int (x - y) :: st)) : G Z X b pc L (.int y :: .int x :: st) := by
  obtain ⟨hx, hb, hml, hown, hts, hK, hrf, hrl, hcl, hsl⟩ := hX
  intro H locs ls hP hS hl
  exact lv_isub hx hb dg (k H locs ls hP hS hl)
theorem g_imul (hX : Ok Z X cc nL own d) {x y : Int32} (dg : decode cc pc = .ok (.imul, 1)) (k : G Z X b (pc + 1) L (.int (x * y) :: st)) : G Z X b pc L (.int y :: .int x :: st) := by
  obtain ⟨hx, hb, hml, hown, hts, hK, hrf, hrl, hcl, hsl⟩ := hX
  intro H locs ls hP hS hl
  exact lv_imul hx hb dg (k H locs ls hP hS hl)
theorem g_iand (hX : Ok Z X cc nL own d) {x y : Int32} (dg : decode cc pc = .ok (.iand, 1)) (k : G Z X b (pc + 1) L (.int (x &&& y) :: st)) : G Z X b pc L (.int y :: .int x :: st) := by
  obtain ⟨hx, hb, hml, hown, hts, hK, hrf, hrl, hcl, hsl⟩ := hX
  intro H locs ls hP hS hl
  exact lv_iand hx hb dg (k H locs ls hP hS hl)
theorem g_ior (hX : Ok Z X cc nL own d) {x y : Int32} (dg : decode cc pc = .ok (.ior, 1)) (k : G Z X b (pc + 1) L (.int (x ||| y) :: st)) : G Z X b pc L (.int y :: .int x :: st) := by
  obtain ⟨hx, hb, hml, hown, hts, hK, hrf, hrl, hcl, hsl⟩ := hX
  intro H locs ls hP hS hl
  exact lv_ior hx hb dg (k H locs ls hP hS hl)
theorem g_ixor (hX : Ok Z X cc nL own d) {x y : Int32} (dg : decode cc pc = .ok (.ixor, 1)) (k : G Z X b (pc + 1) L (.int (x ^^^ y) :: st)) : G Z X b pc L (.int y :: .int x :: st) := by
  obtain ⟨hx, hb, hml, hown, hts, hK, hrf, hrl, hcl, hsl⟩ := hX
  intro H locs ls hP hS hl
  exact lv_ixor hx hb dg (k H locs ls hP hS hl)
theorem g_ishl (hX : Ok Z X cc nL own d) {x y : Int32} (dg : decode cc pc = .ok (.ishl, 1)) (k : G Z X b (pc + 1) L (.int (x <<< (y &&& 31)) :: st)) : G Z X b pc L (.int y :: .int x :: st) := by
  obtain ⟨hx, hb, hml, hown, hts, hK, hrf, hrl, hcl, hsl⟩ := hX
  intro H locs ls hP hS hl
  exact lv_ishl hx hb dg (k H locs ls hP hS hl)
theorem g_ishr (hX : Ok Z X cc nL own d) {x y : Int32} (dg : decode cc pc = .ok (.ishr, 1)) (k : G Z X b (pc + 1) L (.int (x >>> (y &&& 31)) :: st)) : G Z X b pc L (.int y :: .int x :: st) := by
  obtain ⟨hx, hb, hml, hown, hts, hK, hrf, hrl, hcl, hsl⟩ := hX
  intro H locs ls hP hS hl
  exact lv_ishr hx hb dg (k H locs ls hP hS hl)
def jrem (x y : Int32) : Int32 := x - x / y * y
def jushr (x y : Int32) : Int32 := (x.toUInt32 >>> (y.toUInt32 &&& Int32.toUInt32 31)).toInt32
theorem g_idiv (hX : Ok Z X cc nL own d) {x y : Int32} (dg : decode cc pc = .ok (.idiv, 1)) (h0 : ¬ y = 0) (k : G Z X b (pc + 1) L (.int (x / y) :: st)) : G Z X b pc L (.int y :: .int x :: st) := by
  obtain ⟨hx, hb, hml, hown, hts, hK, hrf, hrl, hcl, hsl⟩ := hX
  intro H locs ls hP hS hl
  exact lv_idiv hx hb dg h0 (k H locs ls hP hS hl)
theorem g_irem (hX : Ok Z X cc nL own d) {x y : Int32} (dg : decode cc pc = .ok (.irem, 1)) (h0 : ¬ y = 0) (k : G Z X b (pc + 1) L (.int (jrem x y) :: st)) : G Z X b pc L (.int y :: .int x :: st) := by
  obtain ⟨hx, hb, hml, hown, hts, hK, hrf, hrl, hcl, hsl⟩ := hX
  intro H locs ls hP hS hl
  exact lv_irem hx hb dg h0 (k H locs ls hP hS hl)
theorem g_iushr (hX : Ok Z X cc nL own d) {x y : Int32} (dg : decode cc pc = .ok (.iushr, 1)) (k : G Z X b (pc + 1) L (.int (jushr x y) :: st)) : G Z X b pc L (.int y :: .int x :: st) := by
  obtain ⟨hx, hb, hml, hown, hts, hK, hrf, hrl, hcl, hsl⟩ := hX
  intro H locs ls hP hS hl
  exact lv_iushr hx hb dg rfl (k H locs ls hP hS hl)
theorem g_ineg (hX : Ok Z X cc nL own d) {x : Int32} (dg : decode cc pc = .ok (.ineg, 1)) (k : G Z X b (pc + 1) L (.int (-x) :: st)) : G Z X b pc L (.int x :: st) := by
  obtain ⟨hx, hb, hml, hown, hts, hK, hrf, hrl, hcl, hsl⟩ := hX
  intro H locs ls hP hS hl
  exact lv_ineg hx hb dg (k H locs ls hP hS hl)
theorem g_ladd (hX : Ok Z X cc nL own d) {x y : Int64} (dg : decode cc pc = .ok (.ladd, 1)) (k : G Z X b (pc + 1) L (.long (x + y) :: st)) : G Z X b pc L (.long y :: .long x :: st) := by
  obtain ⟨hx, hb, hml, hown, hts, hK, hrf, hrl, hcl, hsl⟩ := hX
  intro H locs ls hP hS hl
  exact lv_ladd hx hb dg (k H locs ls hP hS hl)
theorem g_lmul (hX : Ok Z X cc nL own d) {x y : Int64} (dg : decode cc pc = .ok (.lmul, 1)) (k : G Z X b (pc + 1) L (.long (x * y) :: st)) : G Z X b pc L (.long y :: .long x :: st) := by
  obtain ⟨hx, hb, hml, hown, hts, hK, hrf, hrl, hcl, hsl⟩ := hX
  intro H locs ls hP hS hl
  exact lv_lmul hx hb dg (k H locs ls hP hS hl)
theorem g_i2l (hX : Ok Z X cc nL own d) {x : Int32} (dg : decode cc pc = .ok (.i2l, 1)) (k : G Z X b (pc + 1) L (.long x.toInt64 :: st)) : G Z X b pc L (.int x :: st) := by
  obtain ⟨hx, hb, hml, hown, hts, hK, hrf, hrl, hcl, hsl⟩ := hX
  intro H locs ls hP hS hl
  exact lv_i2l hx hb dg rfl (k H locs ls hP hS hl)
theorem g_lcmp (hX : Ok Z X cc nL own d) {x y : Int64} (dg : decode cc pc = .ok (.lcmp, 1)) (k : G Z X b (pc + 1) L (.int (lg_cmp x y) :: st)) : G Z X b pc L (.long y :: .long x :: st) := by
  obtain ⟨hx, hb, hml, hown, hts, hK, hrf, hrl, hcl, hsl⟩ := hX
  intro H locs ls hP hS hl
  exact W.lcmp hx hb dg (k H locs ls hP hS hl)
theorem g_dup (hX : Ok Z X cc nL own d) {v : Value} (dg : decode cc pc = .ok (.dup, 1)) (hv : v.category = 1) (k : G Z X b (pc + 1) L (v :: v :: st)) : G Z X b pc L (v :: st) := by
  obtain ⟨hx, hb, hml, hown, hts, hK, hrf, hrl, hcl, hsl⟩ := hX
  intro H locs ls hP hS hl
  exact lv_dup hx hb dg hv (k H locs ls hP hS hl)
theorem g_pop (hX : Ok Z X cc nL own d) {v : Value} (dg : decode cc pc = .ok (.pop, 1)) (hv : v.category = 1) (k : G Z X b (pc + 1) L st) : G Z X b pc L (v :: st) := by
  obtain ⟨hx, hb, hml, hown, hts, hK, hrf, hrl, hcl, hsl⟩ := hX
  intro H locs ls hP hS hl
  exact lv_pop hx hb dg hv (k H locs ls hP hS hl)
theorem g_dup2 (hX : Ok Z X cc nL own d) {v w : Value} (dg : decode cc pc = .ok (.dup2, 1)) (hv : v.category = 1) (hw : w.category = 1) (k : G Z X b (pc + 1) L (v :: w :: v :: w :: st)) : G Z X b pc L (v :: w :: st) := by
  obtain ⟨hx, hb, hml, hown, hts, hK, hrf, hrl, hcl, hsl⟩ := hX
  intro H locs ls hP hS hl
  exact lv_dup2_11 hx hb dg hv hw (k H locs ls hP hS hl)
theorem g_icmp_eq (hX : Ok Z X cc nL own d) {x y : Int32} {off : Int} (tgt : Nat) (dg : decode cc pc = .ok (.if_icmp .eq off, 3)) (ht : (pc : Int) + off = (tgt : Int)) (kt : x = y → G Z X b tgt L st) (kf : ¬ x = y → G Z X b (pc + 3) L st) : G Z X b pc L (.int y :: .int x :: st) := by
  obtain ⟨hx, hb, hml, hown, hts, hK, hrf, hrl, hcl, hsl⟩ := hX
  intro H locs ls hP hS hl
  exact lv_icmp_eq hx hb dg ht (fun h => kt (h) H locs ls hP hS hl) (fun h => kf (h) H locs ls hP hS hl)
theorem g_icmp_ne (hX : Ok Z X cc nL own d) {x y : Int32} {off : Int} (tgt : Nat) (dg : decode cc pc = .ok (.if_icmp .ne off, 3)) (ht : (pc : Int) + off = (tgt : Int)) (kt : ¬ x = y → G Z X b tgt L st) (kf : x = y → G Z X b (pc + 3) L st) : G Z X b pc L (.int y :: .int x :: st) := by
  obtain ⟨hx, hb, hml, hown, hts, hK, hrf, hrl, hcl, hsl⟩ := hX
  intro H locs ls hP hS hl
  exact lv_icmp_ne hx hb dg ht (fun h => kt (h) H locs ls hP hS hl) (fun h => kf (h) H locs ls hP hS hl)
theorem g_icmp_lt (hX : Ok Z X cc nL own d) {x y : Int32} {off : Int} (tgt : Nat) (dg : decode cc pc = .ok (.if_icmp .lt off, 3)) (ht : (pc : Int) + off = (tgt : Int)) (kt : x < y → G Z X b tgt L st) (kf : ¬ x < y → G Z X b (pc + 3) L st) : G Z X b pc L (.int y :: .int x :: st) := by
  obtain ⟨hx, hb, hml, hown, hts, hK, hrf, hrl, hcl, hsl⟩ := hX
  intro H locs ls hP hS hl
  exact lv_icmp_lt hx hb dg ht (fun h => kt (h) H locs ls hP hS hl) (fun h => kf (h) H locs ls hP hS hl)
theorem g_icmp_ge (hX : Ok Z X cc nL own d) {x y : Int32} {off : Int} (tgt : Nat) (dg : decode cc pc = .ok (.if_icmp .ge off, 3)) (ht : (pc : Int) + off = (tgt : Int)) (kt : ¬ x < y → G Z X b tgt L st) (kf : x < y → G Z X b (pc + 3) L st) : G Z X b pc L (.int y :: .int x :: st) := by
  obtain ⟨hx, hb, hml, hown, hts, hK, hrf, hrl, hcl, hsl⟩ := hX
  intro H locs ls hP hS hl
  exact lv_icmp_ge hx hb dg ht (fun h => kt (Int32.not_lt.mpr h) H locs ls hP hS hl) (fun h => kf (Int32.not_le.mp h) H locs ls hP hS hl)
theorem g_icmp_gt (hX : Ok Z X cc nL own d) {x y : Int32} {off : Int} (tgt : Nat) (dg : decode cc pc = .ok (.if_icmp .gt off, 3)) (ht : (pc : Int) + off = (tgt : Int)) (kt : y < x → G Z X b tgt L st) (kf : ¬ y < x → G Z X b (pc + 3) L st) : G Z X b pc L (.int y :: .int x :: st) := by
  obtain ⟨hx, hb, hml, hown, hts, hK, hrf, hrl, hcl, hsl⟩ := hX
  intro H locs ls hP hS hl
  exact lv_icmp_gt hx hb dg ht (fun h => kt (h) H locs ls hP hS hl) (fun h => kf (h) H locs ls hP hS hl)
theorem g_icmp_le (hX : Ok Z X cc nL own d) {x y : Int32} {off : Int} (tgt : Nat) (dg : decode cc pc = .ok (.if_icmp .le off, 3)) (ht : (pc : Int) + off = (tgt : Int)) (kt : ¬ y < x → G Z X b tgt L st) (kf : y < x → G Z X b (pc + 3) L st) : G Z X b pc L (.int y :: .int x :: st) := by
  obtain ⟨hx, hb, hml, hown, hts, hK, hrf, hrl, hcl, hsl⟩ := hX
  intro H locs ls hP hS hl
  exact lv_icmp_le hx hb dg ht (fun h => kt (Int32.not_lt.mpr h) H locs ls hP hS hl) (fun h => kf (Int32.not_le.mp h) H locs ls hP hS hl)
theorem g_if_eq (hX : Ok Z X cc nL own d) {x : Int32} {off : Int} (tgt : Nat) (dg : decode cc pc = .ok (.ifCond .eq off, 3)) (ht : (pc : Int) + off = (tgt : Int)) (kt : x = 0 → G Z X b tgt L st) (kf : ¬ x = 0 → G Z X b (pc + 3) L st) : G Z X b pc L (.int x :: st) := by
  obtain ⟨hx, hb, hml, hown, hts, hK, hrf, hrl, hcl, hsl⟩ := hX
  intro H locs ls hP hS hl
  exact lv_if_eq hx hb dg ht (fun h => kt (h) H locs ls hP hS hl) (fun h => kf (h) H locs ls hP hS hl)
theorem g_if_ne (hX : Ok Z X cc nL own d) {x : Int32} {off : Int} (tgt : Nat) (dg : decode cc pc = .ok (.ifCond .ne off, 3)) (ht : (pc : Int) + off = (tgt : Int)) (kt : ¬ x = 0 → G Z X b tgt L st) (kf : x = 0 → G Z X b (pc + 3) L st) : G Z X b pc L (.int x :: st) := by
  obtain ⟨hx, hb, hml, hown, hts, hK, hrf, hrl, hcl, hsl⟩ := hX
  intro H locs ls hP hS hl
  exact lv_if_ne hx hb dg ht (fun h => kt (h) H locs ls hP hS hl) (fun h => kf (h) H locs ls hP hS hl)
theorem g_if_lt (hX : Ok Z X cc nL own d) {x : Int32} {off : Int} (tgt : Nat) (dg : decode cc pc = .ok (.ifCond .lt off, 3)) (ht : (pc : Int) + off = (tgt : Int)) (kt : x < 0 → G Z X b tgt L st) (kf : ¬ x < 0 → G Z X b (pc + 3) L st) : G Z X b pc L (.int x :: st) := by
  obtain ⟨hx, hb, hml, hown, hts, hK, hrf, hrl, hcl, hsl⟩ := hX
  intro H locs ls hP hS hl
  exact lv_if_lt hx hb dg ht (fun h => kt (h) H locs ls hP hS hl) (fun h => kf (h) H locs ls hP hS hl)
theorem g_if_ge (hX : Ok Z X cc nL own d) {x : Int32} {off : Int} (tgt : Nat) (dg : decode cc pc = .ok (.ifCond .ge off, 3)) (ht : (pc : Int) + off = (tgt : Int)) (kt : ¬ x < 0 → G Z X b tgt L st) (kf : x < 0 → G Z X b (pc + 3) L st) : G Z X b pc L (.int x :: st) := by
  obtain ⟨hx, hb, hml, hown, hts, hK, hrf, hrl, hcl, hsl⟩ := hX
  intro H locs ls hP hS hl
  exact lv_if_ge hx hb dg ht (fun h => kt (Int32.not_lt.mpr h) H locs ls hP hS hl) (fun h => kf (Int32.not_le.mp h) H locs ls hP hS hl)
theorem g_if_gt (hX : Ok Z X cc nL own d) {x : Int32} {off : Int} (tgt : Nat) (dg : decode cc pc = .ok (.ifCond .gt off, 3)) (ht : (pc : Int) + off = (tgt : Int)) (kt : 0 < x → G Z X b tgt L st) (kf : ¬ 0 < x → G Z X b (pc + 3) L st) : G Z X b pc L (.int x :: st) := by
  obtain ⟨hx, hb, hml, hown, hts, hK, hrf, hrl, hcl, hsl⟩ := hX
  intro H locs ls hP hS hl
  exact lv_if_gt hx hb dg ht (fun h => kt (h) H locs ls hP hS hl) (fun h => kf (h) H locs ls hP hS hl)
theorem g_if_le (hX : Ok Z X cc nL own d) {x : Int32} {off : Int} (tgt : Nat) (dg : decode cc pc = .ok (.ifCond .le off, 3)) (ht : (pc : Int) + off = (tgt : Int)) (kt : ¬ 0 < x → G Z X b tgt L st) (kf : 0 < x → G Z X b (pc + 3) L st) : G Z X b pc L (.int x :: st) := by
  obtain ⟨hx, hb, hml, hown, hts, hK, hrf, hrl, hcl, hsl⟩ := hX
  intro H locs ls hP hS hl
  exact lv_if_le hx hb dg ht (fun h => kt (Int32.not_lt.mpr h) H locs ls hP hS hl) (fun h => kf (Int32.not_le.mp h) H locs ls hP hS hl)
theorem g_goto (hX : Ok Z X cc nL own d) {off : Int} (tgt : Nat) (dg : decode cc pc = .ok (.goto off, 3)) (ht : (pc : Int) + off = (tgt : Int)) (k : G Z X b tgt L st) : G Z X b pc L st := by
  obtain ⟨hx, hb, hml, hown, hts, hK, hrf, hrl, hcl, hsl⟩ := hX
  intro H locs ls hP hS hl
  exact lv_goto hx hb dg ht (k H locs ls hP hS hl)
theorem g_tableOut (hX : Ok Z X cc nL own d) {dflt lo hi : Int} {offs : Array Int} {len : Nat} {x : Int32} (tgt : Nat) (dg : decode cc pc = .ok (.tableswitch dflt lo hi offs, len)) (h : x.toInt < lo ∨ hi < x.toInt) (ht : (pc : Int) + dflt = (tgt : Int)) (k : G Z X b tgt L st) : G Z X b pc L (.int x :: st) := by
  obtain ⟨hx, hb, hml, hown, hts, hK, hrf, hrl, hcl, hsl⟩ := hX
  intro H locs ls hP hS hl
  exact lv_tableOut hx hb dg h ht (k H locs ls hP hS hl)
theorem g_tableIn (hX : Ok Z X cc nL own d) {dflt lo hi : Int} {offs : Array Int} {len : Nat} {x : Int32} {off : Int} (tgt : Nat) (dg : decode cc pc = .ok (.tableswitch dflt lo hi offs, len)) (h1 : ¬ x.toInt < lo) (h2 : ¬ hi < x.toInt) (ho : offs[(x.toInt - lo).toNat]? = some off) (ht : (pc : Int) + off = (tgt : Int)) (k : G Z X b tgt L st) : G Z X b pc L (.int x :: st) := by
  obtain ⟨hx, hb, hml, hown, hts, hK, hrf, hrl, hcl, hsl⟩ := hX
  intro H locs ls hP hS hl
  exact lv_tableIn hx hb dg h1 h2 ho ht (k H locs ls hP hS hl)
theorem g_lookup (hX : Ok Z X cc nL own d) {dflt : Int} {ps : Array (Int × Int)} {len : Nat} {x : Int32} {off : Int} (tgt : Nat) (dg : decode cc pc = .ok (.lookupswitch dflt ps, len)) (hp : (ps.toList.zip (ps.toList.drop 1)).all (fun (a, next) => a.1 < next.1) = true) (ho : Op.lookupswitch.offset ps.toList dflt x.toInt = off) (ht : (pc : Int) + off = (tgt : Int)) (k : G Z X b tgt L st) : G Z X b pc L (.int x :: st) := by
  obtain ⟨hx, hb, hml, hown, hts, hK, hrf, hrl, hcl, hsl⟩ := hX
  intro H locs ls hP hS hl
  exact lv_lookup hx hb dg hp ho ht (k H locs ls hP hS hl)
theorem g_ifnonnull (hX : Ok Z X cc nL own d) {x : Nat} {off : Int} (tgt : Nat) (dg : decode cc pc = .ok (.ifnonnull off, 3)) (ht : (pc : Int) + off = (tgt : Int)) (k : G Z X b tgt L st) : G Z X b pc L (.ref x :: st) := by
  obtain ⟨hx, hb, hml, hown, hts, hK, hrf, hrl, hcl, hsl⟩ := hX
  intro H locs ls hP hS hl
  exact lv_ifnonnull hx hb dg ht (k H locs ls hP hS hl)
theorem g_ifnull (hX : Ok Z X cc nL own d) {x : Nat} {off : Int} (dg : decode cc pc = .ok (.ifnull off, 3)) (k : G Z X b (pc + 3) L st) : G Z X b pc L (.ref x :: st) := by
  obtain ⟨hx, hb, hml, hown, hts, hK, hrf, hrl, hcl, hsl⟩ := hX
  intro H locs ls hP hS hl
  exact lv_ifnull hx hb dg (k H locs ls hP hS hl)
theorem g_get (hX : Ok Z X cc nL own d) {C ref : String} {T : u_T} {N ci index i : Nat} {fs : List Value} {v : Value} (k0 : Nat) (hin : ∀ w ∈ u_ws C T N, w ∈ TB) (hi : i < NC) (he : sh Z i (b i) = .inr (ci, fs)) (hc : vwCl[ci]? = some (C, T, N)) (hk : k0 < N) (hw : Cond.fieldLink own index ref (T k0).2.1 (T k0).2.2.1 ∈ TB) (hrf0 : ref = (T k0).1) (hv : fs[k0]? = some v) (dg : decode cc pc = .ok (.getfield index, 3)) (k : G Z X b (pc + 3) L (v :: st)) : G Z X b pc L (.ref (zad Z i) :: st) := by
  obtain ⟨hx, hb, hml, hown, hts, hK, hrf, hrl, hcl, hsl⟩ := hX
  intro H locs ls hP hS hl
  exact va_get hx hb hts hin hown hK.1 hP i ((ww_get Z b hi).trans (by rw [he])) hc k0 hk (hts _ hw) (fun x9 h9 => by rw [hrf0]; exact h9) hv dg (k H locs ls hP hS hl)
theorem g_put (hX : Ok Z X cc nL own d) {C ref : String} {T : u_T} {N ci index i : Nat} {fs : List Value} {x : Int32} (ty0 : Nat → FieldType) (ty : FieldType) (k0 : Nat) (hin : ∀ w ∈ u_ws C T N, w ∈ TB) (hty : ∀ k, k < N → parseFieldDescriptor (T k).2.2.1 = some (ty0 k)) (hnm : ∀ a, a < N → ∀ b, b < N → a ≠ b → (T a).2.1 ≠ (T b).2.1) (hi : i < NC) (he : sh Z i (b i) = .inr (ci, fs)) (he2 : sh Z i (upd (b i) k0 x) = .inr (ci, fs.set k0 (.int x))) (hc : vwCl[ci]? = some (C, T, N)) (hk : k0 < N) (hw : Cond.fieldLink own index ref (T k0).2.1 (T k0).2.2.1 ∈ TB) (hrf0 : ref = (T k0).1) (hfin : (T k0).2.2.2 = false) (hd : parseFieldDescriptor (T k0).2.2.1 = some ty) (hn : narrow ty (.int x) = .int x) (hfit : fits ty (.int x) = true) (hfl : k0 < fs.length) (dg : decode cc pc = .ok (.putfield index, 3)) (k : G Z X (up2 b i k0 x) (pc + 3) L st) : G Z X b pc L (.int x :: .ref (zad Z i) :: st) := by
  obtain ⟨hx, hb, hml, hown, hts, hK, hrf, hrl, hcl, hsl⟩ := hX
  intro H locs ls hP hS hl
  refine va_put hx hb hts hin ty0 hty hnm hown hK.1 hP (hK.D b) hS i ((ww_get Z b hi).trans (by rw [he])) hc k0 hk (hts _ hw) (fun x9 h9 => by rw [hrf0]; exact h9) hfin hd hn hfit hfl dg (fun H1 locs1 hP1 _ hS1 => ?_)
  rw [ww_set Z b (upd (b i) k0 x) hi he2] at hP1
  exact k H1 locs1 ls hP1 hS1 hl
/-- cell i is a row of n ints -/
def isArr (Z : Zt) (i n : Nat) : Prop := i < NC ∧ ∀ f, sh Z i f = .inl (zcI Z, (n, .inl f))
theorem g_iald (hX : Ok Z X cc nL own d) {i n : Nat} {x : Int32} (hi : isArr Z i n) (hin : vp_in x n) (dg : decode cc pc = .ok (.iaload, 1)) (k : G Z X b (pc + 1) L (.int (b i x.toNatClampNeg) :: st)) : G Z X b pc L (.int x :: .ref (zad Z i) :: st) := by
  obtain ⟨hx, hb, hml, hown, hts, hK, hrf, hrl, hcl, hsl⟩ := hX
  intro H locs ls hP hS hl
  exact va_iald hx hb hK.1 hP i 0 ((ww_get Z b hi.1).trans (by rw [hi.2])) rfl hin dg (k H locs ls hP hS hl)
theorem g_iast (hX : Ok Z X cc nL own d) {i n : Nat} {x y : Int32} (hi : isArr Z i n) (hin : vp_in x n) (dg : decode cc pc = .ok (.iastore, 1)) (k : G Z X (up2 b i x.toNatClampNeg y) (pc + 1) L st) : G Z X b pc L (.int y :: .int x :: .ref (zad Z i) :: st) := by
  obtain ⟨hx, hb, hml, hown, hts, hK, hrf, hrl, hcl, hsl⟩ := hX
  intro H locs ls hP hS hl
  refine va_iast hx hb hK.1 hP (hK.D b) hS i 0 ((ww_get Z b hi.1).trans (by rw [hi.2])) rfl hin dg (fun H1 locs1 hP1 _ hS1 => ?_)
  rw [ww_set Z b (upd (b i) x.toNatClampNeg y) hi.1 (hi.2 _)] at hP1
  exact k H1 locs1 ls hP1 hS1 hl
theorem g_alen (hX : Ok Z X cc nL own d) {i n : Nat} (hi : isArr Z i n) (dg : decode cc pc = .ok (.arraylength, 1)) (k : G Z X b (pc + 1) L (.int (nI n) :: st)) : G Z X b pc L (.ref (zad Z i) :: st) := by
  obtain ⟨hx, hb, hml, hown, hts, hK, hrf, hrl, hcl, hsl⟩ := hX
  intro H locs ls hP hS hl
  exact va_alen (x := (n, .inl (b i))) hx hb hK.1 hP i 0 ((ww_get Z b hi.1).trans (by rw [hi.2])) rfl rfl dg (k H locs ls hP hS hl)
theorem g_aaload (hX : Ok Z X cc nL own d) {x : Int32} (hin : vp_in x 5) (dg : decode cc pc = .ok (.aaload, 1)) (k : G Z X b (pc + 1) L (.ref (zad Z (15 + 7 * x.toNatClampNeg)) :: st)) : G Z X b pc L (.int x :: .ref (zad Z 51) :: st) := by
  obtain ⟨hx, hb, hml, hown, hts, hK, hrf, hrl, hcl, hsl⟩ := hX
  intro H locs ls hP hS hl
  exact va_aldq hx hb hK.1 hP 51 1 (f := fun j => some (zad Z (15 + 7 * j))) ((ww_get Z b (by decide)).trans rfl) rfl hin dg (k H locs ls hP hS hl)
theorem g_alenB (hX : Ok Z X cc nL own d) (dg : decode cc pc = .ok (.arraylength, 1)) (k : G Z X b (pc + 1) L (.int 5 :: st)) : G Z X b pc L (.ref (zad Z 51) :: st) := by
  obtain ⟨hx, hb, hml, hown, hts, hK, hrf, hrl, hcl, hsl⟩ := hX
  intro H locs ls hP hS hl
  exact va_alen (ty := .object "SnakedBus$Bus") hx hb hK.1 hP 51 1 (x := (5, .inr (.inr (.inr (.inr (fun j => some (zad Z (15 + 7 * j)))))))) ((ww_get Z b (by decide)).trans rfl) rfl rfl dg (k H locs ls hP hS hl)
theorem g_sldL (hX : Ok Z X cc nL own d) {x : Int32} (hin : vp_in x 7) (dg : decode cc pc = .ok (.iaload, 1)) (k : G Z X b (pc + 1) L (.int (lowF x.toNatClampNeg) :: st)) : G Z X b pc L (.int x :: .ref (ztL Z) :: st) := by
  obtain ⟨hx, hb, hml, hown, hts, hK, hrf, hrl, hcl, hsl⟩ := hX
  intro H locs ls hP hS hl
  exact va_ti hx hb hK.2.2.2.2.1.2 hS hin rfl dg (k H locs ls hP hS hl)
theorem g_slenL (hX : Ok Z X cc nL own d) (dg : decode cc pc = .ok (.arraylength, 1)) (k : G Z X b (pc + 1) L (.int 7 :: st)) : G Z X b pc L (.ref (ztL Z) :: st) := by
  obtain ⟨hx, hb, hml, hown, hts, hK, hrf, hrl, hcl, hsl⟩ := hX
  intro H locs ls hP hS hl
  exact va_tlen hx hb hK.2.2.2.2.1.2 hS rfl dg (k H locs ls hP hS hl)
theorem g_getsL (hX : Ok Z X cc nL "SnakedBus$Bus" d) (dg : decode cc pc = .ok (.getstatic 74, 3)) (k : G Z X b (pc + 3) L (.ref (ztL Z) :: st)) : G Z X b pc L st := by
  obtain ⟨hx, hb, hml, hown, hts, hK, hrf, hrl, hcl, hsl⟩ := hX
  intro H locs ls hP hS hl
  exact va_getsN hx hb hK.2.2.2.2.1.1 hS hown (va_Nw.use rfl (hK.2.2.1 (74, "LOWEST") (by simp [nestF]))) (fun x9 h9 => h9) dg (k H locs ls hP hS hl)
theorem g_sldH (hX : Ok Z X cc nL own d) {x : Int32} (hin : vp_in x 7) (dg : decode cc pc = .ok (.iaload, 1)) (k : G Z X b (pc + 1) L (.int (higF x.toNatClampNeg) :: st)) : G Z X b pc L (.int x :: .ref (ztH Z) :: st) := by
  obtain ⟨hx, hb, hml, hown, hts, hK, hrf, hrl, hcl, hsl⟩ := hX
  intro H locs ls hP hS hl
  exact va_ti hx hb hK.2.2.2.2.2.2 hS hin rfl dg (k H locs ls hP hS hl)
theorem g_slenH (hX : Ok Z X cc nL own d) (dg : decode cc pc = .ok (.arraylength, 1)) (k : G Z X b (pc + 1) L (.int 7 :: st)) : G Z X b pc L (.ref (ztH Z) :: st) := by
  obtain ⟨hx, hb, hml, hown, hts, hK, hrf, hrl, hcl, hsl⟩ := hX
  intro H locs ls hP hS hl
  exact va_tlen hx hb hK.2.2.2.2.2.2 hS rfl dg (k H locs ls hP hS hl)
theorem g_getsH (hX : Ok Z X cc nL "SnakedBus$Bus" d) (dg : decode cc pc = .ok (.getstatic 77, 3)) (k : G Z X b (pc + 3) L (.ref (ztH Z) :: st)) : G Z X b pc L st := by
  obtain ⟨hx, hb, hml, hown, hts, hK, hrf, hrl, hcl, hsl⟩ := hX
  intro H locs ls hP hS hl
  exact va_getsN hx hb hK.2.2.2.2.2.1 hS hown (va_Nw.use rfl (hK.2.2.1 (77, "HIGHEST") (by simp [nestF]))) (fun x9 h9 => h9) dg (k H locs ls hP hS hl)
end RULES
