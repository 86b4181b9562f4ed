/-! the law from its entry to its loop -/
theorem nm_X4_67 : Cond.methodLinkNest "SnakedBus$Text" 67 yX5_cell "SnakedBus" ∈ lw_tbl := List.mem_of_getElem? (i := 687) (by decide +kernel)
theorem nm_X4_56 : Cond.methodLinkNest "SnakedBus$Text" 56 yX5_within "SnakedBus" ∈ lw_tbl := List.mem_of_getElem? (i := 682) (by decide +kernel)
theorem nm_X4_41 : Cond.methodLinkNest "SnakedBus$Text" 41 yX5_at "SnakedBus" ∈ lw_tbl := List.mem_of_getElem? (i := 666) (by decide +kernel)
theorem nm_X4_37 : Cond.methodLinkNest "SnakedBus$Text" 37 yX5_put "SnakedBus" ∈ lw_tbl := List.mem_of_getElem? (i := 645) (by decide +kernel)
theorem nm_X3_90 : Cond.methodLinkNest "SnakedBus$Sharing" 90 yX5_cell "SnakedBus" ∈ lw_tbl := List.mem_of_getElem? (i := 515) (by decide +kernel)
theorem nm_X3_78 : Cond.methodLinkNest "SnakedBus$Sharing" 78 yX5_hasBit "SnakedBus" ∈ lw_tbl := List.mem_of_getElem? (i := 500) (by decide +kernel)
theorem nm_X3_67 : Cond.methodLinkNest "SnakedBus$Sharing" 67 yX5_at "SnakedBus" ∈ lw_tbl := List.mem_of_getElem? (i := 481) (by decide +kernel)
theorem nm_X3_54 : Cond.methodLinkNest "SnakedBus$Sharing" 54 yX5_put "SnakedBus" ∈ lw_tbl := List.mem_of_getElem? (i := 474) (by decide +kernel)
theorem nm_X2_56 : Cond.methodLinkNest "SnakedBus$Phasing" 56 yX5_at "SnakedBus" ∈ lw_tbl := List.mem_of_getElem? (i := 619) (by decide +kernel)
theorem nm_X2_52 : Cond.methodLinkNest "SnakedBus$Phasing" 52 yX5_copy "SnakedBus" ∈ lw_tbl := List.mem_of_getElem? (i := 628) (by decide +kernel)
theorem nm_X2_25 : Cond.methodLinkNest "SnakedBus$Phasing" 25 yX5_put "SnakedBus" ∈ lw_tbl := List.mem_of_getElem? (i := 607) (by decide +kernel)
theorem nm_X0_70 : Cond.methodLinkNest "SnakedBus$Bus" 70 yX5_at "SnakedBus" ∈ lw_tbl := List.mem_of_getElem? (i := 324) (by decide +kernel)
theorem nm_X0_52 : Cond.methodLinkNest "SnakedBus$Bus" 52 yX5_cell "SnakedBus" ∈ lw_tbl := List.mem_of_getElem? (i := 283) (by decide +kernel)
theorem nm_X0_48 : Cond.methodLinkNest "SnakedBus$Bus" 48 yX5_put "SnakedBus" ∈ lw_tbl := List.mem_of_getElem? (i := 280) (by decide +kernel)
theorem nm_X0_44 : Cond.methodLinkNest "SnakedBus$Bus" 44 yX5_within "SnakedBus" ∈ lw_tbl := List.mem_of_getElem? (i := 277) (by decide +kernel)
theorem nm_X0_40 : Cond.methodLinkNest "SnakedBus$Bus" 40 yX5_copy "SnakedBus" ∈ lw_tbl := List.mem_of_getElem? (i := 98) (by decide +kernel)
theorem nm_X0_105 : Cond.methodLinkNest "SnakedBus$Bus" 105 yX5_hasBit "SnakedBus" ∈ lw_tbl := List.mem_of_getElem? (i := 417) (by decide +kernel)
theorem nm_all : ∀ q ∈ nestM, Cond.methodLinkNest q.1 q.2.1 q.2.2 "SnakedBus" ∈ lw_tbl := List.forall_mem_cons.mpr ⟨nm_X4_67, List.forall_mem_cons.mpr ⟨nm_X4_56, List.forall_mem_cons.mpr ⟨nm_X4_41, List.forall_mem_cons.mpr ⟨nm_X4_37, List.forall_mem_cons.mpr ⟨nm_X3_90, List.forall_mem_cons.mpr ⟨nm_X3_78, List.forall_mem_cons.mpr ⟨nm_X3_67, List.forall_mem_cons.mpr ⟨nm_X3_54, List.forall_mem_cons.mpr ⟨nm_X2_56, List.forall_mem_cons.mpr ⟨nm_X2_52, List.forall_mem_cons.mpr ⟨nm_X2_25, List.forall_mem_cons.mpr ⟨nm_X0_70, List.forall_mem_cons.mpr ⟨nm_X0_52, List.forall_mem_cons.mpr ⟨nm_X0_48, List.forall_mem_cons.mpr ⟨nm_X0_44, List.forall_mem_cons.mpr ⟨nm_X0_40, List.forall_mem_cons.mpr ⟨nm_X0_105, fun _ h => absurd h List.not_mem_nil⟩⟩⟩⟩⟩⟩⟩⟩⟩⟩⟩⟩⟩⟩⟩⟩⟩
theorem nf_AT_FIRST : Cond.fieldLinkNest "SnakedBus$Bus" 37 "SnakedBus" "AT_FIRST" "[I" "SnakedBus" ∈ lw_tbl := List.mem_of_getElem? (i := 96) (by decide +kernel)
theorem ls_AT_FIRST : Cond.laysStatic "SnakedBus" "AT_FIRST" "[I" ∈ lw_tbl := List.mem_of_getElem? (i := 97) (by decide +kernel)
theorem nf_LOWEST : Cond.fieldLinkNest "SnakedBus$Bus" 74 "SnakedBus" "LOWEST" "[I" "SnakedBus" ∈ lw_tbl := List.mem_of_getElem? (i := 375) (by decide +kernel)
theorem ls_LOWEST : Cond.laysStatic "SnakedBus" "LOWEST" "[I" ∈ lw_tbl := List.mem_of_getElem? (i := 376) (by decide +kernel)
theorem nf_HIGHEST : Cond.fieldLinkNest "SnakedBus$Bus" 77 "SnakedBus" "HIGHEST" "[I" "SnakedBus" ∈ lw_tbl := List.mem_of_getElem? (i := 377) (by decide +kernel)
theorem ls_HIGHEST : Cond.laysStatic "SnakedBus" "HIGHEST" "[I" ∈ lw_tbl := List.mem_of_getElem? (i := 378) (by decide +kernel)
theorem nf_all : ∀ q ∈ nestF, Cond.fieldLinkNest "SnakedBus$Bus" q.1 "SnakedBus" q.2 "[I" "SnakedBus" ∈ lw_tbl := List.forall_mem_cons.mpr ⟨nf_LOWEST, List.forall_mem_cons.mpr ⟨nf_HIGHEST, fun _ h => absurd h List.not_mem_nil⟩⟩
theorem ao_bus : Cond.arrayOver (.object "SnakedBus$Bus") ∈ lw_tbl := List.mem_of_getElem? (i := 140) (by decide +kernel)
set_option maxRecDepth 100000 in
theorem st_AT_FIRST {args : Array Value} {s : State} {A : Nat → Prop} (hts : ∀ w ∈ lw_tbl, w.before args s = true) (hgv : (Jvm.Cond.and given_1 narrow_1).before args s = true) (hA : ∀ a : Nat, a < s.heap.size → ¬ A a) : ∃ t : Nat, va_Z "SnakedBus" "AT_FIRST" "[I" (.ref t) A s s.heap ∧ va_T .int t 7 (fun j => .int (atF j)) A s s.heap := by
  have hs := flat_of_before _ hgv
  have harr : (Cond.arrayOf (.static "SnakedBus" "AT_FIRST" "[I") .int).before args s = true := hs _ (by decide +kernel)
  have hlen := va_eqt (hs (Cond.eq (.length (.static "SnakedBus" "AT_FIRST" "[I")) (.int 7)) (by decide +kernel))
  have h0 := va_eqt (hs (Cond.eq (.elem (.static "SnakedBus" "AT_FIRST" "[I") (.int 0)) (.int 6)) (by decide +kernel))
  have h1 := va_eqt (hs (Cond.eq (.elem (.static "SnakedBus" "AT_FIRST" "[I") (.int 1)) (.int 2)) (by decide +kernel))
  have h2 := va_eqt (hs (Cond.eq (.elem (.static "SnakedBus" "AT_FIRST" "[I") (.int 2)) (.int 0)) (by decide +kernel))
  have h3 := va_eqt (hs (Cond.eq (.elem (.static "SnakedBus" "AT_FIRST" "[I") (.int 3)) (.int 0)) (by decide +kernel))
  have h4 := va_eqt (hs (Cond.eq (.elem (.static "SnakedBus" "AT_FIRST" "[I") (.int 4)) (.int 0)) (by decide +kernel))
  have h5 := va_eqt (hs (Cond.eq (.elem (.static "SnakedBus" "AT_FIRST" "[I") (.int 5)) (.int 0)) (by decide +kernel))
  have h6 := va_eqt (hs (Cond.eq (.elem (.static "SnakedBus" "AT_FIRST" "[I") (.int 6)) (.int 4)) (by decide +kernel))
  obtain ⟨t, ht, hT⟩ := va_Tof (A := A) (N := 7) (f := fun j => .int (atF j)) (by decide) harr hlen (fun j hj => by
    rcases (show j = 0 ∨ j = 1 ∨ j = 2 ∨ j = 3 ∨ j = 4 ∨ j = 5 ∨ j = 6 by omega) with rfl | rfl | rfl | rfl | rfl | rfl | rfl
    · exact h0
    · exact h1
    · exact h2
    · exact h3
    · exact h4
    · exact h5
    · exact h6) hA
  exact ⟨t, va_Zof (hts _ ls_AT_FIRST) (hts _ (List.mem_filter.mp in1_X5).1) ht hA, hT⟩
set_option maxRecDepth 100000 in
theorem st_LOWEST {args : Array Value} {s : State} {A : Nat → Prop} (hts : ∀ w ∈ lw_tbl, w.before args s = true) (hgv : (Jvm.Cond.and given_1 narrow_1).before args s = true) (hA : ∀ a : Nat, a < s.heap.size → ¬ A a) : ∃ t : Nat, va_Z "SnakedBus" "LOWEST" "[I" (.ref t) A s s.heap ∧ va_T .int t 7 (fun j => .int (lowF j)) A s s.heap := by
  have hs := flat_of_before _ hgv
  have harr : (Cond.arrayOf (.static "SnakedBus" "LOWEST" "[I") .int).before args s = true := hs _ (by decide +kernel)
  have hlen := va_eqt (hs (Cond.eq (.length (.static "SnakedBus" "LOWEST" "[I")) (.int 7)) (by decide +kernel))
  have h0 := va_eqt (hs (Cond.eq (.elem (.static "SnakedBus" "LOWEST" "[I") (.int 0)) (.int 2)) (by decide +kernel))
  have h1 := va_eqt (hs (Cond.eq (.elem (.static "SnakedBus" "LOWEST" "[I") (.int 1)) (.int 1)) (by decide +kernel))
  have h2 := va_eqt (hs (Cond.eq (.elem (.static "SnakedBus" "LOWEST" "[I") (.int 2)) (.int 0)) (by decide +kernel))
  have h3 := va_eqt (hs (Cond.eq (.elem (.static "SnakedBus" "LOWEST" "[I") (.int 3)) (.int 0)) (by decide +kernel))
  have h4 := va_eqt (hs (Cond.eq (.elem (.static "SnakedBus" "LOWEST" "[I") (.int 4)) (.int 0)) (by decide +kernel))
  have h5 := va_eqt (hs (Cond.eq (.elem (.static "SnakedBus" "LOWEST" "[I") (.int 5)) (.int 0)) (by decide +kernel))
  have h6 := va_eqt (hs (Cond.eq (.elem (.static "SnakedBus" "LOWEST" "[I") (.int 6)) (.int 1)) (by decide +kernel))
  obtain ⟨t, ht, hT⟩ := va_Tof (A := A) (N := 7) (f := fun j => .int (lowF j)) (by decide) harr hlen (fun j hj => by
    rcases (show j = 0 ∨ j = 1 ∨ j = 2 ∨ j = 3 ∨ j = 4 ∨ j = 5 ∨ j = 6 by omega) with rfl | rfl | rfl | rfl | rfl | rfl | rfl
    · exact h0
    · exact h1
    · exact h2
    · exact h3
    · exact h4
    · exact h5
    · exact h6) hA
  exact ⟨t, va_Zof (hts _ ls_LOWEST) (hts _ (List.mem_filter.mp in1_X5).1) ht hA, hT⟩
set_option maxRecDepth 100000 in
theorem st_HIGHEST {args : Array Value} {s : State} {A : Nat → Prop} (hts : ∀ w ∈ lw_tbl, w.before args s = true) (hgv : (Jvm.Cond.and given_1 narrow_1).before args s = true) (hA : ∀ a : Nat, a < s.heap.size → ¬ A a) : ∃ t : Nat, va_Z "SnakedBus" "HIGHEST" "[I" (.ref t) A s s.heap ∧ va_T .int t 7 (fun j => .int (higF j)) A s s.heap := by
  have hs := flat_of_before _ hgv
  have harr : (Cond.arrayOf (.static "SnakedBus" "HIGHEST" "[I") .int).before args s = true := hs _ (by decide +kernel)
  have hlen := va_eqt (hs (Cond.eq (.length (.static "SnakedBus" "HIGHEST" "[I")) (.int 7)) (by decide +kernel))
  have h0 := va_eqt (hs (Cond.eq (.elem (.static "SnakedBus" "HIGHEST" "[I") (.int 0)) (.int 12)) (by decide +kernel))
  have h1 := va_eqt (hs (Cond.eq (.elem (.static "SnakedBus" "HIGHEST" "[I") (.int 1)) (.int 4)) (by decide +kernel))
  have h2 := va_eqt (hs (Cond.eq (.elem (.static "SnakedBus" "HIGHEST" "[I") (.int 2)) (.int 2)) (by decide +kernel))
  have h3 := va_eqt (hs (Cond.eq (.elem (.static "SnakedBus" "HIGHEST" "[I") (.int 3)) (.int 20)) (by decide +kernel))
  have h4 := va_eqt (hs (Cond.eq (.elem (.static "SnakedBus" "HIGHEST" "[I") (.int 4)) (.int 999)) (by decide +kernel))
  have h5 := va_eqt (hs (Cond.eq (.elem (.static "SnakedBus" "HIGHEST" "[I") (.int 5)) (.int 6)) (by decide +kernel))
  have h6 := va_eqt (hs (Cond.eq (.elem (.static "SnakedBus" "HIGHEST" "[I") (.int 6)) (.int 9)) (by decide +kernel))
  obtain ⟨t, ht, hT⟩ := va_Tof (A := A) (N := 7) (f := fun j => .int (higF j)) (by decide) harr hlen (fun j hj => by
    rcases (show j = 0 ∨ j = 1 ∨ j = 2 ∨ j = 3 ∨ j = 4 ∨ j = 5 ∨ j = 6 by omega) with rfl | rfl | rfl | rfl | rfl | rfl | rfl
    · exact h0
    · exact h1
    · exact h2
    · exact h3
    · exact h4
    · exact h5
    · exact h6) hA
  exact ⟨t, va_Zof (hts _ ls_HIGHEST) (hts _ (List.mem_filter.mp in1_X5).1) ht hA, hT⟩
/-- the addresses of all cells -/
def zf (q1 : Nat) (a1 : Nat → Nat) (q2 : Nat) (a2 : Nat → Nat) : Nat → Nat := fun i => if i = 0 then q1 else if i < 69 then a1 i else if i = 69 then q2 else a2 (i - 69)
def wwr (Z : Zt) (b : Mem) (f : Nat → Option Nat) : va_W := (ww Z b).set 51 (zad Z 51, .inl (zcB Z, (5, .inr (.inr (.inr (.inr f))))))
theorem wwr_get (Z : Zt) (b : Mem) (f : Nat → Option Nat) {i : Nat} (h : i < NC) : ∃ e, (wwr Z b f)[i]? = some (zad Z i, e) := by
  unfold wwr
  by_cases c : i = 51
  · subst c
    exact ⟨_, List.getElem?_set_self (by simp [ww, NC])⟩
  · exact ⟨_, by rw [List.getElem?_set_ne (fun q => c q.symm)]; exact ww_get Z b h⟩
theorem wwr_P {Z : Zt} {D : va_G} {b : Mem} {f : Nat → Option Nat} {H : Heap} (hf : ∀ j, j < 5 → f j = some (zad Z (15 + 7 * j))) (h : va_P D vwCl (wwr Z b f) H) : va_P D vwCl (ww Z b) H := by
  intro k q hq
  have hk : k < NC := by
    have := (List.getElem?_eq_some_iff.mp hq).1
    simpa [ww] using this
  by_cases c : k = 51
  · subst c
    rw [ww_get Z b hk] at hq
    have h0 := h 51 (zad Z 51, .inl (zcB Z, (5, .inr (.inr (.inr (.inr f)))))) (by unfold wwr; exact List.getElem?_set_self (by simp [ww, NC]))
    have h1 : H[zad Z 51]? = some (vp_cell (zcB Z) (5, .inr (.inr (.inr (.inr f))))) := h0
    have e : q = (zad Z 51, .inl (zcB Z, (5, .inr (.inr (.inr (.inr (fun j => some (zad Z (15 + 7 * j))))))))) := (Option.some.inj hq).symm
    subst e
    show H[zad Z 51]? = some (vp_cell (zcB Z) (5, .inr (.inr (.inr (.inr (fun j => some (zad Z (15 + 7 * j))))))))
    rw [h1, vq_congr hf]
  · exact h k q (by unfold wwr; rw [List.getElem?_set_ne (fun z => c z.symm)]; exact hq)
theorem wwr_D {Z : Zt} {A : Nat → Prop} {b : Mem} {f : Nat → Option Nat} (h : va_D A (wwr Z b f)) : (∀ i j, i < NC → j < NC → zad Z i = zad Z j → i = j) ∧ ∀ i, i < NC → A (zad Z i) := by
  refine ⟨fun i j hi hj e => ?_, fun i hi => ?_⟩
  · obtain ⟨e1, h1⟩ := wwr_get Z b f hi
    obtain ⟨e2, h2⟩ := wwr_get Z b f hj
    exact h.1 i j _ _ h1 h2 e
  · obtain ⟨e1, h1⟩ := wwr_get Z b f hi
    exact h.2 i _ h1
set_option maxRecDepth 100000 in
set_option maxHeartbeats 4000000 in
theorem world_e (l : Launch) (D : va_G) (c : ClassId × ClassId) (q1 : Nat) (a1 : Nat → Nat) (q2 : Nat) (a2 : Nat → Nat) (t : Nat × Nat) : ([] ++ sbW c q1 a1) ++ moW c q2 a2 = wwr (l, D, c, zf q1 a1 q2 a2, t) mem0 (rowf (fun i => a1 (15 + i))) := by
  rfl
