/-! the maker SnakedBus() -/
theorem n_makeC {l : Launch} {D : va_G} {c : ClassId × ClassId} {tA : Nat} {A : Nat → Prop} {X : Xt} {cc : ByteArray} {nL d mc ms : Nat} {own : String} {x : Nat × va_E} {t : va_W} {cs sl pc : Nat} {L : List (Option Value)} {st : List Value} {C : String} {T : u_T} {N ci i1 i2 d' mc' ms' : Nat} {ty0 : Nat → FieldType} {y : MethodName} {cy : ByteArray} {mL : Nat} {fin : Nat → (Nat → Nat) → va_W} (hX : NOk D c tA A X cc nL own d mc ms) (hin : ∀ w ∈ u_ws C T N, w ∈ TB) (hty : ∀ k, k < N → parseFieldDescriptor (T k).2.2.1 = some (ty0 k)) (fs : List Value) (hc : vwCl[ci]? = some (C, T, N)) (hfs : ∀ j, j < N → defaultValue (ty0 j) = vp_V fs j)
    (u1 : Cond.classLink own i1 C ∈ TB) (u2 : Cond.instantiable C N ∈ TB) (u3 : Cond.initialized C ∈ TB) (m1 : Cond.code y cy mL none ∈ TB) (m2 : Cond.initialized y.cls ∈ TB) (m3 : y.cls ≠ "java/lang/invoke/MethodHandle" ∧ y.cls ≠ "java/lang/invoke/VarHandle" ∧ (parseMethodDescriptor y.desc).map (fun d => d.parameters.length) = some 0) (m4 : Cond.methodLink own i2 y ∈ TB) (m5 : Cond.instanceMethod y ∈ TB) (m6 : y.name = "<init>") (m7 : mL ≤ 19)
    (hM : ∀ q, Mk l D c tA y cy mL d' mc' ms' [.ref q] [(q, .inr (ci, fs))] (fin q)) (hLn : L.length = nL) (hd : d' + 1 ≤ d) (hcs : cs + 1 + mc' ≤ mc) (hsl : sl + N + ms' ≤ ms) (hw : (st.map fun v => v.category).sum ≤ 7) (dg0 : decode cc pc = .ok (.new i1, 3)) (dg1 : decode cc (pc + 3) = .ok (.dup, 1)) (dg2 : decode cc (pc + 4) = .ok (.invokespecial i2, 3)) (cs2 sl2 pc2 : Nat) (hcs2 : cs + 1 + mc' = cs2) (hsl2 : sl + N + ms' = sl2) (hpc2 : pc + 7 = pc2)
    (k : ∀ q a, NX l D A X (x :: (t ++ fin q a)) cs2 sl2 pc2 L (.ref q :: st)) : NX l D A X (x :: t) cs sl pc L st := by
  subst hcs2; subst hsl2; subst hpc2
  exact n_makeE hX hin hty fs hc hfs u1 u2 u3 m1 m2 m3 m4 m5 m6 m7 hM hLn hd hcs hsl hw dg0 dg1 dg2 (fun q a => by rw [List.cons_append]; exact k q a)
theorem n_fs {l : Launch} {D : va_G} {A : Nat → Prop} {X : Xt} {h0 ci : Nat} {fs fs' : List Value} {t : va_W} {cs sl pc : Nat} {L : List (Option Value)} {st : List Value} (h : fs = fs') (k : NX l D A X ((h0, .inr (ci, fs')) :: t) cs sl pc L st) : NX l D A X ((h0, .inr (ci, fs)) :: t) cs sl pc L st := by
  subst h; exact k
theorem busW_e {c : ClassId × ClassId} {h h' : Nat} {a a' : Nat → Nat} (h0 : h' = h) (ha : ∀ i, 0 < i → i < 7 → a' i = a i) : busW c h' a' = busW c h a := by
  unfold busW
  rw [h0, ha 1 (by omega) (by omega), ha 2 (by omega) (by omega), ha 3 (by omega) (by omega), ha 4 (by omega) (by omega), ha 5 (by omega) (by omega), ha 6 (by omega) (by omega)]
theorem shrW_e {c : ClassId × ClassId} {h h' : Nat} {a a' : Nat → Nat} (h0 : h' = h) (ha : ∀ i, 0 < i → i < 5 → a' i = a i) : shrW c h' a' = shrW c h a := by
  unfold shrW
  rw [h0, ha 1 (by omega) (by omega), ha 2 (by omega) (by omega), ha 3 (by omega) (by omega), ha 4 (by omega) (by omega)]
theorem texW_e {c : ClassId × ClassId} {h h' : Nat} {a a' : Nat → Nat} (h0 : h' = h) (ha : ∀ i, 0 < i → i < 4 → a' i = a i) : texW c h' a' = texW c h a := by
  unfold texW
  rw [h0, ha 1 (by omega) (by omega), ha 2 (by omega) (by omega), ha 3 (by omega) (by omega)]
theorem phaW_e {c : ClassId × ClassId} {h h' : Nat} {a a' : Nat → Nat} (h0 : h' = h) (ha : ∀ i, 0 < i → i < 3 → a' i = a i) : phaW c h' a' = phaW c h a := by
  unfold phaW
  rw [h0, ha 1 (by omega) (by omega), ha 2 (by omega) (by omega)]
theorem pastW_e {c : ClassId × ClassId} {h h' : Nat} {a a' : Nat → Nat} (h0 : h' = h) (ha : ∀ i, i < 37 → i ≠ 35 → a' i = a i) : pastW c h' a' = pastW c h a := by
  have er : rowf a' = rowf a := by
    funext j
    unfold rowf
    by_cases hj : j < 5
    · rw [if_pos hj, if_pos hj, ha (7 * j) (by omega) (by omega)]
    · rw [if_neg hj, if_neg hj]
  unfold pastW
  rw [er, h0, ha 36 (by omega) (by omega), busW_e (h := a 0) (h' := a' 0) (a := fun i => a i) (a' := fun i => a' i) (ha 0 (by omega) (by omega)) (fun i h1 h2 => ha i (by omega) (by omega)), busW_e (h := a 7) (h' := a' 7) (a := fun i => a (7 + i)) (a' := fun i => a' (7 + i)) (ha 7 (by omega) (by omega)) (fun i h1 h2 => ha (7 + i) (by omega) (by omega)), busW_e (h := a 14) (h' := a' 14) (a := fun i => a (14 + i)) (a' := fun i => a' (14 + i)) (ha 14 (by omega) (by omega)) (fun i h1 h2 => ha (14 + i) (by omega) (by omega)), busW_e (h := a 21) (h' := a' 21) (a := fun i => a (21 + i)) (a' := fun i => a' (21 + i)) (ha 21 (by omega) (by omega)) (fun i h1 h2 => ha (21 + i) (by omega) (by omega)), busW_e (h := a 28) (h' := a' 28) (a := fun i => a (28 + i)) (a' := fun i => a' (28 + i)) (ha 28 (by omega) (by omega)) (fun i h1 h2 => ha (28 + i) (by omega) (by omega))]
/-- the addresses of SnakedBus' cells, out of its parts' -/
def adF (h0 q1 q2 q3 q4 q5 q6 q7 : Nat) (a1 a2 a3 a4 a5 a6 a7 : Nat → Nat) : Nat → Nat := fun i =>
  if i = 0 then h0 else if i = 1 then q1 else if i < 8 then a1 (i - 1) else if i = 8 then q2 else if i < 15 then a2 (i - 8) else if i = 50 then q3 else if i < 52 then a3 (i - 15) else if i = 52 then q4 else if i < 56 then a4 (i - 52) else if i = 56 then q5 else if i < 61 then a5 (i - 56) else if i = 61 then q6 else if i < 66 then a6 (i - 61) else if i = 66 then q7 else a7 (i - 66)
set_option maxRecDepth 100000 in
set_option maxHeartbeats 4000000 in
theorem k_X5_init {l : Launch} {D : va_G} {c : ClassId × ClassId} {tA h0 : Nat} : Mk l D c tA yX5_init cX5_init 1 4 68 1587 [.ref h0] [(h0, .inr (5, [.null, .null, .null, .null, .null, .null, .null, .int 0, .int 0, .int 0, .int 0]))] (sbW c h0) := by
  refine mk_v (by decide) (Nat.le_of_ble_eq_true rfl) rfl (fun X A hX hmn hq => ?_)
  have hX : NOk D c tA A X cX5_init 1 RX5 4 68 1587 := hX
  have hmn : X.2.2.2.2.2.2.2.1.name = "<init>" := hmn
  show NX l D A X ((h0, .inr (5, [.null, .null, .null, .null, .null, .null, .null, .int 0, .int 0, .int 0, .int 0])) :: []) 0 0 0 [some (.ref h0)] []
  refine n_aload_0 hX dX5_init_0 ?_
  refine n_obj hX ml_X5_1 oi_i oi_c rfl (Nat.le_of_ble_eq_true rfl) dX5_init_1 ?_
  refine n_aload_0 hX dX5_init_4 ?_
  refine n_makeC (T := TX0) (ty0 := tyX0) (fin := busW c) hX in_X0 tyX0_ok [.null, .null, .null, .null, .null, .null, .int 0, .int 0] rfl (fun j hj => by rcases (show j = 0 ∨ j = 1 ∨ j = 2 ∨ j = 3 ∨ j = 4 ∨ j = 5 ∨ j = 6 ∨ j = 7 by omega) with rfl | rfl | rfl | rfl | rfl | rfl | rfl | rfl <;> rfl) cl_X5_7 is_X0 in1_X0 ic_X0 in1_X0 ⟨by decide, by decide, by decide +kernel⟩ ml_X5_9 ii_X0 rfl (by decide) (fun q => k_X0_init) rfl (by decide) (by decide) (by decide) (Nat.le_of_ble_eq_true rfl) dX5_init_5 dX5_init_8 dX5_init_9 7 129 12 rfl rfl rfl (fun q1 a1 => ?_)
  refine n_putF (ty0 := tyX5) hX hmn in_X5 tyX5_ok nmX5 rfl 0 (by decide) fl_X5_bus rfl rfl (ty := (.object "SnakedBus$Bus")) (by decide +kernel) rfl rfl (Nat.le_of_ble_eq_true rfl) dX5_init_12 ?_
  refine n_fs (fs' := [.ref q1, .null, .null, .null, .null, .null, .null, .int 0, .int 0, .int 0, .int 0]) rfl ?_
  refine n_aload_0 hX dX5_init_15 ?_
  refine n_makeC (T := TX0) (ty0 := tyX0) (fin := busW c) hX in_X0 tyX0_ok [.null, .null, .null, .null, .null, .null, .int 0, .int 0] rfl (fun j hj => by rcases (show j = 0 ∨ j = 1 ∨ j = 2 ∨ j = 3 ∨ j = 4 ∨ j = 5 ∨ j = 6 ∨ j = 7 by omega) with rfl | rfl | rfl | rfl | rfl | rfl | rfl | rfl <;> rfl) cl_X5_7 is_X0 in1_X0 ic_X0 in1_X0 ⟨by decide, by decide, by decide +kernel⟩ ml_X5_9 ii_X0 rfl (by decide) (fun q => k_X0_init) rfl (by decide) (by decide) (by decide) (Nat.le_of_ble_eq_true rfl) dX5_init_16 dX5_init_19 dX5_init_20 14 258 23 rfl rfl rfl (fun q2 a2 => ?_)
  refine n_putF (ty0 := tyX5) hX hmn in_X5 tyX5_ok nmX5 rfl 1 (by decide) fl_X5_trial rfl rfl (ty := (.object "SnakedBus$Bus")) (by decide +kernel) rfl rfl (Nat.le_of_ble_eq_true rfl) dX5_init_23 ?_
  refine n_fs (fs' := [.ref q1, .ref q2, .null, .null, .null, .null, .null, .int 0, .int 0, .int 0, .int 0]) rfl ?_
  refine n_aload_0 hX dX5_init_26 ?_
  refine n_makeC (T := TX1) (ty0 := tyX1) (fin := pastW c) hX in_X1 tyX1_ok [.null, .int 0, .int 0] rfl (fun j hj => by rcases (show j = 0 ∨ j = 1 ∨ j = 2 by omega) with rfl | rfl | rfl <;> rfl) cl_X5_19 is_X1 in1_X1 ic_X1 in1_X1 ⟨by decide, by decide, by decide +kernel⟩ ml_X5_21 ii_X1 rfl (by decide) (fun q => k_X1_init) rfl (by decide) (by decide) (by decide) (Nat.le_of_ble_eq_true rfl) dX5_init_27 dX5_init_30 dX5_init_31 51 911 34 rfl rfl rfl (fun q3 a3 => ?_)
  refine n_putF (ty0 := tyX5) hX hmn in_X5 tyX5_ok nmX5 rfl 2 (by decide) fl_X5_past rfl rfl (ty := (.object "SnakedBus$Past")) (by decide +kernel) rfl rfl (Nat.le_of_ble_eq_true rfl) dX5_init_34 ?_
  refine n_fs (fs' := [.ref q1, .ref q2, .ref q3, .null, .null, .null, .null, .int 0, .int 0, .int 0, .int 0]) rfl ?_
  refine n_aload_0 hX dX5_init_37 ?_
  refine n_makeC (T := TX4) (ty0 := tyX4) (fin := texW c) hX in_X4 tyX4_ok [.null, .null, .null, .int 0, .int 0, .int 0, .int 0, .int 0] rfl (fun j hj => by rcases (show j = 0 ∨ j = 1 ∨ j = 2 ∨ j = 3 ∨ j = 4 ∨ j = 5 ∨ j = 6 ∨ j = 7 by omega) with rfl | rfl | rfl | rfl | rfl | rfl | rfl | rfl <;> rfl) cl_X5_26 is_X4 in1_X4 ic_X4 in1_X4 ⟨by decide, by decide, by decide +kernel⟩ ml_X5_28 ii_X4 rfl (by decide) (fun q => k_X4_init) rfl (by decide) (by decide) (by decide) (Nat.le_of_ble_eq_true rfl) dX5_init_38 dX5_init_41 dX5_init_42 55 1199 45 rfl rfl rfl (fun q4 a4 => ?_)
  refine n_putF (ty0 := tyX5) hX hmn in_X5 tyX5_ok nmX5 rfl 3 (by decide) fl_X5_text rfl rfl (ty := (.object "SnakedBus$Text")) (by decide +kernel) rfl rfl (Nat.le_of_ble_eq_true rfl) dX5_init_45 ?_
  refine n_fs (fs' := [.ref q1, .ref q2, .ref q3, .ref q4, .null, .null, .null, .int 0, .int 0, .int 0, .int 0]) rfl ?_
  refine n_aload_0 hX dX5_init_48 ?_
  refine n_makeC (T := TX3) (ty0 := tyX3) (fin := shrW c) hX in_X3 tyX3_ok [.null, .null, .null, .null, .int 0, .int 0, .int 0, .int 0] rfl (fun j hj => by rcases (show j = 0 ∨ j = 1 ∨ j = 2 ∨ j = 3 ∨ j = 4 ∨ j = 5 ∨ j = 6 ∨ j = 7 by omega) with rfl | rfl | rfl | rfl | rfl | rfl | rfl | rfl <;> rfl) cl_X5_33 is_X3 in1_X3 ic_X3 in1_X3 ⟨by decide, by decide, by decide +kernel⟩ ml_X5_35 ii_X3 rfl (by decide) (fun q => k_X3_init) rfl (by decide) (by decide) (by decide) (Nat.le_of_ble_eq_true rfl) dX5_init_49 dX5_init_52 dX5_init_53 60 1377 56 rfl rfl rfl (fun q5 a5 => ?_)
  refine n_putF (ty0 := tyX5) hX hmn in_X5 tyX5_ok nmX5 rfl 4 (by decide) fl_X5_byTarget rfl rfl (ty := (.object "SnakedBus$Sharing")) (by decide +kernel) rfl rfl (Nat.le_of_ble_eq_true rfl) dX5_init_56 ?_
  refine n_fs (fs' := [.ref q1, .ref q2, .ref q3, .ref q4, .ref q5, .null, .null, .int 0, .int 0, .int 0, .int 0]) rfl ?_
  refine n_aload_0 hX dX5_init_59 ?_
  refine n_makeC (T := TX3) (ty0 := tyX3) (fin := shrW c) hX in_X3 tyX3_ok [.null, .null, .null, .null, .int 0, .int 0, .int 0, .int 0] rfl (fun j hj => by rcases (show j = 0 ∨ j = 1 ∨ j = 2 ∨ j = 3 ∨ j = 4 ∨ j = 5 ∨ j = 6 ∨ j = 7 by omega) with rfl | rfl | rfl | rfl | rfl | rfl | rfl | rfl <;> rfl) cl_X5_33 is_X3 in1_X3 ic_X3 in1_X3 ⟨by decide, by decide, by decide +kernel⟩ ml_X5_35 ii_X3 rfl (by decide) (fun q => k_X3_init) rfl (by decide) (by decide) (by decide) (Nat.le_of_ble_eq_true rfl) dX5_init_60 dX5_init_63 dX5_init_64 65 1555 67 rfl rfl rfl (fun q6 a6 => ?_)
  refine n_putF (ty0 := tyX5) hX hmn in_X5 tyX5_ok nmX5 rfl 5 (by decide) fl_X5_tried rfl rfl (ty := (.object "SnakedBus$Sharing")) (by decide +kernel) rfl rfl (Nat.le_of_ble_eq_true rfl) dX5_init_67 ?_
  refine n_fs (fs' := [.ref q1, .ref q2, .ref q3, .ref q4, .ref q5, .ref q6, .null, .int 0, .int 0, .int 0, .int 0]) rfl ?_
  refine n_aload_0 hX dX5_init_70 ?_
  refine n_makeC (T := TX2) (ty0 := tyX2) (fin := phaW c) hX in_X2 tyX2_ok [.null, .null] rfl (fun j hj => by rcases (show j = 0 ∨ j = 1 by omega) with rfl | rfl <;> rfl) cl_X5_43 is_X2 in1_X2 ic_X2 in1_X2 ⟨by decide, by decide, by decide +kernel⟩ ml_X5_45 ii_X2 rfl (by decide) (fun q => k_X2_init) rfl (by decide) (by decide) (by decide) (Nat.le_of_ble_eq_true rfl) dX5_init_71 dX5_init_74 dX5_init_75 68 1587 78 rfl rfl rfl (fun q7 a7 => ?_)
  refine n_putF (ty0 := tyX5) hX hmn in_X5 tyX5_ok nmX5 rfl 6 (by decide) fl_X5_phasing rfl rfl (ty := (.object "SnakedBus$Phasing")) (by decide +kernel) rfl rfl (Nat.le_of_ble_eq_true rfl) dX5_init_78 ?_
  refine n_fs (fs' := [.ref q1, .ref q2, .ref q3, .ref q4, .ref q5, .ref q6, .ref q7, .int 0, .int 0, .int 0, .int 0]) rfl ?_
  refine n_aload_0 hX dX5_init_81 ?_
  refine n_iconst hX 0 dX5_init_82 (by decide) ?_
  refine n_put (ty0 := tyX5) hX in_X5 tyX5_ok nmX5 rfl 7 (by decide) fl_X5_planned rfl rfl (ty := .boolean) (by decide +kernel) rfl rfl (Nat.le_of_ble_eq_true rfl) dX5_init_83 ?_
  refine n_fs (fs' := [.ref q1, .ref q2, .ref q3, .ref q4, .ref q5, .ref q6, .ref q7, .int 0, .int 0, .int 0, .int 0]) rfl ?_
  refine n_aload_0 hX dX5_init_86 ?_
  refine n_iconst hX 0 dX5_init_87 (by decide) ?_
  refine n_put (ty0 := tyX5) hX in_X5 tyX5_ok nmX5 rfl 8 (by decide) fl_X5_bads rfl rfl (ty := .int) (by decide +kernel) rfl rfl (Nat.le_of_ble_eq_true rfl) dX5_init_88 ?_
  refine n_fs (fs' := [.ref q1, .ref q2, .ref q3, .ref q4, .ref q5, .ref q6, .ref q7, .int 0, .int 0, .int 0, .int 0]) rfl ?_
  refine n_aload_0 hX dX5_init_91 ?_
  refine n_iconst hX 0 dX5_init_92 (by decide) ?_
  refine n_put (ty0 := tyX5) hX in_X5 tyX5_ok nmX5 rfl 9 (by decide) fl_X5_noes rfl rfl (ty := .int) (by decide +kernel) rfl rfl (Nat.le_of_ble_eq_true rfl) dX5_init_93 ?_
  refine n_fs (fs' := [.ref q1, .ref q2, .ref q3, .ref q4, .ref q5, .ref q6, .ref q7, .int 0, .int 0, .int 0, .int 0]) rfl ?_
  refine n_aload_0 hX dX5_init_96 ?_
  refine n_iconst hX 0 dX5_init_97 (by decide) ?_
  refine n_put (ty0 := tyX5) hX in_X5 tyX5_ok nmX5 rfl 10 (by decide) fl_X5_fulls rfl rfl (ty := .int) (by decide +kernel) rfl rfl (Nat.le_of_ble_eq_true rfl) dX5_init_98 ?_
  refine n_fs (fs' := [.ref q1, .ref q2, .ref q3, .ref q4, .ref q5, .ref q6, .ref q7, .int 0, .int 0, .int 0, .int 0]) rfl ?_
  refine hq _ _ _ (adF h0 q1 q2 q3 q4 q5 q6 q7 a1 a2 a3 a4 a5 a6 a7) _ _ dX5_init_101 ?_ rfl rfl
  unfold sbW
  have e1 : busW c (adF h0 q1 q2 q3 q4 q5 q6 q7 a1 a2 a3 a4 a5 a6 a7 1) (fun i => adF h0 q1 q2 q3 q4 q5 q6 q7 a1 a2 a3 a4 a5 a6 a7 (1 + i)) = busW c q1 a1 := busW_e rfl (fun i h1 h2 => by rcases (show i = 1 ∨ i = 2 ∨ i = 3 ∨ i = 4 ∨ i = 5 ∨ i = 6 by omega) with rfl | rfl | rfl | rfl | rfl | rfl <;> rfl)
  have e2 : busW c (adF h0 q1 q2 q3 q4 q5 q6 q7 a1 a2 a3 a4 a5 a6 a7 8) (fun i => adF h0 q1 q2 q3 q4 q5 q6 q7 a1 a2 a3 a4 a5 a6 a7 (8 + i)) = busW c q2 a2 := busW_e rfl (fun i h1 h2 => by rcases (show i = 1 ∨ i = 2 ∨ i = 3 ∨ i = 4 ∨ i = 5 ∨ i = 6 by omega) with rfl | rfl | rfl | rfl | rfl | rfl <;> rfl)
  have e3 : pastW c (adF h0 q1 q2 q3 q4 q5 q6 q7 a1 a2 a3 a4 a5 a6 a7 50) (fun i => adF h0 q1 q2 q3 q4 q5 q6 q7 a1 a2 a3 a4 a5 a6 a7 (15 + i)) = pastW c q3 a3 := pastW_e rfl (fun i h1 h2 => by rcases (show i = 0 ∨ i = 1 ∨ i = 2 ∨ i = 3 ∨ i = 4 ∨ i = 5 ∨ i = 6 ∨ i = 7 ∨ i = 8 ∨ i = 9 ∨ i = 10 ∨ i = 11 ∨ i = 12 ∨ i = 13 ∨ i = 14 ∨ i = 15 ∨ i = 16 ∨ i = 17 ∨ i = 18 ∨ i = 19 ∨ i = 20 ∨ i = 21 ∨ i = 22 ∨ i = 23 ∨ i = 24 ∨ i = 25 ∨ i = 26 ∨ i = 27 ∨ i = 28 ∨ i = 29 ∨ i = 30 ∨ i = 31 ∨ i = 32 ∨ i = 33 ∨ i = 34 ∨ i = 36 by omega) with rfl | rfl | rfl | rfl | rfl | rfl | rfl | rfl | rfl | rfl | rfl | rfl | rfl | rfl | rfl | rfl | rfl | rfl | rfl | rfl | rfl | rfl | rfl | rfl | rfl | rfl | rfl | rfl | rfl | rfl | rfl | rfl | rfl | rfl | rfl | rfl <;> rfl)
  have e4 : texW c (adF h0 q1 q2 q3 q4 q5 q6 q7 a1 a2 a3 a4 a5 a6 a7 52) (fun i => adF h0 q1 q2 q3 q4 q5 q6 q7 a1 a2 a3 a4 a5 a6 a7 (52 + i)) = texW c q4 a4 := texW_e rfl (fun i h1 h2 => by rcases (show i = 1 ∨ i = 2 ∨ i = 3 by omega) with rfl | rfl | rfl <;> rfl)
  have e5 : shrW c (adF h0 q1 q2 q3 q4 q5 q6 q7 a1 a2 a3 a4 a5 a6 a7 56) (fun i => adF h0 q1 q2 q3 q4 q5 q6 q7 a1 a2 a3 a4 a5 a6 a7 (56 + i)) = shrW c q5 a5 := shrW_e rfl (fun i h1 h2 => by rcases (show i = 1 ∨ i = 2 ∨ i = 3 ∨ i = 4 by omega) with rfl | rfl | rfl | rfl <;> rfl)
  have e6 : shrW c (adF h0 q1 q2 q3 q4 q5 q6 q7 a1 a2 a3 a4 a5 a6 a7 61) (fun i => adF h0 q1 q2 q3 q4 q5 q6 q7 a1 a2 a3 a4 a5 a6 a7 (61 + i)) = shrW c q6 a6 := shrW_e rfl (fun i h1 h2 => by rcases (show i = 1 ∨ i = 2 ∨ i = 3 ∨ i = 4 by omega) with rfl | rfl | rfl | rfl <;> rfl)
  have e7 : phaW c (adF h0 q1 q2 q3 q4 q5 q6 q7 a1 a2 a3 a4 a5 a6 a7 66) (fun i => adF h0 q1 q2 q3 q4 q5 q6 q7 a1 a2 a3 a4 a5 a6 a7 (66 + i)) = phaW c q7 a7 := phaW_e rfl (fun i h1 h2 => by rcases (show i = 1 ∨ i = 2 by omega) with rfl | rfl <;> rfl)
  rw [e1, e2, e3, e4, e5, e6, e7, List.nil_append]
  exact List.Perm.refl _
