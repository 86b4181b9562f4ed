/-! the maker Past(): five new states in a row of references, unrolled -/
theorem vq_congr {cA : ClassId} {n : Nat} {f g : Nat → Option Nat} (h : ∀ j, j < n → f j = g j) : vp_cell cA (n, .inr (.inr (.inr (.inr f)))) = vp_cell cA (n, .inr (.inr (.inr (.inr g)))) := by
  rw [vp_cell_q, vp_cell_q]
  unfold arrV
  congr 1
  apply Array.ext
  · simp
  · intro i h1 h2
    simp at h1
    simp [h i h1]
theorem n_row {l : Launch} {D : va_G} {A : Nat → Prop} {X : Xt} {pre rest : va_W} {cs sl pc : Nat} {L : List (Option Value)} {st : List Value} {q n : Nat} {cA : ClassId} {f g : Nat → Option Nat} (h : ∀ j, j < n → f j = g j) (k : NX l D A X (pre ++ (q, .inl (cA, (n, .inr (.inr (.inr (.inr g)))))) :: rest) cs sl pc L st) : NX l D A X (pre ++ (q, .inl (cA, (n, .inr (.inr (.inr (.inr f)))))) :: rest) cs sl pc L st := by
  intro H locs ls hP hD hS hl
  refine k H locs ls (pw_mem.mpr (fun z hz => ?_)) (pw_D.mpr ?_) hS hl
  · rcases List.mem_append.mp hz with hz | hz
    · exact pw_mem.mp hP z (List.mem_append_left _ hz)
    · rcases List.mem_cons.mp hz with rfl | hz
      · have h0 : H[q]? = some (vp_cell cA (n, .inr (.inr (.inr (.inr f))))) := pw_mem.mp hP (q, .inl (cA, (n, .inr (.inr (.inr (.inr f)))))) (List.mem_append_right _ List.mem_cons_self)
        show H[q]? = some (vp_cell cA (n, .inr (.inr (.inr (.inr g)))))
        rw [h0, vq_congr h]
      · exact pw_mem.mp hP z (List.mem_append_right _ (List.mem_cons_of_mem _ hz))
  · obtain ⟨d1, d2⟩ := pw_D.mp hD
    refine ⟨?_, fun z hz => ?_⟩
    · rw [List.map_append, List.map_cons] at d1 ⊢
      exact d1
    · rcases List.mem_append.mp hz with hz | hz
      · exact d2 z (List.mem_append_left _ hz)
      · rcases List.mem_cons.mp hz with rfl | hz
        · exact d2 (q, .inl (cA, (n, .inr (.inr (.inr (.inr f)))))) (List.mem_append_right _ List.mem_cons_self)
        · exact d2 z (List.mem_append_right _ (List.mem_cons_of_mem _ hz))
set_option maxRecDepth 100000 in
set_option maxHeartbeats 4000000 in
theorem k_X1_init {l : Launch} {D : va_G} {c : ClassId × ClassId} {tA h0 : Nat} : Mk l D c tA yX1_init cX1_init 2 3 36 650 [.ref h0] [(h0, .inr (1, [.null, .int 0, .int 0]))] (pastW c h0) := by
  refine mk_v (by decide) (Nat.le_of_ble_eq_true rfl) rfl (fun X A hX hmn hq => ?_)
  have hX : NOk D c tA A X cX1_init 2 RX1 3 36 650 := hX
  have hmn : X.2.2.2.2.2.2.2.1.name = "<init>" := hmn
  show NX l D A X ([(h0, .inr (1, [.null, .int 0, .int 0]))]) 0 0 0 [some (.ref h0), none] []
  refine n_aload_0 hX dX1_init_0 ?_
  refine n_obj hX ml_X1_3 oi_i oi_c rfl (Nat.le_of_ble_eq_true rfl) dX1_init_1 ?_
  refine n_aload_0 hX dX1_init_4 ?_
  refine n_iconst hX 5 dX1_init_5 (by decide) ?_
  refine n_newqE hX cl_X1_9 5 rfl (by decide) (by decide) (by decide) dX1_init_6 (fun qr => ?_)
  show NX l D A X ([(h0, .inr (1, [.null, .int 0, .int 0])), (qr, .inl (c.2, (5, .inr (.inr (.inr (.inr (fun _ => none)))))))]) 1 5 9 [some (.ref h0), none] [.ref qr, .ref h0]
  refine n_putF (ty0 := tyX1) hX hmn in_X1 tyX1_ok nmX1 rfl 0 (by decide) fl_X1_kept rfl rfl (ty := (.array (.object "SnakedBus$Bus"))) (by decide +kernel) rfl rfl (Nat.le_of_ble_eq_true rfl) dX1_init_9 ?_
  show NX l D A X ([(h0, .inr (1, [.ref qr, .int 0, .int 0])), (qr, .inl (c.2, (5, .inr (.inr (.inr (.inr (fun _ => none)))))))]) 1 5 12 [some (.ref h0), none] []
  refine n_aload_0 hX dX1_init_12 ?_
  refine n_iconst hX 0 dX1_init_13 (by decide) ?_
  refine n_put (ty0 := tyX1) hX in_X1 tyX1_ok nmX1 rfl 1 (by decide) fl_X1_place rfl rfl (ty := .int) (by decide +kernel) rfl rfl (Nat.le_of_ble_eq_true rfl) dX1_init_14 ?_
  show NX l D A X ([(h0, .inr (1, [.ref qr, .int 0, .int 0])), (qr, .inl (c.2, (5, .inr (.inr (.inr (.inr (fun _ => none)))))))]) 1 5 17 [some (.ref h0), none] []
  refine n_aload_0 hX dX1_init_17 ?_
  refine n_iconst hX 0 dX1_init_18 (by decide) ?_
  refine n_put (ty0 := tyX1) hX in_X1 tyX1_ok nmX1 rfl 2 (by decide) fl_X1_held rfl rfl (ty := .int) (by decide +kernel) rfl rfl (Nat.le_of_ble_eq_true rfl) dX1_init_19 ?_
  show NX l D A X ([(h0, .inr (1, [.ref qr, .int 0, .int 0])), (qr, .inl (c.2, (5, .inr (.inr (.inr (.inr (fun _ => none)))))))]) 1 5 22 [some (.ref h0), none] []
  refine n_iconst hX 0 dX1_init_22 (by decide) ?_
  refine n_istore_1 hX dX1_init_23 rfl ?_
  show NX l D A X ((h0, .inr (1, [.ref qr, .int 0, .int 0])) :: (qr, .inl (c.2, (5, .inr (.inr (.inr (.inr (fun _ => none))))))) :: []) 1 5 24 [some (.ref h0), some (.int 0)] []
  refine n_iload_1 hX dX1_init_24 ?_
  refine n_aload_0 hX dX1_init_25 ?_
  refine n_get hX in_X1 rfl 0 (by decide) fl_X1_kept rfl rfl dX1_init_26 ?_
  refine n_len hX 1 1 rfl rfl rfl dX1_init_29 ?_
  refine n_icmp_ge hX 52 dX1_init_30 (by decide) (fun c0 => ?_) (fun c0 => ?_)
  · exact absurd (show (0 : Int32) < 5 by decide) c0
  · skip
    refine n_aload_0 hX dX1_init_33 ?_
    refine n_get hX in_X1 rfl 0 (by decide) fl_X1_kept rfl rfl dX1_init_34 ?_
    refine n_iload_1 hX dX1_init_37 ?_
    refine n_makeE (T := TX0) (ty0 := tyX0) (fin := busW c) hX in_X0 tyX0_ok [.null, .null, .null, .null, .null, .null, .int 0, .int 0] rfl (fun j hj => by rcases (show j = 0 ∨ j = 1 ∨ j = 2 ∨ j = 3 ∨ j = 4 ∨ j = 5 ∨ j = 6 ∨ j = 7 by omega) with rfl | rfl | rfl | rfl | rfl | rfl | rfl | rfl <;> rfl) cl_X1_9 is_X0 in1_X0 ic_X0 in1_X0 ⟨by decide, by decide, by decide +kernel⟩ ml_X1_24 ii_X0 rfl (by decide) (fun q => k_X0_init) rfl (by decide) (by decide) (by decide) (Nat.le_of_ble_eq_true rfl) dX1_init_38 dX1_init_41 dX1_init_42 (fun q0 a0 => ?_)
    show NX l D A X ((h0, .inr (1, [.ref qr, .int 0, .int 0])) :: (qr, .inl (c.2, (5, .inr (.inr (.inr (.inr (fun _ => none))))))) :: (busW c q0 a0)) 8 134 45 [some (.ref h0), some (.int 0)] [.ref q0, .int 0, .ref qr]
    refine n_aast hX 1 2 ((h0, .inr (1, [.ref qr, .int 0, .int 0])) :: (qr, .inl (c.2, (5, .inr (.inr (.inr (.inr (va_up (fun _ => none) 0 (some q0)))))))) :: (busW c q0 a0)) rfl rfl (vin (k := 0) (by decide) (by decide)) rfl dX1_init_45 ?_
    refine n_iinc_1 hX 1 dX1_init_46 (by decide) rfl ?_
    refine n_goto hX 24 dX1_init_49 (by decide) ?_
    show NX l D A X ((h0, .inr (1, [.ref qr, .int 0, .int 0])) :: (qr, .inl (c.2, (5, .inr (.inr (.inr (.inr (va_up (fun _ => none) 0 (some q0)))))))) :: (busW c q0 a0)) 8 134 24 [some (.ref h0), some (.int 1)] []
    refine n_iload_1 hX dX1_init_24 ?_
    refine n_aload_0 hX dX1_init_25 ?_
    refine n_get hX in_X1 rfl 0 (by decide) fl_X1_kept rfl rfl dX1_init_26 ?_
    refine n_len hX 1 1 rfl rfl rfl dX1_init_29 ?_
    refine n_icmp_ge hX 52 dX1_init_30 (by decide) (fun c1 => ?_) (fun c1 => ?_)
    · exact absurd (show (1 : Int32) < 5 by decide) c1
    · skip
      refine n_aload_0 hX dX1_init_33 ?_
      refine n_get hX in_X1 rfl 0 (by decide) fl_X1_kept rfl rfl dX1_init_34 ?_
      refine n_iload_1 hX dX1_init_37 ?_
      refine n_makeE (T := TX0) (ty0 := tyX0) (fin := busW c) hX in_X0 tyX0_ok [.null, .null, .null, .null, .null, .null, .int 0, .int 0] rfl (fun j hj => by rcases (show j = 0 ∨ j = 1 ∨ j = 2 ∨ j = 3 ∨ j = 4 ∨ j = 5 ∨ j = 6 ∨ j = 7 by omega) with rfl | rfl | rfl | rfl | rfl | rfl | rfl | rfl <;> rfl) cl_X1_9 is_X0 in1_X0 ic_X0 in1_X0 ⟨by decide, by decide, by decide +kernel⟩ ml_X1_24 ii_X0 rfl (by decide) (fun q => k_X0_init) rfl (by decide) (by decide) (by decide) (Nat.le_of_ble_eq_true rfl) dX1_init_38 dX1_init_41 dX1_init_42 (fun q1 a1 => ?_)
      show NX l D A X ((h0, .inr (1, [.ref qr, .int 0, .int 0])) :: (qr, .inl (c.2, (5, .inr (.inr (.inr (.inr (va_up (fun _ => none) 0 (some q0)))))))) :: ((busW c q0 a0) ++ busW c q1 a1)) 15 263 45 [some (.ref h0), some (.int 1)] [.ref q1, .int 1, .ref qr]
      refine n_aast hX 1 9 ((h0, .inr (1, [.ref qr, .int 0, .int 0])) :: (qr, .inl (c.2, (5, .inr (.inr (.inr (.inr (va_up (va_up (fun _ => none) 0 (some q0)) 1 (some q1)))))))) :: ((busW c q0 a0) ++ busW c q1 a1)) rfl rfl (vin (k := 1) (by decide) (by decide)) rfl dX1_init_45 ?_
      refine n_iinc_1 hX 2 dX1_init_46 (by decide) rfl ?_
      refine n_goto hX 24 dX1_init_49 (by decide) ?_
      show NX l D A X ((h0, .inr (1, [.ref qr, .int 0, .int 0])) :: (qr, .inl (c.2, (5, .inr (.inr (.inr (.inr (va_up (va_up (fun _ => none) 0 (some q0)) 1 (some q1)))))))) :: ((busW c q0 a0) ++ busW c q1 a1)) 15 263 24 [some (.ref h0), some (.int 2)] []
      refine n_iload_1 hX dX1_init_24 ?_
      refine n_aload_0 hX dX1_init_25 ?_
      refine n_get hX in_X1 rfl 0 (by decide) fl_X1_kept rfl rfl dX1_init_26 ?_
      refine n_len hX 1 1 rfl rfl rfl dX1_init_29 ?_
      refine n_icmp_ge hX 52 dX1_init_30 (by decide) (fun c2 => ?_) (fun c2 => ?_)
      · exact absurd (show (2 : Int32) < 5 by decide) c2
      · skip
        refine n_aload_0 hX dX1_init_33 ?_
        refine n_get hX in_X1 rfl 0 (by decide) fl_X1_kept rfl rfl dX1_init_34 ?_
        refine n_iload_1 hX dX1_init_37 ?_
        refine n_makeE (T := TX0) (ty0 := tyX0) (fin := busW c) hX in_X0 tyX0_ok [.null, .null, .null, .null, .null, .null, .int 0, .int 0] rfl (fun j hj => by rcases (show j = 0 ∨ j = 1 ∨ j = 2 ∨ j = 3 ∨ j = 4 ∨ j = 5 ∨ j = 6 ∨ j = 7 by omega) with rfl | rfl | rfl | rfl | rfl | rfl | rfl | rfl <;> rfl) cl_X1_9 is_X0 in1_X0 ic_X0 in1_X0 ⟨by decide, by decide, by decide +kernel⟩ ml_X1_24 ii_X0 rfl (by decide) (fun q => k_X0_init) rfl (by decide) (by decide) (by decide) (Nat.le_of_ble_eq_true rfl) dX1_init_38 dX1_init_41 dX1_init_42 (fun q2 a2 => ?_)
        show NX l D A X ((h0, .inr (1, [.ref qr, .int 0, .int 0])) :: (qr, .inl (c.2, (5, .inr (.inr (.inr (.inr (va_up (va_up (fun _ => none) 0 (some q0)) 1 (some q1)))))))) :: (((busW c q0 a0) ++ busW c q1 a1) ++ busW c q2 a2)) 22 392 45 [some (.ref h0), some (.int 2)] [.ref q2, .int 2, .ref qr]
        refine n_aast hX 1 16 ((h0, .inr (1, [.ref qr, .int 0, .int 0])) :: (qr, .inl (c.2, (5, .inr (.inr (.inr (.inr (va_up (va_up (va_up (fun _ => none) 0 (some q0)) 1 (some q1)) 2 (some q2)))))))) :: (((busW c q0 a0) ++ busW c q1 a1) ++ busW c q2 a2)) rfl rfl (vin (k := 2) (by decide) (by decide)) rfl dX1_init_45 ?_
        refine n_iinc_1 hX 3 dX1_init_46 (by decide) rfl ?_
        refine n_goto hX 24 dX1_init_49 (by decide) ?_
        show NX l D A X ((h0, .inr (1, [.ref qr, .int 0, .int 0])) :: (qr, .inl (c.2, (5, .inr (.inr (.inr (.inr (va_up (va_up (va_up (fun _ => none) 0 (some q0)) 1 (some q1)) 2 (some q2)))))))) :: (((busW c q0 a0) ++ busW c q1 a1) ++ busW c q2 a2)) 22 392 24 [some (.ref h0), some (.int 3)] []
        refine n_iload_1 hX dX1_init_24 ?_
        refine n_aload_0 hX dX1_init_25 ?_
        refine n_get hX in_X1 rfl 0 (by decide) fl_X1_kept rfl rfl dX1_init_26 ?_
        refine n_len hX 1 1 rfl rfl rfl dX1_init_29 ?_
        refine n_icmp_ge hX 52 dX1_init_30 (by decide) (fun c3 => ?_) (fun c3 => ?_)
        · exact absurd (show (3 : Int32) < 5 by decide) c3
        · skip
          refine n_aload_0 hX dX1_init_33 ?_
          refine n_get hX in_X1 rfl 0 (by decide) fl_X1_kept rfl rfl dX1_init_34 ?_
          refine n_iload_1 hX dX1_init_37 ?_
          refine n_makeE (T := TX0) (ty0 := tyX0) (fin := busW c) hX in_X0 tyX0_ok [.null, .null, .null, .null, .null, .null, .int 0, .int 0] rfl (fun j hj => by rcases (show j = 0 ∨ j = 1 ∨ j = 2 ∨ j = 3 ∨ j = 4 ∨ j = 5 ∨ j = 6 ∨ j = 7 by omega) with rfl | rfl | rfl | rfl | rfl | rfl | rfl | rfl <;> rfl) cl_X1_9 is_X0 in1_X0 ic_X0 in1_X0 ⟨by decide, by decide, by decide +kernel⟩ ml_X1_24 ii_X0 rfl (by decide) (fun q => k_X0_init) rfl (by decide) (by decide) (by decide) (Nat.le_of_ble_eq_true rfl) dX1_init_38 dX1_init_41 dX1_init_42 (fun q3 a3 => ?_)
          show NX l D A X ((h0, .inr (1, [.ref qr, .int 0, .int 0])) :: (qr, .inl (c.2, (5, .inr (.inr (.inr (.inr (va_up (va_up (va_up (fun _ => none) 0 (some q0)) 1 (some q1)) 2 (some q2)))))))) :: ((((busW c q0 a0) ++ busW c q1 a1) ++ busW c q2 a2) ++ busW c q3 a3)) 29 521 45 [some (.ref h0), some (.int 3)] [.ref q3, .int 3, .ref qr]
          refine n_aast hX 1 23 ((h0, .inr (1, [.ref qr, .int 0, .int 0])) :: (qr, .inl (c.2, (5, .inr (.inr (.inr (.inr (va_up (va_up (va_up (va_up (fun _ => none) 0 (some q0)) 1 (some q1)) 2 (some q2)) 3 (some q3)))))))) :: ((((busW c q0 a0) ++ busW c q1 a1) ++ busW c q2 a2) ++ busW c q3 a3)) rfl rfl (vin (k := 3) (by decide) (by decide)) rfl dX1_init_45 ?_
          refine n_iinc_1 hX 4 dX1_init_46 (by decide) rfl ?_
          refine n_goto hX 24 dX1_init_49 (by decide) ?_
          show NX l D A X ((h0, .inr (1, [.ref qr, .int 0, .int 0])) :: (qr, .inl (c.2, (5, .inr (.inr (.inr (.inr (va_up (va_up (va_up (va_up (fun _ => none) 0 (some q0)) 1 (some q1)) 2 (some q2)) 3 (some q3)))))))) :: ((((busW c q0 a0) ++ busW c q1 a1) ++ busW c q2 a2) ++ busW c q3 a3)) 29 521 24 [some (.ref h0), some (.int 4)] []
          refine n_iload_1 hX dX1_init_24 ?_
          refine n_aload_0 hX dX1_init_25 ?_
          refine n_get hX in_X1 rfl 0 (by decide) fl_X1_kept rfl rfl dX1_init_26 ?_
          refine n_len hX 1 1 rfl rfl rfl dX1_init_29 ?_
          refine n_icmp_ge hX 52 dX1_init_30 (by decide) (fun c4 => ?_) (fun c4 => ?_)
          · exact absurd (show (4 : Int32) < 5 by decide) c4
          · skip
            refine n_aload_0 hX dX1_init_33 ?_
            refine n_get hX in_X1 rfl 0 (by decide) fl_X1_kept rfl rfl dX1_init_34 ?_
            refine n_iload_1 hX dX1_init_37 ?_
            refine n_makeE (T := TX0) (ty0 := tyX0) (fin := busW c) hX in_X0 tyX0_ok [.null, .null, .null, .null, .null, .null, .int 0, .int 0] rfl (fun j hj => by rcases (show j = 0 ∨ j = 1 ∨ j = 2 ∨ j = 3 ∨ j = 4 ∨ j = 5 ∨ j = 6 ∨ j = 7 by omega) with rfl | rfl | rfl | rfl | rfl | rfl | rfl | rfl <;> rfl) cl_X1_9 is_X0 in1_X0 ic_X0 in1_X0 ⟨by decide, by decide, by decide +kernel⟩ ml_X1_24 ii_X0 rfl (by decide) (fun q => k_X0_init) rfl (by decide) (by decide) (by decide) (Nat.le_of_ble_eq_true rfl) dX1_init_38 dX1_init_41 dX1_init_42 (fun q4 a4 => ?_)
            show NX l D A X ((h0, .inr (1, [.ref qr, .int 0, .int 0])) :: (qr, .inl (c.2, (5, .inr (.inr (.inr (.inr (va_up (va_up (va_up (va_up (fun _ => none) 0 (some q0)) 1 (some q1)) 2 (some q2)) 3 (some q3)))))))) :: (((((busW c q0 a0) ++ busW c q1 a1) ++ busW c q2 a2) ++ busW c q3 a3) ++ busW c q4 a4)) 36 650 45 [some (.ref h0), some (.int 4)] [.ref q4, .int 4, .ref qr]
            refine n_aast hX 1 30 ((h0, .inr (1, [.ref qr, .int 0, .int 0])) :: (qr, .inl (c.2, (5, .inr (.inr (.inr (.inr (va_up (va_up (va_up (va_up (va_up (fun _ => none) 0 (some q0)) 1 (some q1)) 2 (some q2)) 3 (some q3)) 4 (some q4)))))))) :: (((((busW c q0 a0) ++ busW c q1 a1) ++ busW c q2 a2) ++ busW c q3 a3) ++ busW c q4 a4)) rfl rfl (vin (k := 4) (by decide) (by decide)) rfl dX1_init_45 ?_
            refine n_iinc_1 hX 5 dX1_init_46 (by decide) rfl ?_
            refine n_goto hX 24 dX1_init_49 (by decide) ?_
            show NX l D A X ((h0, .inr (1, [.ref qr, .int 0, .int 0])) :: (qr, .inl (c.2, (5, .inr (.inr (.inr (.inr (va_up (va_up (va_up (va_up (va_up (fun _ => none) 0 (some q0)) 1 (some q1)) 2 (some q2)) 3 (some q3)) 4 (some q4)))))))) :: (((((busW c q0 a0) ++ busW c q1 a1) ++ busW c q2 a2) ++ busW c q3 a3) ++ busW c q4 a4)) 36 650 24 [some (.ref h0), some (.int 5)] []
            refine n_iload_1 hX dX1_init_24 ?_
            refine n_aload_0 hX dX1_init_25 ?_
            refine n_get hX in_X1 rfl 0 (by decide) fl_X1_kept rfl rfl dX1_init_26 ?_
            refine n_len hX 1 1 rfl rfl rfl dX1_init_29 ?_
            refine n_icmp_ge hX 52 dX1_init_30 (by decide) (fun c5 => ?_) (fun c5 => ?_)
            · skip
              refine n_row (pre := [(h0, .inr (1, [.ref qr, .int 0, .int 0]))]) (g := (rowf (fun i => ([q0, a0 1, a0 2, a0 3, a0 4, a0 5, a0 6, q1, a1 1, a1 2, a1 3, a1 4, a1 5, a1 6, q2, a2 1, a2 2, a2 3, a2 4, a2 5, a2 6, q3, a3 1, a3 2, a3 3, a3 4, a3 5, a3 6, q4, a4 1, a4 2, a4 3, a4 4, a4 5, a4 6, 0, qr] : List Nat).getD i 0))) (fun j hj => by rcases (show j = 0 ∨ j = 1 ∨ j = 2 ∨ j = 3 ∨ j = 4 by omega) with rfl | rfl | rfl | rfl | rfl <;> rfl) ?_
              exact hq _ _ _ (fun i => ([q0, a0 1, a0 2, a0 3, a0 4, a0 5, a0 6, q1, a1 1, a1 2, a1 3, a1 4, a1 5, a1 6, q2, a2 1, a2 2, a2 3, a2 4, a2 5, a2 6, q3, a3 1, a3 2, a3 3, a3 4, a3 5, a3 6, q4, a4 1, a4 2, a4 3, a4 4, a4 5, a4 6, 0, qr] : List Nat).getD i 0) _ _ dX1_init_52 (List.perm_append_comm (l₁ := [(h0, .inr (1, [.ref qr, .int 0, .int 0])), (qr, .inl (c.2, (5, .inr (.inr (.inr (.inr (rowf (fun i => ([q0, a0 1, a0 2, a0 3, a0 4, a0 5, a0 6, q1, a1 1, a1 2, a1 3, a1 4, a1 5, a1 6, q2, a2 1, a2 2, a2 3, a2 4, a2 5, a2 6, q3, a3 1, a3 2, a3 3, a3 4, a3 5, a3 6, q4, a4 1, a4 2, a4 3, a4 4, a4 5, a4 6, 0, qr] : List Nat).getD i 0))))))))]) (l₂ := ((((busW c q0 a0) ++ busW c q1 a1) ++ busW c q2 a2) ++ busW c q3 a3) ++ busW c q4 a4)) rfl rfl
            · exact absurd c5 (show ¬ (5 : Int32) < 5 by decide)
