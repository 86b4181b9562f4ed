/-! whole_start -/
section NST
variable {l : Launch} {D : va_G} {c : ClassId × ClassId} {tA : Nat} {A : Nat → Prop} {X : Xt} {cc : ByteArray} {nL d mc ms : Nat} {own : String} {w : va_W} {cs sl pc : Nat} {L : List (Option Value)} {st : List Value}
theorem n_astore_1 (hX : NOk D c tA A X cc nL own d mc ms) {a0 a1 : Option Value} {x : Nat} (dg : decode cc pc = .ok (.astore_n 1, 1)) (h0 : nl1 a0 = true) (k : NX l D A X w cs sl (pc + 1) (a0 :: some (.ref x) :: L) st) : NX l D A X w cs sl pc (a0 :: a1 :: L) (.ref x :: st) :=
  fun H locs ls hP hD hS hl => lv_astore_n hX.1 hX.2.1 dg rfl hl.has (show 1 < _ by simp only [List.length_cons]; omega) rfl (fun ls' h => k H locs ls' hP hD hS (lvk.set h (fun v hv _ => by
    have hv : a0 = some v := Option.some.inj hv
    subst hv
    simpa [nl1] using h0)))
theorem n_astore_2 (hX : NOk D c tA A X cc nL own d mc ms) {a0 a1 a2 : Option Value} {x : Nat} (dg : decode cc pc = .ok (.astore_n 2, 1)) (h0 : nl1 a1 = true) (k : NX l D A X w cs sl (pc + 1) (a0 :: a1 :: some (.ref x) :: L) st) : NX l D A X w cs sl pc (a0 :: a1 :: a2 :: L) (.ref x :: st) :=
  fun H locs ls hP hD hS hl => lv_astore_n hX.1 hX.2.1 dg rfl hl.has (show 2 < _ by simp only [List.length_cons]; omega) rfl (fun ls' h => k H locs ls' hP hD hS (lvk.set h (fun v hv _ => by
    have hv : a1 = some v := Option.some.inj hv
    subst hv
    simpa [nl1] using h0)))
theorem n_istore_3 (hX : NOk D c tA A X cc nL own d mc ms) {a0 a1 a2 a3 : Option Value} {x : Int32} (dg : decode cc pc = .ok (.istore_n 3, 1)) (h0 : nl1 a2 = true) (k : NX l D A X w cs sl (pc + 1) (a0 :: a1 :: a2 :: some (.int x) :: L) st) : NX l D A X w cs sl pc (a0 :: a1 :: a2 :: a3 :: L) (.int x :: st) :=
  fun H locs ls hP hD hS hl => lv_istore_n hX.1 hX.2.1 dg rfl hl.has (show 3 < _ by simp only [List.length_cons]; omega) rfl (fun ls' h => k H locs ls' hP hD hS (lvk.set h (fun v hv _ => by
    have hv : a2 = some v := Option.some.inj hv
    subst hv
    simpa [nl1] using h0)))
end NST
theorem known_all {args : Array Value} {s : State} (hT : ∀ w ∈ TB, w.before args s = true) : ∃ D : va_G, ∀ (k : Nat) (q : vw_C), vwCl[k]? = some q → u_Kn s q.1 q.2.1 q.2.2 (D.1 k) (D.2 k) := by
  obtain ⟨c0, i0, h0⟩ := u_known (C := RX0) (T := TX0) (N := 8) (n := 8) hT in_X0 (hT _ is_X0)
  obtain ⟨c1, i1, h1⟩ := u_known (C := RX1) (T := TX1) (N := 3) (n := 3) hT in_X1 (hT _ is_X1)
  obtain ⟨c2, i2, h2⟩ := u_known (C := RX2) (T := TX2) (N := 2) (n := 2) hT in_X2 (hT _ is_X2)
  obtain ⟨c3, i3, h3⟩ := u_known (C := RX3) (T := TX3) (N := 8) (n := 8) hT in_X3 (hT _ is_X3)
  obtain ⟨c4, i4, h4⟩ := u_known (C := RX4) (T := TX4) (N := 8) (n := 8) hT in_X4 (hT _ is_X4)
  obtain ⟨c5, i5, h5⟩ := u_known (C := RX5) (T := TX5) (N := 11) (n := 11) hT in_X5 (hT _ is_X5)
  obtain ⟨c6, i6, h6⟩ := u_known (C := RX6) (T := TX6) (N := 15) (n := 15) hT in_X6 (hT _ is_X6)
  refine ⟨(fun k => ([c0, c1, c2, c3, c4, c5, c6] : List ClassId).getD k c0, fun k => ([i0, i1, i2, i3, i4, i5, i6] : List (Nat → Nat)).getD k i0), ?_⟩
  intro k q hq
  match k, hq with
  | 0, hq => cases hq; exact h0
  | 1, hq => cases hq; exact h1
  | 2, hq => cases hq; exact h2
  | 3, hq => cases hq; exact h3
  | 4, hq => cases hq; exact h4
  | 5, hq => cases hq; exact h5
  | 6, hq => cases hq; exact h6
  | k + 7, hq => simp [vwCl] at hq
theorem arr_int {args : Array Value} {s : State} (hT : ∀ w ∈ TB, w.before args s = true) : ∃ cI : ClassId, ArrOfT s cI .int ∧ va_RA s cI .int := by
  obtain ⟨cA, kA, comp, h1, h2, h3⟩ := Cond.arrayClass_spec (hT _ ac_int)
  exact ⟨cA, fun n z => ⟨fun k h => (by cases h), kA, h2, comp, h3⟩, h1⟩
theorem arr_bus {args : Array Value} {s : State} (hts : ∀ w ∈ lw_tbl, w.before args s = true) : ∃ cB : ClassId, ArrOfT s cB (.object "SnakedBus$Bus") ∧ va_RA s cB (.object "SnakedBus$Bus") := by
  obtain ⟨comp, cA, kA, h1, h2, h3, h4, h5⟩ := Cond.arrayOver_spec (hts _ ao_bus)
  exact ⟨cA, fun n z => ⟨fun k h => (by cases h), kA, h3, comp, h4⟩, kA, comp, h3, h4, h1, h5⟩
set_option maxRecDepth 100000 in
set_option maxHeartbeats 4000000 in
theorem law_enter {l : Launch} {D : va_G} {c : ClassId × ClassId} {tA bs : Nat} {A : Nat → Prop} {X : Xt} (hN : NOk D c tA A X cL_law 4 RL 12 81 2885) (k : ∀ q1 a1 q2 a2, NX l D A X (([] ++ sbW c q1 a1) ++ moW c q2 a2) 81 2885 18 [some (.ref bs), some (.ref q1), some (.ref q2), some (.int 0)] []) : NX l D A X [] 0 0 0 [some (.ref bs), none, none, none] [] := by
  refine n_makeE (T := TX5) (ty0 := tyX5) (fin := sbW c) hN in_X5 tyX5_ok [.null, .null, .null, .null, .null, .null, .null, .int 0, .int 0, .int 0, .int 0] rfl (fun j hj => by rcases (show j = 0 ∨ j = 1 ∨ j = 2 ∨ j = 3 ∨ j = 4 ∨ j = 5 ∨ j = 6 ∨ j = 7 ∨ j = 8 ∨ j = 9 ∨ j = 10 by omega) with rfl | rfl | rfl | rfl | rfl | rfl | rfl | rfl | rfl | rfl | rfl <;> rfl) cl_L_7 is_X5 in1_X5 ic_X5 in1_X5 ⟨by decide, by decide, by decide +kernel⟩ ml_L_9 ii_X5 rfl (by decide) (fun q => k_X5_init) rfl (by decide) (by decide) (by decide) (Nat.le_of_ble_eq_true rfl) dL_law_0 dL_law_3 dL_law_4 (fun q1 a1 => ?_)
  refine n_astore_1 hN dL_law_7 rfl ?_
  refine n_makeE (T := TX6) (ty0 := tyX6) (fin := moW c) hN in_X6 tyX6_ok [.null, .null, .null, .int 0, .null, .null, .null, .null, .null, .null, .null, .int 0, .null, .int 0, .int 0] rfl (fun j hj => by rcases (show j = 0 ∨ j = 1 ∨ j = 2 ∨ j = 3 ∨ j = 4 ∨ j = 5 ∨ j = 6 ∨ j = 7 ∨ j = 8 ∨ j = 9 ∨ j = 10 ∨ j = 11 ∨ j = 12 ∨ j = 13 ∨ j = 14 by omega) with rfl | rfl | rfl | rfl | rfl | rfl | rfl | rfl | rfl | rfl | rfl | rfl | rfl | rfl | rfl <;> rfl) cl_L_10 is_X6 in1_X6 ic_X6 in1_X6 ⟨by decide, by decide, by decide +kernel⟩ ml_L_12 ii_X6 rfl (by decide) (fun q => k_X6_init) rfl (by decide) (by decide) (by decide) (Nat.le_of_ble_eq_true rfl) dL_law_8 dL_law_11 dL_law_12 (fun q2 a2 => ?_)
  refine n_astore_2 hN dL_law_15 rfl ?_
  refine n_iconst hN 0 dL_law_16 (by decide) ?_
  refine n_istore_3 hN dL_law_17 rfl ?_
  exact k q1 a1 q2 a2
set_option maxRecDepth 100000 in
set_option maxHeartbeats 4000000 in
theorem whole_start {p : Program} {e : Env} {s : State} {m : MethodId} {below : List Frame} {meth : Method} {c : Code} (l : Launch) (hflags : l.flags = flags0) {b L : Nat} {xs : Nat → Int32} (hL : L ≤ 2048) (C0 : lw_At p s m meth c b L xs) : W p l e room_1 s m #[Value.ref b] below meth c s.heap [] 0 0 (lw_Z below #[Value.ref b] s) (entryFrame m ([Value.ref b] : List Value).toArray 4) := by
  obtain ⟨hx, hb, hr, hml, hown, hts, hXs, hbl, hlocks, hgv⟩ := id C0
  have hT : ∀ w ∈ TB, w.before #[Value.ref b] s = true := fun w hw => hts w (List.mem_filter.mp hw).1
  obtain ⟨D, hD⟩ := known_all hT
  obtain ⟨cI, i1, i2⟩ := arr_int hT
  obtain ⟨cB, j1, j2⟩ := arr_bus hts
  have hout : ∀ a : Nat, a < s.heap.size → ¬ (fun q : Nat => s.heap.size ≤ q) a := fun a h => Nat.not_le.mpr h
  obtain ⟨tA, zA, vA⟩ := st_AT_FIRST hts hgv hout
  obtain ⟨tL, zL, vL⟩ := st_LOWEST hts hgv hout
  obtain ⟨tH, zH, vH⟩ := st_HIGHEST hts hgv hout
  have hK : va_K D vwCl [(cI, .int), (cB, .object "SnakedBus$Bus")] s := by
    refine ⟨hD, fun k q hq => ?_⟩
    match k, hq with
    | 0, hq => cases hq; exact ⟨i1, i2⟩
    | 1, hq => cases hq; exact ⟨j1, j2⟩
    | k + 2, hq => simp at hq
  obtain ⟨X, eX⟩ : ∃ X : Xt, X = (p, e, room_1, s, m, #[Value.ref b], below, meth, c, (81, 2885), lw_Z below #[Value.ref b] s) := ⟨_, rfl⟩
  have hN : NOk D (cI, cB) tA (fun q : Nat => s.heap.size ≤ q) X cL_law 4 RL 12 81 2885 := by
    rw [eX]
    exact ⟨hx, hb, hml, hown, hT, ⟨hK, va_Nw.of rfl (hts _ nm_X0_40), va_Nw.of rfl (hts _ nf_AT_FIRST), va_AO.of (hts _ ao_bus), zA, vA⟩, fun q h => h, Nat.le_of_ble_eq_true rfl, Nat.le_of_ble_eq_true rfl, Nat.le_of_ble_eq_true rfl, Nat.le_of_ble_eq_true rfl⟩
  have main : NX l D (fun q : Nat => s.heap.size ≤ q) X [] 0 0 0 [some (.ref b), none, none, none] [] := by
    refine law_enter hN (fun q1 a1 q2 a2 => ?_)
    rw [world_e l D (cI, cB) q1 a1 q2 a2 (tL, tH)]
    intro H locs ls hP hDD hS hl
    obtain ⟨inj, hin⟩ := wwr_D hDD
    have hPw := wwr_P (fun j hj => by rcases (show j = 0 ∨ j = 1 ∨ j = 2 ∨ j = 3 ∨ j = 4 by omega) with rfl | rfl | rfl | rfl | rfl <;> rfl) hP
    obtain ⟨Z, eZ⟩ : ∃ Z : Zt, Z = (l, D, (cI, cB), zf q1 a1 q2 a2, (tL, tH)) := ⟨_, rfl⟩
    rw [← eZ] at inj hin hPw
    have hAA : ∀ q, AA Z q → s.heap.size ≤ q := by
      rintro q ⟨i, hi, rfl⟩
      exact hin i hi
    have hKX : KX Z s := by
      refine ⟨by rw [eZ]; exact hK, fun q hq => va_Nw.of rfl (hts _ (nm_all q hq)), fun q hq => va_Nw.of rfl (hts _ (nf_all q hq)), inj, ⟨?_, ?_⟩, ⟨?_, ?_⟩⟩
      · have := zL.narrow hAA
        rw [eZ] at this ⊢; exact this
      · have := vL.narrow hAA
        rw [eZ] at this ⊢; exact this
      · have := zH.narrow hAA
        rw [eZ] at this ⊢; exact this
      · have := vH.narrow hAA
        rw [eZ] at this ⊢; exact this
    have hO : Ok Z X cL_law 4 RL 12 := by
      rw [eX]
      exact ⟨hx, hb, hml, hown, hT, hKX, Nat.le_of_ble_eq_true rfl, Nat.le_of_ble_eq_true rfl, Nat.le_of_ble_eq_true rfl, Nat.le_of_ble_eq_true rfl⟩
    have hSC : SC Z X b L xs := by
      rw [eX]
      exact ⟨hXs, hbl, fun h => Nat.not_le.mpr hbl (hAA b h)⟩
    have hG := law_loop hO hSC hL (fun pc L bb dg => by
      rw [eX]
      intro H locs ls hP hS hl
      refine va_forget (fun q hq => hAA _ (hS.2.2 q hq)) ?_
      have e1 : Z.1 = l := by rw [eZ]
      rw [e1]
      refine W.widen (k := 600000) (n := 7302250) (Nat.le_of_ble_eq_true rfl) (Nat.le_of_ble_eq_true rfl) ?_
      exact lw_ret hx hb hr hlocks dg) (L + 1) 0 mem0 (by omega) (by omega) SIM_0
    have e1 : Z.1 = l := by rw [eZ]
    have e2 : Z.2.1 = D := by rw [eZ]
    have e3 : zad Z 0 = q1 := by rw [eZ]; rfl
    have e4 : zad Z 69 = q2 := by rw [eZ]; rfl
    unfold LL at hG
    rw [e3, e4] at hG
    have hW := hG H [] ls (by rw [e2]; exact hPw) ⟨hS.1, fun q h1 h2 => hS.2.1 q h1 (fun z => Nat.not_le.mpr (by rw [eX] at h1; exact h1) z), fun q h => by cases h⟩ hl
    rw [e1] at hW
    rw [eX] at hW hS ⊢
    exact va_forget hS.2.2 hW
  rw [eX] at main
  rw [lg_entry_eq]
  exact main s.heap [] _ (fun k q h => by simp at h) ⟨fun i j p q h => by simp at h, fun k q h => by simp at h⟩ va_S.rf (lvk.entry [.ref b] (Nat.le_of_ble_eq_true rfl))
