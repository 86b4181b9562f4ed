/-! the two does, held against each other -/
/-- behind the class's does: what the reference's does finds -/
theorem dsP_hi {b b1 : Mem} {x : Int32} (h : dsP b x b1) : ∀ j, 69 ≤ j → b1 j = b j := by
  rcases h with ⟨n, -, -, -, -, h⟩ | ⟨-, -, -, h⟩ | ⟨-, -, m, W, -, ⟨i, -, -, -, -, h⟩ | ⟨-, -, -, h⟩⟩
  · exact fun j hj => h.2.1.1 j (by omega)
  · exact fun j hj => h.2.1.1 j (by omega)
  · exact fun j hj => h.2.1.1 j (by omega)
  · exact fun j hj => h.2.1.1 j (by omega)
theorem SIM.orders {b b1 m : Mem} {W : Nat} (h : SIM b) (hi : ∀ j, 69 ≤ j → b1 j = b j) (hF : Fr b1 m) (hO : OR m b (tn b) W) : ∀ k, k ≤ W → Sim (cv (apM (tk (prM b (tn b)) 8 1) 8 k) 8) (mv (mpM (ptM m) k)) ∧ VC (cv (apM (tk (prM b (tn b)) 8 1) 8 k) 8) ∧ (k < W → apR (apM (tk (prM b (tn b)) 8 1) 8 k) 8 k = mkR (mpM (ptM m) k) k) := by
  have r1 : Rg (cv (tk (prM b (tn b)) 8 1) 8) (cv b 1) := by
    have e : cv (prM b (tn b)) 1 = cv b 1 := cv_same (fun j _ _ => prM_c _ _ (by omega) (by omega) (by omega))
    rw [← e]; exact tk_rg _ (by omega)
  have hvc := r1.sy.vc h.1.1
  have em : mv (ptM m) = mv b := by unfold mv; rw [ptM_c _ (by decide), hF.1 71 (by decide) (by decide), hi 71 (by omega)]
  have hs : Sim (cv (tk (prM b (tn b)) 8 1) 8) (mv (ptM m)) := by rw [em]; exact (r1.sim hvc.1).tr h.2.1
  have key := sim_ap (W := W) hs hvc (fun i hi => by
    rw [ptM_c _ (by decide), tk_c _ (by omega), tk_c _ (by omega)]
    exact hO i hi)
  exact fun k hk => ⟨(key k hk).1, vc_ap hvc k, (key k hk).2⟩
theorem SIM.does_pre {b b1 : Mem} {x : Int32} (h : SIM b) (hp : dsP b x b1) : b1 79 = b 79 ∧ b1 69 11 = nI (tn b) ∧ tn b ≤ 120 ∧ b1 69 3 = nI (hd b) ∧ hd b ≤ 5 ∧ (∀ k, k < tn b → b 53 k = b 79 k) ∧ TI b ∧ ∀ m W, Fr b1 m → OR m b (tn b) W → ∀ k, k ≤ W → Val (mv (mpM (ptM m) k)) := by
  have hi := dsP_hi hp
  obtain ⟨t1, t2⟩ := h.1.2.2.2.1.n
  refine ⟨hi 79 (by omega), ?_, t2, ?_, h.1.hd5.2, h.2.2.2.1.2, h.1.2.2.2.1.2, fun m W hF hO k hk => ?_⟩
  · rw [hi 69 (by omega), ← h.2.2.2.1.1]; exact t1
  · rw [hi 69 (by omega)]; exact h.2.2.2.2.1
  · obtain ⟨q1, q2, -⟩ := h.orders hi hF hO k hk
    exact q1.val q2.1
theorem Fr.fail {b b1 b2 : Mem} (h : SIM b) (h1 : DF b b1) (hF : Fr b1 b2) : SIM b2 := h.fail h1 (fun j q1 _ _ q4 => hF.1 j q1 q4) hF.2.1 hF.2.2 (fun i _ => by rw [hF.1 71 (by decide) (by decide)]) (fun i _ => by rw [hF.1 72 (by decide) (by decide)])
theorem tkM_c (m : Mem) {j : Nat} (h : j ≠ 71) : tkM m j = m j := by unfold tkM; rw [u1c _ _ h]
theorem SIM.does {b b1 b2 : Mem} {x y : Int32} (h : SIM b) (hp : dsP b x b1) (hq : dsQ b b1 (tn b) (hd b) y b2) : x = y ∧ SIM b2 := by
  have hi := dsP_hi hp
  rcases hp with ⟨n, hn, hok, hbad, rfl, hD⟩ | ⟨hok, hbad, rfl, hD⟩ | ⟨hok, ⟨hg1, hg2⟩, m0, W, ⟨rfl, hW, hW40⟩, hr⟩
  · rcases hq with ⟨p, hfl, rfl, hF⟩ | ⟨m, W, -, -, -, hall, -⟩
    · have e : p = n := by
        rcases hfl with ⟨q1, q2, ⟨q3, q4⟩ | ⟨q3, -⟩⟩ | ⟨q1, q2, -⟩
        · rcases Nat.lt_trichotomy p n with c | c | c
          · exact absurd (hok p c) q4
          · exact c
          · exact absurd (q2 n c) hbad
        · exact absurd (q2 n (by omega)) hbad
        · exact absurd (q2 n hn) hbad
      subst e
      exact ⟨rfl, Fr.fail h hD hF⟩
    · exact absurd (hall n hn) hbad
  · rcases hq with ⟨p, hfl, rfl, hF⟩ | ⟨m, W, -, -, hW, hall, hz, hw, -⟩
    · have e : p = tn b := by
        rcases hfl with ⟨q1, q2, ⟨q3, q4⟩ | ⟨q3, -⟩⟩ | ⟨q1, q2, -⟩
        · exact absurd (hok p q3) q4
        · exact q3
        · exact q1
      subst e
      exact ⟨rfl, Fr.fail h hD hF⟩
    · refine absurd ⟨hz, ?_⟩ hbad
      rw [hw]
      exact nI_lt (a := 0) hW.1 (by omega)
  · rcases hq with ⟨p, hfl, -⟩ | ⟨m, W', hF, hO, hW', hall, hz, hw, hr'⟩
    · exfalso
      rcases hfl with ⟨q1, q2, ⟨q3, q4⟩ | ⟨q3, q4⟩⟩ | ⟨q1, q2, q3⟩
      · exact q4 (hok p q3)
      · exact q4 hg1
      · rw [q3] at hg2; exact absurd hg2 (by decide)
    · have eW : W' = W := by
        rw [hW] at hw
        exact (nI_inj (by omega) (by omega) hw).symm
      subst eW
      have ho := h.orders hi hF hO
      have ean : ∀ k, k < W' → apR (apM (tk (prM b (tn b)) 8 1) 8 k) 8 k = mkR (mpM (ptM m) k) k := fun k hk => (ho k (by omega)).2.2 hk
      rcases hr with ⟨i, hiW, hbef, hat, rfl, hD⟩ | ⟨hbef, rfl, hrg, hA⟩
      · rcases hr' with ⟨i', hi', hbef', hat', rfl, rfl⟩ | ⟨hbef', -, -⟩
        · have e : i' = i := by
            rcases Nat.lt_trichotomy i' i with c | c | c
            · exact absurd (by rw [ean i' hi']; exact hat') (hbef i' c)
            · exact c
            · exact absurd (by rw [← ean i hiW]; exact hat) (hbef' i c)
          subst e
          refine ⟨rfl, h.fail hD (fun j q1 q2 q3 q4 => ?_) ?_ ?_ (fun k hk => ?_) (fun k hk => ?_)⟩
          · rw [tkM_c _ q2, mpM_c _ _ q2, ptM_c _ q3, hF.1 j q1 q4]
          · rw [tkM_c _ (by decide), mpM_c _ _ (by decide), ptM_c _ (by decide), hF.2.1]
          · rw [tkM_c _ (by decide), mpM_c _ _ (by decide), ptM_c _ (by decide), hF.2.2]
          · unfold tkM
            rw [u1s]
            have := cpF_in (f := fun j => mpM (ptM m) (i' + 1) 72 (123 * 5 + j)) (g := mpM (ptM m) (i' + 1) 71) (o := 0) hk
            rw [Nat.zero_add] at this
            rw [this, mpM_c _ _ (by decide)]
            rw [show 123 * 5 + k = 615 + k by omega, ptM_5 _ hk, hF.1 71 (by decide) (by decide)]
          · rw [tkM_c _ (by decide), mpM_c _ _ (by decide), ptM_72 _ hk, hF.1 72 (by decide) (by decide)]
        · exact absurd (by rw [← ean i hiW]; exact hat) (hbef' i hiW)
      · rcases hr' with ⟨i', hi', hbef', hat', -, -⟩ | ⟨hbef', rfl, rfl⟩
        · exact absurd (by rw [ean i' hi']; exact hat') (hbef i' hi')
        · refine ⟨rfl, h.accD hA (fun j q1 q2 q3 => ?_) ?_ ((hrg.sim hA.1.1.1).tr (ho W' (Nat.le_refl _)).1)⟩
          · rw [mpM_c _ _ q2]
            by_cases c : j = 72
            · subst c
              unfold ptM
              rw [u1s, u1s, hF.1 71 (by decide) (by decide), hF.1 72 (by decide) (by decide)]
            · rw [ptM_c _ c, ptM_c _ c, hF.1 j q1 q3]
          · rw [mpM_c _ _ (by decide), ptM_c _ (by decide), hF.2.2]
