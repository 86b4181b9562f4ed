/-! SnakedBus$Phasing -/
def eI (h : Int) (k : Nat) : Int := if 0 < h then h - k else h + k
def pbT (m : Mem) (h : Int) (sp : Int32) (ph k : Nat) : Mem := if 2 * (eI h k).natAbs ≤ ph then up2 m 68 (eI h k + 7).toNat (minI (m 68 (eI h k + 7).toNat) (sp + nI k)) else m
def pbM (m : Mem) (h : Int) (sp : Int32) (ph : Nat) : Nat → Mem
  | 0 => m
  | k + 1 => pbT (pbM m h sp ph k) h sp ph k
theorem pbM_c (m : Mem) (h : Int) (sp : Int32) (ph k : Nat) {j : Nat} (hj : j ≠ 68) : pbM m h sp ph k j = m j := by
  induction k with
  | zero => rfl
  | succ k ih =>
    simp only [pbM, pbT]
    split
    · rw [u2c _ _ hj, ih]
    · exact ih
theorem eI_b {h : Int} {k : Nat} (hh : -8 ≤ h ∧ h ≤ 8) (hk : k ≤ h.natAbs) : -8 ≤ eI h k ∧ eI h k ≤ 8 := by
  unfold eI; split <;> omega
def psT (m : Mem) (sp : Int32) (s : Int) (r ph k : Nat) : Mem := if sp < 1000000 then pbM m ((k : Int) - 7 + s) sp ph (min r ((k : Int) - 7 + s).natAbs + 1) else m
def psM (b : Mem) (s : Int) (r ph : Nat) : Nat → Mem
  | 0 => b
  | k + 1 => psT (psM b s r ph k) (b 67 k) s r ph k
theorem psM_c (b : Mem) (s : Int) (r ph k : Nat) {j : Nat} (hj : j ≠ 68) : psM b s r ph k j = b j := by
  induction k with
  | zero => rfl
  | succ k ih =>
    simp only [psM, psT]
    split
    · rw [pbM_c _ _ _ _ _ hj, ih]
    · exact ih
def tsI (x : Int32) : Int := if x = 1 then 1 else if x = 0 then -1 else 0
theorem tsI_b (x : Int32) : -1 ≤ tsI x ∧ tsI x ≤ 1 := by unfold tsI; split <;> (try split) <;> omega
def phN (v : View) : Nat := (v 5 5 0).toNatClampNeg
def roN (v : View) (l i : Nat) : Nat := (roomS v l i).toNatClampNeg
def ffT (m : Mem) (v : View) (l k : Nat) : Mem := psM (fillM m 68 15 1000000) (tsI (v 2 l k)) (roN v l k) (phN v) 15
def ffU (m : Mem) : Mem := up1 m 67 (va_cpy (m 68) (m 67) 0 0 15)
def ffM (b : Mem) (v : View) (l : Nat) : Nat → Mem
  | 0 => up2 (fillM b 67 15 1000000) 67 7 0
  | k + 1 => ffU (ffT (ffM b v l k) v l k)
theorem fillM_c (b : Mem) (j k : Nat) (v : Int32) {i : Nat} (h : i ≠ j) : fillM b j k v i = b i := by unfold fillM; rw [u1c _ _ h]
theorem ffT_c (m : Mem) (v : View) (l k : Nat) {j : Nat} (hj : j ≠ 68) : ffT m v l k j = m j := by
  unfold ffT; rw [psM_c _ _ _ _ _ hj, fillM_c _ _ _ _ hj]
theorem ffM_c (b : Mem) (v : View) (l k : Nat) {j : Nat} (h67 : j ≠ 67) (h68 : j ≠ 68) : ffM b v l k j = b j := by
  induction k with
  | zero => simp only [ffM]; rw [u2c _ _ h67, fillM_c _ _ _ _ h67]
  | succ k ih => simp only [ffM, ffU]; rw [u1c _ _ h67, ffT_c _ _ _ _ h68, ih]
def bumpS (m : Mem) : Int32 := if m 67 7 < 1000000 then m 67 7 else -1
theorem Val.set {v : View} (h : Val v) {k : Nat} (hk : k < 7) {lo hi : Nat} (hl : lowF k = nI lo) (hh : higF k = nI hi) (hb : lo ≤ hi ∧ hi < 2000) : ∃ x, v 5 k 0 = nI x ∧ lo ≤ x ∧ x ≤ hi := by
  obtain ⟨h1, h2⟩ := h.2.2.2.2 k hk
  rw [hl] at h1
  rw [hh] at h2
  obtain ⟨x, hx, e⟩ := nI_of (x := v 5 k 0) (fun q => h1 (by
    rcases Nat.eq_zero_or_pos lo with z | z
    · subst z; exact q
    · exact Int32.lt_trans q (by rw [← nI_0]; exact nI_lt z (by omega))))
  refine ⟨x, e, ?_, ?_⟩
  · rcases Nat.lt_or_ge x lo with q | q
    · exact absurd (by rw [e]; exact nI_lt q (by omega)) h1
    · exact q
  · rcases Nat.lt_or_ge hi x with q | q
    · exact absurd (by rw [e]; exact nI_lt q hx) h2
    · exact q
theorem Val.ph {v : View} (h : Val v) : v 5 5 0 = nI (phN v) ∧ phN v ≤ 6 := by
  obtain ⟨x, e, _, h2⟩ := h.set (k := 5) (by decide) (lo := 0) (hi := 6) rfl rfl (by decide)
  unfold phN
  rw [e, nI_clamp (by omega)]
  exact ⟨rfl, h2⟩
theorem Val.near {v : View} (h : Val v) : ∃ x, v 5 6 0 = nI x ∧ 1 ≤ x ∧ x ≤ 9 := h.set (k := 6) (by decide) (lo := 1) (hi := 9) rfl rfl (by decide)
theorem Val.long {v : View} (h : Val v) {l i : Nat} (hl : l < nl v) (hi : i < rn v l) : ∃ x, v 1 l i = nI x ∧ 1 ≤ x ∧ x ≤ 60 := by
  obtain ⟨h1, h2⟩ := (h.2.2.1 l hl).2.2.2.1 i hi
  obtain ⟨x, hx, e⟩ := nI_of (x := v 1 l i) (fun q => h1 (Int32.lt_trans q (by decide)))
  refine ⟨x, e, ?_, ?_⟩
  · rcases Nat.lt_or_ge x 1 with q | q
    · exact absurd (by rw [e]; exact nI_lt q (by decide)) h1
    · exact q
  · rcases Nat.lt_or_ge 60 x with q | q
    · exact absurd (by rw [e]; exact nI_lt q hx) h2
    · exact q
theorem Val.room {v : View} (h : Val v) {l i : Nat} (hl : l < nl v) (hi : i < rn v l) : roomS v l i = nI (roN v l i) ∧ roN v l i ≤ 60 := by
  obtain ⟨x, e, h1, h2⟩ := h.long hl hi
  obtain ⟨y, e2, g1, g2⟩ := h.near
  have e3 : roomS v l i = nI (x / y) := by unfold roomS; rw [e, e2, pk_div (by omega) (by omega) (by omega)]
  have h3 : x / y ≤ x := Nat.div_le_self _ _
  unfold roN
  rw [e3, nI_clamp (by omega)]
  exact ⟨rfl, by omega⟩
set_option maxRecDepth 100000 in
set_option maxHeartbeats 4000000 in
theorem c_X2_turnStep {Z : Zt} {b : Mem} {x : Int32} : Con Z yX2_turnStep cX2_turnStep 1 (some .int) 0 [.int x] b (some (.int (zI (tsI x)))) (b) := by
  refine con_i (by decide) (Nat.le_of_ble_eq_true rfl) rfl (fun X hX hq => ?_)
  have hX : Ok Z X cX2_turnStep 1 RX2 0 := hX
  show G Z X b 0 [some (.int x)] []
  refine g_iload_0 hX dX2_turnStep_0 ?_
  refine g_iconst hX 1 dX2_turnStep_1 (by decide) ?_
  refine g_icmp_ne hX 7 dX2_turnStep_2 (by decide) (fun c2 => ?_) (fun c2 => ?_)
  · refine g_iload_0 hX dX2_turnStep_7 ?_
    refine g_if_ne hX 15 dX2_turnStep_8 (by decide) (fun c8 => ?_) (fun c8 => ?_)
    · refine g_iconst hX 0 dX2_turnStep_15 (by decide) ?_
      exact hq _ _ _ _ dX2_turnStep_16 (by rfl) (by first | (unfold tsI; rw [if_neg c2, if_pos c8]; done) | (unfold tsI; rw [if_neg c2, if_neg c8]; done) | (unfold tsI; rw [if_neg c2, if_pos c8]; rfl) | (unfold tsI; rw [if_neg c2, if_neg c8]; rfl))
    · refine g_iconst hX (-1) dX2_turnStep_11 (by decide) ?_
      refine g_goto hX 16 dX2_turnStep_12 (by decide) ?_
      exact hq _ _ _ _ dX2_turnStep_16 (by rfl) (by first | (unfold tsI; rw [if_neg c2, if_pos c8]; done) | (unfold tsI; rw [if_neg c2, if_neg c8]; done) | (unfold tsI; rw [if_neg c2, if_pos c8]; rfl) | (unfold tsI; rw [if_neg c2, if_neg c8]; rfl))
  · refine g_iconst hX 1 dX2_turnStep_5 (by decide) ?_
    exact hq _ _ _ _ dX2_turnStep_6 (by rfl) (by unfold tsI; rw [if_pos c2]; rfl)
set_option maxRecDepth 100000 in
set_option maxHeartbeats 4000000 in
theorem c_X2_putBumps {Z : Zt} {b : Mem} {h : Int} {sp : Int32} {r ph : Nat} (hh : -8 ≤ h ∧ h ≤ 8) (hr : r < 100) (hp : ph ≤ 6) : Con Z yX2_putBumps cX2_putBumps 9 none 1 [.ref (zad Z 66), .int (zI h), .int sp, .int (nI r), .int (nI ph)] b none (pbM b h sp ph (min r h.natAbs + 1)) := by
  have hm : (if nI h.natAbs < nI r then nI h.natAbs else nI r) = nI (min r h.natAbs) := by
    by_cases q : h.natAbs < r
    · rw [if_pos (nI_lt q (by omega)), Nat.min_eq_right (by omega)]
    · rw [if_neg (nI_nlt (by omega) (by omega)), Nat.min_eq_left (by omega)]
  have hpos : (0 : Int32) < zI h ↔ 0 < h := zI_lt (a := 0) (by decide) (by omega)
  refine con_v (by decide) (Nat.le_of_ble_eq_true rfl) rfl (fun X hX hq => ?_)
  have hX : Ok Z X cX2_putBumps 9 RX2 1 := hX
  show G Z X b 0 [some (.ref (zad Z 66)), some (.int (zI h)), some (.int sp), some (.int (nI r)), some (.int (nI ph)), none, none, none, none] []
  refine g_iload_3 hX dX2_putBumps_0 ?_
  refine g_iload_1 hX dX2_putBumps_1 ?_
  refine g_abs hX ml_X2_64 mm_abs_s mm_ini mm_abs_c dX2_putBumps_2 rfl (by decide) (Nat.le_of_ble_eq_true rfl) ?_
  refine g_min hX ml_X2_69 mm_min_s mm_ini mm_min_c dX2_putBumps_5 rfl (by decide) (Nat.le_of_ble_eq_true rfl) ?_
  refine g_top (nI (min r h.natAbs)) (by rw [zI_abs (by omega)]; exact hm) ?_
  refine g_istore_5 hX dX2_putBumps_8 rfl ?_
  refine g_iconst hX 0 dX2_putBumps_10 (by decide) ?_
  refine g_istore_6 hX dX2_putBumps_11 rfl ?_
  refine g_loopW (lvw_c (lvw_c (lvw_c (lvw_c (lvw_c (lvw_c (lvw_c (lvw_n (lvw_n lvw_nil))))))))) (min r h.natAbs + 1) (fun k => pbM b h sp ph k) (fun k => [some (.ref (zad Z 66)), some (.int (zI h)), some (.int sp), some (.int (nI r)), some (.int (nI ph)), some (.int (nI (min r h.natAbs))), some (.int (nI k)), none, none]) rfl rfl (fun k hk13 ih13 => ?_) ?_
  · show G Z X (pbM b h sp ph k) 13 ([some (.ref (zad Z 66)), some (.int (zI h)), some (.int sp), some (.int (nI r)), some (.int (nI ph)), some (.int (nI (min r h.natAbs))), some (.int (nI k)), none, none]) _
    have he := eI_b hh (show k ≤ h.natAbs by omega)
    have e2 : (2 : Int32) * zI (eI h k) = zI (2 * eI h k) := zI_mul 2 _
    have hab : (if 0 ≤ (2 : Int32) * zI (eI h k) then (2 : Int32) * zI (eI h k) else 0 - (2 : Int32) * zI (eI h k)) = nI (2 * (eI h k).natAbs) := by rw [e2, zI_abs (by omega)]; congr 1; omega
    refine g_iload_6 hX dX2_putBumps_13 ?_
    refine g_iload_5 hX dX2_putBumps_15 ?_
    refine g_icmp_gt hX 87 dX2_putBumps_17 (by decide) (fun c17 => ?_) (fun c17 => ?_)
    · exact absurd c17 (nI_nlt (by omega) (by omega))
    · refine g_iload_1 hX dX2_putBumps_20 ?_
      refine g_if_le hX 31 dX2_putBumps_21 (by decide) (fun c21 => ?_) (fun c21 => ?_)
      · refine g_iload_1 hX dX2_putBumps_31 ?_
        refine g_iload_6 hX dX2_putBumps_32 ?_
        refine g_iadd hX dX2_putBumps_34 ?_
        refine g_top (zI (eI h k)) (by first | (rw [eI, if_pos (hpos.mp c21), nI_z, zI_sub]; done) | (rw [eI, if_neg (fun q => c21 (hpos.mpr q)), nI_z, zI_add]; done)) ?_
        refine g_istore_7 hX dX2_putBumps_35 rfl ?_
        refine g_iload_7 hX dX2_putBumps_37 ?_
        refine g_bipush hX 7 dX2_putBumps_39 (by decide) ?_
        refine g_iadd hX dX2_putBumps_41 ?_
        refine g_top (zI (eI h k + 7)) (zI_add _ 7) ?_
        refine g_istore_8 hX dX2_putBumps_42 rfl ?_
        refine g_iconst hX 2 dX2_putBumps_44 (by decide) ?_
        refine g_iload_7 hX dX2_putBumps_45 ?_
        refine g_imul hX dX2_putBumps_47 ?_
        refine g_abs hX ml_X2_64 mm_abs_s mm_ini mm_abs_c dX2_putBumps_48 rfl (by decide) (Nat.le_of_ble_eq_true rfl) ?_
        refine g_top _ hab ?_
        refine g_iload_4 hX dX2_putBumps_51 ?_
        refine g_icmp_gt hX 81 dX2_putBumps_53 (by decide) (fun c53 => ?_) (fun c53 => ?_)
        · refine g_iinc_6 hX 1 dX2_putBumps_81 (by decide) rfl ?_
          refine g_goto hX 13 dX2_putBumps_84 (by decide) ?_
          exact g_back ih13 (by first | (simp only [pbM, pbT]; rw [if_neg (fun q => nI_nlt q (by omega) c53)]; done) | (simp only [pbM, pbT]; rw [if_pos hle]; done)) (by simp only [nI_succ]) (lvw_c (lvw_c (lvw_c (lvw_c (lvw_c (lvw_c (lvw_c (lvw_n (lvw_n lvw_nil)))))))))
        · have hle : 2 * (eI h k).natAbs ≤ ph := by
            rcases Nat.lt_or_ge ph (2 * (eI h k).natAbs) with q | q
            · exact absurd (nI_lt q (by omega)) c53
            · exact q
          have hpl : zI (eI h k + 7) = nI (eI h k + 7).toNat := zI_nat (by omega)
          refine g_aload_0 hX dX2_putBumps_56 ?_
          refine gt_X2_next hX dX2_putBumps_57 ?_
          refine g_iload_8 hX dX2_putBumps_60 ?_
          refine g_aload_0 hX dX2_putBumps_62 ?_
          refine gt_X2_next hX dX2_putBumps_63 ?_
          refine g_iload_8 hX dX2_putBumps_66 ?_
          refine g_top _ hpl ?_
          refine g_cN2r hX mkX5_at nl_X2_56 (c_X5_at (ar_68 Z) (by omega) (by decide)) dX2_putBumps_68 rfl (by decide) (Nat.le_of_ble_eq_true rfl) ?_
          refine g_iload_2 hX dX2_putBumps_71 ?_
          refine g_iload_6 hX dX2_putBumps_72 ?_
          refine g_iadd hX dX2_putBumps_74 ?_
          refine g_min hX ml_X2_69 mm_min_s mm_ini mm_min_c dX2_putBumps_75 rfl (by decide) (Nat.le_of_ble_eq_true rfl) ?_
          refine g_cast (st' := [.int (minI (pbM b h sp ph k 68 (eI h k + 7).toNat) (sp + nI k)), .int (nI (eI h k + 7).toNat), .ref (zad Z 68)]) ?_ rfl rfl (by rw [hpl]; rfl)
          refine g_cN3v hX mkX5_put nl_X2_25 (c_X5_put (ar_68 Z) (by omega) (by decide)) dX2_putBumps_78 rfl (by decide) (Nat.le_of_ble_eq_true rfl) ?_
          refine g_iinc_6 hX 1 dX2_putBumps_81 (by decide) rfl ?_
          refine g_goto hX 13 dX2_putBumps_84 (by decide) ?_
          exact g_back ih13 (by first | (simp only [pbM, pbT]; rw [if_neg (fun q => nI_nlt q (by omega) c53)]; done) | (simp only [pbM, pbT]; rw [if_pos hle]; done)) (by simp only [nI_succ]) (lvw_c (lvw_c (lvw_c (lvw_c (lvw_c (lvw_c (lvw_c (lvw_n (lvw_n lvw_nil)))))))))
      · refine g_iload_1 hX dX2_putBumps_24 ?_
        refine g_iload_6 hX dX2_putBumps_25 ?_
        refine g_isub hX dX2_putBumps_27 ?_
        refine g_goto hX 35 dX2_putBumps_28 (by decide) ?_
        refine g_top (zI (eI h k)) (by first | (rw [eI, if_pos (hpos.mp c21), nI_z, zI_sub]; done) | (rw [eI, if_neg (fun q => c21 (hpos.mpr q)), nI_z, zI_add]; done)) ?_
        refine g_istore_7 hX dX2_putBumps_35 rfl ?_
        refine g_iload_7 hX dX2_putBumps_37 ?_
        refine g_bipush hX 7 dX2_putBumps_39 (by decide) ?_
        refine g_iadd hX dX2_putBumps_41 ?_
        refine g_top (zI (eI h k + 7)) (zI_add _ 7) ?_
        refine g_istore_8 hX dX2_putBumps_42 rfl ?_
        refine g_iconst hX 2 dX2_putBumps_44 (by decide) ?_
        refine g_iload_7 hX dX2_putBumps_45 ?_
        refine g_imul hX dX2_putBumps_47 ?_
        refine g_abs hX ml_X2_64 mm_abs_s mm_ini mm_abs_c dX2_putBumps_48 rfl (by decide) (Nat.le_of_ble_eq_true rfl) ?_
        refine g_top _ hab ?_
        refine g_iload_4 hX dX2_putBumps_51 ?_
        refine g_icmp_gt hX 81 dX2_putBumps_53 (by decide) (fun c53 => ?_) (fun c53 => ?_)
        · refine g_iinc_6 hX 1 dX2_putBumps_81 (by decide) rfl ?_
          refine g_goto hX 13 dX2_putBumps_84 (by decide) ?_
          exact g_back ih13 (by first | (simp only [pbM, pbT]; rw [if_neg (fun q => nI_nlt q (by omega) c53)]; done) | (simp only [pbM, pbT]; rw [if_pos hle]; done)) (by simp only [nI_succ]) (lvw_c (lvw_c (lvw_c (lvw_c (lvw_c (lvw_c (lvw_c (lvw_n (lvw_n lvw_nil)))))))))
        · have hle : 2 * (eI h k).natAbs ≤ ph := by
            rcases Nat.lt_or_ge ph (2 * (eI h k).natAbs) with q | q
            · exact absurd (nI_lt q (by omega)) c53
            · exact q
          have hpl : zI (eI h k + 7) = nI (eI h k + 7).toNat := zI_nat (by omega)
          refine g_aload_0 hX dX2_putBumps_56 ?_
          refine gt_X2_next hX dX2_putBumps_57 ?_
          refine g_iload_8 hX dX2_putBumps_60 ?_
          refine g_aload_0 hX dX2_putBumps_62 ?_
          refine gt_X2_next hX dX2_putBumps_63 ?_
          refine g_iload_8 hX dX2_putBumps_66 ?_
          refine g_top _ hpl ?_
          refine g_cN2r hX mkX5_at nl_X2_56 (c_X5_at (ar_68 Z) (by omega) (by decide)) dX2_putBumps_68 rfl (by decide) (Nat.le_of_ble_eq_true rfl) ?_
          refine g_iload_2 hX dX2_putBumps_71 ?_
          refine g_iload_6 hX dX2_putBumps_72 ?_
          refine g_iadd hX dX2_putBumps_74 ?_
          refine g_min hX ml_X2_69 mm_min_s mm_ini mm_min_c dX2_putBumps_75 rfl (by decide) (Nat.le_of_ble_eq_true rfl) ?_
          refine g_cast (st' := [.int (minI (pbM b h sp ph k 68 (eI h k + 7).toNat) (sp + nI k)), .int (nI (eI h k + 7).toNat), .ref (zad Z 68)]) ?_ rfl rfl (by rw [hpl]; rfl)
          refine g_cN3v hX mkX5_put nl_X2_25 (c_X5_put (ar_68 Z) (by omega) (by decide)) dX2_putBumps_78 rfl (by decide) (Nat.le_of_ble_eq_true rfl) ?_
          refine g_iinc_6 hX 1 dX2_putBumps_81 (by decide) rfl ?_
          refine g_goto hX 13 dX2_putBumps_84 (by decide) ?_
          exact g_back ih13 (by first | (simp only [pbM, pbT]; rw [if_neg (fun q => nI_nlt q (by omega) c53)]; done) | (simp only [pbM, pbT]; rw [if_pos hle]; done)) (by simp only [nI_succ]) (lvw_c (lvw_c (lvw_c (lvw_c (lvw_c (lvw_c (lvw_c (lvw_n (lvw_n lvw_nil)))))))))
  · show G Z X (pbM b h sp ph (min r h.natAbs + 1)) 13 ([some (.ref (zad Z 66)), some (.int (zI h)), some (.int sp), some (.int (nI r)), some (.int (nI ph)), some (.int (nI (min r h.natAbs))), some (.int (nI (min r h.natAbs + 1))), none, none]) _
    refine g_iload_6 hX dX2_putBumps_13 ?_
    refine g_iload_5 hX dX2_putBumps_15 ?_
    refine g_icmp_gt hX 87 dX2_putBumps_17 (by decide) (fun c17 => ?_) (fun c17 => ?_)
    · exact hq _ _ _ dX2_putBumps_87 (by rfl)
    · exact absurd c17 (not_not_intro (nI_lt (by omega) (by omega)))
set_option maxRecDepth 100000 in
set_option maxHeartbeats 4000000 in
theorem c_X2_passRun {Z : Zt} {b : Mem} {s : Int} {r ph : Nat} (hs : -1 ≤ s ∧ s ≤ 1) (hr : r < 100) (hp : ph ≤ 6) : Con Z yX2_passRun cX2_passRun 6 none 2 [.ref (zad Z 66), .int (zI s), .int (nI r), .int (nI ph)] b none (psM b s r ph 15) := by
  refine con_v (by decide) (Nat.le_of_ble_eq_true rfl) rfl (fun X hX hq => ?_)
  have hX : Ok Z X cX2_passRun 6 RX2 2 := hX
  show G Z X b 0 [some (.ref (zad Z 66)), some (.int (zI s)), some (.int (nI r)), some (.int (nI ph)), none, none] []
  refine g_bipush hX (-7) dX2_passRun_0 (by decide) ?_
  refine g_istore_4 hX dX2_passRun_2 rfl ?_
  refine g_loopW (lvw_c (lvw_c (lvw_c (lvw_c (lvw_c (lvw_n lvw_nil)))))) (15) (fun k => psM b s r ph k) (fun k => [some (.ref (zad Z 66)), some (.int (zI s)), some (.int (nI r)), some (.int (nI ph)), some (.int (zI ((k : Int) - 7))), none]) rfl rfl (fun k hk4 ih4 => ?_) ?_
  · show G Z X (psM b s r ph k) 4 ([some (.ref (zad Z 66)), some (.int (zI s)), some (.int (nI r)), some (.int (nI ph)), some (.int (zI ((k : Int) - 7))), none]) _
    have ek : zI ((k : Int) - 7) + 7 = nI k := by rw [show (7 : Int32) = zI 7 from rfl, zI_add, nI_z]; congr 1; omega
    have e1 : zI ((k : Int) - 7) + 1 = zI (((k + 1 : Nat) : Int) - 7) := by rw [show (1 : Int32) = zI 1 from rfl, zI_add]; congr 1; omega
    refine g_iload_4 hX dX2_passRun_4 ?_
    refine g_bipush hX 7 dX2_passRun_6 (by decide) ?_
    refine g_icmp_gt hX 50 dX2_passRun_8 (by decide) (fun c8 => ?_) (fun c8 => ?_)
    · exact absurd c8 (fun q => absurd ((zI_lt (a := 7) (by decide) (by omega)).mp q) (by omega))
    · refine g_aload_0 hX dX2_passRun_11 ?_
      refine gt_X2_fewest hX dX2_passRun_12 ?_
      refine g_iload_4 hX dX2_passRun_15 ?_
      refine g_bipush hX 7 dX2_passRun_17 (by decide) ?_
      refine g_iadd hX dX2_passRun_19 ?_
      refine g_top _ ek ?_
      refine g_cN2r hX mkX5_at nl_X2_56 (c_X5_at (ar_67 Z) (by omega) (by decide)) dX2_passRun_20 rfl (by decide) (Nat.le_of_ble_eq_true rfl) ?_
      refine g_top (b 67 k) (by rw [psM_c _ _ _ _ _ (by decide)]) ?_
      refine g_istore_5 hX dX2_passRun_23 rfl ?_
      try skip
      refine g_iload_5 hX dX2_passRun_25 ?_
      refine g_ldc hX 1000000 co_X2_18 dX2_passRun_27 ?_
      refine g_icmp_ge hX 44 dX2_passRun_29 (by decide) (fun c29 => ?_) (fun c29 => ?_)
      · refine g_iinc_4 hX 1 dX2_passRun_44 (by decide) rfl ?_
        refine g_goto hX 4 dX2_passRun_47 (by decide) ?_
        exact g_back ih4 (by first | (simp only [psM, psT]; rw [if_pos c29]; done) | (simp only [psM, psT]; rw [if_neg c29]; done)) (by rw [e1]) (lvw_c (lvw_c (lvw_c (lvw_c (lvw_c (lvw_n lvw_nil))))))
      · refine g_aload_0 hX dX2_passRun_32 ?_
        refine g_iload_4 hX dX2_passRun_33 ?_
        refine g_iload_1 hX dX2_passRun_35 ?_
        refine g_iadd hX dX2_passRun_36 ?_
        refine g_iload_5 hX dX2_passRun_37 ?_
        refine g_iload_2 hX dX2_passRun_39 ?_
        refine g_iload_3 hX dX2_passRun_40 ?_
        refine g_cast (st' := [.int (nI ph), .int (nI r), .int (b 67 k), .int (zI ((k : Int) - 7 + s)), .ref (zad Z 66)]) ?_ rfl rfl (by rw [zI_add])
        refine g_cV4v hX mkX2_putBumps ml_X2_60 (c_X2_putBumps (by omega) hr hp) (ob_66 Z _) dX2_passRun_41 rfl (by decide) (Nat.le_of_ble_eq_true rfl) ?_
        refine g_iinc_4 hX 1 dX2_passRun_44 (by decide) rfl ?_
        refine g_goto hX 4 dX2_passRun_47 (by decide) ?_
        exact g_back ih4 (by first | (simp only [psM, psT]; rw [if_pos c29]; done) | (simp only [psM, psT]; rw [if_neg c29]; done)) (by rw [e1]) (lvw_c (lvw_c (lvw_c (lvw_c (lvw_c (lvw_n lvw_nil))))))
  · show G Z X (psM b s r ph (15)) 4 ([some (.ref (zad Z 66)), some (.int (zI s)), some (.int (nI r)), some (.int (nI ph)), some (.int (zI (((15) : Int) - 7))), none]) _
    refine g_iload_4 hX dX2_passRun_4 ?_
    refine g_bipush hX 7 dX2_passRun_6 (by decide) ?_
    refine g_icmp_gt hX 50 dX2_passRun_8 (by decide) (fun c8 => ?_) (fun c8 => ?_)
    · exact hq _ _ _ dX2_passRun_50 (by rfl)
    · exact absurd c8 (by decide)
set_option maxRecDepth 100000 in
set_option maxHeartbeats 4000000 in
theorem c_X2_fewestFor {Z : Zt} {b : Mem} {o : Nat} (h_o : isBus Z o) {l : Nat} (hV : Val (cv b o)) (hl : l < nl (cv b o)) (ho : o + 6 < 66) : Con Z yX2_fewestFor cX2_fewestFor 4 (some .int) 3 [.ref (zad Z 66), .ref (zad Z o), .int (nI l)] b (some (.int (bumpS (ffM b (cv b o) l (rn (cv b o) l))))) (ffM b (cv b o) l (rn (cv b o) l)) := by
  have hr : b (o + 1) l = nI (rn (cv b o) l) := hV.runs hl
  have hr8 := hV.r8 hl
  have hl6 := hV.l6 hl
  have hcv : ∀ k, cv (ffM b (cv b o) l k) o = cv b o := fun k => cv_same (fun j h1 h2 => ffM_c _ _ _ _ (by omega) (by omega))
  have hph := hV.ph
  have hne := hV.2.2.2.2 6 (by decide)
  refine con_i (by decide) (Nat.le_of_ble_eq_true rfl) rfl (fun X hX hq => ?_)
  have hX : Ok Z X cX2_fewestFor 4 RX2 3 := hX
  show G Z X b 0 [some (.ref (zad Z 66)), some (.ref (zad Z o)), some (.int (nI l)), none] []
  refine g_aload_0 hX dX2_fewestFor_0 ?_
  refine gt_X2_fewest hX dX2_fewestFor_1 ?_
  refine g_ldc hX 1000000 co_X2_18 dX2_fewestFor_4 ?_
  refine g_cS2v hX mkJ7_fill_53178 ml_X2_19 (c_J7_fill_53178 (ar_67 Z) (by decide)) dX2_fewestFor_6 rfl (by decide) (Nat.le_of_ble_eq_true rfl) ?_
  refine g_aload_0 hX dX2_fewestFor_9 ?_
  refine gt_X2_fewest hX dX2_fewestFor_10 ?_
  refine g_bipush hX 7 dX2_fewestFor_13 (by decide) ?_
  refine g_iconst hX 0 dX2_fewestFor_15 (by decide) ?_
  refine g_cN3v hX mkX5_put nl_X2_25 (c_X5_put (k := 7) (ar_67 Z) (by decide) (by decide)) dX2_fewestFor_16 rfl (by decide) (Nat.le_of_ble_eq_true rfl) ?_
  refine g_iconst hX 0 dX2_fewestFor_19 (by decide) ?_
  refine g_istore_3 hX dX2_fewestFor_20 rfl ?_
  refine g_loop (rn (cv b o) l) (fun k => ffM b (cv b o) l k) (fun k => [some (.ref (zad Z 66)), some (.ref (zad Z o)), some (.int (nI l)), some (.int (nI k))]) rfl rfl (fun k hk21 ih21 => ?_) ?_
  · show G Z X (ffM b (cv b o) l k) 21 ([some (.ref (zad Z 66)), some (.ref (zad Z o)), some (.int (nI l)), some (.int (nI k))]) _
    have hro := hV.room hl hk21
    have hts := tsI_b (cv b o 2 l k)
    have hm : ∀ j, j ≠ 67 → j ≠ 68 → fillM (ffM b (cv b o) l k) 68 15 1000000 j = b j := fun j a1 a2 => by rw [fillM_c _ _ _ _ a2, ffM_c _ _ _ _ a1 a2]
    have hcm : cv (fillM (ffM b (cv b o) l k) 68 15 1000000) o = cv b o := cv_same (fun j h1 h2 => hm j (by omega) (by omega))
    refine g_iload_3 hX dX2_fewestFor_21 ?_
    refine g_aload_1 hX dX2_fewestFor_22 ?_
    refine g_iload_2 hX dX2_fewestFor_23 ?_
    refine g_cV1r hX mkX0_runsOf ml_X2_29 (c_X0_runsOf h_o hl6) (h_o.obj _) dX2_fewestFor_24 rfl (by decide) (Nat.le_of_ble_eq_true rfl) ?_
    refine g_icmp_ge hX 80 dX2_fewestFor_27 (by decide) (fun c27 => ?_) (fun c27 => ?_)
    · exact absurd c27 (not_not_intro (by rw [ffM_c _ _ _ _ (by omega) (by omega), hr]; exact nI_lt hk21 (by omega)))
    · refine g_aload_0 hX dX2_fewestFor_30 ?_
      refine gt_X2_next hX dX2_fewestFor_31 ?_
      refine g_ldc hX 1000000 co_X2_18 dX2_fewestFor_34 ?_
      refine g_cS2v hX mkJ7_fill_53178 ml_X2_19 (c_J7_fill_53178 (ar_68 Z) (by decide)) dX2_fewestFor_36 rfl (by decide) (Nat.le_of_ble_eq_true rfl) ?_
      refine g_aload_0 hX dX2_fewestFor_39 ?_
      refine g_aload_1 hX dX2_fewestFor_40 ?_
      refine g_iload_2 hX dX2_fewestFor_41 ?_
      refine g_iload_3 hX dX2_fewestFor_42 ?_
      refine g_cV2r hX mkX0_turnAhead ml_X2_35 (c_X0_turnAhead h_o hl6 (by omega)) (h_o.obj _) dX2_fewestFor_43 rfl (by decide) (Nat.le_of_ble_eq_true rfl) ?_
      refine g_top (cv b o 2 l k) (by rw [hm _ (by omega) (by omega)]; rfl) ?_
      refine g_cS1r hX mkX2_turnStep ml_X2_39 (c_X2_turnStep) dX2_fewestFor_46 rfl (by decide) (Nat.le_of_ble_eq_true rfl) ?_
      refine g_aload_1 hX dX2_fewestFor_49 ?_
      refine g_iload_2 hX dX2_fewestFor_50 ?_
      refine g_iload_3 hX dX2_fewestFor_51 ?_
      refine g_cV2r hX mkX0_bumpRoom ml_X2_42 (c_X0_bumpRoom h_o hl6 (by omega) (by rw [hm _ (by omega) (by omega)]; exact hne.1)) (h_o.obj _) dX2_fewestFor_52 rfl (by decide) (Nat.le_of_ble_eq_true rfl) ?_
      refine g_top (nI (roN (cv b o) l k)) (by rw [hcm]; exact hro.1) ?_
      refine g_aload_1 hX dX2_fewestFor_55 ?_
      refine g_iconst hX 5 dX2_fewestFor_56 (by decide) ?_
      refine g_cV1r hX mkX0_settingAt ml_X2_45 (c_X0_settingAt (k := 5) h_o (by decide)) (h_o.obj _) dX2_fewestFor_57 rfl (by decide) (Nat.le_of_ble_eq_true rfl) ?_
      refine g_top (nI (phN (cv b o))) (by rw [hm _ (by omega) (by omega)]; exact hph.1) ?_
      refine g_cV3v hX mkX2_passRun ml_X2_48 (c_X2_passRun hts (by omega) hph.2) (ob_66 Z _) dX2_fewestFor_60 rfl (by decide) (Nat.le_of_ble_eq_true rfl) ?_
      refine g_aload_0 hX dX2_fewestFor_63 ?_
      refine gt_X2_next hX dX2_fewestFor_64 ?_
      refine g_aload_0 hX dX2_fewestFor_67 ?_
      refine gt_X2_fewest hX dX2_fewestFor_68 ?_
      refine g_cN2v hX mkX5_copy nl_X2_52 (c_X5_copy (ar_68 Z) (ar_67 Z) (by decide)) dX2_fewestFor_71 rfl (by decide) (Nat.le_of_ble_eq_true rfl) ?_
      refine g_iinc_3 hX 1 dX2_fewestFor_74 (by decide) rfl ?_
      refine g_goto hX 21 dX2_fewestFor_77 (by decide) ?_
      exact g_cast ih21 rfl (by simp only [nI_succ]) rfl
  · show G Z X (ffM b (cv b o) l (rn (cv b o) l)) 21 ([some (.ref (zad Z 66)), some (.ref (zad Z o)), some (.int (nI l)), some (.int (nI (rn (cv b o) l)))]) _
    refine g_iload_3 hX dX2_fewestFor_21 ?_
    refine g_aload_1 hX dX2_fewestFor_22 ?_
    refine g_iload_2 hX dX2_fewestFor_23 ?_
    refine g_cV1r hX mkX0_runsOf ml_X2_29 (c_X0_runsOf h_o hl6) (h_o.obj _) dX2_fewestFor_24 rfl (by decide) (Nat.le_of_ble_eq_true rfl) ?_
    refine g_icmp_ge hX 80 dX2_fewestFor_27 (by decide) (fun c27 => ?_) (fun c27 => ?_)
    · refine g_aload_0 hX dX2_fewestFor_80 ?_
      refine gt_X2_fewest hX dX2_fewestFor_81 ?_
      refine g_bipush hX 7 dX2_fewestFor_84 (by decide) ?_
      refine g_cN2r hX mkX5_at nl_X2_56 (c_X5_at (k := 7) (ar_67 Z) (by decide) (by decide)) dX2_fewestFor_86 rfl (by decide) (Nat.le_of_ble_eq_true rfl) ?_
      refine g_istore_3 hX dX2_fewestFor_89 rfl ?_
      refine g_iload_3 hX dX2_fewestFor_90 ?_
      refine g_ldc hX 1000000 co_X2_18 dX2_fewestFor_91 ?_
      refine g_icmp_ge hX 100 dX2_fewestFor_93 (by decide) (fun c93 => ?_) (fun c93 => ?_)
      · refine g_iconst hX (-1) dX2_fewestFor_100 (by decide) ?_
        exact hq _ _ _ _ dX2_fewestFor_101 (by rfl) (by first | (unfold bumpS; rw [if_pos c93]; done) | (unfold bumpS; rw [if_neg c93]; done))
      · refine g_iload_3 hX dX2_fewestFor_96 ?_
        refine g_goto hX 101 dX2_fewestFor_97 (by decide) ?_
        exact hq _ _ _ _ dX2_fewestFor_101 (by rfl) (by first | (unfold bumpS; rw [if_pos c93]; done) | (unfold bumpS; rw [if_neg c93]; done))
    · exact absurd c27 (by rw [ffM_c _ _ _ _ (by omega) (by omega), hr]; exact Int32.lt_irrefl)
