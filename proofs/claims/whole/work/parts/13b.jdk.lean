/-! the two methods of the JDK that are walked -/
set_option maxRecDepth 100000 in
set_option maxHeartbeats 4000000 in
theorem c_J6_bitCount_0f7a4 {Z : Zt} {b : Mem} {s : Nat} (hs : s < 64) : Con Z yJ6_bitCount_0f7a4 cJ6_bitCount_0f7a4 1 (some .int) 0 [.int (nI s)] b (some (.int (nI (popN s)))) (b) := by
  refine con_i (by decide) (Nat.le_of_ble_eq_true rfl) rfl (fun X hX hq => ?_)
  have hX : Ok Z X cJ6_bitCount_0f7a4 1 RJ6 0 := hX
  show G Z X b 0 [some (.int (nI s))] []
  refine g_iload_0 hX dJ6_bitCount_0f7a4_0 ?_
  refine g_iload_0 hX dJ6_bitCount_0f7a4_1 ?_
  refine g_iconst hX 1 dJ6_bitCount_0f7a4_2 (by decide) ?_
  refine g_iushr hX dJ6_bitCount_0f7a4_3 ?_
  refine g_ldcw hX 1431655765 co_J6_265 dJ6_bitCount_0f7a4_4 ?_
  refine g_iand hX dJ6_bitCount_0f7a4_7 ?_
  refine g_isub hX dJ6_bitCount_0f7a4_8 ?_
  refine g_top (bc1 (nI s)) rfl ?_
  refine g_istore_0 hX dJ6_bitCount_0f7a4_9 ?_
  refine g_iload_0 hX dJ6_bitCount_0f7a4_10 ?_
  refine g_ldcw hX 858993459 co_J6_266 dJ6_bitCount_0f7a4_11 ?_
  refine g_iand hX dJ6_bitCount_0f7a4_14 ?_
  refine g_iload_0 hX dJ6_bitCount_0f7a4_15 ?_
  refine g_iconst hX 2 dJ6_bitCount_0f7a4_16 (by decide) ?_
  refine g_iushr hX dJ6_bitCount_0f7a4_17 ?_
  refine g_ldcw hX 858993459 co_J6_266 dJ6_bitCount_0f7a4_18 ?_
  refine g_iand hX dJ6_bitCount_0f7a4_21 ?_
  refine g_iadd hX dJ6_bitCount_0f7a4_22 ?_
  refine g_top (bc2 (bc1 (nI s))) rfl ?_
  refine g_istore_0 hX dJ6_bitCount_0f7a4_23 ?_
  refine g_iload_0 hX dJ6_bitCount_0f7a4_24 ?_
  refine g_iload_0 hX dJ6_bitCount_0f7a4_25 ?_
  refine g_iconst hX 4 dJ6_bitCount_0f7a4_26 (by decide) ?_
  refine g_iushr hX dJ6_bitCount_0f7a4_27 ?_
  refine g_iadd hX dJ6_bitCount_0f7a4_28 ?_
  refine g_ldcw hX 252645135 co_J6_267 dJ6_bitCount_0f7a4_29 ?_
  refine g_iand hX dJ6_bitCount_0f7a4_32 ?_
  refine g_top (bc3 (bc2 (bc1 (nI s)))) rfl ?_
  refine g_istore_0 hX dJ6_bitCount_0f7a4_33 ?_
  refine g_iload_0 hX dJ6_bitCount_0f7a4_34 ?_
  refine g_iload_0 hX dJ6_bitCount_0f7a4_35 ?_
  refine g_bipush hX 8 dJ6_bitCount_0f7a4_36 (by decide) ?_
  refine g_iushr hX dJ6_bitCount_0f7a4_38 ?_
  refine g_iadd hX dJ6_bitCount_0f7a4_39 ?_
  refine g_top (bc4 (bc3 (bc2 (bc1 (nI s))))) rfl ?_
  refine g_istore_0 hX dJ6_bitCount_0f7a4_40 ?_
  refine g_iload_0 hX dJ6_bitCount_0f7a4_41 ?_
  refine g_iload_0 hX dJ6_bitCount_0f7a4_42 ?_
  refine g_bipush hX 16 dJ6_bitCount_0f7a4_43 (by decide) ?_
  refine g_iushr hX dJ6_bitCount_0f7a4_45 ?_
  refine g_iadd hX dJ6_bitCount_0f7a4_46 ?_
  refine g_top (bc5 (bc4 (bc3 (bc2 (bc1 (nI s)))))) rfl ?_
  refine g_istore_0 hX dJ6_bitCount_0f7a4_47 ?_
  refine g_iload_0 hX dJ6_bitCount_0f7a4_48 ?_
  refine g_bipush hX 63 dJ6_bitCount_0f7a4_49 (by decide) ?_
  refine g_iand hX dJ6_bitCount_0f7a4_51 ?_
  exact hq _ _ _ _ dJ6_bitCount_0f7a4_52 (by rfl) (bc_ok s hs)
set_option maxRecDepth 100000 in
set_option maxHeartbeats 4000000 in
theorem c_J7_fill_53178 {Z : Zt} {b : Mem} {j n : Nat} {v : Int32} (hA : isArr Z j n) (hn : n < 2 ^ 31) : Con Z yJ7_fill_53178 cJ7_fill_53178 4 none 0 [.ref (zad Z j), .int v] b none (fillM b j n v) := by
  refine con_v (by decide) (Nat.le_of_ble_eq_true rfl) rfl (fun X hX hq => ?_)
  have hX : Ok Z X cJ7_fill_53178 4 RJ7 0 := hX
  show G Z X b 0 [some (.ref (zad Z j)), some (.int v), none, none] []
  refine g_iconst hX 0 dJ7_fill_53178_0 (by decide) ?_
  refine g_istore_2 hX dJ7_fill_53178_1 rfl ?_
  refine g_aload_0 hX dJ7_fill_53178_2 ?_
  refine g_alen hX hA dJ7_fill_53178_3 ?_
  refine g_istore_3 hX dJ7_fill_53178_4 rfl ?_
  refine g_loop (n) (fun k => fillM b j k v) (fun k => [some (.ref (zad Z j)), some (.int v), some (.int (nI k)), some (.int (nI n))]) (fillM_0 b j v) rfl (fun k hk5 ih5 => ?_) ?_
  · show G Z X (fillM b j k v) 5 ([some (.ref (zad Z j)), some (.int v), some (.int (nI k)), some (.int (nI n))]) _
    refine g_iload_2 hX dJ7_fill_53178_5 ?_
    refine g_iload_3 hX dJ7_fill_53178_6 ?_
    refine g_icmp_ge hX 20 dJ7_fill_53178_7 (by decide) (fun c7 => ?_) (fun c7 => ?_)
    · exact absurd c7 (not_not_intro (nI_lt hk5 hn))
    · refine g_aload_0 hX dJ7_fill_53178_10 ?_
      refine g_iload_2 hX dJ7_fill_53178_11 ?_
      refine g_iload_1 hX dJ7_fill_53178_12 ?_
      refine g_iast hX hA (vin hk5 hn) dJ7_fill_53178_13 ?_
      refine g_iinc_2 hX 1 dJ7_fill_53178_14 (by decide) rfl ?_
      refine g_goto hX 5 dJ7_fill_53178_17 (by decide) ?_
      exact g_cast ih5 (by rw [nI_clamp (by omega)]; exact fillM_s b j k v) (by simp only [nI_succ]) rfl
  · show G Z X (fillM b j (n) v) 5 ([some (.ref (zad Z j)), some (.int v), some (.int (nI (n))), some (.int (nI n))]) _
    refine g_iload_2 hX dJ7_fill_53178_5 ?_
    refine g_iload_3 hX dJ7_fill_53178_6 ?_
    refine g_icmp_ge hX 20 dJ7_fill_53178_7 (by decide) (fun c7 => ?_) (fun c7 => ?_)
    · exact hq _ _ _ dJ7_fill_53178_20 (by rfl)
    · exact absurd c7 (Int32.lt_irrefl)
